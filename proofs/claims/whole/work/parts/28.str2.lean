set_option maxRecDepth 20000 in
set_option maxHeartbeats 4000000 in
theorem c_J3_checkIndex_8e157_n (l : Launch) (G : gT) (i : Nat) (n : Nat) (hi : i < n) (hn : n < 2147483648) : RI l yJ3_checkIndex_8e157 cJ3_checkIndex_8e157 3 (some .int) 0 G [.int (nI i), .int (nI n), .null] (([] : va_W)) (nI i) := by
  refine start_R (by decide) (Nat.le_of_ble_eq_true rfl) (fun p9 e9 s9 m9 a9 b9 t9 c9 C => ?_)
  refine g_lv (lv' := [(0, .int (nI i)), (1, .int (nI n)), (2, .null)]) rfl ?_
  refine g_iload_n (pc := 0) C dJ3_checkIndex_8e157_0 0 rfl ?_
  refine g_if_lt (pc := 1) (tgt := 9) C dJ3_checkIndex_8e157_1 (by decide) (fun h1 => absurd h1 (by exact nI_pos (by omega))) (fun h1 => ?_)
  refine g_iload_n (pc := 4) C dJ3_checkIndex_8e157_4 0 rfl ?_
  refine g_iload_n (pc := 5) C dJ3_checkIndex_8e157_5 1 rfl ?_
  refine g_icmpN_lt (pc := 6) (i := i) (j := n) (tgt := 16) C dJ3_checkIndex_8e157_6 (by decide) ⟨by omega, by omega⟩ (fun h6 => ?_) (fun h6 => absurd h6 (by omega))
  refine g_iload_n (pc := 16) C dJ3_checkIndex_8e157_16 0 rfl ?_
  exact g_retIR (pc := 17) C (rfl) (by rfl) dJ3_checkIndex_8e157_17
set_option maxRecDepth 20000 in
set_option maxHeartbeats 4000000 in
theorem c_J3_checkIndex_8e157 (l : Launch) (G : gT) (i : Nat) (n : Nat) (f9 : Nat) (hi : i < n) (hn : n < 2147483648) : RI l yJ3_checkIndex_8e157 cJ3_checkIndex_8e157 3 (some .int) 0 G [.int (nI i), .int (nI n), .ref f9] (([] : va_W)) (nI i) := by
  refine start_R (by decide) (Nat.le_of_ble_eq_true rfl) (fun p9 e9 s9 m9 a9 b9 t9 c9 C => ?_)
  refine g_lv (lv' := [(0, .int (nI i)), (1, .int (nI n)), (2, .ref f9)]) rfl ?_
  refine g_iload_n (pc := 0) C dJ3_checkIndex_8e157_0 0 rfl ?_
  refine g_if_lt (pc := 1) (tgt := 9) C dJ3_checkIndex_8e157_1 (by decide) (fun h1 => absurd h1 (by exact nI_pos (by omega))) (fun h1 => ?_)
  refine g_iload_n (pc := 4) C dJ3_checkIndex_8e157_4 0 rfl ?_
  refine g_iload_n (pc := 5) C dJ3_checkIndex_8e157_5 1 rfl ?_
  refine g_icmpN_lt (pc := 6) (i := i) (j := n) (tgt := 16) C dJ3_checkIndex_8e157_6 (by decide) ⟨by omega, by omega⟩ (fun h6 => ?_) (fun h6 => absurd h6 (by omega))
  refine g_iload_n (pc := 16) C dJ3_checkIndex_8e157_16 0 rfl ?_
  exact g_retIR (pc := 17) C (rfl) (by rfl) dJ3_checkIndex_8e157_17
set_option maxRecDepth 20000 in
set_option maxHeartbeats 4000000 in
theorem c_J0_checkIndex_df160 (l : Launch) (G : gT) (i : Nat) (n : Nat) (hi : i < n) (hn : n < 2147483648) : RV l yJ0_checkIndex_df160 cJ0_checkIndex_df160 2 (none) 1 G [.int (nI i), .int (nI n)] (([] : va_W)) := by
  refine start_R (by decide) (Nat.le_of_ble_eq_true rfl) (fun p9 e9 s9 m9 a9 b9 t9 c9 C => ?_)
  refine g_lv (lv' := [(0, .int (nI i)), (1, .int (nI n))]) rfl ?_
  refine g_iload_n (pc := 0) C dJ0_checkIndex_df160_0 0 rfl ?_
  refine g_iload_n (pc := 1) C dJ0_checkIndex_df160_1 1 rfl ?_
  refine g_fmt (pc := 2) C mf_J0_1053 rfl dJ0_checkIndex_df160_2 ?_ (fun t9 => ?_)
  · refine g_rdSI (pc := 5) (val := nI i) (rest := []) C k_J3_checkIndex_8e157 (c_J3_checkIndex_8e157_n l G i n (by first | assumption | omega) (by first | assumption | omega)) ml_J0_1059 rfl ⟨Nat.le_of_ble_eq_true rfl, Nat.le_of_ble_eq_true rfl⟩ rfl [] rfl rfl (Nat.le_of_ble_eq_true rfl) ⟨by decide, by decide⟩ dJ0_checkIndex_df160_5 ?_
    refine g_pop (pc := 8) C dJ0_checkIndex_df160_8 rfl ?_
    exact g_retVR (pc := 9) C dJ0_checkIndex_df160_9
  · refine g_rdSI (pc := 5) (val := nI i) (rest := []) C k_J3_checkIndex_8e157 (c_J3_checkIndex_8e157 l G i n t9 (by first | assumption | omega) (by first | assumption | omega)) ml_J0_1059 rfl ⟨Nat.le_of_ble_eq_true rfl, Nat.le_of_ble_eq_true rfl⟩ rfl [] rfl rfl (Nat.le_of_ble_eq_true rfl) ⟨by decide, by decide⟩ dJ0_checkIndex_df160_5 ?_
    refine g_pop (pc := 8) C dJ0_checkIndex_df160_8 rfl ?_
    exact g_retVR (pc := 9) C dJ0_checkIndex_df160_9
set_option maxRecDepth 20000 in
set_option maxHeartbeats 4000000 in
theorem c_J0_coder_7d493 (l : Launch) (G : gT) (w : Nat) (hw : w < 6) : RI l yJ0_coder_7d493 cJ0_coder_7d493 1 (some .byte) 0 G [.ref (G.2.2.2.2.2.1 w)] (([] : va_W)) 0 := by
  refine start_R (by decide) (Nat.le_of_ble_eq_true rfl) (fun p9 e9 s9 m9 a9 b9 t9 c9 C => ?_)
  refine g_lv (lv' := [(0, .ref (G.2.2.2.2.2.1 w))]) rfl ?_
  refine g_compact (pc := 0) C mf_J0_38 rfl dJ0_coder_7d493_0 ?_
  refine g_if_eq (pc := 3) (tgt := 13) C dJ0_coder_7d493_3 (by decide) (fun h3 => absurd h3 (by decide)) (fun h3 => ?_)
  refine g_aload_n (pc := 6) C dJ0_coder_7d493_6 0 rfl ?_
  refine g_strCoder (pc := 7) C (by omega) mf_J0_15 rfl dJ0_coder_7d493_7 ?_
  refine g_goto (pc := 10) (tgt := 14) C dJ0_coder_7d493_10 (by decide) ?_
  exact g_retIR (pc := 14) C (by rfl) (by rfl) dJ0_coder_7d493_14
set_option maxRecDepth 20000 in
set_option maxHeartbeats 4000000 in
theorem c_J0_length_8abf5 (l : Launch) (G : gT) (w : Nat) (hw : w < 6) : RI l yJ0_length_8abf5 cJ0_length_8abf5 1 (some .int) 1 G [.ref (G.2.2.2.2.2.1 w)] (([] : va_W)) (nI (kwn w)) := by
  refine start_R (by decide) (Nat.le_of_ble_eq_true rfl) (fun p9 e9 s9 m9 a9 b9 t9 c9 C => ?_)
  refine g_lv (lv' := [(0, .ref (G.2.2.2.2.2.1 w))]) rfl ?_
  refine g_aload_n (pc := 0) C dJ0_length_8abf5_0 0 rfl ?_
  refine g_strValue (pc := 1) C (by omega) mf_J0_9 rfl dJ0_length_8abf5_1 ?_
  refine g_strLen (pc := 4) C (by omega) dJ0_length_8abf5_4 ?_
  refine g_aload_n (pc := 5) C dJ0_length_8abf5_5 0 rfl ?_
  refine g_rdVSI (pc := 6) (val := 0) (rest := [.int (nI (kwn w))]) C k_J0_coder_7d493 (c_J0_coder_7d493 l G w (by first | assumption | omega)) ml_J0_335 rfl ⟨Nat.le_of_ble_eq_true rfl, Nat.le_of_ble_eq_true rfl⟩ rfl [] rfl (by omega) rfl rfl (Nat.le_of_ble_eq_true rfl) ⟨by decide, by decide⟩ dJ0_length_8abf5_6 ?_
  refine g_ishr (pc := 9) C dJ0_length_8abf5_9 ?_
  exact g_retIR (pc := 10) C (rfl) (by exact (kwn_sh w hw).1) dJ0_length_8abf5_10
set_option maxRecDepth 20000 in
set_option maxHeartbeats 4000000 in
theorem c_J0_isLatin1_aae02 (l : Launch) (G : gT) (w : Nat) (hw : w < 6) : RI l yJ0_isLatin1_aae02 cJ0_isLatin1_aae02 1 (some .boolean) 0 G [.ref (G.2.2.2.2.2.1 w)] (([] : va_W)) 1 := by
  refine start_R (by decide) (Nat.le_of_ble_eq_true rfl) (fun p9 e9 s9 m9 a9 b9 t9 c9 C => ?_)
  refine g_lv (lv' := [(0, .ref (G.2.2.2.2.2.1 w))]) rfl ?_
  refine g_compact (pc := 0) C mf_J0_38 rfl dJ0_isLatin1_aae02_0 ?_
  refine g_if_eq (pc := 3) (tgt := 17) C dJ0_isLatin1_aae02_3 (by decide) (fun h3 => absurd h3 (by decide)) (fun h3 => ?_)
  refine g_aload_n (pc := 6) C dJ0_isLatin1_aae02_6 0 rfl ?_
  refine g_strCoder (pc := 7) C (by omega) mf_J0_15 rfl dJ0_isLatin1_aae02_7 ?_
  refine g_if_ne (pc := 10) (tgt := 17) C dJ0_isLatin1_aae02_10 (by decide) (fun h10 => absurd h10 (by decide)) (fun h10 => ?_)
  refine g_iconst (pc := 13) (v := 1) C dJ0_isLatin1_aae02_13 (by decide) ?_
  refine g_goto (pc := 14) (tgt := 18) C dJ0_isLatin1_aae02_14 (by decide) ?_
  exact g_retIR (pc := 18) C (rfl) (by rfl) dJ0_isLatin1_aae02_18
set_option maxRecDepth 20000 in
set_option maxHeartbeats 4000000 in
theorem c_J1_charAt_3b067 (l : Launch) (G : gT) (w : Nat) (j : Nat) (hw : w < 6) (hj : j < kwn w) : RI l yJ1_charAt_3b067 cJ1_charAt_3b067 2 (some .char) 2 G [.ref (G.2.2.2.2.2.2 w), .int (nI j)] (([] : va_W)) (kwc w j) := by
  have hk8 := (kwn_sh w hw).2
  refine start_R (by decide) (Nat.le_of_ble_eq_true rfl) (fun p9 e9 s9 m9 a9 b9 t9 c9 C => ?_)
  refine g_lv (lv' := [(0, .ref (G.2.2.2.2.2.2 w)), (1, .int (nI j))]) rfl ?_
  refine g_iload_n (pc := 0) C dJ1_charAt_3b067_0 1 rfl ?_
  refine g_aload_n (pc := 1) C dJ1_charAt_3b067_1 0 rfl ?_
  refine g_strLen (pc := 2) C (by omega) dJ1_charAt_3b067_2 ?_
  refine g_rdSV (pc := 3) (rest := []) C k_J0_checkIndex_df160 (c_J0_checkIndex_df160 l G j (kwn w) (by first | assumption | omega) (by first | assumption | omega)) ml_J1_9 rfl ⟨Nat.le_of_ble_eq_true rfl, Nat.le_of_ble_eq_true rfl⟩ rfl [] rfl rfl (Nat.le_of_ble_eq_true rfl) ⟨by decide, by decide⟩ dJ1_charAt_3b067_3 ?_
  refine g_aload_n (pc := 6) C dJ1_charAt_3b067_6 0 rfl ?_
  refine g_iload_n (pc := 7) C dJ1_charAt_3b067_7 1 rfl ?_
  refine g_strLd (pc := 8) C (by omega) rfl (by assumption) dJ1_charAt_3b067_8 ?_
  refine g_sipush (pc := 9) (v := 255) C dJ1_charAt_3b067_9 (by decide) ?_
  refine g_iand (pc := 12) C dJ1_charAt_3b067_12 ?_
  refine g_i2c (pc := 13) (v := kwc w j) C dJ1_charAt_3b067_13 ((kwc_ch w hw j hj).1) ?_
  exact g_retIR (pc := 14) C (by exact (kwc_ch w hw j hj).2.1) (by rfl) dJ1_charAt_3b067_14
set_option maxRecDepth 20000 in
set_option maxHeartbeats 4000000 in
theorem c_J0_charAt_5068e (l : Launch) (G : gT) (w : Nat) (j : Nat) (hw : w < 6) (hj : j < kwn w) : RI l yJ0_charAt_5068e cJ0_charAt_5068e 2 (some .char) 3 G [.ref (G.2.2.2.2.2.1 w), .int (nI j)] (([] : va_W)) (kwc w j) := by
  refine start_R (by decide) (Nat.le_of_ble_eq_true rfl) (fun p9 e9 s9 m9 a9 b9 t9 c9 C => ?_)
  refine g_lv (lv' := [(0, .ref (G.2.2.2.2.2.1 w)), (1, .int (nI j))]) rfl ?_
  refine g_aload_n (pc := 0) C dJ0_charAt_5068e_0 0 rfl ?_
  refine g_rdVSI (pc := 1) (val := 1) (rest := []) C k_J0_isLatin1_aae02 (c_J0_isLatin1_aae02 l G w (by first | assumption | omega)) ml_J0_492 rfl ⟨Nat.le_of_ble_eq_true rfl, Nat.le_of_ble_eq_true rfl⟩ rfl [] rfl (by omega) rfl rfl (Nat.le_of_ble_eq_true rfl) ⟨by decide, by decide⟩ dJ0_charAt_5068e_1 ?_
  refine g_if_eq (pc := 4) (tgt := 16) C dJ0_charAt_5068e_4 (by decide) (fun h4 => absurd h4 (by decide)) (fun h4 => ?_)
  refine g_aload_n (pc := 7) C dJ0_charAt_5068e_7 0 rfl ?_
  refine g_strValue (pc := 8) C (by omega) mf_J0_9 rfl dJ0_charAt_5068e_8 ?_
  refine g_iload_n (pc := 11) C dJ0_charAt_5068e_11 1 rfl ?_
  refine g_rdSI (pc := 12) (val := kwc w j) (rest := []) C k_J1_charAt_3b067 (c_J1_charAt_3b067 l G w j (by first | assumption | omega) (by first | assumption | omega)) ml_J0_495 rfl ⟨Nat.le_of_ble_eq_true rfl, Nat.le_of_ble_eq_true rfl⟩ rfl [] rfl rfl (Nat.le_of_ble_eq_true rfl) ⟨by decide, by decide⟩ dJ0_charAt_5068e_12 ?_
  exact g_retIR (pc := 15) C (by exact (kwc_ch w hw j hj).2.1) (by rfl) dJ0_charAt_5068e_15
