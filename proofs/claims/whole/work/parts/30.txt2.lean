set_option maxRecDepth 20000 in
set_option maxHeartbeats 4000000 in
theorem c_X4_letterHere (l : Launch) (G : gT) (tx : Nat) (al : Nat) (dr : Nat) (n : Nat) (z : Nat × Int32) (lt : Nat → Int32) (hz : z.1 ≤ n) (hn : n ≤ 160) : RI l yX4_letterHere cX4_letterHere 1 (some .int) 0 G [.ref tx] (wP G tx al dr n z lt) (ltr lt n z.1) := by
  refine start_R (by decide) (Nat.le_of_ble_eq_true rfl) (fun p9 e9 s9 m9 a9 b9 t9 c9 C => ?_)
  refine g_lv (lv' := [(0, .ref tx)]) rfl ?_
  refine g_aload_n (pc := 0) C dX4_letterHere_0 0 rfl ?_
  refine g_get (pc := 1) (T := TX4) (N := 5) (v := .int (nI z.1)) C ib_X4 0 rfl rfl 4 (by decide) mf_X4_33 rfl rfl rfl dX4_letterHere_1 ?_
  refine g_if_lt (pc := 4) (tgt := 30) C dX4_letterHere_4 (by decide) (fun h4 => absurd h4 (by exact nI_pos (by omega))) (fun h4 => ?_)
  refine g_aload_n (pc := 7) C dX4_letterHere_7 0 rfl ?_
  refine g_get (pc := 8) (T := TX4) (N := 5) (v := .int (nI z.1)) C ib_X4 0 rfl rfl 4 (by decide) mf_X4_33 rfl rfl rfl dX4_letterHere_8 ?_
  refine g_aload_n (pc := 11) C dX4_letterHere_11 0 rfl ?_
  refine g_get (pc := 12) (T := TX4) (N := 5) (v := .int (nI n)) C ib_X4 0 rfl rfl 3 (by decide) mf_X4_30 rfl rfl rfl dX4_letterHere_12 ?_
  refine g_icmpN_ge (pc := 15) (i := z.1) (j := n) (tgt := 30) C dX4_letterHere_15 (by decide) ⟨by omega, by omega⟩ (fun h15 => ?_) (fun h15 => ?_)
  · refine g_iconst (pc := 30) (v := (-1)) C dX4_letterHere_30 (by decide) ?_
    exact g_retIR (pc := 31) C (rfl) (by first | (rw [ltr, if_pos h15]; done) | (rw [ltr, if_neg (by omega)]; done) | (exact absurd h4 (nI_pos (by omega)))) dX4_letterHere_31
  · refine g_aload_n (pc := 18) C dX4_letterHere_18 0 rfl ?_
    refine g_get (pc := 19) (T := TX4) (N := 5) (v := .ref al) C ib_X4 0 rfl rfl 0 (by decide) mf_X4_9 rfl rfl rfl dX4_letterHere_19 ?_
    refine g_aload_n (pc := 22) C dX4_letterHere_22 0 rfl ?_
    refine g_get (pc := 23) (T := TX4) (N := 5) (v := .int (nI z.1)) C ib_X4 0 rfl rfl 4 (by decide) mf_X4_33 rfl rfl rfl dX4_letterHere_23 ?_
    refine g_iald (pc := 26) (v := lt z.1) C 1 rfl z.1 (rfl) ⟨by omega, by decide⟩ (rfl) dX4_letterHere_26 ?_
    refine g_goto (pc := 27) (tgt := 31) C dX4_letterHere_27 (by decide) ?_
    exact g_retIR (pc := 31) C (rfl) (by first | (rw [ltr, if_pos h15]; done) | (rw [ltr, if_neg (by omega)]; done) | (exact absurd h4 (nI_pos (by omega)))) dX4_letterHere_31
set_option maxRecDepth 20000 in
set_option maxHeartbeats 4000000 in
theorem c_X4_faultAt (l : Launch) (G : gT) (tx : Nat) (al : Nat) (dr : Nat) (n : Nat) (z : Nat × Int32) (lt : Nat → Int32) (x : Int32) : WV l yX4_faultAt cX4_faultAt 2 (none) 0 0 0 G [.ref tx, .int x] (wP G tx al dr n z lt) (S := Unit) (fun _ => True) (fun _ => wP G tx al dr n (ftS z x) lt) := by
  intro sz9
  refine start_W (by decide) (Nat.le_of_ble_eq_true rfl) (fun p9 e9 s9 m9 a9 b9 t9 c9 C => ?_)
  refine g_lv (lv' := [(0, .ref tx), (1, .int x)]) rfl ?_
  refine g_aload_n (pc := 0) C dX4_faultAt_0 0 rfl ?_
  refine g_get (pc := 1) (T := TX4) (N := 5) (v := .int z.2) C ib_X4 0 rfl rfl 2 (by decide) mf_X4_22 rfl rfl rfl dX4_faultAt_1 ?_
  refine g_iconst (pc := 4) (v := (-1)) C dX4_faultAt_4 (by decide) ?_
  refine g_icmp_ne (pc := 5) (tgt := 13) C dX4_faultAt_5 (by decide) (fun h5 => ?_) (fun h5 => ?_)
  · exact g_retVW (pc := 13) C rfl rfl () trivial (by simp [wP, ftS, *]) dX4_faultAt_13
  · refine g_aload_n (pc := 8) C dX4_faultAt_8 0 rfl ?_
    refine g_iload_n (pc := 9) C dX4_faultAt_9 1 rfl ?_
    refine g_put (pc := 10) (T := TX4) (N := 5) (ty := .int) (ws' := [oC tx 4 [.ref al, .ref dr, .int x, .int (nI n), .int (nI z.1)], iC G al 160 lt]) C rfl ib_X4 tyX4 tyX4_ok nmX4 0 rfl rfl 2 (by decide) mf_X4_22 rfl rfl rfl (by decide +kernel) rfl rfl (Nat.le_of_ble_eq_true rfl) dX4_faultAt_10 rfl ?_
    exact g_retVW (pc := 13) C rfl rfl () trivial (by simp [wP, ftS, *]) dX4_faultAt_13
set_option maxRecDepth 20000 in
set_option maxHeartbeats 4000000 in
theorem c_X4_readLetter (l : Launch) (G : gT) (tx : Nat) (al : Nat) (dr : Nat) (n : Nat) (z : Nat × Int32) (lt : Nat → Int32) (ch : Int32) (hz : z.1 ≤ n) (hn : n ≤ 160) : WV l yX4_readLetter cX4_readLetter 2 (none) 1 0 0 G [.ref tx, .int ch] (wP G tx al dr n z lt) (S := Unit) (fun _ => True) (fun _ => wP G tx al dr n (rlS lt n ch z) lt) := by
  intro sz9
  refine start_W (by decide) (Nat.le_of_ble_eq_true rfl) (fun p9 e9 s9 m9 a9 b9 t9 c9 C => ?_)
  refine g_lv (lv' := [(0, .ref tx), (1, .int ch)]) rfl ?_
  refine g_aload_n (pc := 0) C dX4_readLetter_0 0 rfl ?_
  refine g_rdVI (pc := 1) (val := ltr lt n z.1) (rest := []) C k_X4_letterHere (c_X4_letterHere l G tx al dr n z lt (by first | assumption | omega) (by first | assumption | omega)) ml_X4_43 rfl ⟨Nat.le_of_ble_eq_true rfl, Nat.le_of_ble_eq_true rfl⟩ rfl [0, 1] rfl 0 rfl rfl rfl rfl (Nat.le_of_ble_eq_true rfl) ⟨by decide, by decide⟩ dX4_readLetter_1 ?_
  refine g_iload_n (pc := 4) C dX4_readLetter_4 1 rfl ?_
  refine g_icmp_eq (pc := 5) (tgt := 16) C dX4_readLetter_5 (by decide) (fun h5 => ?_) (fun h5 => ?_)
  · refine g_aload_n (pc := 16) C dX4_readLetter_16 0 rfl ?_
    refine g_get (pc := 17) (T := TX4) (N := 5) (v := .int z.2) C ib_X4 0 rfl rfl 2 (by decide) mf_X4_22 rfl rfl rfl dX4_readLetter_17 ?_
    refine g_iconst (pc := 20) (v := (-1)) C dX4_readLetter_20 (by decide) ?_
    refine g_icmp_ne (pc := 21) (tgt := 34) C dX4_readLetter_21 (by decide) (fun h21 => ?_) (fun h21 => ?_)
    · exact g_retVW (pc := 34) C rfl rfl () trivial (by first | (exact (ftS_f (by omega) h21).elim) | (simp [wP, rlS, ftS, *]; done)) dX4_readLetter_34
    · refine g_aload_n (pc := 24) C dX4_readLetter_24 0 rfl ?_
      refine g_dup (pc := 25) C dX4_readLetter_25 rfl ?_
      refine g_get (pc := 26) (T := TX4) (N := 5) (v := .int (nI z.1)) C ib_X4 0 rfl rfl 4 (by decide) mf_X4_33 rfl rfl rfl dX4_readLetter_26 ?_
      refine g_iconst (pc := 29) (v := 1) C dX4_readLetter_29 (by decide) ?_
      refine g_iaddN (pc := 30) (i := z.1) (j := 1) C dX4_readLetter_30 ?_
      refine g_put (pc := 31) (T := TX4) (N := 5) (ty := .int) (ws' := [oC tx 4 [.ref al, .ref dr, .int z.2, .int (nI n), .int (nI (z.1 + 1))], iC G al 160 lt]) C rfl ib_X4 tyX4 tyX4_ok nmX4 0 rfl rfl 4 (by decide) mf_X4_33 rfl rfl rfl (by decide +kernel) rfl rfl (Nat.le_of_ble_eq_true rfl) dX4_readLetter_31 rfl ?_
      exact g_retVW (pc := 34) C rfl rfl () trivial (by first | (exact (ftS_f (by omega) h21).elim) | (simp [wP, rlS, ftS, *]; done)) dX4_readLetter_34
  · refine g_aload_n (pc := 8) C dX4_readLetter_8 0 rfl ?_
    refine g_aload_n (pc := 9) C dX4_readLetter_9 0 rfl ?_
    refine g_get (pc := 10) (T := TX4) (N := 5) (v := .int (nI z.1)) C ib_X4 0 rfl rfl 4 (by decide) mf_X4_33 rfl rfl rfl dX4_readLetter_10 ?_
    refine g_wrVV (pc := 13) (rest := []) (wr := []) C (fun _ => wP G tx al dr n (ftS z (nI z.1)) lt) rfl k_X4_faultAt (c_X4_faultAt l G tx al dr n z lt (nI z.1)) ml_X4_77 rfl ⟨Nat.le_of_ble_eq_true rfl, Nat.le_of_ble_eq_true rfl⟩ rfl [0, 1] [] [0, 1] rfl (by decide) rfl (by decide) (by decide) (by decide) (fun _ => rfl) 0 rfl rfl rfl rfl (Nat.le_of_ble_eq_true rfl) ⟨by decide, by decide⟩ dX4_readLetter_13 (fun _ _ => ?_)
    refine g_aload_n (pc := 16) C dX4_readLetter_16 0 rfl ?_
    refine g_get (pc := 17) (T := TX4) (N := 5) (v := .int ((ftS z (nI z.1)).2)) C ib_X4 0 rfl rfl 2 (by decide) mf_X4_22 rfl rfl rfl dX4_readLetter_17 ?_
    refine g_iconst (pc := 20) (v := (-1)) C dX4_readLetter_20 (by decide) ?_
    refine g_icmp_ne (pc := 21) (tgt := 34) C dX4_readLetter_21 (by decide) (fun h21 => ?_) (fun h21 => ?_)
    · exact g_retVW (pc := 34) C rfl rfl () trivial (by first | (exact (ftS_f (by omega) h21).elim) | (simp [wP, rlS, ftS, *]; done)) dX4_readLetter_34
    · refine g_aload_n (pc := 24) C dX4_readLetter_24 0 rfl ?_
      refine g_dup (pc := 25) C dX4_readLetter_25 rfl ?_
      refine g_get (pc := 26) (T := TX4) (N := 5) (v := .int (nI ((ftS z (nI z.1)).1))) C ib_X4 0 rfl rfl 4 (by decide) mf_X4_33 rfl rfl rfl dX4_readLetter_26 ?_
      refine g_iconst (pc := 29) (v := 1) C dX4_readLetter_29 (by decide) ?_
      refine g_iaddN (pc := 30) (i := (ftS z (nI z.1)).1) (j := 1) C dX4_readLetter_30 ?_
      refine g_put (pc := 31) (T := TX4) (N := 5) (ty := .int) (ws' := [oC tx 4 [.ref al, .ref dr, .int ((ftS z (nI z.1)).2), .int (nI n), .int (nI (((ftS z (nI z.1)).1) + 1))], iC G al 160 lt]) C rfl ib_X4 tyX4 tyX4_ok nmX4 0 rfl rfl 4 (by decide) mf_X4_33 rfl rfl rfl (by decide +kernel) rfl rfl (Nat.le_of_ble_eq_true rfl) dX4_readLetter_31 rfl ?_
      exact g_retVW (pc := 34) C rfl rfl () trivial (by first | (exact (ftS_f (by omega) h21).elim) | (simp [wP, rlS, ftS, *]; done)) dX4_readLetter_34
set_option maxRecDepth 20000 in
set_option maxHeartbeats 4000000 in
theorem c_X4_readWord (l : Launch) (G : gT) (tx : Nat) (al : Nat) (dr : Nat) (n : Nat) (z : Nat × Int32) (lt : Nat → Int32) (w : Nat) (hz : z.1 ≤ n) (hn : n ≤ 160) (hw : w < 6) : WV l yX4_readWord cX4_readWord 3 (none) 4 0 0 G [.ref tx, .ref (G.2.2.2.2.2.1 w)] (wP G tx al dr n z lt) (S := Unit) (fun _ => True) (fun _ => wP G tx al dr n (rwS lt n w z (kwn w)) lt) := by
  have hk8 := (kwn_sh w hw).2
  intro sz9
  refine start_W (by decide) (Nat.le_of_ble_eq_true rfl) (fun p9 e9 s9 m9 a9 b9 t9 c9 C => ?_)
  refine g_lv (lv' := [(0, .ref tx), (1, .ref (G.2.2.2.2.2.1 w))]) rfl ?_
  refine g_iconst (pc := 0) (v := 0) C dX4_readWord_0 (by decide) ?_
  refine g_istore_n (pc := 1) (lv' := [(2, .int 0), (0, .ref tx), (1, .ref (G.2.2.2.2.2.1 w))]) C dX4_readWord_1 rfl (by decide) rfl ?_
  have key_2 : ∀ (n2 : Nat) (i : Nat) (hi : i ≤ kwn w), kwn w - i < n2 → GW p9 l e9 (rmh 4 0 0) s9 m9 a9 b9 t9 c9 (MQ b9 (va_Qv (fun (_ : Unit) => True) (BW G (wP G tx al dr n z lt) sz9 (fun _ => wP G tx al dr n (rwS lt n w z (kwn w)) lt)) (va_A (wP G tx al dr n z lt) sz9)) a9 s9 0 0 (va_A (wP G tx al dr n z lt) sz9)) G (va_A (wP G tx al dr n z lt) sz9) true 3 0 0 (wP G tx al dr n (rwS lt n w z i) lt) [(0, .ref tx), (1, .ref (G.2.2.2.2.2.1 w)), (2, .int (nI i))] 2 [] := by
    intro n2
    induction n2 with
    | zero => intro i hi hn2; exact absurd hn2 (Nat.not_lt_zero _)
    | succ n2 ih2 =>
      intro i hi hn2
      refine g_iload_n (pc := 2) C dX4_readWord_2 2 rfl ?_
      refine g_aload_n (pc := 3) C dX4_readWord_3 1 rfl ?_
      refine g_rdVSI (pc := 4) (val := nI (kwn w)) (rest := [.int (nI i)]) C k_J0_length_8abf5 (c_J0_length_8abf5 l G w (by first | assumption | omega)) ml_X4_105 rfl ⟨Nat.le_of_ble_eq_true rfl, Nat.le_of_ble_eq_true rfl⟩ rfl [] rfl (by omega) rfl rfl (Nat.le_of_ble_eq_true rfl) ⟨by decide, by decide⟩ dX4_readWord_4 ?_
      refine g_icmpN_ge (pc := 7) (i := i) (j := kwn w) (tgt := 25) C dX4_readWord_7 (by decide) ⟨by omega, by omega⟩ (fun h7 => ?_) (fun h7 => ?_)
      · exact g_retVW (pc := 25) C rfl rfl () trivial (by rw [show i = kwn w from by omega]) dX4_readWord_25
      · refine g_aload_n (pc := 10) C dX4_readWord_10 0 rfl ?_
        refine g_aload_n (pc := 11) C dX4_readWord_11 1 rfl ?_
        refine g_iload_n (pc := 12) C dX4_readWord_12 2 rfl ?_
        refine g_rdVSI (pc := 13) (val := kwc w i) (rest := [.ref tx]) C k_J0_charAt_5068e (c_J0_charAt_5068e l G w i (by first | assumption | omega) (by first | assumption | omega)) ml_X4_110 rfl ⟨Nat.le_of_ble_eq_true rfl, Nat.le_of_ble_eq_true rfl⟩ rfl [] rfl (by omega) rfl rfl (Nat.le_of_ble_eq_true rfl) ⟨by decide, by decide⟩ dX4_readWord_13 ?_
        refine g_wrVV (pc := 16) (rest := []) (wr := []) C (fun _ => wP G tx al dr n (rlS lt n (kwc w i) (rwS lt n w z i)) lt) rfl k_X4_readLetter (c_X4_readLetter l G tx al dr n (rwS lt n w z i) lt (kwc w i) (rwS_le hw hz i (by omega)) (by first | assumption | omega)) ml_X4_39 rfl ⟨Nat.le_of_ble_eq_true rfl, Nat.le_of_ble_eq_true rfl⟩ rfl [0, 1] [] [0, 1] rfl (by decide) rfl (by decide) (by decide) (by decide) (fun _ => rfl) 0 rfl rfl rfl rfl (Nat.le_of_ble_eq_true rfl) ⟨by decide, by decide⟩ dX4_readWord_16 (fun _ _ => ?_)
        refine g_iinc (pc := 19) (v := nI (i + 1)) (lv' := [(2, .int (nI (i + 1))), (0, .ref tx), (1, .ref (G.2.2.2.2.2.1 w))]) C dX4_readWord_19 2 rfl (nI_1 i) (by decide) rfl ?_
        refine g_goto (pc := 22) (tgt := 2) C dX4_readWord_22 (by decide) ?_
        refine g_ws (ws' := wP G tx al dr n (rwS lt n w z (i + 1)) lt) (rfl) ?_
        refine g_sub (lv' := [(0, .ref tx), (1, .ref (G.2.2.2.2.2.1 w)), (2, .int (nI (i + 1)))]) [1, 2, 0] rfl ?_
        exact ih2 (i + 1) (by first | assumption | omega) (by omega)
  refine g_ws (ws' := wP G tx al dr n (rwS lt n w z 0) lt) (rfl) ?_
  refine g_sub (lv' := [(0, .ref tx), (1, .ref (G.2.2.2.2.2.1 w)), (2, .int (nI 0))]) [1, 2, 0] rfl ?_
  exact key_2 _ 0 (by first | assumption | omega) (Nat.lt_succ_self _)
set_option maxRecDepth 20000 in
set_option maxHeartbeats 4000000 in
theorem c_X4_readNumber (l : Launch) (G : gT) (tx : Nat) (al : Nat) (dr : Nat) (n : Nat) (z : Nat × Int32) (lt : Nat → Int32) (lo : Int32) (up : Int32) (hz : z.1 ≤ n) (hn : n ≤ 160) : WI l yX4_readNumber cX4_readNumber 6 (some .int) 2 0 0 G [.ref tx, .int lo, .int up] (wP G tx al dr n z lt) (S := Unit) (fun r _ => r = nuV lt n z) (fun _ => wP G tx al dr n (nuS lt n lo up z) lt) := by
  have hz1 := rlS_le (lt := lt) sp_ne hz
  intro sz9
  refine start_W (by decide) (Nat.le_of_ble_eq_true rfl) (fun p9 e9 s9 m9 a9 b9 t9 c9 C => ?_)
  refine g_lv (lv' := [(0, .ref tx), (1, .int lo), (2, .int up)]) rfl ?_
  refine g_aload_n (pc := 0) C dX4_readNumber_0 0 rfl ?_
  refine g_bipush (pc := 1) (v := 32) C dX4_readNumber_1 (by decide) ?_
  refine g_wrVV (pc := 3) (rest := []) (wr := []) C (fun _ => wP G tx al dr n (rlS lt n 32 z) lt) rfl k_X4_readLetter (c_X4_readLetter l G tx al dr n z lt 32 (by first | assumption | omega) (by first | assumption | omega)) ml_X4_39 rfl ⟨Nat.le_of_ble_eq_true rfl, Nat.le_of_ble_eq_true rfl⟩ rfl [0, 1] [] [0, 1] rfl (by decide) rfl (by decide) (by decide) (by decide) (fun _ => rfl) 0 rfl rfl rfl rfl (Nat.le_of_ble_eq_true rfl) ⟨by decide, by decide⟩ dX4_readNumber_3 (fun _ _ => ?_)
  refine g_aload_n (pc := 6) C dX4_readNumber_6 0 rfl ?_
  refine g_get (pc := 7) (T := TX4) (N := 5) (v := .int (nI ((rlS lt n 32 z).1))) C ib_X4 0 rfl rfl 4 (by decide) mf_X4_33 rfl rfl rfl dX4_readNumber_7 ?_
  refine g_istore_n (pc := 10) (lv' := [(3, .int (nI ((rlS lt n 32 z).1))), (0, .ref tx), (1, .int lo), (2, .int up)]) C dX4_readNumber_10 rfl (by decide) rfl ?_
  refine g_iconst (pc := 11) (v := 0) C dX4_readNumber_11 (by decide) ?_
  refine g_istore (pc := 12) (lv' := [(4, .int 0), (3, .int (nI ((rlS lt n 32 z).1))), (0, .ref tx), (1, .int lo), (2, .int up)]) C dX4_readNumber_12 (by decide) rfl ?_
  refine g_iconst (pc := 14) (v := 0) C dX4_readNumber_14 (by decide) ?_
  refine g_istore (pc := 15) (lv' := [(5, .int 0), (4, .int 0), (3, .int (nI ((rlS lt n 32 z).1))), (0, .ref tx), (1, .int lo), (2, .int up)]) C dX4_readNumber_15 (by decide) rfl ?_
  have key_17 : ∀ (n17 : Nat) (i : Nat) (p : Nat) (v : Int32) (hi : i ≤ 3) (hp : p ≤ n) (hv : dgZ lt n (rlS lt n 32 z) = if (rlS lt n 32 z).2 = -1 then dgS lt n (3 - i) p v else (p, v)), 3 - i < n17 → GW p9 l e9 (rmh 2 0 0) s9 m9 a9 b9 t9 c9 (MQ b9 (va_Qi (fun r (_ : Unit) => r = nuV lt n z) (BW G (wP G tx al dr n z lt) sz9 (fun _ => wP G tx al dr n (nuS lt n lo up z) lt)) (va_A (wP G tx al dr n z lt) sz9)) a9 s9 0 0 (va_A (wP G tx al dr n z lt) sz9)) G (va_A (wP G tx al dr n z lt) sz9) true 6 0 0 (wP G tx al dr n (p, (rlS lt n 32 z).2) lt) [(0, .ref tx), (1, .int lo), (2, .int up), (3, .int (nI ((rlS lt n 32 z).1))), (4, .int v), (5, .int (nI i))] 17 [] := by
    intro n17
    induction n17 with
    | zero => intro i p v hi hp hv hn17; exact absurd hn17 (Nat.not_lt_zero _)
    | succ n17 ih17 =>
      intro i p v hi hp hv hn17
      refine g_iload (pc := 17) C dX4_readNumber_17 5 rfl ?_
      refine g_iconst (pc := 19) (v := 3) C dX4_readNumber_19 (by decide) ?_
      refine g_icmpN_ge (pc := 20) (i := i) (j := 3) (tgt := 76) C dX4_readNumber_20 (by decide) ⟨by omega, by omega⟩ (fun h20 => ?_) (fun h20 => ?_)
      · have hd : dgZ lt n (rlS lt n 32 z) = (p, v) := (by rw [hv, show 3 - i = 0 from by omega, dgS]; split <;> rfl)
        refine g_aload_n (pc := 76) C dX4_readNumber_76 0 rfl ?_
        refine g_get (pc := 77) (T := TX4) (N := 5) (v := .int (nI ((p, (rlS lt n 32 z).2).1))) C ib_X4 0 rfl rfl 4 (by decide) mf_X4_33 rfl rfl rfl dX4_readNumber_77 ?_
        refine g_iload_n (pc := 80) C dX4_readNumber_80 3 rfl ?_
        refine g_icmpN_ne (pc := 81) (i := (p, (rlS lt n 32 z).2).1) (j := (rlS lt n 32 z).1) (tgt := 92) C dX4_readNumber_81 (by decide) ⟨by omega, by omega⟩ (fun h81 => ?_) (fun h81 => ?_)
        · refine g_iload (pc := 92) C dX4_readNumber_92 4 rfl ?_
          refine g_iload_n (pc := 94) C dX4_readNumber_94 1 rfl ?_
          refine g_iload_n (pc := 95) C dX4_readNumber_95 2 rfl ?_
          refine g_rdSNI (pc := 96) (val := bI (lo ≤ v ∧ v ≤ up)) (rest := []) C k_X6_isWithin (c_X6_isWithin l G v lo up) (List.mem_of_getElem? (i := 11) rfl) rfl ⟨Nat.le_of_ble_eq_true rfl, Nat.le_of_ble_eq_true rfl⟩ rfl [] rfl rfl (Nat.le_of_ble_eq_true rfl) ⟨by decide, by decide⟩ dX4_readNumber_96 ?_
          refine g_ifb_ne (pc := 99) (tgt := 107) C dX4_readNumber_99 (by decide) (fun h99 => ?_) (fun h99 => ?_)
          · refine g_iload (pc := 107) C dX4_readNumber_107 4 rfl ?_
            exact g_retIW (pc := 109) C rfl rfl () (rfl) (by rw [nuV, hd]) (by unfold nuS nuA nuV; rw [hd]; simp only []; rw [if_pos h99, if_neg h81] <;> rfl) dX4_readNumber_109
          · refine g_aload_n (pc := 102) C dX4_readNumber_102 0 rfl ?_
            refine g_iload_n (pc := 103) C dX4_readNumber_103 3 rfl ?_
            refine g_wrVV (pc := 104) (rest := []) (wr := []) C (fun _ => wP G tx al dr n (ftS (p, (rlS lt n 32 z).2) (nI ((rlS lt n 32 z).1))) lt) rfl k_X4_faultAt (c_X4_faultAt l G tx al dr n (p, (rlS lt n 32 z).2) lt (nI ((rlS lt n 32 z).1))) ml_X4_77 rfl ⟨Nat.le_of_ble_eq_true rfl, Nat.le_of_ble_eq_true rfl⟩ rfl [0, 1] [] [0, 1] rfl (by decide) rfl (by decide) (by decide) (by decide) (fun _ => rfl) 0 rfl rfl rfl rfl (Nat.le_of_ble_eq_true rfl) ⟨by decide, by decide⟩ dX4_readNumber_104 (fun _ _ => ?_)
            refine g_iload (pc := 107) C dX4_readNumber_107 4 rfl ?_
            exact g_retIW (pc := 109) C rfl rfl () (rfl) (by rw [nuV, hd]) (by unfold nuS nuA nuV; rw [hd]; simp only []; rw [if_neg h99, if_neg h81] <;> rfl) dX4_readNumber_109
        · refine g_aload_n (pc := 84) C dX4_readNumber_84 0 rfl ?_
          refine g_aload_n (pc := 85) C dX4_readNumber_85 0 rfl ?_
          refine g_get (pc := 86) (T := TX4) (N := 5) (v := .int (nI ((p, (rlS lt n 32 z).2).1))) C ib_X4 0 rfl rfl 4 (by decide) mf_X4_33 rfl rfl rfl dX4_readNumber_86 ?_
          refine g_wrVV (pc := 89) (rest := []) (wr := []) C (fun _ => wP G tx al dr n (ftS (p, (rlS lt n 32 z).2) (nI ((p, (rlS lt n 32 z).2).1))) lt) rfl k_X4_faultAt (c_X4_faultAt l G tx al dr n (p, (rlS lt n 32 z).2) lt (nI ((p, (rlS lt n 32 z).2).1))) ml_X4_77 rfl ⟨Nat.le_of_ble_eq_true rfl, Nat.le_of_ble_eq_true rfl⟩ rfl [0, 1] [] [0, 1] rfl (by decide) rfl (by decide) (by decide) (by decide) (fun _ => rfl) 0 rfl rfl rfl rfl (Nat.le_of_ble_eq_true rfl) ⟨by decide, by decide⟩ dX4_readNumber_89 (fun _ _ => ?_)
          refine g_iload (pc := 92) C dX4_readNumber_92 4 rfl ?_
          refine g_iload_n (pc := 94) C dX4_readNumber_94 1 rfl ?_
          refine g_iload_n (pc := 95) C dX4_readNumber_95 2 rfl ?_
          refine g_rdSNI (pc := 96) (val := bI (lo ≤ v ∧ v ≤ up)) (rest := []) C k_X6_isWithin (c_X6_isWithin l G v lo up) (List.mem_of_getElem? (i := 11) rfl) rfl ⟨Nat.le_of_ble_eq_true rfl, Nat.le_of_ble_eq_true rfl⟩ rfl [] rfl rfl (Nat.le_of_ble_eq_true rfl) ⟨by decide, by decide⟩ dX4_readNumber_96 ?_
          refine g_ifb_ne (pc := 99) (tgt := 107) C dX4_readNumber_99 (by decide) (fun h99 => ?_) (fun h99 => ?_)
          · refine g_iload (pc := 107) C dX4_readNumber_107 4 rfl ?_
            exact g_retIW (pc := 109) C rfl rfl () (rfl) (by rw [nuV, hd]) (by unfold nuS nuA nuV; rw [hd]; simp only []; rw [if_pos h99, if_pos h81] <;> rfl) dX4_readNumber_109
          · refine g_aload_n (pc := 102) C dX4_readNumber_102 0 rfl ?_
            refine g_iload_n (pc := 103) C dX4_readNumber_103 3 rfl ?_
            refine g_wrVV (pc := 104) (rest := []) (wr := []) C (fun _ => wP G tx al dr n (ftS (ftS (p, (rlS lt n 32 z).2) (nI ((p, (rlS lt n 32 z).2).1))) (nI ((rlS lt n 32 z).1))) lt) rfl k_X4_faultAt (c_X4_faultAt l G tx al dr n (ftS (p, (rlS lt n 32 z).2) (nI ((p, (rlS lt n 32 z).2).1))) lt (nI ((rlS lt n 32 z).1))) ml_X4_77 rfl ⟨Nat.le_of_ble_eq_true rfl, Nat.le_of_ble_eq_true rfl⟩ rfl [0, 1] [] [0, 1] rfl (by decide) rfl (by decide) (by decide) (by decide) (fun _ => rfl) 0 rfl rfl rfl rfl (Nat.le_of_ble_eq_true rfl) ⟨by decide, by decide⟩ dX4_readNumber_104 (fun _ _ => ?_)
            refine g_iload (pc := 107) C dX4_readNumber_107 4 rfl ?_
            exact g_retIW (pc := 109) C rfl rfl () (rfl) (by rw [nuV, hd]) (by unfold nuS nuA nuV; rw [hd]; simp only []; rw [if_neg h99, if_pos h81] <;> rfl) dX4_readNumber_109
      · refine g_aload_n (pc := 23) C dX4_readNumber_23 0 rfl ?_
        refine g_get (pc := 24) (T := TX4) (N := 5) (v := .int ((p, (rlS lt n 32 z).2).2)) C ib_X4 0 rfl rfl 2 (by decide) mf_X4_22 rfl rfl rfl dX4_readNumber_24 ?_
        refine g_iconst (pc := 27) (v := (-1)) C dX4_readNumber_27 (by decide) ?_
        refine g_icmp_ne (pc := 28) (tgt := 76) C dX4_readNumber_28 (by decide) (fun h28 => ?_) (fun h28 => ?_)
        · have hd : dgZ lt n (rlS lt n 32 z) = (p, v) := (by have h9 : ¬ (rlS lt n 32 z).2 = -1 := h28; rw [hv, if_neg h9])
          refine g_aload_n (pc := 76) C dX4_readNumber_76 0 rfl ?_
          refine g_get (pc := 77) (T := TX4) (N := 5) (v := .int (nI ((p, (rlS lt n 32 z).2).1))) C ib_X4 0 rfl rfl 4 (by decide) mf_X4_33 rfl rfl rfl dX4_readNumber_77 ?_
          refine g_iload_n (pc := 80) C dX4_readNumber_80 3 rfl ?_
          refine g_icmpN_ne (pc := 81) (i := (p, (rlS lt n 32 z).2).1) (j := (rlS lt n 32 z).1) (tgt := 92) C dX4_readNumber_81 (by decide) ⟨by omega, by omega⟩ (fun h81 => ?_) (fun h81 => ?_)
          · refine g_iload (pc := 92) C dX4_readNumber_92 4 rfl ?_
            refine g_iload_n (pc := 94) C dX4_readNumber_94 1 rfl ?_
            refine g_iload_n (pc := 95) C dX4_readNumber_95 2 rfl ?_
            refine g_rdSNI (pc := 96) (val := bI (lo ≤ v ∧ v ≤ up)) (rest := []) C k_X6_isWithin (c_X6_isWithin l G v lo up) (List.mem_of_getElem? (i := 11) rfl) rfl ⟨Nat.le_of_ble_eq_true rfl, Nat.le_of_ble_eq_true rfl⟩ rfl [] rfl rfl (Nat.le_of_ble_eq_true rfl) ⟨by decide, by decide⟩ dX4_readNumber_96 ?_
            refine g_ifb_ne (pc := 99) (tgt := 107) C dX4_readNumber_99 (by decide) (fun h99 => ?_) (fun h99 => ?_)
            · refine g_iload (pc := 107) C dX4_readNumber_107 4 rfl ?_
              exact g_retIW (pc := 109) C rfl rfl () (rfl) (by rw [nuV, hd]) (by unfold nuS nuA nuV; rw [hd]; simp only []; rw [if_pos h99, if_neg h81] <;> rfl) dX4_readNumber_109
            · refine g_aload_n (pc := 102) C dX4_readNumber_102 0 rfl ?_
              refine g_iload_n (pc := 103) C dX4_readNumber_103 3 rfl ?_
              refine g_wrVV (pc := 104) (rest := []) (wr := []) C (fun _ => wP G tx al dr n (ftS (p, (rlS lt n 32 z).2) (nI ((rlS lt n 32 z).1))) lt) rfl k_X4_faultAt (c_X4_faultAt l G tx al dr n (p, (rlS lt n 32 z).2) lt (nI ((rlS lt n 32 z).1))) ml_X4_77 rfl ⟨Nat.le_of_ble_eq_true rfl, Nat.le_of_ble_eq_true rfl⟩ rfl [0, 1] [] [0, 1] rfl (by decide) rfl (by decide) (by decide) (by decide) (fun _ => rfl) 0 rfl rfl rfl rfl (Nat.le_of_ble_eq_true rfl) ⟨by decide, by decide⟩ dX4_readNumber_104 (fun _ _ => ?_)
              refine g_iload (pc := 107) C dX4_readNumber_107 4 rfl ?_
              exact g_retIW (pc := 109) C rfl rfl () (rfl) (by rw [nuV, hd]) (by unfold nuS nuA nuV; rw [hd]; simp only []; rw [if_neg h99, if_neg h81] <;> rfl) dX4_readNumber_109
          · refine g_aload_n (pc := 84) C dX4_readNumber_84 0 rfl ?_
            refine g_aload_n (pc := 85) C dX4_readNumber_85 0 rfl ?_
            refine g_get (pc := 86) (T := TX4) (N := 5) (v := .int (nI ((p, (rlS lt n 32 z).2).1))) C ib_X4 0 rfl rfl 4 (by decide) mf_X4_33 rfl rfl rfl dX4_readNumber_86 ?_
            refine g_wrVV (pc := 89) (rest := []) (wr := []) C (fun _ => wP G tx al dr n (ftS (p, (rlS lt n 32 z).2) (nI ((p, (rlS lt n 32 z).2).1))) lt) rfl k_X4_faultAt (c_X4_faultAt l G tx al dr n (p, (rlS lt n 32 z).2) lt (nI ((p, (rlS lt n 32 z).2).1))) ml_X4_77 rfl ⟨Nat.le_of_ble_eq_true rfl, Nat.le_of_ble_eq_true rfl⟩ rfl [0, 1] [] [0, 1] rfl (by decide) rfl (by decide) (by decide) (by decide) (fun _ => rfl) 0 rfl rfl rfl rfl (Nat.le_of_ble_eq_true rfl) ⟨by decide, by decide⟩ dX4_readNumber_89 (fun _ _ => ?_)
            refine g_iload (pc := 92) C dX4_readNumber_92 4 rfl ?_
            refine g_iload_n (pc := 94) C dX4_readNumber_94 1 rfl ?_
            refine g_iload_n (pc := 95) C dX4_readNumber_95 2 rfl ?_
            refine g_rdSNI (pc := 96) (val := bI (lo ≤ v ∧ v ≤ up)) (rest := []) C k_X6_isWithin (c_X6_isWithin l G v lo up) (List.mem_of_getElem? (i := 11) rfl) rfl ⟨Nat.le_of_ble_eq_true rfl, Nat.le_of_ble_eq_true rfl⟩ rfl [] rfl rfl (Nat.le_of_ble_eq_true rfl) ⟨by decide, by decide⟩ dX4_readNumber_96 ?_
            refine g_ifb_ne (pc := 99) (tgt := 107) C dX4_readNumber_99 (by decide) (fun h99 => ?_) (fun h99 => ?_)
            · refine g_iload (pc := 107) C dX4_readNumber_107 4 rfl ?_
              exact g_retIW (pc := 109) C rfl rfl () (rfl) (by rw [nuV, hd]) (by unfold nuS nuA nuV; rw [hd]; simp only []; rw [if_pos h99, if_pos h81] <;> rfl) dX4_readNumber_109
            · refine g_aload_n (pc := 102) C dX4_readNumber_102 0 rfl ?_
              refine g_iload_n (pc := 103) C dX4_readNumber_103 3 rfl ?_
              refine g_wrVV (pc := 104) (rest := []) (wr := []) C (fun _ => wP G tx al dr n (ftS (ftS (p, (rlS lt n 32 z).2) (nI ((p, (rlS lt n 32 z).2).1))) (nI ((rlS lt n 32 z).1))) lt) rfl k_X4_faultAt (c_X4_faultAt l G tx al dr n (ftS (p, (rlS lt n 32 z).2) (nI ((p, (rlS lt n 32 z).2).1))) lt (nI ((rlS lt n 32 z).1))) ml_X4_77 rfl ⟨Nat.le_of_ble_eq_true rfl, Nat.le_of_ble_eq_true rfl⟩ rfl [0, 1] [] [0, 1] rfl (by decide) rfl (by decide) (by decide) (by decide) (fun _ => rfl) 0 rfl rfl rfl rfl (Nat.le_of_ble_eq_true rfl) ⟨by decide, by decide⟩ dX4_readNumber_104 (fun _ _ => ?_)
              refine g_iload (pc := 107) C dX4_readNumber_107 4 rfl ?_
              exact g_retIW (pc := 109) C rfl rfl () (rfl) (by rw [nuV, hd]) (by unfold nuS nuA nuV; rw [hd]; simp only []; rw [if_neg h99, if_pos h81] <;> rfl) dX4_readNumber_109
        · refine g_aload_n (pc := 31) C dX4_readNumber_31 0 rfl ?_
          refine g_rdVI (pc := 32) (val := ltr lt n (p, (rlS lt n 32 z).2).1) (rest := []) C k_X4_letterHere (c_X4_letterHere l G tx al dr n (p, (rlS lt n 32 z).2) lt (by first | assumption | omega) (by first | assumption | omega)) ml_X4_43 rfl ⟨Nat.le_of_ble_eq_true rfl, Nat.le_of_ble_eq_true rfl⟩ rfl [0, 1] rfl 0 rfl rfl rfl rfl (Nat.le_of_ble_eq_true rfl) ⟨by decide, by decide⟩ dX4_readNumber_32 ?_
          refine g_bipush (pc := 35) (v := 48) C dX4_readNumber_35 (by decide) ?_
          refine g_bipush (pc := 37) (v := 57) C dX4_readNumber_37 (by decide) ?_
          refine g_rdSNI (pc := 39) (val := bI (48 ≤ (ltr lt n (p, (rlS lt n 32 z).2).1) ∧ (ltr lt n (p, (rlS lt n 32 z).2).1) ≤ 57)) (rest := []) C k_X6_isWithin (c_X6_isWithin l G (ltr lt n (p, (rlS lt n 32 z).2).1) 48 57) (List.mem_of_getElem? (i := 11) rfl) rfl ⟨Nat.le_of_ble_eq_true rfl, Nat.le_of_ble_eq_true rfl⟩ rfl [] rfl rfl (Nat.le_of_ble_eq_true rfl) ⟨by decide, by decide⟩ dX4_readNumber_39 ?_
          refine g_ifb_eq (pc := 42) (tgt := 76) C dX4_readNumber_42 (by decide) (fun h42 => ?_) (fun h42 => ?_)
          · have hd : dgZ lt n (rlS lt n 32 z) = (p, v) := (by have h9 : (rlS lt n 32 z).2 = -1 := h28; rw [hv, if_pos h9, show 3 - i = (2 - i) + 1 from by omega, dgS, if_neg h42])
            refine g_aload_n (pc := 76) C dX4_readNumber_76 0 rfl ?_
            refine g_get (pc := 77) (T := TX4) (N := 5) (v := .int (nI ((p, (rlS lt n 32 z).2).1))) C ib_X4 0 rfl rfl 4 (by decide) mf_X4_33 rfl rfl rfl dX4_readNumber_77 ?_
            refine g_iload_n (pc := 80) C dX4_readNumber_80 3 rfl ?_
            refine g_icmpN_ne (pc := 81) (i := (p, (rlS lt n 32 z).2).1) (j := (rlS lt n 32 z).1) (tgt := 92) C dX4_readNumber_81 (by decide) ⟨by omega, by omega⟩ (fun h81 => ?_) (fun h81 => ?_)
            · refine g_iload (pc := 92) C dX4_readNumber_92 4 rfl ?_
              refine g_iload_n (pc := 94) C dX4_readNumber_94 1 rfl ?_
              refine g_iload_n (pc := 95) C dX4_readNumber_95 2 rfl ?_
              refine g_rdSNI (pc := 96) (val := bI (lo ≤ v ∧ v ≤ up)) (rest := []) C k_X6_isWithin (c_X6_isWithin l G v lo up) (List.mem_of_getElem? (i := 11) rfl) rfl ⟨Nat.le_of_ble_eq_true rfl, Nat.le_of_ble_eq_true rfl⟩ rfl [] rfl rfl (Nat.le_of_ble_eq_true rfl) ⟨by decide, by decide⟩ dX4_readNumber_96 ?_
              refine g_ifb_ne (pc := 99) (tgt := 107) C dX4_readNumber_99 (by decide) (fun h99 => ?_) (fun h99 => ?_)
              · refine g_iload (pc := 107) C dX4_readNumber_107 4 rfl ?_
                exact g_retIW (pc := 109) C rfl rfl () (rfl) (by rw [nuV, hd]) (by unfold nuS nuA nuV; rw [hd]; simp only []; rw [if_pos h99, if_neg h81] <;> rfl) dX4_readNumber_109
              · refine g_aload_n (pc := 102) C dX4_readNumber_102 0 rfl ?_
                refine g_iload_n (pc := 103) C dX4_readNumber_103 3 rfl ?_
                refine g_wrVV (pc := 104) (rest := []) (wr := []) C (fun _ => wP G tx al dr n (ftS (p, (rlS lt n 32 z).2) (nI ((rlS lt n 32 z).1))) lt) rfl k_X4_faultAt (c_X4_faultAt l G tx al dr n (p, (rlS lt n 32 z).2) lt (nI ((rlS lt n 32 z).1))) ml_X4_77 rfl ⟨Nat.le_of_ble_eq_true rfl, Nat.le_of_ble_eq_true rfl⟩ rfl [0, 1] [] [0, 1] rfl (by decide) rfl (by decide) (by decide) (by decide) (fun _ => rfl) 0 rfl rfl rfl rfl (Nat.le_of_ble_eq_true rfl) ⟨by decide, by decide⟩ dX4_readNumber_104 (fun _ _ => ?_)
                refine g_iload (pc := 107) C dX4_readNumber_107 4 rfl ?_
                exact g_retIW (pc := 109) C rfl rfl () (rfl) (by rw [nuV, hd]) (by unfold nuS nuA nuV; rw [hd]; simp only []; rw [if_neg h99, if_neg h81] <;> rfl) dX4_readNumber_109
            · refine g_aload_n (pc := 84) C dX4_readNumber_84 0 rfl ?_
              refine g_aload_n (pc := 85) C dX4_readNumber_85 0 rfl ?_
              refine g_get (pc := 86) (T := TX4) (N := 5) (v := .int (nI ((p, (rlS lt n 32 z).2).1))) C ib_X4 0 rfl rfl 4 (by decide) mf_X4_33 rfl rfl rfl dX4_readNumber_86 ?_
              refine g_wrVV (pc := 89) (rest := []) (wr := []) C (fun _ => wP G tx al dr n (ftS (p, (rlS lt n 32 z).2) (nI ((p, (rlS lt n 32 z).2).1))) lt) rfl k_X4_faultAt (c_X4_faultAt l G tx al dr n (p, (rlS lt n 32 z).2) lt (nI ((p, (rlS lt n 32 z).2).1))) ml_X4_77 rfl ⟨Nat.le_of_ble_eq_true rfl, Nat.le_of_ble_eq_true rfl⟩ rfl [0, 1] [] [0, 1] rfl (by decide) rfl (by decide) (by decide) (by decide) (fun _ => rfl) 0 rfl rfl rfl rfl (Nat.le_of_ble_eq_true rfl) ⟨by decide, by decide⟩ dX4_readNumber_89 (fun _ _ => ?_)
              refine g_iload (pc := 92) C dX4_readNumber_92 4 rfl ?_
              refine g_iload_n (pc := 94) C dX4_readNumber_94 1 rfl ?_
              refine g_iload_n (pc := 95) C dX4_readNumber_95 2 rfl ?_
              refine g_rdSNI (pc := 96) (val := bI (lo ≤ v ∧ v ≤ up)) (rest := []) C k_X6_isWithin (c_X6_isWithin l G v lo up) (List.mem_of_getElem? (i := 11) rfl) rfl ⟨Nat.le_of_ble_eq_true rfl, Nat.le_of_ble_eq_true rfl⟩ rfl [] rfl rfl (Nat.le_of_ble_eq_true rfl) ⟨by decide, by decide⟩ dX4_readNumber_96 ?_
              refine g_ifb_ne (pc := 99) (tgt := 107) C dX4_readNumber_99 (by decide) (fun h99 => ?_) (fun h99 => ?_)
              · refine g_iload (pc := 107) C dX4_readNumber_107 4 rfl ?_
                exact g_retIW (pc := 109) C rfl rfl () (rfl) (by rw [nuV, hd]) (by unfold nuS nuA nuV; rw [hd]; simp only []; rw [if_pos h99, if_pos h81] <;> rfl) dX4_readNumber_109
              · refine g_aload_n (pc := 102) C dX4_readNumber_102 0 rfl ?_
                refine g_iload_n (pc := 103) C dX4_readNumber_103 3 rfl ?_
                refine g_wrVV (pc := 104) (rest := []) (wr := []) C (fun _ => wP G tx al dr n (ftS (ftS (p, (rlS lt n 32 z).2) (nI ((p, (rlS lt n 32 z).2).1))) (nI ((rlS lt n 32 z).1))) lt) rfl k_X4_faultAt (c_X4_faultAt l G tx al dr n (ftS (p, (rlS lt n 32 z).2) (nI ((p, (rlS lt n 32 z).2).1))) lt (nI ((rlS lt n 32 z).1))) ml_X4_77 rfl ⟨Nat.le_of_ble_eq_true rfl, Nat.le_of_ble_eq_true rfl⟩ rfl [0, 1] [] [0, 1] rfl (by decide) rfl (by decide) (by decide) (by decide) (fun _ => rfl) 0 rfl rfl rfl rfl (Nat.le_of_ble_eq_true rfl) ⟨by decide, by decide⟩ dX4_readNumber_104 (fun _ _ => ?_)
                refine g_iload (pc := 107) C dX4_readNumber_107 4 rfl ?_
                exact g_retIW (pc := 109) C rfl rfl () (rfl) (by rw [nuV, hd]) (by unfold nuS nuA nuV; rw [hd]; simp only []; rw [if_neg h99, if_pos h81] <;> rfl) dX4_readNumber_109
          · refine g_bipush (pc := 45) (v := 10) C dX4_readNumber_45 (by decide) ?_
            refine g_iload (pc := 47) C dX4_readNumber_47 4 rfl ?_
            refine g_imul (pc := 49) C dX4_readNumber_49 ?_
            refine g_aload_n (pc := 50) C dX4_readNumber_50 0 rfl ?_
            refine g_rdVI (pc := 51) (val := ltr lt n (p, (rlS lt n 32 z).2).1) (rest := [.int (10 * v)]) C k_X4_letterHere (c_X4_letterHere l G tx al dr n (p, (rlS lt n 32 z).2) lt (by first | assumption | omega) (by first | assumption | omega)) ml_X4_43 rfl ⟨Nat.le_of_ble_eq_true rfl, Nat.le_of_ble_eq_true rfl⟩ rfl [0, 1] rfl 0 rfl rfl rfl rfl (Nat.le_of_ble_eq_true rfl) ⟨by decide, by decide⟩ dX4_readNumber_51 ?_
            refine g_iadd (pc := 54) C dX4_readNumber_54 ?_
            refine g_bipush (pc := 55) (v := 48) C dX4_readNumber_55 (by decide) ?_
            refine g_isub (pc := 57) C dX4_readNumber_57 ?_
            refine g_istore (pc := 58) (lv' := [(4, .int (((10 * v) + (ltr lt n (p, (rlS lt n 32 z).2).1)) - 48)), (0, .ref tx), (1, .int lo), (2, .int up), (3, .int (nI ((rlS lt n 32 z).1))), (5, .int (nI i))]) C dX4_readNumber_58 (by decide) rfl ?_
            refine g_aload_n (pc := 60) C dX4_readNumber_60 1 rfl ?_
            refine g_dup (pc := 61) C dX4_readNumber_61 rfl ?_
            refine g_get (pc := 62) (T := TX4) (N := 5) (v := .int (nI ((p, (rlS lt n 32 z).2).1))) C ib_X4 0 rfl rfl 4 (by decide) mf_X4_33 rfl rfl rfl dX4_readNumber_62 ?_
            refine g_iconst (pc := 65) (v := 1) C dX4_readNumber_65 (by decide) ?_
            refine g_iaddN (pc := 66) (i := (p, (rlS lt n 32 z).2).1) (j := 1) C dX4_readNumber_66 ?_
            refine g_put (pc := 67) (T := TX4) (N := 5) (ty := .int) (ws' := [oC tx 4 [.ref al, .ref dr, .int ((p, (rlS lt n 32 z).2).2), .int (nI n), .int (nI (((p, (rlS lt n 32 z).2).1) + 1))], iC G al 160 lt]) C rfl ib_X4 tyX4 tyX4_ok nmX4 0 rfl rfl 4 (by decide) mf_X4_33 rfl rfl rfl (by decide +kernel) rfl rfl (Nat.le_of_ble_eq_true rfl) dX4_readNumber_67 rfl ?_
            refine g_iinc (pc := 70) (v := nI (i + 1)) (lv' := [(5, .int (nI (i + 1))), (4, .int (((10 * v) + (ltr lt n (p, (rlS lt n 32 z).2).1)) - 48)), (0, .ref tx), (1, .int lo), (2, .int up), (3, .int (nI ((rlS lt n 32 z).1)))]) C dX4_readNumber_70 5 rfl (nI_1 i) (by decide) rfl ?_
            refine g_goto (pc := 73) (tgt := 17) C dX4_readNumber_73 (by decide) ?_
            refine g_ws (ws' := wP G tx al dr n ((p + 1), (rlS lt n 32 z).2) lt) (rfl) ?_
            refine g_sub (lv' := [(0, .ref tx), (1, .int lo), (2, .int up), (3, .int (nI ((rlS lt n 32 z).1))), (4, .int (((10 * v) + (ltr lt n (p, (rlS lt n 32 z).2).1)) - 48)), (5, .int (nI (i + 1)))]) [2, 3, 4, 5, 1, 0] rfl ?_
            exact ih17 (i + 1) (p + 1) (((10 * v) + (ltr lt n (p, (rlS lt n 32 z).2).1)) - 48) (by first | assumption | omega) (ltr_lt h42.1) (by have h9 : (rlS lt n 32 z).2 = -1 := h28; rw [hv, if_pos h9, if_pos h9, show 3 - i = (3 - (i + 1)) + 1 from by omega, dgS, if_pos h42]) (by omega)
  refine g_ws (ws' := wP G tx al dr n (((rlS lt n 32 z).1), (rlS lt n 32 z).2) lt) (rfl) ?_
  refine g_sub (lv' := [(0, .ref tx), (1, .int lo), (2, .int up), (3, .int (nI ((rlS lt n 32 z).1))), (4, .int 0), (5, .int (nI 0))]) [3, 4, 5, 2, 1, 0] rfl ?_
  exact key_17 _ 0 ((rlS lt n 32 z).1) 0 (by first | assumption | omega) (by first | assumption | omega) rfl (Nat.lt_succ_self _)
