set_option maxRecDepth 20000 in
set_option maxHeartbeats 4000000 in
theorem c_X7_above_0 (l : Launch) (G : gT)  : RI l yX7_above cX7_above 1 (some .int) 0 G [.int 0] (([] : va_W)) 0 := by
  refine start_R (by decide) (Nat.le_of_ble_eq_true rfl) (fun p9 e9 s9 m9 a9 b9 t9 c9 C => ?_)
  refine g_lv (lv' := [(0, .int 0)]) rfl ?_
  refine g_iload_n (pc := 0) C dX7_above_0 0 rfl ?_
  refine g_iconst (pc := 1) (v := 3) C dX7_above_1 (by decide) ?_
  refine g_icmpN_ne (pc := 2) (i := 0) (j := 3) (tgt := 9) C dX7_above_2 (by decide) ⟨by omega, by omega⟩ (fun h2 => ?_) (fun h2 => absurd h2 (by decide))
  refine g_iload_n (pc := 9) C dX7_above_9 0 rfl ?_
  refine g_iconst (pc := 10) (v := 5) C dX7_above_10 (by decide) ?_
  refine g_icmpN_ne (pc := 11) (i := 0) (j := 5) (tgt := 18) C dX7_above_11 (by decide) ⟨by omega, by omega⟩ (fun h11 => ?_) (fun h11 => absurd h11 (by decide))
  refine g_iload_n (pc := 18) C dX7_above_18 0 rfl ?_
  refine g_bipush (pc := 19) (v := 6) C dX7_above_19 (by decide) ?_
  refine g_icmpN_ne (pc := 21) (i := 0) (j := 6) (tgt := 28) C dX7_above_21 (by decide) ⟨by omega, by omega⟩ (fun h21 => ?_) (fun h21 => absurd h21 (by decide))
  refine g_iconst (pc := 28) (v := 0) C dX7_above_28 (by decide) ?_
  exact g_retIR (pc := 29) C (rfl) (by rfl) dX7_above_29
set_option maxRecDepth 20000 in
set_option maxHeartbeats 4000000 in
theorem c_X7_above_1 (l : Launch) (G : gT)  : RI l yX7_above cX7_above 1 (some .int) 0 G [.int 1] (([] : va_W)) 0 := by
  refine start_R (by decide) (Nat.le_of_ble_eq_true rfl) (fun p9 e9 s9 m9 a9 b9 t9 c9 C => ?_)
  refine g_lv (lv' := [(0, .int 1)]) rfl ?_
  refine g_iload_n (pc := 0) C dX7_above_0 0 rfl ?_
  refine g_iconst (pc := 1) (v := 3) C dX7_above_1 (by decide) ?_
  refine g_icmpN_ne (pc := 2) (i := 1) (j := 3) (tgt := 9) C dX7_above_2 (by decide) ⟨by omega, by omega⟩ (fun h2 => ?_) (fun h2 => absurd h2 (by decide))
  refine g_iload_n (pc := 9) C dX7_above_9 0 rfl ?_
  refine g_iconst (pc := 10) (v := 5) C dX7_above_10 (by decide) ?_
  refine g_icmpN_ne (pc := 11) (i := 1) (j := 5) (tgt := 18) C dX7_above_11 (by decide) ⟨by omega, by omega⟩ (fun h11 => ?_) (fun h11 => absurd h11 (by decide))
  refine g_iload_n (pc := 18) C dX7_above_18 0 rfl ?_
  refine g_bipush (pc := 19) (v := 6) C dX7_above_19 (by decide) ?_
  refine g_icmpN_ne (pc := 21) (i := 1) (j := 6) (tgt := 28) C dX7_above_21 (by decide) ⟨by omega, by omega⟩ (fun h21 => ?_) (fun h21 => absurd h21 (by decide))
  refine g_iconst (pc := 28) (v := 0) C dX7_above_28 (by decide) ?_
  exact g_retIR (pc := 29) C (rfl) (by rfl) dX7_above_29
set_option maxRecDepth 20000 in
set_option maxHeartbeats 4000000 in
theorem c_X7_above_2 (l : Launch) (G : gT)  : RI l yX7_above cX7_above 1 (some .int) 0 G [.int 2] (([] : va_W)) 0 := by
  refine start_R (by decide) (Nat.le_of_ble_eq_true rfl) (fun p9 e9 s9 m9 a9 b9 t9 c9 C => ?_)
  refine g_lv (lv' := [(0, .int 2)]) rfl ?_
  refine g_iload_n (pc := 0) C dX7_above_0 0 rfl ?_
  refine g_iconst (pc := 1) (v := 3) C dX7_above_1 (by decide) ?_
  refine g_icmpN_ne (pc := 2) (i := 2) (j := 3) (tgt := 9) C dX7_above_2 (by decide) ⟨by omega, by omega⟩ (fun h2 => ?_) (fun h2 => absurd h2 (by decide))
  refine g_iload_n (pc := 9) C dX7_above_9 0 rfl ?_
  refine g_iconst (pc := 10) (v := 5) C dX7_above_10 (by decide) ?_
  refine g_icmpN_ne (pc := 11) (i := 2) (j := 5) (tgt := 18) C dX7_above_11 (by decide) ⟨by omega, by omega⟩ (fun h11 => ?_) (fun h11 => absurd h11 (by decide))
  refine g_iload_n (pc := 18) C dX7_above_18 0 rfl ?_
  refine g_bipush (pc := 19) (v := 6) C dX7_above_19 (by decide) ?_
  refine g_icmpN_ne (pc := 21) (i := 2) (j := 6) (tgt := 28) C dX7_above_21 (by decide) ⟨by omega, by omega⟩ (fun h21 => ?_) (fun h21 => absurd h21 (by decide))
  refine g_iconst (pc := 28) (v := 0) C dX7_above_28 (by decide) ?_
  exact g_retIR (pc := 29) C (rfl) (by rfl) dX7_above_29
set_option maxRecDepth 20000 in
set_option maxHeartbeats 4000000 in
theorem c_X7_above_3 (l : Launch) (G : gT)  : RI l yX7_above cX7_above 1 (some .int) 0 G [.int 3] (([] : va_W)) 1 := by
  refine start_R (by decide) (Nat.le_of_ble_eq_true rfl) (fun p9 e9 s9 m9 a9 b9 t9 c9 C => ?_)
  refine g_lv (lv' := [(0, .int 3)]) rfl ?_
  refine g_iload_n (pc := 0) C dX7_above_0 0 rfl ?_
  refine g_iconst (pc := 1) (v := 3) C dX7_above_1 (by decide) ?_
  refine g_icmpN_ne (pc := 2) (i := 3) (j := 3) (tgt := 9) C dX7_above_2 (by decide) ⟨by omega, by omega⟩ (fun h2 => absurd h2 (by decide)) (fun h2 => ?_)
  refine g_iconst (pc := 5) (v := 1) C dX7_above_5 (by decide) ?_
  refine g_goto (pc := 6) (tgt := 29) C dX7_above_6 (by decide) ?_
  exact g_retIR (pc := 29) C (rfl) (by rfl) dX7_above_29
set_option maxRecDepth 20000 in
set_option maxHeartbeats 4000000 in
theorem c_X7_above_4 (l : Launch) (G : gT)  : RI l yX7_above cX7_above 1 (some .int) 0 G [.int 4] (([] : va_W)) 0 := by
  refine start_R (by decide) (Nat.le_of_ble_eq_true rfl) (fun p9 e9 s9 m9 a9 b9 t9 c9 C => ?_)
  refine g_lv (lv' := [(0, .int 4)]) rfl ?_
  refine g_iload_n (pc := 0) C dX7_above_0 0 rfl ?_
  refine g_iconst (pc := 1) (v := 3) C dX7_above_1 (by decide) ?_
  refine g_icmpN_ne (pc := 2) (i := 4) (j := 3) (tgt := 9) C dX7_above_2 (by decide) ⟨by omega, by omega⟩ (fun h2 => ?_) (fun h2 => absurd h2 (by decide))
  refine g_iload_n (pc := 9) C dX7_above_9 0 rfl ?_
  refine g_iconst (pc := 10) (v := 5) C dX7_above_10 (by decide) ?_
  refine g_icmpN_ne (pc := 11) (i := 4) (j := 5) (tgt := 18) C dX7_above_11 (by decide) ⟨by omega, by omega⟩ (fun h11 => ?_) (fun h11 => absurd h11 (by decide))
  refine g_iload_n (pc := 18) C dX7_above_18 0 rfl ?_
  refine g_bipush (pc := 19) (v := 6) C dX7_above_19 (by decide) ?_
  refine g_icmpN_ne (pc := 21) (i := 4) (j := 6) (tgt := 28) C dX7_above_21 (by decide) ⟨by omega, by omega⟩ (fun h21 => ?_) (fun h21 => absurd h21 (by decide))
  refine g_iconst (pc := 28) (v := 0) C dX7_above_28 (by decide) ?_
  exact g_retIR (pc := 29) C (rfl) (by rfl) dX7_above_29
set_option maxRecDepth 20000 in
set_option maxHeartbeats 4000000 in
theorem c_X7_above_5 (l : Launch) (G : gT)  : RI l yX7_above cX7_above 1 (some .int) 0 G [.int 5] (([] : va_W)) 2 := by
  refine start_R (by decide) (Nat.le_of_ble_eq_true rfl) (fun p9 e9 s9 m9 a9 b9 t9 c9 C => ?_)
  refine g_lv (lv' := [(0, .int 5)]) rfl ?_
  refine g_iload_n (pc := 0) C dX7_above_0 0 rfl ?_
  refine g_iconst (pc := 1) (v := 3) C dX7_above_1 (by decide) ?_
  refine g_icmpN_ne (pc := 2) (i := 5) (j := 3) (tgt := 9) C dX7_above_2 (by decide) ⟨by omega, by omega⟩ (fun h2 => ?_) (fun h2 => absurd h2 (by decide))
  refine g_iload_n (pc := 9) C dX7_above_9 0 rfl ?_
  refine g_iconst (pc := 10) (v := 5) C dX7_above_10 (by decide) ?_
  refine g_icmpN_ne (pc := 11) (i := 5) (j := 5) (tgt := 18) C dX7_above_11 (by decide) ⟨by omega, by omega⟩ (fun h11 => absurd h11 (by decide)) (fun h11 => ?_)
  refine g_iconst (pc := 14) (v := 2) C dX7_above_14 (by decide) ?_
  refine g_goto (pc := 15) (tgt := 29) C dX7_above_15 (by decide) ?_
  exact g_retIR (pc := 29) C (rfl) (by rfl) dX7_above_29
set_option maxRecDepth 20000 in
set_option maxHeartbeats 4000000 in
theorem c_X7_above_6 (l : Launch) (G : gT)  : RI l yX7_above cX7_above 1 (some .int) 0 G [.int 6] (([] : va_W)) 4 := by
  refine start_R (by decide) (Nat.le_of_ble_eq_true rfl) (fun p9 e9 s9 m9 a9 b9 t9 c9 C => ?_)
  refine g_lv (lv' := [(0, .int 6)]) rfl ?_
  refine g_iload_n (pc := 0) C dX7_above_0 0 rfl ?_
  refine g_iconst (pc := 1) (v := 3) C dX7_above_1 (by decide) ?_
  refine g_icmpN_ne (pc := 2) (i := 6) (j := 3) (tgt := 9) C dX7_above_2 (by decide) ⟨by omega, by omega⟩ (fun h2 => ?_) (fun h2 => absurd h2 (by decide))
  refine g_iload_n (pc := 9) C dX7_above_9 0 rfl ?_
  refine g_iconst (pc := 10) (v := 5) C dX7_above_10 (by decide) ?_
  refine g_icmpN_ne (pc := 11) (i := 6) (j := 5) (tgt := 18) C dX7_above_11 (by decide) ⟨by omega, by omega⟩ (fun h11 => ?_) (fun h11 => absurd h11 (by decide))
  refine g_iload_n (pc := 18) C dX7_above_18 0 rfl ?_
  refine g_bipush (pc := 19) (v := 6) C dX7_above_19 (by decide) ?_
  refine g_icmpN_ne (pc := 21) (i := 6) (j := 6) (tgt := 28) C dX7_above_21 (by decide) ⟨by omega, by omega⟩ (fun h21 => absurd h21 (by decide)) (fun h21 => ?_)
  refine g_iconst (pc := 24) (v := 4) C dX7_above_24 (by decide) ?_
  refine g_goto (pc := 25) (tgt := 29) C dX7_above_25 (by decide) ?_
  exact g_retIR (pc := 29) C (rfl) (by rfl) dX7_above_29
set_option maxRecDepth 20000 in
set_option maxHeartbeats 4000000 in
theorem c_X7_has (l : Launch) (G : gT) (set : Int32) (k : Int32) : RI l yX7_has cX7_has 2 (some .boolean) 0 G [.int set, .int k] (([] : va_W)) (bI (set >>> (k &&& 31) &&& 1 = 1)) := by
  refine start_R (by decide) (Nat.le_of_ble_eq_true rfl) (fun p9 e9 s9 m9 a9 b9 t9 c9 C => ?_)
  refine g_lv (lv' := [(0, .int set), (1, .int k)]) rfl ?_
  refine g_iload_n (pc := 0) C dX7_has_0 0 rfl ?_
  refine g_iload_n (pc := 1) C dX7_has_1 1 rfl ?_
  refine g_ishr (pc := 2) C dX7_has_2 ?_
  refine g_iconst (pc := 3) (v := 1) C dX7_has_3 (by decide) ?_
  refine g_iand (pc := 4) C dX7_has_4 ?_
  refine g_iconst (pc := 5) (v := 1) C dX7_has_5 (by decide) ?_
  refine g_icmp_ne (pc := 6) (tgt := 13) C dX7_has_6 (by decide) (fun h6 => ?_) (fun h6 => ?_)
  · refine g_iconst (pc := 13) (v := 0) C dX7_has_13 (by decide) ?_
    exact g_retIR (pc := 14) C (rfl) (by simp_all [bI]) dX7_has_14
  · refine g_iconst (pc := 9) (v := 1) C dX7_has_9 (by decide) ?_
    refine g_goto (pc := 10) (tgt := 14) C dX7_has_10 (by decide) ?_
    exact g_retIR (pc := 14) C (rfl) (by simp_all [bI]) dX7_has_14
set_option maxRecDepth 20000 in
set_option maxHeartbeats 4000000 in
theorem c_X7_no (l : Launch) (G : gT) (m : Nat) (A : Nat → Nat) (τ : tT) (y : Nat → Int32) (rr : Nat → Int32) (k : Int32) (hk : -7 ≤ k ∧ k ≤ -1) : WI l yX7_no cX7_no 2 (some .int) 1 0 0 G [.ref m, .int k] (wN G m A τ y ++ ([iC G (A 11) 8 rr])) (S := Unit) (fun r _ => r = k) (fun _ => wN G m A τ y ++ ([iC G (A 11) 8 (rfI rr k)])) := by
  intro sz9
  refine start_W (by decide) (Nat.le_of_ble_eq_true rfl) (fun p9 e9 s9 m9 a9 b9 t9 c9 C => ?_)
  refine g_lv (lv' := [(0, .ref m), (1, .int k)]) rfl ?_
  refine g_aload_n (pc := 0) C dX7_no_0 0 rfl ?_
  refine g_get (pc := 1) (T := TX7) (N := 33) (v := .ref (A 11)) C ib_X7 0 rfl rfl 19 (by decide) mf_X7_44 rfl rfl rfl dX7_no_1 ?_
  refine g_iload_n (pc := 4) C dX7_no_4 1 rfl ?_
  refine g_ineg (pc := 5) (v := -k) C dX7_no_5 rfl ?_
  refine g_dup2 (pc := 6) C dX7_no_6 rfl rfl ?_
  refine g_iald (pc := 7) (v := rr (nx (-k))) C 9 rfl (nx (-k)) ((neg_ix hk).1) ⟨by exact (neg_ix hk).2, by decide⟩ (rfl) dX7_no_7 ?_
  refine g_iconst (pc := 8) (v := 1) C dX7_no_8 (by decide) ?_
  refine g_iadd (pc := 9) C dX7_no_9 ?_
  refine g_iast (pc := 10) (ws' := wN G m A τ y ++ ([iC G (A 11) 8 (upd rr (nx (-k)) ((rr (nx (-k))) + 1))])) C rfl 9 rfl (nx (-k)) ((neg_ix hk).1) ⟨by exact (neg_ix hk).2, by decide⟩ dX7_no_10 rfl ?_
  refine g_iload_n (pc := 11) C dX7_no_11 1 rfl ?_
  exact g_retIW (pc := 12) C rfl rfl () (rfl) (by rfl) (by rw [rfI, if_pos hk]) dX7_no_12
set_option maxRecDepth 20000 in
set_option maxHeartbeats 4000000 in
theorem c_X7_no10 (l : Launch) (G : gT) (m : Nat) (A : Nat → Nat) (τ : tT) (y : Nat → Int32) (rr : Nat → Int32) (k : Int32) (hk : -7 ≤ k ∧ k ≤ -1) : WI l yX7_no10 cX7_no10 2 (some .int) 2 0 0 G [.ref m, .int k] (wN G m A τ y ++ ([iC G (A 11) 8 rr])) (S := Unit) (fun r _ => r = -10 + k) (fun _ => wN G m A τ y ++ ([iC G (A 11) 8 (rfI rr k)])) := by
  intro sz9
  refine start_W (by decide) (Nat.le_of_ble_eq_true rfl) (fun p9 e9 s9 m9 a9 b9 t9 c9 C => ?_)
  refine g_lv (lv' := [(0, .ref m), (1, .int k)]) rfl ?_
  refine g_aload_n (pc := 0) C dX7_no10_0 0 rfl ?_
  refine g_iload_n (pc := 1) C dX7_no10_1 1 rfl ?_
  refine g_wrVI (pc := 2) (rest := []) (wr := []) C (fun _ => wN G m A τ y ++ ([iC G (A 11) 8 (rfI rr k)])) rfl k_X7_no (c_X7_no l G m A τ y rr k (by first | assumption | omega)) ml_X7_81 rfl ⟨Nat.le_of_ble_eq_true rfl, Nat.le_of_ble_eq_true rfl⟩ rfl [0, 1, 2, 3, 4, 5, 6, 7, 8, 9] [] [0, 1, 2, 3, 4, 5, 6, 7, 8, 9] rfl (by decide) rfl (by decide) (by decide) (by decide) (fun _ => rfl) 0 rfl rfl rfl rfl (Nat.le_of_ble_eq_true rfl) ⟨by decide, by decide⟩ dX7_no10_2 (fun r2 _ e2 => ?_)
  subst e2
  refine g_bipush (pc := 5) (v := 10) C dX7_no10_5 (by decide) ?_
  refine g_isub (pc := 7) C dX7_no10_7 ?_
  exact g_retIW (pc := 8) C rfl rfl () (rfl) (by rw [Int32.sub_eq_add_neg, Int32.add_comm] <;> rfl) (by rfl) dX7_no10_8
set_option maxRecDepth 20000 in
set_option maxHeartbeats 4000000 in
theorem c_X7_noMuch (l : Launch) (G : gT) (m : Nat) (A : Nat → Nat) (τ : tT) (y : Nat → Int32) (rr : Nat → Int32) (k : Int32) (hk : -7 ≤ k ∧ k ≤ -1) : WI l yX7_noMuch cX7_noMuch 2 (some .int) 2 0 0 G [.ref m, .int k] (wN G m A τ y ++ ([iC G (A 11) 8 rr])) (S := Unit) (fun r _ => r = -10000 + k) (fun _ => wN G m A τ y ++ ([iC G (A 11) 8 (rfI rr k)])) := by
  intro sz9
  refine start_W (by decide) (Nat.le_of_ble_eq_true rfl) (fun p9 e9 s9 m9 a9 b9 t9 c9 C => ?_)
  refine g_lv (lv' := [(0, .ref m), (1, .int k)]) rfl ?_
  refine g_aload_n (pc := 0) C dX7_noMuch_0 0 rfl ?_
  refine g_iload_n (pc := 1) C dX7_noMuch_1 1 rfl ?_
  refine g_wrVI (pc := 2) (rest := []) (wr := []) C (fun _ => wN G m A τ y ++ ([iC G (A 11) 8 (rfI rr k)])) rfl k_X7_no (c_X7_no l G m A τ y rr k (by first | assumption | omega)) ml_X7_81 rfl ⟨Nat.le_of_ble_eq_true rfl, Nat.le_of_ble_eq_true rfl⟩ rfl [0, 1, 2, 3, 4, 5, 6, 7, 8, 9] [] [0, 1, 2, 3, 4, 5, 6, 7, 8, 9] rfl (by decide) rfl (by decide) (by decide) (by decide) (fun _ => rfl) 0 rfl rfl rfl rfl (Nat.le_of_ble_eq_true rfl) ⟨by decide, by decide⟩ dX7_noMuch_2 (fun r2 _ e2 => ?_)
  subst e2
  refine g_sipush (pc := 5) (v := 10000) C dX7_noMuch_5 (by decide) ?_
  refine g_isub (pc := 8) C dX7_noMuch_8 ?_
  exact g_retIW (pc := 9) C rfl rfl () (rfl) (by rw [Int32.sub_eq_add_neg, Int32.add_comm] <;> rfl) (by rfl) dX7_noMuch_9
set_option maxRecDepth 20000 in
set_option maxHeartbeats 4000000 in
theorem c_X7_isRow (l : Launch) (G : gT) (m : Nat) (A : Nat → Nat) (τ : tT) (y : Nat → Int32) (hd : Nat → Int32) (s : Nat) (hs : s < 8) : RI l yX7_isRow cX7_isRow 2 (some .boolean) 0 G [.ref m, .int (nI s)] (wN G m A τ y ++ ([iC G (A 0) 8 hd])) (bI (isRw (hd s))) := by
  refine start_R (by decide) (Nat.le_of_ble_eq_true rfl) (fun p9 e9 s9 m9 a9 b9 t9 c9 C => ?_)
  refine g_lv (lv' := [(0, .ref m), (1, .int (nI s))]) rfl ?_
  refine g_aload_n (pc := 0) C dX7_isRow_0 0 rfl ?_
  refine g_get (pc := 1) (T := TX7) (N := 33) (v := .ref (A 0)) C ib_X7 0 rfl rfl 0 (by decide) mf_X7_7 rfl rfl rfl dX7_isRow_1 ?_
  refine g_iload_n (pc := 4) C dX7_isRow_4 1 rfl ?_
  refine g_iald (pc := 5) (v := hd s) C 9 rfl s (rfl) ⟨by omega, by decide⟩ (rfl) dX7_isRow_5 ?_
  refine g_bipush (pc := 6) (v := 100) C dX7_isRow_6 (by decide) ?_
  refine g_icmp_lt (pc := 8) (tgt := 15) C dX7_isRow_8 (by decide) (fun h8 => ?_) (fun h8 => ?_)
  · refine g_iconst (pc := 15) (v := 0) C dX7_isRow_15 (by decide) ?_
    exact g_retIR (pc := 16) C (rfl) (by simp_all [bI]) dX7_isRow_16
  · refine g_iconst (pc := 11) (v := 1) C dX7_isRow_11 (by decide) ?_
    refine g_goto (pc := 12) (tgt := 16) C dX7_isRow_12 (by decide) ?_
    exact g_retIR (pc := 16) C (rfl) (by simp_all [bI]) dX7_isRow_16
