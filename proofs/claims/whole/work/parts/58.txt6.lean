def pz (p : Nat) : Nat × Int32 := (p, -1)
set_option maxRecDepth 20000 in
set_option maxHeartbeats 4000000 in
theorem c_X7_sign (l : Launch) (G : gT) (m : Nat) (A : Nat → Nat) (τ : tT) (y : Nat → Int32) (sz : Nat → Int32) (el : Nat → Int64) (s : Nat) (n : Nat) (z : Nat × Int32) (hs : s < 8) (hsz : sz s = nI n) (hn : n ≤ 160) (hr : y 3 = nI s) (hz : z.1 ≤ n) (h2 : z.2 = -1) : RI l yX7_sign cX7_sign 1 (some .int) 0 G [.ref m] (wN G m A τ (upd y 4 (nI z.1)) ++ ([iC G (A 1) 8 sz, jC G (A 2) 1280 el])) (ltr (tol el s) n z.1) := by
  refine start_R (by decide) (Nat.le_of_ble_eq_true rfl) (fun p9 e9 s9 m9 a9 b9 t9 c9 C => ?_)
  refine g_lv (lv' := [(0, .ref m)]) rfl ?_
  refine g_aload_n (pc := 0) C dX7_sign_0 0 rfl ?_
  refine g_get (pc := 1) (T := TX7) (N := 33) (v := .int ((upd y 4 (nI z.1)) 4)) C ib_X7 0 rfl rfl 26 (by decide) mf_X7_142 rfl rfl rfl dX7_sign_1 ?_
  refine g_top (z := nI z.1) (rfl) ?_
  refine g_aload_n (pc := 4) C dX7_sign_4 0 rfl ?_
  refine g_get (pc := 5) (T := TX7) (N := 33) (v := .ref (A 1)) C ib_X7 0 rfl rfl 1 (by decide) mf_X7_13 rfl rfl rfl dX7_sign_5 ?_
  refine g_aload_n (pc := 8) C dX7_sign_8 0 rfl ?_
  refine g_get (pc := 9) (T := TX7) (N := 33) (v := .int ((upd y 4 (nI z.1)) 3)) C ib_X7 0 rfl rfl 25 (by decide) mf_X7_145 rfl rfl rfl dX7_sign_9 ?_
  refine g_top (z := nI s) (hr) ?_
  refine g_iald (pc := 12) (v := sz s) C 9 rfl s (rfl) ⟨by omega, by decide⟩ (rfl) dX7_sign_12 ?_
  refine g_top (z := nI n) (hsz) ?_
  refine g_icmpN_ge (pc := 13) (i := z.1) (j := n) (tgt := 38) C dX7_sign_13 (by decide) ⟨by omega, by omega⟩ (fun h13 => ?_) (fun h13 => ?_)
  · refine g_iconst (pc := 38) (v := (-1)) C dX7_sign_38 (by decide) ?_
    exact g_retIR (pc := 39) C (rfl) (by rw [ltr, if_neg (by omega)]) dX7_sign_39
  · refine g_aload_n (pc := 16) C dX7_sign_16 0 rfl ?_
    refine g_get (pc := 17) (T := TX7) (N := 33) (v := .ref (A 2)) C ib_X7 0 rfl rfl 2 (by decide) mf_X7_16 rfl rfl rfl dX7_sign_17 ?_
    refine g_sipush (pc := 20) (v := 160) C dX7_sign_20 (by decide) ?_
    refine g_aload_n (pc := 23) C dX7_sign_23 0 rfl ?_
    refine g_get (pc := 24) (T := TX7) (N := 33) (v := .int ((upd y 4 (nI z.1)) 3)) C ib_X7 0 rfl rfl 25 (by decide) mf_X7_145 rfl rfl rfl dX7_sign_24 ?_
    refine g_top (z := nI s) (hr) ?_
    refine g_imulN (pc := 27) (i := 160) (j := s) C dX7_sign_27 ?_
    refine g_aload_n (pc := 28) C dX7_sign_28 0 rfl ?_
    refine g_get (pc := 29) (T := TX7) (N := 33) (v := .int ((upd y 4 (nI z.1)) 4)) C ib_X7 0 rfl rfl 26 (by decide) mf_X7_142 rfl rfl rfl dX7_sign_29 ?_
    refine g_top (z := nI z.1) (rfl) ?_
    refine g_iaddN (pc := 32) (i := 160 * s) (j := z.1) C dX7_sign_32 ?_
    refine g_lald (pc := 33) (v := el ((160 * s) + z.1)) C 10 rfl ((160 * s) + z.1) (rfl) ⟨by omega, by decide⟩ (rfl) dX7_sign_33 ?_
    refine g_l2i (pc := 34) (v := (el ((160 * s) + z.1)).toInt32) C dX7_sign_34 rfl ?_
    refine g_goto (pc := 35) (tgt := 39) C dX7_sign_35 (by decide) ?_
    exact g_retIR (pc := 39) C (rfl) (by rw [ltr, if_pos h13, tol, Nat.mul_comm s 160]) dX7_sign_39
set_option maxRecDepth 20000 in
set_option maxHeartbeats 4000000 in
theorem c_X7_is (l : Launch) (G : gT) (m : Nat) (A : Nat → Nat) (τ : tT) (y : Nat → Int32) (sz : Nat → Int32) (el : Nat → Int64) (s : Nat) (n : Nat) (z : Nat × Int32) (ch : Int32) (hs : s < 8) (hsz : sz s = nI n) (hn : n ≤ 160) (hr : y 3 = nI s) (hz : z.1 ≤ n) (h2 : z.2 = -1) : WI l yX7_is cX7_is 2 (some .boolean) 1 0 0 G [.ref m, .int ch] (wN G m A τ (upd y 4 (nI z.1)) ++ ([iC G (A 1) 8 sz, jC G (A 2) 1280 el])) (S := Unit) (fun r _ => r = bI ((rlS (tol el s) n ch z).2 = -1)) (fun _ => wN G m A τ (upd y 4 (aO (rlS (tol el s) n ch z))) ++ ([iC G (A 1) 8 sz, jC G (A 2) 1280 el])) := by
  intro sz9
  refine start_W (by decide) (Nat.le_of_ble_eq_true rfl) (fun p9 e9 s9 m9 a9 b9 t9 c9 C => ?_)
  refine g_lv (lv' := [(0, .ref m), (1, .int ch)]) rfl ?_
  refine g_aload_n (pc := 0) C dX7_is_0 0 rfl ?_
  refine g_rdVI (pc := 1) (val := ltr (tol el s) n z.1) (rest := []) C k_X7_sign (c_X7_sign l G m A τ y sz el s n z (by first | assumption | omega) (by first | assumption | omega) (by first | assumption | omega) (by first | assumption | omega) (by first | assumption | omega) (by first | assumption | omega)) ml_X7_148 rfl ⟨Nat.le_of_ble_eq_true rfl, Nat.le_of_ble_eq_true rfl⟩ rfl [0, 1, 2, 3, 4, 5, 6, 7, 8, 9, 10] rfl 0 rfl rfl rfl rfl (Nat.le_of_ble_eq_true rfl) ⟨by decide, by decide⟩ dX7_is_1 ?_
  refine g_iload_n (pc := 4) C dX7_is_4 1 rfl ?_
  refine g_icmp_eq (pc := 5) (tgt := 10) C dX7_is_5 (by decide) (fun h5 => ?_) (fun h5 => ?_)
  · refine g_aload_n (pc := 10) C dX7_is_10 0 rfl ?_
    refine g_dup (pc := 11) C dX7_is_11 rfl ?_
    refine g_get (pc := 12) (T := TX7) (N := 33) (v := .int ((upd y 4 (nI z.1)) 4)) C ib_X7 0 rfl rfl 26 (by decide) mf_X7_142 rfl rfl rfl dX7_is_12 ?_
    refine g_top (z := nI z.1) (rfl) ?_
    refine g_iconst (pc := 15) (v := 1) C dX7_is_15 (by decide) ?_
    refine g_iaddN (pc := 16) (i := z.1) (j := 1) C dX7_is_16 ?_
    refine g_put (pc := 17) (T := TX7) (N := 33) (ty := .int) (ws' := [oC m 6 [.ref (A 0), .ref (A 1), .ref (A 2), .int (τ 8 0), .ref (A 3), .ref (A 4), .ref (A 5), .int (τ 8 1), .ref (A 6), .ref (A 7), .ref (A 8), .ref (A 9), .ref (A 10), .int (τ 8 2), .int (τ 8 3), .int (τ 8 5), .int (τ 8 6), .int (τ 8 4), .int ((upd y 4 (nI z.1)) 0), .ref (A 11), .int ((upd y 4 (nI z.1)) 1), .ref (A 12), .int ((upd y 4 (nI z.1)) 2), .ref (A 13), .ref (A 14), .int ((upd y 4 (nI z.1)) 3), .int (nI (z.1 + 1)), .ref (A 15), .ref (A 16), .ref (A 17), .ref (A 18), .ref (A 19), .int ((upd y 4 (nI z.1)) 5)], iC G (A 3) 8 (τ 0), iC G (A 4) 8 (τ 1), iC G (A 5) 64 (τ 2), iC G (A 6) 10 (τ 3), iC G (A 7) 10 (τ 4), iC G (A 8) 10 (τ 5), iC G (A 9) 10 (τ 6), iC G (A 10) 10 (τ 7), iC G (A 1) 8 sz, jC G (A 2) 1280 el]) C rfl ib_X7 tyX7 tyX7_ok nmX7 0 rfl rfl 26 (by decide) mf_X7_142 rfl rfl rfl (by decide +kernel) rfl rfl (Nat.le_of_ble_eq_true rfl) dX7_is_17 rfl ?_
    refine g_iconst (pc := 20) (v := 1) C dX7_is_20 (by decide) ?_
    exact g_retIW (pc := 21) C rfl rfl () (rfl) (by exact (bI_t (by rw [rl_yes h2 h5])).symm) (by rw [show aO (rlS (tol el s) n ch z) = nI (z.1 + 1) from by rw [rl_yes h2 h5] <;> rfl] <;> rfl) dX7_is_21
  · refine g_iconst (pc := 8) (v := 0) C dX7_is_8 (by decide) ?_
    exact g_retIW (pc := 9) C rfl rfl () (rfl) (by exact (bI_f (by rw [rl_no h2 h5]; exact no_m1 (by omega))).symm) (by rw [show aO (rlS (tol el s) n ch z) = nI z.1 from by rw [rl_no h2 h5, aO_f (no_m1 (by omega))]] <;> rfl) dX7_is_9
set_option maxRecDepth 20000 in
set_option maxHeartbeats 4000000 in
theorem c_X7_word (l : Launch) (G : gT) (m : Nat) (A : Nat → Nat) (τ : tT) (y : Nat → Int32) (sz : Nat → Int32) (el : Nat → Int64) (s : Nat) (n : Nat) (z : Nat × Int32) (w : Nat) (hs : s < 8) (hsz : sz s = nI n) (hn : n ≤ 160) (hr : y 3 = nI s) (hz : z.1 ≤ n) (h2 : z.2 = -1) (hw : w < 6) : WI l yX7_word cX7_word 3 (some .boolean) 4 0 0 G [.ref m, .ref (G.2.2.2.2.2.1 w)] (wN G m A τ (upd y 4 (nI z.1)) ++ ([iC G (A 1) 8 sz, jC G (A 2) 1280 el])) (S := Unit) (fun r _ => r = bI ((rwS (tol el s) n w z (kwn w)).2 = -1)) (fun _ => wN G m A τ (upd y 4 (aO (rwS (tol el s) n w z (kwn w)))) ++ ([iC G (A 1) 8 sz, jC G (A 2) 1280 el])) := by
  have hk8 := (kwn_sh w hw).2
  intro sz9
  refine start_W (by decide) (Nat.le_of_ble_eq_true rfl) (fun p9 e9 s9 m9 a9 b9 t9 c9 C => ?_)
  refine g_lv (lv' := [(0, .ref m), (1, .ref (G.2.2.2.2.2.1 w))]) rfl ?_
  refine g_iconst (pc := 0) (v := 0) C dX7_word_0 (by decide) ?_
  refine g_istore_n (pc := 1) (lv' := [(2, .int 0), (0, .ref m), (1, .ref (G.2.2.2.2.2.1 w))]) C dX7_word_1 rfl (by decide) rfl ?_
  have key_2 : ∀ (n2 : Nat) (i : Nat) (hi : i ≤ kwn w) (hi2 : (rwS (tol el s) n w z i).2 = -1), kwn w - i < n2 → GW p9 l e9 (rmh 4 0 0) s9 m9 a9 b9 t9 c9 (MQ b9 (va_Qi (fun r (_ : Unit) => r = bI ((rwS (tol el s) n w z (kwn w)).2 = -1)) (BW G (wN G m A τ (upd y 4 (nI z.1)) ++ ([iC G (A 1) 8 sz, jC G (A 2) 1280 el])) sz9 (fun _ => wN G m A τ (upd y 4 (aO (rwS (tol el s) n w z (kwn w)))) ++ ([iC G (A 1) 8 sz, jC G (A 2) 1280 el]))) (va_A (wN G m A τ (upd y 4 (nI z.1)) ++ ([iC G (A 1) 8 sz, jC G (A 2) 1280 el])) sz9)) a9 s9 0 0 (va_A (wN G m A τ (upd y 4 (nI z.1)) ++ ([iC G (A 1) 8 sz, jC G (A 2) 1280 el])) sz9)) G (va_A (wN G m A τ (upd y 4 (nI z.1)) ++ ([iC G (A 1) 8 sz, jC G (A 2) 1280 el])) sz9) true 3 0 0 (wN G m A τ (upd y 4 (nI (rwS (tol el s) n w z i).1)) ++ ([iC G (A 1) 8 sz, jC G (A 2) 1280 el])) [(0, .ref m), (1, .ref (G.2.2.2.2.2.1 w)), (2, .int (nI i))] 2 [] := by
    intro n2
    induction n2 with
    | zero => intro i hi hi2 hn2; exact absurd hn2 (Nat.not_lt_zero _)
    | succ n2 ih2 =>
      intro i hi hi2 hn2
      refine g_iload_n (pc := 2) C dX7_word_2 2 rfl ?_
      refine g_aload_n (pc := 3) C dX7_word_3 1 rfl ?_
      refine g_rdVSI (pc := 4) (val := nI (kwn w)) (rest := [.int (nI i)]) C k_J0_length_8abf5 (c_J0_length_8abf5 l G w (by first | assumption | omega)) ml_X7_152 rfl ⟨Nat.le_of_ble_eq_true rfl, Nat.le_of_ble_eq_true rfl⟩ rfl [] rfl (by omega) rfl rfl (Nat.le_of_ble_eq_true rfl) ⟨by decide, by decide⟩ dX7_word_4 ?_
      refine g_icmpN_ge (pc := 7) (i := i) (j := kwn w) (tgt := 30) C dX7_word_7 (by decide) ⟨by omega, by omega⟩ (fun h7 => ?_) (fun h7 => ?_)
      · refine g_iconst (pc := 30) (v := 1) C dX7_word_30 (by decide) ?_
        exact g_retIW (pc := 31) C rfl rfl () (rfl) (by exact (bI_t (by rw [show kwn w = i from by omega]; exact hi2)).symm) (by rw [show kwn w = i from by omega, aO_t hi2] <;> rfl) dX7_word_31
      · refine g_aload_n (pc := 10) C dX7_word_10 0 rfl ?_
        refine g_aload_n (pc := 11) C dX7_word_11 1 rfl ?_
        refine g_iload_n (pc := 12) C dX7_word_12 2 rfl ?_
        refine g_rdVSI (pc := 13) (val := kwc w i) (rest := [.ref m]) C k_J0_charAt_5068e (c_J0_charAt_5068e l G w i (by first | assumption | omega) (by first | assumption | omega)) ml_X7_157 rfl ⟨Nat.le_of_ble_eq_true rfl, Nat.le_of_ble_eq_true rfl⟩ rfl [] rfl (by omega) rfl rfl (Nat.le_of_ble_eq_true rfl) ⟨by decide, by decide⟩ dX7_word_13 ?_
        refine g_wrVI (pc := 16) (rest := []) (wr := []) C (fun _ => wN G m A τ (upd y 4 (aO (rlS (tol el s) n (kwc w i) (rwS (tol el s) n w z i)))) ++ ([iC G (A 1) 8 sz, jC G (A 2) 1280 el])) rfl k_X7_is (c_X7_is l G m A τ y sz el s n (rwS (tol el s) n w z i) (kwc w i) (by first | assumption | omega) (by first | assumption | omega) (by first | assumption | omega) (by first | assumption | omega) (rwS_le hw hz i (by omega)) (by first | assumption | omega)) ml_X7_161 rfl ⟨Nat.le_of_ble_eq_true rfl, Nat.le_of_ble_eq_true rfl⟩ rfl [0, 1, 2, 3, 4, 5, 6, 7, 8, 9, 10] [] [0, 1, 2, 3, 4, 5, 6, 7, 8, 9, 10] rfl (by decide) rfl (by decide) (by decide) (by decide) (fun _ => rfl) 0 rfl rfl rfl rfl (Nat.le_of_ble_eq_true rfl) ⟨by decide, by decide⟩ dX7_word_16 (fun r16 _ e16 => ?_)
        subst e16
        refine g_ifb_ne (pc := 19) (tgt := 24) C dX7_word_19 (by decide) (fun h19 => ?_) (fun h19 => ?_)
        · refine g_iinc (pc := 24) (v := nI (i + 1)) (lv' := [(2, .int (nI (i + 1))), (0, .ref m), (1, .ref (G.2.2.2.2.2.1 w))]) C dX7_word_24 2 rfl (nI_1 i) (by decide) rfl ?_
          refine g_goto (pc := 27) (tgt := 2) C dX7_word_27 (by decide) ?_
          refine g_ws (ws' := wN G m A τ (upd y 4 (nI (rwS (tol el s) n w z (i + 1)).1)) ++ ([iC G (A 1) 8 sz, jC G (A 2) 1280 el])) (by rw [aO_t h19] <;> rfl) ?_
          refine g_sub (lv' := [(0, .ref m), (1, .ref (G.2.2.2.2.2.1 w)), (2, .int (nI (i + 1)))]) [1, 2, 0] rfl ?_
          exact ih2 (i + 1) (by first | assumption | omega) h19 (by omega)
        · refine g_iconst (pc := 22) (v := 0) C dX7_word_22 (by decide) ?_
          exact g_retIW (pc := 23) C rfl rfl () (rfl) (by exact (bI_f (by rw [rw_fr (k := i + 1) (m := kwn w) h19 (by omega)]; exact h19)).symm) (by rw [rw_fr (k := i + 1) (m := kwn w) h19 (by omega)] <;> rfl) dX7_word_23
  refine g_ws (ws' := wN G m A τ (upd y 4 (nI (rwS (tol el s) n w z 0).1)) ++ ([iC G (A 1) 8 sz, jC G (A 2) 1280 el])) (rfl) ?_
  refine g_sub (lv' := [(0, .ref m), (1, .ref (G.2.2.2.2.2.1 w)), (2, .int (nI 0))]) [1, 2, 0] rfl ?_
  exact key_2 _ 0 (by first | assumption | omega) h2 (Nat.lt_succ_self _)
set_option maxRecDepth 20000 in
set_option maxHeartbeats 4000000 in
theorem c_X7_word__1 (l : Launch) (G : gT) (m : Nat) (A : Nat → Nat) (τ : tT) (y : Nat → Int32) (sz : Nat → Int32) (el : Nat → Int64) (s : Nat) (n : Nat) (z : Nat × Int32) (w : Nat) (hs : s < 8) (hsz : sz s = nI n) (hn : n ≤ 160) (hr : y 3 = nI s) (hz : z.1 ≤ n) (h2 : z.2 = -1) (hw : w < 6) : WI l yX7_word_ cX7_word_ 5 (some .boolean) 5 0 0 G [.ref m, .ref (G.2.2.2.2.2.1 w), .int 1] (wN G m A τ (upd y 4 (nI z.1)) ++ ([iC G (A 1) 8 sz, jC G (A 2) 1280 el])) (S := Unit) (fun r _ => r = bI ((rwS (tol el s) n w z (kwn w)).2 = -1)) (fun _ => wN G m A τ (upd y 4 (aO (rwS (tol el s) n w z (kwn w)))) ++ ([iC G (A 1) 8 sz, jC G (A 2) 1280 el])) := by
  intro sz9
  refine start_W (by decide) (Nat.le_of_ble_eq_true rfl) (fun p9 e9 s9 m9 a9 b9 t9 c9 C => ?_)
  refine g_lv (lv' := [(0, .ref m), (1, .ref (G.2.2.2.2.2.1 w)), (2, .int 1)]) rfl ?_
  refine g_aload_n (pc := 0) C dX7_word__0 0 rfl ?_
  refine g_get (pc := 1) (T := TX7) (N := 33) (v := .int ((upd y 4 (nI z.1)) 4)) C ib_X7 0 rfl rfl 26 (by decide) mf_X7_142 rfl rfl rfl dX7_word__1 ?_
  refine g_top (z := nI z.1) (rfl) ?_
  refine g_istore_n (pc := 4) (lv' := [(3, .int (nI z.1)), (0, .ref m), (1, .ref (G.2.2.2.2.2.1 w)), (2, .int 1)]) C dX7_word__4 rfl (by decide) rfl ?_
  refine g_aload_n (pc := 5) C dX7_word__5 1 rfl ?_
  refine g_aload_n (pc := 6) C dX7_word__6 2 rfl ?_
  refine g_wrVI (pc := 7) (rest := []) (wr := []) C (fun _ => wN G m A τ (upd y 4 (aO (rwS (tol el s) n w z (kwn w)))) ++ ([iC G (A 1) 8 sz, jC G (A 2) 1280 el])) rfl k_X7_word (c_X7_word l G m A τ y sz el s n z w (by first | assumption | omega) (by first | assumption | omega) (by first | assumption | omega) (by first | assumption | omega) (by first | assumption | omega) (by first | assumption | omega) (by first | assumption | omega)) ml_X7_165 rfl ⟨Nat.le_of_ble_eq_true rfl, Nat.le_of_ble_eq_true rfl⟩ rfl [0, 1, 2, 3, 4, 5, 6, 7, 8, 9, 10] [] [0, 1, 2, 3, 4, 5, 6, 7, 8, 9, 10] rfl (by decide) rfl (by decide) (by decide) (by decide) (fun _ => rfl) 0 rfl rfl rfl rfl (Nat.le_of_ble_eq_true rfl) ⟨by decide, by decide⟩ dX7_word__7 (fun r7 _ e7 => ?_)
  subst e7
  refine g_istore (pc := 10) (lv' := [(4, .int (bI ((rwS (tol el s) n w z (kwn w)).2 = -1))), (3, .int (nI z.1)), (0, .ref m), (1, .ref (G.2.2.2.2.2.1 w)), (2, .int 1)]) C dX7_word__10 (by decide) rfl ?_
  by_cases hc12 : (rwS (tol el s) n w z (kwn w)).2 = -1
  · refine g_lv (lv' := [(4, .int 1), (3, .int (nI z.1)), (0, .ref m), (1, .ref (G.2.2.2.2.2.1 w)), (2, .int 1)]) (congrArg (fun z9 : Int32 => ([(4, .int z9), (3, .int (nI z.1)), (0, .ref m), (1, .ref (G.2.2.2.2.2.1 w)), (2, .int 1)] : List (Nat × Value))) (bI_t hc12)) ?_
    refine g_iload (pc := 12) C dX7_word__12 0 rfl ?_
    refine g_if_eq (pc := 14) (tgt := 26) C dX7_word__14 (by decide) (fun h14 => absurd h14 (by decide)) (fun h14 => ?_)
    refine g_iload_n (pc := 17) C dX7_word__17 4 rfl ?_
    refine g_if_ne (pc := 18) (tgt := 26) C dX7_word__18 (by decide) (fun h18 => ?_) (fun h18 => absurd h18 (by decide))
    refine g_iload (pc := 26) C dX7_word__26 0 rfl ?_
    refine g_if_eq (pc := 28) (tgt := 39) C dX7_word__28 (by decide) (fun h28 => absurd h28 (by decide)) (fun h28 => ?_)
    refine g_iload_n (pc := 31) C dX7_word__31 4 rfl ?_
    refine g_if_eq (pc := 32) (tgt := 39) C dX7_word__32 (by decide) (fun h32 => absurd h32 (by decide)) (fun h32 => ?_)
    refine g_iconst (pc := 35) (v := 1) C dX7_word__35 (by decide) ?_
    refine g_goto (pc := 36) (tgt := 40) C dX7_word__36 (by decide) ?_
    exact g_retIW (pc := 40) C rfl rfl () (rfl) (by exact (bI_t hc12).symm) (by rfl) dX7_word__40
  · refine g_lv (lv' := [(4, .int 0), (3, .int (nI z.1)), (0, .ref m), (1, .ref (G.2.2.2.2.2.1 w)), (2, .int 1)]) (congrArg (fun z9 : Int32 => ([(4, .int z9), (3, .int (nI z.1)), (0, .ref m), (1, .ref (G.2.2.2.2.2.1 w)), (2, .int 1)] : List (Nat × Value))) (bI_f hc12)) ?_
    refine g_iload (pc := 12) C dX7_word__12 0 rfl ?_
    refine g_if_eq (pc := 14) (tgt := 26) C dX7_word__14 (by decide) (fun h14 => ?_) (fun h14 => absurd h14 (by decide))
    refine g_iload (pc := 26) C dX7_word__26 0 rfl ?_
    refine g_if_eq (pc := 28) (tgt := 39) C dX7_word__28 (by decide) (fun h28 => ?_) (fun h28 => absurd h28 (by decide))
    refine g_iconst (pc := 39) (v := 0) C dX7_word__39 (by decide) ?_
    exact g_retIW (pc := 40) C rfl rfl () (rfl) (by exact (bI_f hc12).symm) (by rfl) dX7_word__40
set_option maxRecDepth 20000 in
set_option maxHeartbeats 4000000 in
theorem c_X7_word__0 (l : Launch) (G : gT) (m : Nat) (A : Nat → Nat) (τ : tT) (y : Nat → Int32) (sz : Nat → Int32) (el : Nat → Int64) (s : Nat) (n : Nat) (z : Nat × Int32) (w : Nat) (hs : s < 8) (hsz : sz s = nI n) (hn : n ≤ 160) (hr : y 3 = nI s) (hz : z.1 ≤ n) (h2 : z.2 = -1) (hw : w < 6) : WI l yX7_word_ cX7_word_ 5 (some .boolean) 5 0 0 G [.ref m, .ref (G.2.2.2.2.2.1 w), .int 0] (wN G m A τ (upd y 4 (nI z.1)) ++ ([iC G (A 1) 8 sz, jC G (A 2) 1280 el])) (S := Unit) (fun r _ => r = bI ((ftS (rwS (tol el s) n w z (kwn w)) (nI z.1)).2 = -1)) (fun _ => wN G m A τ (upd y 4 (aO (ftS (rwS (tol el s) n w z (kwn w)) (nI z.1)))) ++ ([iC G (A 1) 8 sz, jC G (A 2) 1280 el])) := by
  intro sz9
  refine start_W (by decide) (Nat.le_of_ble_eq_true rfl) (fun p9 e9 s9 m9 a9 b9 t9 c9 C => ?_)
  refine g_lv (lv' := [(0, .ref m), (1, .ref (G.2.2.2.2.2.1 w)), (2, .int 0)]) rfl ?_
  refine g_aload_n (pc := 0) C dX7_word__0 0 rfl ?_
  refine g_get (pc := 1) (T := TX7) (N := 33) (v := .int ((upd y 4 (nI z.1)) 4)) C ib_X7 0 rfl rfl 26 (by decide) mf_X7_142 rfl rfl rfl dX7_word__1 ?_
  refine g_top (z := nI z.1) (rfl) ?_
  refine g_istore_n (pc := 4) (lv' := [(3, .int (nI z.1)), (0, .ref m), (1, .ref (G.2.2.2.2.2.1 w)), (2, .int 0)]) C dX7_word__4 rfl (by decide) rfl ?_
  refine g_aload_n (pc := 5) C dX7_word__5 1 rfl ?_
  refine g_aload_n (pc := 6) C dX7_word__6 2 rfl ?_
  refine g_wrVI (pc := 7) (rest := []) (wr := []) C (fun _ => wN G m A τ (upd y 4 (aO (rwS (tol el s) n w z (kwn w)))) ++ ([iC G (A 1) 8 sz, jC G (A 2) 1280 el])) rfl k_X7_word (c_X7_word l G m A τ y sz el s n z w (by first | assumption | omega) (by first | assumption | omega) (by first | assumption | omega) (by first | assumption | omega) (by first | assumption | omega) (by first | assumption | omega) (by first | assumption | omega)) ml_X7_165 rfl ⟨Nat.le_of_ble_eq_true rfl, Nat.le_of_ble_eq_true rfl⟩ rfl [0, 1, 2, 3, 4, 5, 6, 7, 8, 9, 10] [] [0, 1, 2, 3, 4, 5, 6, 7, 8, 9, 10] rfl (by decide) rfl (by decide) (by decide) (by decide) (fun _ => rfl) 0 rfl rfl rfl rfl (Nat.le_of_ble_eq_true rfl) ⟨by decide, by decide⟩ dX7_word__7 (fun r7 _ e7 => ?_)
  subst e7
  refine g_istore (pc := 10) (lv' := [(4, .int (bI ((rwS (tol el s) n w z (kwn w)).2 = -1))), (3, .int (nI z.1)), (0, .ref m), (1, .ref (G.2.2.2.2.2.1 w)), (2, .int 0)]) C dX7_word__10 (by decide) rfl ?_
  by_cases hc12 : (rwS (tol el s) n w z (kwn w)).2 = -1
  · refine g_lv (lv' := [(4, .int 1), (3, .int (nI z.1)), (0, .ref m), (1, .ref (G.2.2.2.2.2.1 w)), (2, .int 0)]) (congrArg (fun z9 : Int32 => ([(4, .int z9), (3, .int (nI z.1)), (0, .ref m), (1, .ref (G.2.2.2.2.2.1 w)), (2, .int 0)] : List (Nat × Value))) (bI_t hc12)) ?_
    refine g_iload (pc := 12) C dX7_word__12 0 rfl ?_
    refine g_if_eq (pc := 14) (tgt := 26) C dX7_word__14 (by decide) (fun h14 => absurd h14 (by decide)) (fun h14 => ?_)
    refine g_iload_n (pc := 17) C dX7_word__17 4 rfl ?_
    refine g_if_ne (pc := 18) (tgt := 26) C dX7_word__18 (by decide) (fun h18 => absurd h18 (by decide)) (fun h18 => ?_)
    refine g_aload_n (pc := 21) C dX7_word__21 2 rfl ?_
    refine g_iload_n (pc := 22) C dX7_word__22 1 rfl ?_
    refine g_put (pc := 23) (T := TX7) (N := 33) (ty := .int) (ws' := [oC m 6 [.ref (A 0), .ref (A 1), .ref (A 2), .int (τ 8 0), .ref (A 3), .ref (A 4), .ref (A 5), .int (τ 8 1), .ref (A 6), .ref (A 7), .ref (A 8), .ref (A 9), .ref (A 10), .int (τ 8 2), .int (τ 8 3), .int (τ 8 5), .int (τ 8 6), .int (τ 8 4), .int ((upd y 4 (aO (rwS (tol el s) n w z (kwn w)))) 0), .ref (A 11), .int ((upd y 4 (aO (rwS (tol el s) n w z (kwn w)))) 1), .ref (A 12), .int ((upd y 4 (aO (rwS (tol el s) n w z (kwn w)))) 2), .ref (A 13), .ref (A 14), .int ((upd y 4 (aO (rwS (tol el s) n w z (kwn w)))) 3), .int (nI z.1), .ref (A 15), .ref (A 16), .ref (A 17), .ref (A 18), .ref (A 19), .int ((upd y 4 (aO (rwS (tol el s) n w z (kwn w)))) 5)], iC G (A 3) 8 (τ 0), iC G (A 4) 8 (τ 1), iC G (A 5) 64 (τ 2), iC G (A 6) 10 (τ 3), iC G (A 7) 10 (τ 4), iC G (A 8) 10 (τ 5), iC G (A 9) 10 (τ 6), iC G (A 10) 10 (τ 7), iC G (A 1) 8 sz, jC G (A 2) 1280 el]) C rfl ib_X7 tyX7 tyX7_ok nmX7 0 rfl rfl 26 (by decide) mf_X7_142 rfl rfl rfl (by decide +kernel) rfl rfl (Nat.le_of_ble_eq_true rfl) dX7_word__23 rfl ?_
    refine g_iload (pc := 26) C dX7_word__26 0 rfl ?_
    refine g_if_eq (pc := 28) (tgt := 39) C dX7_word__28 (by decide) (fun h28 => absurd h28 (by decide)) (fun h28 => ?_)
    refine g_iload_n (pc := 31) C dX7_word__31 4 rfl ?_
    refine g_if_eq (pc := 32) (tgt := 39) C dX7_word__32 (by decide) (fun h32 => ?_) (fun h32 => absurd h32 (by decide))
    refine g_iconst (pc := 39) (v := 0) C dX7_word__39 (by decide) ?_
    exact g_retIW (pc := 40) C rfl rfl () (rfl) (by exact (bI_f (by rw [ft_go hc12]; exact no_m1 (by omega))).symm) (by rw [ft_go hc12, show aO ((rwS (tol el s) n w z (kwn w)).1, nI z.1) = nI z.1 from aO_f (no_m1 (by omega))] <;> rfl) dX7_word__40
  · refine g_lv (lv' := [(4, .int 0), (3, .int (nI z.1)), (0, .ref m), (1, .ref (G.2.2.2.2.2.1 w)), (2, .int 0)]) (congrArg (fun z9 : Int32 => ([(4, .int z9), (3, .int (nI z.1)), (0, .ref m), (1, .ref (G.2.2.2.2.2.1 w)), (2, .int 0)] : List (Nat × Value))) (bI_f hc12)) ?_
    refine g_iload (pc := 12) C dX7_word__12 0 rfl ?_
    refine g_if_eq (pc := 14) (tgt := 26) C dX7_word__14 (by decide) (fun h14 => ?_) (fun h14 => absurd h14 (by decide))
    refine g_iload (pc := 26) C dX7_word__26 0 rfl ?_
    refine g_if_eq (pc := 28) (tgt := 39) C dX7_word__28 (by decide) (fun h28 => ?_) (fun h28 => absurd h28 (by decide))
    refine g_iconst (pc := 39) (v := 0) C dX7_word__39 (by decide) ?_
    exact g_retIW (pc := 40) C rfl rfl () (rfl) (by exact (bI_f (by rw [ft_st hc12]; exact hc12)).symm) (by rw [ft_st hc12]) dX7_word__40
set_option maxRecDepth 20000 in
set_option maxHeartbeats 4000000 in
theorem c_X7_number (l : Launch) (G : gT) (m : Nat) (A : Nat → Nat) (τ : tT) (y : Nat → Int32) (sz : Nat → Int32) (el : Nat → Int64) (s : Nat) (n : Nat) (z : Nat × Int32) (nb : Nat → Int32) (i : Nat) (lo : Int32) (up : Int32) (hs : s < 8) (hsz : sz s = nI n) (hn : n ≤ 160) (hr : y 3 = nI s) (hz : z.1 ≤ n) (h2 : z.2 = -1) (hi : i < 5) : WI l yX7_number cX7_number 7 (some .boolean) 2 0 0 G [.ref m, .int (nI i), .int lo, .int up] (wN G m A τ (upd y 4 (nI z.1)) ++ ([iC G (A 1) 8 sz, jC G (A 2) 1280 el, iC G (A 15) 5 nb])) (S := Unit) (fun r _ => r = bI ((nuS (tol el s) n lo up z).2 = -1)) (fun _ => wN G m A τ (upd y 4 (aO (nuS (tol el s) n lo up z))) ++ ([iC G (A 1) 8 sz, jC G (A 2) 1280 el, iC G (A 15) 5 (nuB (tol el s) n z i nb)])) := by
  have hz1 := rlS_le (lt := (tol el s)) sp_ne hz
  intro sz9
  refine start_W (by decide) (Nat.le_of_ble_eq_true rfl) (fun p9 e9 s9 m9 a9 b9 t9 c9 C => ?_)
  refine g_lv (lv' := [(0, .ref m), (1, .int (nI i)), (2, .int lo), (3, .int up)]) rfl ?_
  refine g_aload_n (pc := 0) C dX7_number_0 0 rfl ?_
  refine g_bipush (pc := 1) (v := 32) C dX7_number_1 (by decide) ?_
  refine g_wrVI (pc := 3) (rest := []) (wr := [iC G (A 15) 5 nb]) C (fun _ => wN G m A τ (upd y 4 (aO (rlS (tol el s) n 32 z))) ++ ([iC G (A 1) 8 sz, jC G (A 2) 1280 el, iC G (A 15) 5 nb])) rfl k_X7_is (c_X7_is l G m A τ y sz el s n z 32 (by first | assumption | omega) (by first | assumption | omega) (by first | assumption | omega) (by first | assumption | omega) (by first | assumption | omega) (by first | assumption | omega)) ml_X7_161 rfl ⟨Nat.le_of_ble_eq_true rfl, Nat.le_of_ble_eq_true rfl⟩ rfl [0, 1, 2, 3, 4, 5, 6, 7, 8, 9, 10] [11] [1, 2, 3, 4, 5, 6, 7, 8, 9, 10, 11, 0] rfl (by decide) rfl (by decide) (by decide) (by decide) (fun _ => rfl) 0 rfl rfl rfl rfl (Nat.le_of_ble_eq_true rfl) ⟨by decide, by decide⟩ dX7_number_3 (fun r3 _ e3 => ?_)
  subst e3
  refine g_ifb_ne (pc := 6) (tgt := 11) C dX7_number_6 (by decide) (fun h6 => ?_) (fun h6 => ?_)
  · refine g_ws (ws' := wN G m A τ (upd y 4 (nI (rlS (tol el s) n 32 z).1)) ++ ([iC G (A 1) 8 sz, jC G (A 2) 1280 el, iC G (A 15) 5 nb])) (by rw [aO_t h6] <;> rfl) ?_
    refine g_aload_n (pc := 11) C dX7_number_11 0 rfl ?_
    refine g_get (pc := 12) (T := TX7) (N := 33) (v := .int ((upd y 4 (nI (rlS (tol el s) n 32 z).1)) 4)) C ib_X7 0 rfl rfl 26 (by decide) mf_X7_142 rfl rfl rfl dX7_number_12 ?_
    refine g_top (z := nI ((rlS (tol el s) n 32 z).1)) (rfl) ?_
    refine g_istore (pc := 15) (lv' := [(4, .int (nI ((rlS (tol el s) n 32 z).1))), (0, .ref m), (1, .int (nI i)), (2, .int lo), (3, .int up)]) C dX7_number_15 (by decide) rfl ?_
    refine g_iconst (pc := 17) (v := 0) C dX7_number_17 (by decide) ?_
    refine g_istore (pc := 18) (lv' := [(5, .int 0), (4, .int (nI ((rlS (tol el s) n 32 z).1))), (0, .ref m), (1, .int (nI i)), (2, .int lo), (3, .int up)]) C dX7_number_18 (by decide) rfl ?_
    have key_20 : ∀ (n20 : Nat) (p : Nat) (v : Int32) (k : Nat) (hp : p ≤ n) (hpk : p + k = (rlS (tol el s) n 32 z).1 + 3) (hv : dgS (tol el s) n 3 (rlS (tol el s) n 32 z).1 0 = dgS (tol el s) n k p v) (hge : (rlS (tol el s) n 32 z).1 ≤ p), k < n20 → GW p9 l e9 (rmh 2 0 0) s9 m9 a9 b9 t9 c9 (MQ b9 (va_Qi (fun r (_ : Unit) => r = bI ((nuS (tol el s) n lo up z).2 = -1)) (BW G (wN G m A τ (upd y 4 (nI z.1)) ++ ([iC G (A 1) 8 sz, jC G (A 2) 1280 el, iC G (A 15) 5 nb])) sz9 (fun _ => wN G m A τ (upd y 4 (aO (nuS (tol el s) n lo up z))) ++ ([iC G (A 1) 8 sz, jC G (A 2) 1280 el, iC G (A 15) 5 (nuB (tol el s) n z i nb)]))) (va_A (wN G m A τ (upd y 4 (nI z.1)) ++ ([iC G (A 1) 8 sz, jC G (A 2) 1280 el, iC G (A 15) 5 nb])) sz9)) a9 s9 0 0 (va_A (wN G m A τ (upd y 4 (nI z.1)) ++ ([iC G (A 1) 8 sz, jC G (A 2) 1280 el, iC G (A 15) 5 nb])) sz9)) G (va_A (wN G m A τ (upd y 4 (nI z.1)) ++ ([iC G (A 1) 8 sz, jC G (A 2) 1280 el, iC G (A 15) 5 nb])) sz9) true 7 0 0 (wN G m A τ (upd y 4 (nI (pz p).1)) ++ ([iC G (A 1) 8 sz, jC G (A 2) 1280 el, iC G (A 15) 5 nb])) [(0, .ref m), (1, .int (nI i)), (2, .int lo), (3, .int up), (4, .int (nI ((rlS (tol el s) n 32 z).1))), (5, .int v)] 20 [] := by
      intro n20
      induction n20 with
      | zero => intro p v k hp hpk hv hge hn20; exact absurd hn20 (Nat.not_lt_zero _)
      | succ n20 ih20 =>
        intro p v k hp hpk hv hge hn20
        refine g_aload_n (pc := 20) C dX7_number_20 0 rfl ?_
        refine g_get (pc := 21) (T := TX7) (N := 33) (v := .int ((upd y 4 (nI (pz p).1)) 4)) C ib_X7 0 rfl rfl 26 (by decide) mf_X7_142 rfl rfl rfl dX7_number_21 ?_
        refine g_top (z := nI p) (rfl) ?_
        refine g_iload (pc := 24) C dX7_number_24 4 rfl ?_
        refine g_isub (pc := 26) C dX7_number_26 ?_
        refine g_top (z := nI (p - (rlS (tol el s) n 32 z).1)) (pk_sub hge) ?_
        refine g_iconst (pc := 27) (v := 3) C dX7_number_27 (by decide) ?_
        refine g_icmpN_ge (pc := 28) (i := p - (rlS (tol el s) n 32 z).1) (j := 3) (tgt := 77) C dX7_number_28 (by decide) ⟨by omega, by omega⟩ (fun h28 => ?_) (fun h28 => ?_)
        · have hd : dgS (tol el s) n 3 (rlS (tol el s) n 32 z).1 0 = (p, v) := (by rw [hv, show k = 0 from by omega] <;> rfl)
          obtain ⟨eV, eS, eB⟩ := nu_dg h6 hd
          refine g_aload_n (pc := 77) C dX7_number_77 0 rfl ?_
          refine g_get (pc := 78) (T := TX7) (N := 33) (v := .int ((upd y 4 (nI (pz p).1)) 4)) C ib_X7 0 rfl rfl 26 (by decide) mf_X7_142 rfl rfl rfl dX7_number_78 ?_
          refine g_top (z := nI p) (rfl) ?_
          refine g_iload (pc := 81) C dX7_number_81 4 rfl ?_
          refine g_icmpN_ne (pc := 83) (i := p) (j := (rlS (tol el s) n 32 z).1) (tgt := 88) C dX7_number_83 (by decide) ⟨by omega, by omega⟩ (fun h83 => ?_) (fun h83 => ?_)
          · refine g_aload_n (pc := 88) C dX7_number_88 0 rfl ?_
            refine g_get (pc := 89) (T := TX7) (N := 33) (v := .ref (A 15)) C ib_X7 0 rfl rfl 27 (by decide) mf_X7_56 rfl rfl rfl dX7_number_89 ?_
            refine g_iload_n (pc := 92) C dX7_number_92 1 rfl ?_
            refine g_iload (pc := 93) C dX7_number_93 5 rfl ?_
            refine g_iast (pc := 95) (ws' := wN G m A τ (upd y 4 (nI (pz p).1)) ++ ([iC G (A 1) 8 sz, jC G (A 2) 1280 el, iC G (A 15) 5 (upd nb i v)])) C rfl 11 rfl i (rfl) ⟨by omega, by decide⟩ dX7_number_95 rfl ?_
            refine g_iload (pc := 96) C dX7_number_96 5 rfl ?_
            refine g_iload_n (pc := 98) C dX7_number_98 2 rfl ?_
            refine g_iload_n (pc := 99) C dX7_number_99 3 rfl ?_
            refine g_rdSI (pc := 100) (val := bI (lo ≤ v ∧ v ≤ up)) (rest := []) C k_X7_within (c_X7_within l G v lo up) ml_X7_88 rfl ⟨Nat.le_of_ble_eq_true rfl, Nat.le_of_ble_eq_true rfl⟩ rfl [] rfl rfl (Nat.le_of_ble_eq_true rfl) ⟨by decide, by decide⟩ dX7_number_100 ?_
            refine g_istore (pc := 103) (lv' := [(6, .int (bI (lo ≤ v ∧ v ≤ up))), (0, .ref m), (1, .int (nI i)), (2, .int lo), (3, .int up), (4, .int (nI ((rlS (tol el s) n 32 z).1))), (5, .int v)]) C dX7_number_103 (by decide) rfl ?_
            refine g_iload (pc := 105) C dX7_number_105 0 rfl ?_
            refine g_ifb_ne (pc := 107) (tgt := 116) C dX7_number_107 (by decide) (fun h107 => ?_) (fun h107 => ?_)
            · refine g_iload (pc := 116) C dX7_number_116 0 rfl ?_
              exact g_retIW (pc := 118) C rfl rfl () (by exact bI_nar _) (by exact (bI_t h107).trans (bI_t (by rw [eS, if_neg h83, if_pos h107])).symm) (by rw [eS, if_neg h83, if_pos h107, eB, if_neg h83] <;> rfl) dX7_number_118
            · refine g_aload_n (pc := 110) C dX7_number_110 1 rfl ?_
              refine g_iload (pc := 111) C dX7_number_111 5 rfl ?_
              refine g_put (pc := 113) (T := TX7) (N := 33) (ty := .int) (ws' := [oC m 6 [.ref (A 0), .ref (A 1), .ref (A 2), .int (τ 8 0), .ref (A 3), .ref (A 4), .ref (A 5), .int (τ 8 1), .ref (A 6), .ref (A 7), .ref (A 8), .ref (A 9), .ref (A 10), .int (τ 8 2), .int (τ 8 3), .int (τ 8 5), .int (τ 8 6), .int (τ 8 4), .int ((upd y 4 (nI (pz p).1)) 0), .ref (A 11), .int ((upd y 4 (nI (pz p).1)) 1), .ref (A 12), .int ((upd y 4 (nI (pz p).1)) 2), .ref (A 13), .ref (A 14), .int ((upd y 4 (nI (pz p).1)) 3), .int (nI ((rlS (tol el s) n 32 z).1)), .ref (A 15), .ref (A 16), .ref (A 17), .ref (A 18), .ref (A 19), .int ((upd y 4 (nI (pz p).1)) 5)], iC G (A 3) 8 (τ 0), iC G (A 4) 8 (τ 1), iC G (A 5) 64 (τ 2), iC G (A 6) 10 (τ 3), iC G (A 7) 10 (τ 4), iC G (A 8) 10 (τ 5), iC G (A 9) 10 (τ 6), iC G (A 10) 10 (τ 7), iC G (A 1) 8 sz, jC G (A 2) 1280 el, iC G (A 15) 5 (upd nb i v)]) C rfl ib_X7 tyX7 tyX7_ok nmX7 0 rfl rfl 26 (by decide) mf_X7_142 rfl rfl rfl (by decide +kernel) rfl rfl (Nat.le_of_ble_eq_true rfl) dX7_number_113 rfl ?_
              refine g_iload (pc := 116) C dX7_number_116 0 rfl ?_
              exact g_retIW (pc := 118) C rfl rfl () (by exact bI_nar _) (by exact (bI_f h107).trans (bI_f (by rw [eS, if_neg h83, if_neg h107]; exact no_m1 (by omega))).symm) (by rw [eS, if_neg h83, if_neg h107, eB, if_neg h83, show aO (p, nI (rlS (tol el s) n 32 z).1) = nI (rlS (tol el s) n 32 z).1 from aO_f (no_m1 (by omega))] <;> rfl) dX7_number_118
          · refine g_iconst (pc := 86) (v := 0) C dX7_number_86 (by decide) ?_
            exact g_retIW (pc := 87) C rfl rfl () (rfl) (by exact (bI_f (by rw [eS, if_pos h83]; exact no_m1 (by omega))).symm) (by rw [eS, if_pos h83, eB, if_pos h83, show aO (p, nI p) = nI p from aO_f (no_m1 (by omega))] <;> rfl) dX7_number_87
        · refine g_aload_n (pc := 31) C dX7_number_31 0 rfl ?_
          refine g_rdVI (pc := 32) (val := ltr (tol el s) n (pz p).1) (rest := []) C k_X7_sign (c_X7_sign l G m A τ y sz el s n (pz p) (by first | assumption | omega) (by first | assumption | omega) (by first | assumption | omega) (by first | assumption | omega) hp rfl) ml_X7_148 rfl ⟨Nat.le_of_ble_eq_true rfl, Nat.le_of_ble_eq_true rfl⟩ rfl [0, 1, 2, 3, 4, 5, 6, 7, 8, 9, 10] rfl 0 rfl rfl rfl rfl (Nat.le_of_ble_eq_true rfl) ⟨by decide, by decide⟩ dX7_number_32 ?_
          refine g_top (z := ltr (tol el s) n p) (rfl) ?_
          refine g_bipush (pc := 35) (v := 48) C dX7_number_35 (by decide) ?_
          refine g_icmp_lt (pc := 37) (tgt := 77) C dX7_number_37 (by decide) (fun h37 => ?_) (fun h37 => ?_)
          · have hd : dgS (tol el s) n 3 (rlS (tol el s) n 32 z).1 0 = (p, v) := (by rw [hv, show k = (k - 1) + 1 from by omega, dgS, if_neg (fun q => Int32.not_le.mpr h37 q.1)])
            obtain ⟨eV, eS, eB⟩ := nu_dg h6 hd
            refine g_aload_n (pc := 77) C dX7_number_77 0 rfl ?_
            refine g_get (pc := 78) (T := TX7) (N := 33) (v := .int ((upd y 4 (nI (pz p).1)) 4)) C ib_X7 0 rfl rfl 26 (by decide) mf_X7_142 rfl rfl rfl dX7_number_78 ?_
            refine g_top (z := nI p) (rfl) ?_
            refine g_iload (pc := 81) C dX7_number_81 4 rfl ?_
            refine g_icmpN_ne (pc := 83) (i := p) (j := (rlS (tol el s) n 32 z).1) (tgt := 88) C dX7_number_83 (by decide) ⟨by omega, by omega⟩ (fun h83 => ?_) (fun h83 => ?_)
            · refine g_aload_n (pc := 88) C dX7_number_88 0 rfl ?_
              refine g_get (pc := 89) (T := TX7) (N := 33) (v := .ref (A 15)) C ib_X7 0 rfl rfl 27 (by decide) mf_X7_56 rfl rfl rfl dX7_number_89 ?_
              refine g_iload_n (pc := 92) C dX7_number_92 1 rfl ?_
              refine g_iload (pc := 93) C dX7_number_93 5 rfl ?_
              refine g_iast (pc := 95) (ws' := wN G m A τ (upd y 4 (nI (pz p).1)) ++ ([iC G (A 1) 8 sz, jC G (A 2) 1280 el, iC G (A 15) 5 (upd nb i v)])) C rfl 11 rfl i (rfl) ⟨by omega, by decide⟩ dX7_number_95 rfl ?_
              refine g_iload (pc := 96) C dX7_number_96 5 rfl ?_
              refine g_iload_n (pc := 98) C dX7_number_98 2 rfl ?_
              refine g_iload_n (pc := 99) C dX7_number_99 3 rfl ?_
              refine g_rdSI (pc := 100) (val := bI (lo ≤ v ∧ v ≤ up)) (rest := []) C k_X7_within (c_X7_within l G v lo up) ml_X7_88 rfl ⟨Nat.le_of_ble_eq_true rfl, Nat.le_of_ble_eq_true rfl⟩ rfl [] rfl rfl (Nat.le_of_ble_eq_true rfl) ⟨by decide, by decide⟩ dX7_number_100 ?_
              refine g_istore (pc := 103) (lv' := [(6, .int (bI (lo ≤ v ∧ v ≤ up))), (0, .ref m), (1, .int (nI i)), (2, .int lo), (3, .int up), (4, .int (nI ((rlS (tol el s) n 32 z).1))), (5, .int v)]) C dX7_number_103 (by decide) rfl ?_
              refine g_iload (pc := 105) C dX7_number_105 0 rfl ?_
              refine g_ifb_ne (pc := 107) (tgt := 116) C dX7_number_107 (by decide) (fun h107 => ?_) (fun h107 => ?_)
              · refine g_iload (pc := 116) C dX7_number_116 0 rfl ?_
                exact g_retIW (pc := 118) C rfl rfl () (by exact bI_nar _) (by exact (bI_t h107).trans (bI_t (by rw [eS, if_neg h83, if_pos h107])).symm) (by rw [eS, if_neg h83, if_pos h107, eB, if_neg h83] <;> rfl) dX7_number_118
              · refine g_aload_n (pc := 110) C dX7_number_110 1 rfl ?_
                refine g_iload (pc := 111) C dX7_number_111 5 rfl ?_
                refine g_put (pc := 113) (T := TX7) (N := 33) (ty := .int) (ws' := [oC m 6 [.ref (A 0), .ref (A 1), .ref (A 2), .int (τ 8 0), .ref (A 3), .ref (A 4), .ref (A 5), .int (τ 8 1), .ref (A 6), .ref (A 7), .ref (A 8), .ref (A 9), .ref (A 10), .int (τ 8 2), .int (τ 8 3), .int (τ 8 5), .int (τ 8 6), .int (τ 8 4), .int ((upd y 4 (nI (pz p).1)) 0), .ref (A 11), .int ((upd y 4 (nI (pz p).1)) 1), .ref (A 12), .int ((upd y 4 (nI (pz p).1)) 2), .ref (A 13), .ref (A 14), .int ((upd y 4 (nI (pz p).1)) 3), .int (nI ((rlS (tol el s) n 32 z).1)), .ref (A 15), .ref (A 16), .ref (A 17), .ref (A 18), .ref (A 19), .int ((upd y 4 (nI (pz p).1)) 5)], iC G (A 3) 8 (τ 0), iC G (A 4) 8 (τ 1), iC G (A 5) 64 (τ 2), iC G (A 6) 10 (τ 3), iC G (A 7) 10 (τ 4), iC G (A 8) 10 (τ 5), iC G (A 9) 10 (τ 6), iC G (A 10) 10 (τ 7), iC G (A 1) 8 sz, jC G (A 2) 1280 el, iC G (A 15) 5 (upd nb i v)]) C rfl ib_X7 tyX7 tyX7_ok nmX7 0 rfl rfl 26 (by decide) mf_X7_142 rfl rfl rfl (by decide +kernel) rfl rfl (Nat.le_of_ble_eq_true rfl) dX7_number_113 rfl ?_
                refine g_iload (pc := 116) C dX7_number_116 0 rfl ?_
                exact g_retIW (pc := 118) C rfl rfl () (by exact bI_nar _) (by exact (bI_f h107).trans (bI_f (by rw [eS, if_neg h83, if_neg h107]; exact no_m1 (by omega))).symm) (by rw [eS, if_neg h83, if_neg h107, eB, if_neg h83, show aO (p, nI (rlS (tol el s) n 32 z).1) = nI (rlS (tol el s) n 32 z).1 from aO_f (no_m1 (by omega))] <;> rfl) dX7_number_118
            · refine g_iconst (pc := 86) (v := 0) C dX7_number_86 (by decide) ?_
              exact g_retIW (pc := 87) C rfl rfl () (rfl) (by exact (bI_f (by rw [eS, if_pos h83]; exact no_m1 (by omega))).symm) (by rw [eS, if_pos h83, eB, if_pos h83, show aO (p, nI p) = nI p from aO_f (no_m1 (by omega))] <;> rfl) dX7_number_87
          · refine g_aload_n (pc := 40) C dX7_number_40 0 rfl ?_
            refine g_rdVI (pc := 41) (val := ltr (tol el s) n (pz p).1) (rest := []) C k_X7_sign (c_X7_sign l G m A τ y sz el s n (pz p) (by first | assumption | omega) (by first | assumption | omega) (by first | assumption | omega) (by first | assumption | omega) hp rfl) ml_X7_148 rfl ⟨Nat.le_of_ble_eq_true rfl, Nat.le_of_ble_eq_true rfl⟩ rfl [0, 1, 2, 3, 4, 5, 6, 7, 8, 9, 10] rfl 0 rfl rfl rfl rfl (Nat.le_of_ble_eq_true rfl) ⟨by decide, by decide⟩ dX7_number_41 ?_
            refine g_top (z := ltr (tol el s) n p) (rfl) ?_
            refine g_bipush (pc := 44) (v := 57) C dX7_number_44 (by decide) ?_
            refine g_icmp_gt (pc := 46) (tgt := 77) C dX7_number_46 (by decide) (fun h46 => ?_) (fun h46 => ?_)
            · have hd : dgS (tol el s) n 3 (rlS (tol el s) n 32 z).1 0 = (p, v) := (by rw [hv, show k = (k - 1) + 1 from by omega, dgS, if_neg (fun q => Int32.not_le.mpr h46 q.2)])
              obtain ⟨eV, eS, eB⟩ := nu_dg h6 hd
              refine g_aload_n (pc := 77) C dX7_number_77 0 rfl ?_
              refine g_get (pc := 78) (T := TX7) (N := 33) (v := .int ((upd y 4 (nI (pz p).1)) 4)) C ib_X7 0 rfl rfl 26 (by decide) mf_X7_142 rfl rfl rfl dX7_number_78 ?_
              refine g_top (z := nI p) (rfl) ?_
              refine g_iload (pc := 81) C dX7_number_81 4 rfl ?_
              refine g_icmpN_ne (pc := 83) (i := p) (j := (rlS (tol el s) n 32 z).1) (tgt := 88) C dX7_number_83 (by decide) ⟨by omega, by omega⟩ (fun h83 => ?_) (fun h83 => ?_)
              · refine g_aload_n (pc := 88) C dX7_number_88 0 rfl ?_
                refine g_get (pc := 89) (T := TX7) (N := 33) (v := .ref (A 15)) C ib_X7 0 rfl rfl 27 (by decide) mf_X7_56 rfl rfl rfl dX7_number_89 ?_
                refine g_iload_n (pc := 92) C dX7_number_92 1 rfl ?_
                refine g_iload (pc := 93) C dX7_number_93 5 rfl ?_
                refine g_iast (pc := 95) (ws' := wN G m A τ (upd y 4 (nI (pz p).1)) ++ ([iC G (A 1) 8 sz, jC G (A 2) 1280 el, iC G (A 15) 5 (upd nb i v)])) C rfl 11 rfl i (rfl) ⟨by omega, by decide⟩ dX7_number_95 rfl ?_
                refine g_iload (pc := 96) C dX7_number_96 5 rfl ?_
                refine g_iload_n (pc := 98) C dX7_number_98 2 rfl ?_
                refine g_iload_n (pc := 99) C dX7_number_99 3 rfl ?_
                refine g_rdSI (pc := 100) (val := bI (lo ≤ v ∧ v ≤ up)) (rest := []) C k_X7_within (c_X7_within l G v lo up) ml_X7_88 rfl ⟨Nat.le_of_ble_eq_true rfl, Nat.le_of_ble_eq_true rfl⟩ rfl [] rfl rfl (Nat.le_of_ble_eq_true rfl) ⟨by decide, by decide⟩ dX7_number_100 ?_
                refine g_istore (pc := 103) (lv' := [(6, .int (bI (lo ≤ v ∧ v ≤ up))), (0, .ref m), (1, .int (nI i)), (2, .int lo), (3, .int up), (4, .int (nI ((rlS (tol el s) n 32 z).1))), (5, .int v)]) C dX7_number_103 (by decide) rfl ?_
                refine g_iload (pc := 105) C dX7_number_105 0 rfl ?_
                refine g_ifb_ne (pc := 107) (tgt := 116) C dX7_number_107 (by decide) (fun h107 => ?_) (fun h107 => ?_)
                · refine g_iload (pc := 116) C dX7_number_116 0 rfl ?_
                  exact g_retIW (pc := 118) C rfl rfl () (by exact bI_nar _) (by exact (bI_t h107).trans (bI_t (by rw [eS, if_neg h83, if_pos h107])).symm) (by rw [eS, if_neg h83, if_pos h107, eB, if_neg h83] <;> rfl) dX7_number_118
                · refine g_aload_n (pc := 110) C dX7_number_110 1 rfl ?_
                  refine g_iload (pc := 111) C dX7_number_111 5 rfl ?_
                  refine g_put (pc := 113) (T := TX7) (N := 33) (ty := .int) (ws' := [oC m 6 [.ref (A 0), .ref (A 1), .ref (A 2), .int (τ 8 0), .ref (A 3), .ref (A 4), .ref (A 5), .int (τ 8 1), .ref (A 6), .ref (A 7), .ref (A 8), .ref (A 9), .ref (A 10), .int (τ 8 2), .int (τ 8 3), .int (τ 8 5), .int (τ 8 6), .int (τ 8 4), .int ((upd y 4 (nI (pz p).1)) 0), .ref (A 11), .int ((upd y 4 (nI (pz p).1)) 1), .ref (A 12), .int ((upd y 4 (nI (pz p).1)) 2), .ref (A 13), .ref (A 14), .int ((upd y 4 (nI (pz p).1)) 3), .int (nI ((rlS (tol el s) n 32 z).1)), .ref (A 15), .ref (A 16), .ref (A 17), .ref (A 18), .ref (A 19), .int ((upd y 4 (nI (pz p).1)) 5)], iC G (A 3) 8 (τ 0), iC G (A 4) 8 (τ 1), iC G (A 5) 64 (τ 2), iC G (A 6) 10 (τ 3), iC G (A 7) 10 (τ 4), iC G (A 8) 10 (τ 5), iC G (A 9) 10 (τ 6), iC G (A 10) 10 (τ 7), iC G (A 1) 8 sz, jC G (A 2) 1280 el, iC G (A 15) 5 (upd nb i v)]) C rfl ib_X7 tyX7 tyX7_ok nmX7 0 rfl rfl 26 (by decide) mf_X7_142 rfl rfl rfl (by decide +kernel) rfl rfl (Nat.le_of_ble_eq_true rfl) dX7_number_113 rfl ?_
                  refine g_iload (pc := 116) C dX7_number_116 0 rfl ?_
                  exact g_retIW (pc := 118) C rfl rfl () (by exact bI_nar _) (by exact (bI_f h107).trans (bI_f (by rw [eS, if_neg h83, if_neg h107]; exact no_m1 (by omega))).symm) (by rw [eS, if_neg h83, if_neg h107, eB, if_neg h83, show aO (p, nI (rlS (tol el s) n 32 z).1) = nI (rlS (tol el s) n 32 z).1 from aO_f (no_m1 (by omega))] <;> rfl) dX7_number_118
              · refine g_iconst (pc := 86) (v := 0) C dX7_number_86 (by decide) ?_
                exact g_retIW (pc := 87) C rfl rfl () (rfl) (by exact (bI_f (by rw [eS, if_pos h83]; exact no_m1 (by omega))).symm) (by rw [eS, if_pos h83, eB, if_pos h83, show aO (p, nI p) = nI p from aO_f (no_m1 (by omega))] <;> rfl) dX7_number_87
            · refine g_bipush (pc := 49) (v := 10) C dX7_number_49 (by decide) ?_
              refine g_iload (pc := 51) C dX7_number_51 5 rfl ?_
              refine g_imul (pc := 53) C dX7_number_53 ?_
              refine g_aload_n (pc := 54) C dX7_number_54 0 rfl ?_
              refine g_rdVI (pc := 55) (val := ltr (tol el s) n (pz p).1) (rest := [.int (10 * v)]) C k_X7_sign (c_X7_sign l G m A τ y sz el s n (pz p) (by first | assumption | omega) (by first | assumption | omega) (by first | assumption | omega) (by first | assumption | omega) hp rfl) ml_X7_148 rfl ⟨Nat.le_of_ble_eq_true rfl, Nat.le_of_ble_eq_true rfl⟩ rfl [0, 1, 2, 3, 4, 5, 6, 7, 8, 9, 10] rfl 0 rfl rfl rfl rfl (Nat.le_of_ble_eq_true rfl) ⟨by decide, by decide⟩ dX7_number_55 ?_
              refine g_top (z := ltr (tol el s) n p) (rfl) ?_
              refine g_iadd (pc := 58) C dX7_number_58 ?_
              refine g_bipush (pc := 59) (v := 48) C dX7_number_59 (by decide) ?_
              refine g_isub (pc := 61) C dX7_number_61 ?_
              refine g_istore (pc := 62) (lv' := [(5, .int (((10 * v) + (ltr (tol el s) n p)) - 48)), (0, .ref m), (1, .int (nI i)), (2, .int lo), (3, .int up), (4, .int (nI ((rlS (tol el s) n 32 z).1)))]) C dX7_number_62 (by decide) rfl ?_
              refine g_aload_n (pc := 64) C dX7_number_64 1 rfl ?_
              refine g_dup (pc := 65) C dX7_number_65 rfl ?_
              refine g_get (pc := 66) (T := TX7) (N := 33) (v := .int ((upd y 4 (nI (pz p).1)) 4)) C ib_X7 0 rfl rfl 26 (by decide) mf_X7_142 rfl rfl rfl dX7_number_66 ?_
              refine g_top (z := nI p) (rfl) ?_
              refine g_iconst (pc := 69) (v := 1) C dX7_number_69 (by decide) ?_
              refine g_iaddN (pc := 70) (i := p) (j := 1) C dX7_number_70 ?_
              refine g_put (pc := 71) (T := TX7) (N := 33) (ty := .int) (ws' := [oC m 6 [.ref (A 0), .ref (A 1), .ref (A 2), .int (τ 8 0), .ref (A 3), .ref (A 4), .ref (A 5), .int (τ 8 1), .ref (A 6), .ref (A 7), .ref (A 8), .ref (A 9), .ref (A 10), .int (τ 8 2), .int (τ 8 3), .int (τ 8 5), .int (τ 8 6), .int (τ 8 4), .int ((upd y 4 (nI (pz p).1)) 0), .ref (A 11), .int ((upd y 4 (nI (pz p).1)) 1), .ref (A 12), .int ((upd y 4 (nI (pz p).1)) 2), .ref (A 13), .ref (A 14), .int ((upd y 4 (nI (pz p).1)) 3), .int (nI (p + 1)), .ref (A 15), .ref (A 16), .ref (A 17), .ref (A 18), .ref (A 19), .int ((upd y 4 (nI (pz p).1)) 5)], iC G (A 3) 8 (τ 0), iC G (A 4) 8 (τ 1), iC G (A 5) 64 (τ 2), iC G (A 6) 10 (τ 3), iC G (A 7) 10 (τ 4), iC G (A 8) 10 (τ 5), iC G (A 9) 10 (τ 6), iC G (A 10) 10 (τ 7), iC G (A 1) 8 sz, jC G (A 2) 1280 el, iC G (A 15) 5 nb]) C rfl ib_X7 tyX7 tyX7_ok nmX7 0 rfl rfl 26 (by decide) mf_X7_142 rfl rfl rfl (by decide +kernel) rfl rfl (Nat.le_of_ble_eq_true rfl) dX7_number_71 rfl ?_
              refine g_goto (pc := 74) (tgt := 20) C dX7_number_74 (by decide) ?_
              refine g_ws (ws' := wN G m A τ (upd y 4 (nI (pz (p + 1)).1)) ++ ([iC G (A 1) 8 sz, jC G (A 2) 1280 el, iC G (A 15) 5 nb])) (rfl) ?_
              refine g_sub (lv' := [(0, .ref m), (1, .int (nI i)), (2, .int lo), (3, .int up), (4, .int (nI ((rlS (tol el s) n 32 z).1))), (5, .int (((10 * v) + (ltr (tol el s) n p)) - 48))]) [1, 2, 3, 4, 5, 0] rfl ?_
              exact ih20 (p + 1) (((10 * v) + (ltr (tol el s) n p)) - 48) (k - 1) (ltr_lt (Int32.not_lt.mp h37)) (by first | assumption | omega) (by rw [hv, show k = (k - 1) + 1 from by omega, dgS, if_pos ⟨Int32.not_lt.mp h37, Int32.not_lt.mp h46⟩]; rfl) (by first | assumption | omega) (by omega)
    refine g_ws (ws' := wN G m A τ (upd y 4 (nI (pz ((rlS (tol el s) n 32 z).1)).1)) ++ ([iC G (A 1) 8 sz, jC G (A 2) 1280 el, iC G (A 15) 5 nb])) (rfl) ?_
    refine g_sub (lv' := [(0, .ref m), (1, .int (nI i)), (2, .int lo), (3, .int up), (4, .int (nI ((rlS (tol el s) n 32 z).1))), (5, .int 0)]) [2, 3, 4, 5, 1, 0] rfl ?_
    exact key_20 _ ((rlS (tol el s) n 32 z).1) 0 3 hz1 rfl rfl (Nat.le_refl _) (Nat.lt_succ_self _)
  · refine g_iconst (pc := 9) (v := 0) C dX7_number_9 (by decide) ?_
    exact g_retIW (pc := 10) C rfl rfl () (rfl) (by exact (bI_f (by rw [nu_sp lo up h6]; exact h6)).symm) (by rw [nu_sp lo up h6, nuB_sp i nb h6] <;> rfl) dX7_number_10
set_option maxRecDepth 20000 in
set_option maxHeartbeats 4000000 in
theorem c_X7_stands_1 (l : Launch) (G : gT) (m : Nat) (A : Nat → Nat) (τ : tT) (y : Nat → Int32) (z : Nat × Int32) (f : Int32) : WI l yX7_stands cX7_stands 3 (some .boolean) 0 0 0 G [.ref m, .int f, .int 1] (wN G m A τ (upd y 4 (nI z.1))) (S := Unit) (fun r _ => r = 1) (fun _ => wN G m A τ (upd y 4 (nI z.1))) := by
  intro sz9
  refine start_W (by decide) (Nat.le_of_ble_eq_true rfl) (fun p9 e9 s9 m9 a9 b9 t9 c9 C => ?_)
  refine g_lv (lv' := [(0, .ref m), (1, .int f), (2, .int 1)]) rfl ?_
  refine g_iload_n (pc := 0) C dX7_stands_0 2 rfl ?_
  refine g_if_ne (pc := 1) (tgt := 9) C dX7_stands_1 (by decide) (fun h1 => ?_) (fun h1 => absurd h1 (by decide))
  refine g_iload_n (pc := 9) C dX7_stands_9 2 rfl ?_
  exact g_retIW (pc := 10) C rfl rfl () (rfl) (by rfl) (by rfl) dX7_stands_10
set_option maxRecDepth 20000 in
set_option maxHeartbeats 4000000 in
theorem c_X7_stands_0 (l : Launch) (G : gT) (m : Nat) (A : Nat → Nat) (τ : tT) (y : Nat → Int32) (z : Nat × Int32) (f : Int32) : WI l yX7_stands cX7_stands 3 (some .boolean) 0 0 0 G [.ref m, .int f, .int 0] (wN G m A τ (upd y 4 (nI z.1))) (S := Unit) (fun r _ => r = 0) (fun _ => wN G m A τ (upd y 4 f)) := by
  intro sz9
  refine start_W (by decide) (Nat.le_of_ble_eq_true rfl) (fun p9 e9 s9 m9 a9 b9 t9 c9 C => ?_)
  refine g_lv (lv' := [(0, .ref m), (1, .int f), (2, .int 0)]) rfl ?_
  refine g_iload_n (pc := 0) C dX7_stands_0 2 rfl ?_
  refine g_if_ne (pc := 1) (tgt := 9) C dX7_stands_1 (by decide) (fun h1 => absurd h1 (by decide)) (fun h1 => ?_)
  refine g_aload_n (pc := 4) C dX7_stands_4 0 rfl ?_
  refine g_iload_n (pc := 5) C dX7_stands_5 1 rfl ?_
  refine g_put (pc := 6) (T := TX7) (N := 33) (ty := .int) (ws' := [oC m 6 [.ref (A 0), .ref (A 1), .ref (A 2), .int (τ 8 0), .ref (A 3), .ref (A 4), .ref (A 5), .int (τ 8 1), .ref (A 6), .ref (A 7), .ref (A 8), .ref (A 9), .ref (A 10), .int (τ 8 2), .int (τ 8 3), .int (τ 8 5), .int (τ 8 6), .int (τ 8 4), .int ((upd y 4 (nI z.1)) 0), .ref (A 11), .int ((upd y 4 (nI z.1)) 1), .ref (A 12), .int ((upd y 4 (nI z.1)) 2), .ref (A 13), .ref (A 14), .int ((upd y 4 (nI z.1)) 3), .int f, .ref (A 15), .ref (A 16), .ref (A 17), .ref (A 18), .ref (A 19), .int ((upd y 4 (nI z.1)) 5)], iC G (A 3) 8 (τ 0), iC G (A 4) 8 (τ 1), iC G (A 5) 64 (τ 2), iC G (A 6) 10 (τ 3), iC G (A 7) 10 (τ 4), iC G (A 8) 10 (τ 5), iC G (A 9) 10 (τ 6), iC G (A 10) 10 (τ 7)]) C rfl ib_X7 tyX7 tyX7_ok nmX7 0 rfl rfl 26 (by decide) mf_X7_142 rfl rfl rfl (by decide +kernel) rfl rfl (Nat.le_of_ble_eq_true rfl) dX7_stands_6 rfl ?_
  refine g_iload_n (pc := 9) C dX7_stands_9 2 rfl ?_
  exact g_retIW (pc := 10) C rfl rfl () (rfl) (by rfl) (by rfl) dX7_stands_10
set_option maxRecDepth 20000 in
set_option maxHeartbeats 4000000 in
theorem c_X7_two (l : Launch) (G : gT) (m : Nat) (A : Nat → Nat) (τ : tT) (y : Nat → Int32) (sz : Nat → Int32) (el : Nat → Int64) (s : Nat) (n : Nat) (z : Nat × Int32) (nb : Nat → Int32) (hT : TI τ) (hs : s < 8) (hsz : sz s = nI n) (hn : n ≤ 160) (hr : y 3 = nI s) (hz : z.1 ≤ n) (h2 : z.2 = -1) : WI l yX7_two cX7_two 2 (some .boolean) 3 0 0 G [.ref m] (wN G m A τ (upd y 4 (nI z.1)) ++ ([iC G (A 1) 8 sz, jC G (A 2) 1280 el, iC G (A 15) 5 nb])) (S := Unit) (fun r _ => r = bI ((beS (tol el s) n τ z 4).2 = -1)) (fun _ => wN G m A τ (upd y 4 (aO (beS (tol el s) n τ z 4))) ++ ([iC G (A 1) 8 sz, jC G (A 2) 1280 el, iC G (A 15) 5 (twB (tol el s) n τ z nb)])) := by
  have hq8 := hT.q8
  have hbz := fun k => beS_le (lt := (tol el s)) (ν := τ) hz k
  have hbz1 := hbz 1
  intro sz9
  refine start_W (by decide) (Nat.le_of_ble_eq_true rfl) (fun p9 e9 s9 m9 a9 b9 t9 c9 C => ?_)
  refine g_lv (lv' := [(0, .ref m)]) rfl ?_
  refine g_aload_n (pc := 0) C dX7_two_0 0 rfl ?_
  refine g_iconst (pc := 1) (v := 0) C dX7_two_1 (by decide) ?_
  refine g_iconst (pc := 2) (v := 0) C dX7_two_2 (by decide) ?_
  refine g_aload_n (pc := 3) C dX7_two_3 0 rfl ?_
  refine g_get (pc := 4) (T := TX7) (N := 33) (v := .int (τ 8 0)) C ib_X7 0 rfl rfl 3 (by decide) mf_X7_85 rfl rfl rfl dX7_two_4 ?_
  refine g_top (z := nI (tQ τ)) (hT.q) ?_
  refine g_iconst (pc := 7) (v := 1) C dX7_two_7 (by decide) ?_
  refine g_isub (pc := 8) C dX7_two_8 ?_
  refine g_wrVI (pc := 9) (rest := []) (wr := []) C (fun _ => wN G m A τ (upd y 4 (aO (nuS (tol el s) n 0 ((nI (tQ τ)) - 1) z))) ++ ([iC G (A 1) 8 sz, jC G (A 2) 1280 el, iC G (A 15) 5 (nuB (tol el s) n z 0 nb)])) rfl k_X7_number (c_X7_number l G m A τ y sz el s n z nb 0 0 ((nI (tQ τ)) - 1) (by first | assumption | omega) (by first | assumption | omega) (by first | assumption | omega) (by first | assumption | omega) (by first | assumption | omega) (by first | assumption | omega) (by first | assumption | omega)) ml_X7_169 rfl ⟨Nat.le_of_ble_eq_true rfl, Nat.le_of_ble_eq_true rfl⟩ rfl [0, 1, 2, 3, 4, 5, 6, 7, 8, 9, 10, 11] [] [0, 1, 2, 3, 4, 5, 6, 7, 8, 9, 10, 11] rfl (by decide) rfl (by decide) (by decide) (by decide) (fun _ => rfl) 0 rfl rfl rfl rfl (Nat.le_of_ble_eq_true rfl) ⟨by decide, by decide⟩ dX7_two_9 (fun r9 _ e9 => ?_)
  subst e9
  refine g_ifb_ne (pc := 12) (tgt := 17) C dX7_two_12 (by decide) (fun h12 => ?_) (fun h12 => ?_)
  · refine g_ws (ws' := wN G m A τ (upd y 4 (nI (beS (tol el s) n τ z 1).1)) ++ ([iC G (A 1) 8 sz, jC G (A 2) 1280 el, iC G (A 15) 5 (nuB (tol el s) n z 0 nb)])) (by rw [aO_t h12] <;> rfl) ?_
    have hb1 : (beS (tol el s) n τ z 1).2 = -1 := h12
    refine g_aload_n (pc := 17) C dX7_two_17 0 rfl ?_
    refine g_get (pc := 18) (T := TX7) (N := 33) (v := .int ((upd y 4 (nI (beS (tol el s) n τ z 1).1)) 4)) C ib_X7 0 rfl rfl 26 (by decide) mf_X7_142 rfl rfl rfl dX7_two_18 ?_
    refine g_top (z := nI ((beS (tol el s) n τ z 1).1)) (rfl) ?_
    refine g_iconst (pc := 21) (v := 1) C dX7_two_21 (by decide) ?_
    refine g_iaddN (pc := 22) (i := (beS (tol el s) n τ z 1).1) (j := 1) C dX7_two_22 ?_
    refine g_istore_n (pc := 23) (lv' := [(1, .int (nI (((beS (tol el s) n τ z 1).1) + 1))), (0, .ref m)]) C dX7_two_23 rfl (by decide) rfl ?_
    refine g_aload_n (pc := 24) C dX7_two_24 1 rfl ?_
    refine g_iconst (pc := 25) (v := 1) C dX7_two_25 (by decide) ?_
    refine g_iconst (pc := 26) (v := 0) C dX7_two_26 (by decide) ?_
    refine g_aload_n (pc := 27) C dX7_two_27 1 rfl ?_
    refine g_get (pc := 28) (T := TX7) (N := 33) (v := .int (τ 8 0)) C ib_X7 0 rfl rfl 3 (by decide) mf_X7_85 rfl rfl rfl dX7_two_28 ?_
    refine g_top (z := nI (tQ τ)) (hT.q) ?_
    refine g_iconst (pc := 31) (v := 1) C dX7_two_31 (by decide) ?_
    refine g_isub (pc := 32) C dX7_two_32 ?_
    refine g_wrVI (pc := 33) (rest := []) (wr := []) C (fun _ => wN G m A τ (upd y 4 (aO (nuS (tol el s) n 0 ((nI (tQ τ)) - 1) (beS (tol el s) n τ z 1)))) ++ ([iC G (A 1) 8 sz, jC G (A 2) 1280 el, iC G (A 15) 5 (nuB (tol el s) n (beS (tol el s) n τ z 1) 1 (nuB (tol el s) n z 0 nb))])) rfl k_X7_number (c_X7_number l G m A τ y sz el s n (beS (tol el s) n τ z 1) (nuB (tol el s) n z 0 nb) 1 0 ((nI (tQ τ)) - 1) (by first | assumption | omega) (by first | assumption | omega) (by first | assumption | omega) (by first | assumption | omega) (hbz 1) hb1 (by first | assumption | omega)) ml_X7_169 rfl ⟨Nat.le_of_ble_eq_true rfl, Nat.le_of_ble_eq_true rfl⟩ rfl [0, 1, 2, 3, 4, 5, 6, 7, 8, 9, 10, 11] [] [0, 1, 2, 3, 4, 5, 6, 7, 8, 9, 10, 11] rfl (by decide) rfl (by decide) (by decide) (by decide) (fun _ => rfl) 0 rfl rfl rfl rfl (Nat.le_of_ble_eq_true rfl) ⟨by decide, by decide⟩ dX7_two_33 (fun r33 _ e33 => ?_)
    subst e33
    refine g_ifb_eq (pc := 36) (tgt := 82) C dX7_two_36 (by decide) (fun h36 => ?_) (fun h36 => ?_)
    · refine g_iconst (pc := 82) (v := 0) C dX7_two_82 (by decide) ?_
      exact g_retIW (pc := 83) C rfl rfl () (rfl) (by have hb2 : ¬ (beS (tol el s) n τ z 2).2 = -1 := h36; exact (bI_f (by rw [(be_4of2 hb2).2]; exact hb2)).symm) (by have hb2 : ¬ (beS (tol el s) n τ z 2).2 = -1 := h36; rw [twB, (be_4of2 hb2).1, (be_4of2 hb2).2, nuB_st _ _ hb2] <;> rfl) dX7_two_83
    · have hb2 : (beS (tol el s) n τ z 2).2 = -1 := h36
      refine g_ws (ws' := wN G m A τ (upd y 4 (nI (beS (tol el s) n τ z 2).1)) ++ ([iC G (A 1) 8 sz, jC G (A 2) 1280 el, iC G (A 15) 5 (nuB (tol el s) n (beS (tol el s) n τ z 1) 1 (nuB (tol el s) n z 0 nb))])) (by rw [aO_t h36] <;> rfl) ?_
      have hB : nuB (tol el s) n (beS (tol el s) n τ z 1) 1 (nuB (tol el s) n z 0 nb) = upd (upd nb 0 (nuV (tol el s) n z)) 1 (nuV (tol el s) n (beS (tol el s) n τ z 1)) := by rw [nuB_ok 1 _ (by omega) (hbz 1) hb2, nuB_ok 0 _ (by omega) hz hb1]
      refine g_aload_n (pc := 39) C dX7_two_39 1 rfl ?_
      refine g_iload_n (pc := 40) C dX7_two_40 0 rfl ?_
      refine g_aload_n (pc := 41) C dX7_two_41 1 rfl ?_
      refine g_get (pc := 42) (T := TX7) (N := 33) (v := .ref (A 15)) C ib_X7 0 rfl rfl 27 (by decide) mf_X7_56 rfl rfl rfl dX7_two_42 ?_
      refine g_iconst (pc := 45) (v := 0) C dX7_two_45 (by decide) ?_
      refine g_iald (pc := 46) (v := nuV (tol el s) n z) C 11 rfl 0 (rfl) ⟨by omega, by decide⟩ (by rw [hB]; rfl) dX7_two_46 ?_
      refine g_aload_n (pc := 47) C dX7_two_47 1 rfl ?_
      refine g_get (pc := 48) (T := TX7) (N := 33) (v := .ref (A 15)) C ib_X7 0 rfl rfl 27 (by decide) mf_X7_56 rfl rfl rfl dX7_two_48 ?_
      refine g_iconst (pc := 51) (v := 1) C dX7_two_51 (by decide) ?_
      refine g_iald (pc := 52) (v := nuV (tol el s) n (beS (tol el s) n τ z 1)) C 11 rfl 1 (rfl) ⟨by omega, by decide⟩ (by rw [hB]; rfl) dX7_two_52 ?_
      refine g_icmp_eq (pc := 53) (tgt := 60) C dX7_two_53 (by decide) (fun h53 => ?_) (fun h53 => ?_)
      · refine g_iconst (pc := 60) (v := 0) C dX7_two_60 (by decide) ?_
        refine g_wrVI (pc := 61) (rest := []) (wr := [iC G (A 1) 8 sz, jC G (A 2) 1280 el, iC G (A 15) 5 (nuB (tol el s) n (beS (tol el s) n τ z 1) 1 (nuB (tol el s) n z 0 nb))]) C (fun _ => wN G m A τ (upd y 4 (nI (((beS (tol el s) n τ z 1).1) + 1))) ++ ([iC G (A 1) 8 sz, jC G (A 2) 1280 el, iC G (A 15) 5 (nuB (tol el s) n (beS (tol el s) n τ z 1) 1 (nuB (tol el s) n z 0 nb))])) rfl k_X7_stands (c_X7_stands_0 l G m A τ y (beS (tol el s) n τ z 2) (nI (((beS (tol el s) n τ z 1).1) + 1))) ml_X7_172 rfl ⟨Nat.le_of_ble_eq_true rfl, Nat.le_of_ble_eq_true rfl⟩ rfl [0, 1, 2, 3, 4, 5, 6, 7, 8] [9, 10, 11] [3, 4, 5, 6, 7, 8, 9, 10, 11, 0, 1, 2] rfl (by decide) rfl (by decide) (by decide) (by decide) (fun _ => rfl) 0 rfl rfl rfl rfl (Nat.le_of_ble_eq_true rfl) ⟨by decide, by decide⟩ dX7_two_61 (fun r61 _ e61 => ?_)
        subst e61
        refine g_if_eq (pc := 64) (tgt := 82) C dX7_two_64 (by decide) (fun h64 => ?_) (fun h64 => absurd h64 (by decide))
        refine g_iconst (pc := 82) (v := 0) C dX7_two_82 (by decide) ?_
        exact g_retIW (pc := 83) C rfl rfl () (rfl) (by have hb3 : ¬ (beS (tol el s) n τ z 3).2 = -1 := (by rw [beS_3, if_pos h53.symm, ft_go hb2]; exact tw_n (by omega)); exact (bI_f (by rw [be_4, nu_st _ _ hb3]; exact hb3)).symm) (by have hb3 : ¬ (beS (tol el s) n τ z 3).2 = -1 := (by rw [beS_3, if_pos h53.symm, ft_go hb2]; exact tw_n (by omega)); rw [twB, be_4, nu_st _ _ hb3, nuB_st _ _ hb3, show aO (beS (tol el s) n τ z 3) = nI ((beS (tol el s) n τ z 1).1 + 1) from by rw [beS_3, if_pos h53.symm, ft_go hb2]; exact aO_f (tw_n (by omega))] <;> rfl) dX7_two_83
      · refine g_iconst (pc := 56) (v := 1) C dX7_two_56 (by decide) ?_
        refine g_goto (pc := 57) (tgt := 61) C dX7_two_57 (by decide) ?_
        refine g_wrVI (pc := 61) (rest := []) (wr := [iC G (A 1) 8 sz, jC G (A 2) 1280 el, iC G (A 15) 5 (nuB (tol el s) n (beS (tol el s) n τ z 1) 1 (nuB (tol el s) n z 0 nb))]) C (fun _ => wN G m A τ (upd y 4 (nI (beS (tol el s) n τ z 2).1)) ++ ([iC G (A 1) 8 sz, jC G (A 2) 1280 el, iC G (A 15) 5 (nuB (tol el s) n (beS (tol el s) n τ z 1) 1 (nuB (tol el s) n z 0 nb))])) rfl k_X7_stands (c_X7_stands_1 l G m A τ y (beS (tol el s) n τ z 2) (nI (((beS (tol el s) n τ z 1).1) + 1))) ml_X7_172 rfl ⟨Nat.le_of_ble_eq_true rfl, Nat.le_of_ble_eq_true rfl⟩ rfl [0, 1, 2, 3, 4, 5, 6, 7, 8] [9, 10, 11] [3, 4, 5, 6, 7, 8, 9, 10, 11, 0, 1, 2] rfl (by decide) rfl (by decide) (by decide) (by decide) (fun _ => rfl) 0 rfl rfl rfl rfl (Nat.le_of_ble_eq_true rfl) ⟨by decide, by decide⟩ dX7_two_61 (fun r61 _ e61 => ?_)
        subst e61
        refine g_if_eq (pc := 64) (tgt := 82) C dX7_two_64 (by decide) (fun h64 => absurd h64 (by decide)) (fun h64 => ?_)
        have hb3 : (beS (tol el s) n τ z 3) = (beS (tol el s) n τ z 2) := by rw [beS_3, if_neg (fun q => h53 q.symm)]
        refine g_ws (ws' := wN G m A τ (upd y 4 (nI (beS (tol el s) n τ z 3).1)) ++ ([iC G (A 1) 8 sz, jC G (A 2) 1280 el, iC G (A 15) 5 (nuB (tol el s) n (beS (tol el s) n τ z 1) 1 (nuB (tol el s) n z 0 nb))])) (by rw [hb3]) ?_
        refine g_aload_n (pc := 67) C dX7_two_67 1 rfl ?_
        refine g_iconst (pc := 68) (v := 2) C dX7_two_68 (by decide) ?_
        refine g_iconst (pc := 69) (v := 0) C dX7_two_69 (by decide) ?_
        refine g_bipush (pc := 70) (v := 9) C dX7_two_70 (by decide) ?_
        refine g_wrVI (pc := 72) (rest := []) (wr := []) C (fun _ => wN G m A τ (upd y 4 (aO (nuS (tol el s) n 0 9 (beS (tol el s) n τ z 3)))) ++ ([iC G (A 1) 8 sz, jC G (A 2) 1280 el, iC G (A 15) 5 (nuB (tol el s) n (beS (tol el s) n τ z 3) 2 (nuB (tol el s) n (beS (tol el s) n τ z 1) 1 (nuB (tol el s) n z 0 nb)))])) rfl k_X7_number (c_X7_number l G m A τ y sz el s n (beS (tol el s) n τ z 3) (nuB (tol el s) n (beS (tol el s) n τ z 1) 1 (nuB (tol el s) n z 0 nb)) 2 0 9 (by first | assumption | omega) (by first | assumption | omega) (by first | assumption | omega) (by first | assumption | omega) (hbz 3) (by rw [hb3]; exact hb2) (by first | assumption | omega)) ml_X7_169 rfl ⟨Nat.le_of_ble_eq_true rfl, Nat.le_of_ble_eq_true rfl⟩ rfl [0, 1, 2, 3, 4, 5, 6, 7, 8, 9, 10, 11] [] [0, 1, 2, 3, 4, 5, 6, 7, 8, 9, 10, 11] rfl (by decide) rfl (by decide) (by decide) (by decide) (fun _ => rfl) 0 rfl rfl rfl rfl (Nat.le_of_ble_eq_true rfl) ⟨by decide, by decide⟩ dX7_two_72 (fun r72 _ e72 => ?_)
        subst e72
        refine g_ifb_eq (pc := 75) (tgt := 82) C dX7_two_75 (by decide) (fun h75 => ?_) (fun h75 => ?_)
        · refine g_iconst (pc := 82) (v := 0) C dX7_two_82 (by decide) ?_
          exact g_retIW (pc := 83) C rfl rfl () (rfl) (by exact (bI_f h75).symm) (by rfl) dX7_two_83
        · refine g_iconst (pc := 78) (v := 1) C dX7_two_78 (by decide) ?_
          refine g_goto (pc := 79) (tgt := 83) C dX7_two_79 (by decide) ?_
          exact g_retIW (pc := 83) C rfl rfl () (rfl) (by exact (bI_t h75).symm) (by rfl) dX7_two_83
  · refine g_iconst (pc := 15) (v := 0) C dX7_two_15 (by decide) ?_
    exact g_retIW (pc := 16) C rfl rfl () (rfl) (by have hb1 : ¬ (beS (tol el s) n τ z 1).2 = -1 := h12; exact (bI_f (by rw [(be_4of1 hb1).2]; exact hb1)).symm) (by have hb1 : ¬ (beS (tol el s) n τ z 1).2 = -1 := h12; rw [twB, (be_4of1 hb1).1, (be_4of1 hb1).2, nuB_st _ _ hb1, nuB_st _ _ hb1] <;> rfl) dX7_two_16
