theorem wr_nI {τ : tT} (hT : TI τ) {q : Nat} (hq : q < 8) : ∃ m, m ≤ 1000 ∧ mAbs (wrong τ q) = nI m := by
  obtain ⟨s, hs, e⟩ := share_nI hT hq
  obtain ⟨h, hh, e2⟩ := hold_nI hT
  unfold wrong
  rw [e, e2, show (1000 : Int32) - nI s = nI (1000 - s) from pk_sub (a := 1000) hs]
  split
  · exact abs_nI (M := 1000) (by omega) hh (by decide)
  · exact abs_nI (M := 1000) hs hh (by decide)
theorem ne_at {τ : tT} (hT : TI τ) : ∀ i, 1 ≤ i → i ≤ tQ τ → (neN τ i).1 = nI (nx (neN τ i).1) ∧ nx (neN τ i).1 < i ∧ (neN τ i).2 = mAbs (wrong τ (nx (neN τ i).1))
  | 0, h, _ => absurd h (by decide)
  | i + 1, _, h => by
    have hq8 := hT.q8
    rw [neN]
    by_cases h1 : mAbs (wrong τ i) < (neN τ i).2
    · rw [if_pos h1]
      have e : nx (nI i) = i := nx_nI (by omega)
      show nI i = nI (nx (nI i)) ∧ nx (nI i) < i + 1 ∧ mAbs (wrong τ i) = mAbs (wrong τ (nx (nI i)))
      rw [e]; exact ⟨rfl, Nat.lt_succ_self i, rfl⟩
    · rw [if_neg h1]
      by_cases h0 : i = 0
      · subst h0
        obtain ⟨m, hm, e⟩ := wr_nI hT (q := 0) (by omega)
        refine absurd ?_ h1
        rw [e]
        exact (nI_ltI (b := 1000000) (by omega) (by decide)).mpr (by omega)
      · obtain ⟨a, b, c⟩ := ne_at hT i (by omega) (by omega)
        exact ⟨a, by omega, c⟩
set_option maxRecDepth 20000 in
set_option maxHeartbeats 4000000 in
theorem c_X7_nearest (l : Launch) (G : gT) (m : Nat) (A : Nat → Nat) (τ : tT) (y : Nat → Int32) (rr : Nat → Int32) (hT : TI τ) : WI l yX7_nearest cX7_nearest 3 (some .int) 12 0 0 G [.ref m] (wN G m A τ y ++ ([iC G (A 11) 8 rr])) (S := Unit) (fun r _ => r = if rcNe τ = 0 then (neN τ (tQ τ)).1 else (rcNe τ)) (fun _ => wN G m A τ y ++ ([iC G (A 11) 8 (rfI rr (rcNe τ))])) := by
  have hg10 := hT.g10
  have hq8 := hT.q8
  have hzq := nI_z (n := tQ τ) (by omega)
  intro sz9
  refine start_W (by decide) (Nat.le_of_ble_eq_true rfl) (fun p9 e9 s9 m9 a9 b9 t9 c9 C => ?_)
  refine g_lv (lv' := [(0, .ref m)]) rfl ?_
  refine g_aload_n (pc := 0) C dX7_nearest_0 0 rfl ?_
  refine g_get (pc := 1) (T := TX7) (N := 33) (v := .int (τ 8 0)) C ib_X7 0 rfl rfl 3 (by decide) mf_X7_85 rfl rfl rfl dX7_nearest_1 ?_
  refine g_top (z := nI (tQ τ)) (hT.q) ?_
  refine g_if_ne (pc := 4) (tgt := 14) C dX7_nearest_4 (by decide) (fun h4 => ?_) (fun h4 => ?_)
  · have h0 : tQ τ ≠ 0 := fun z => h4 (hzq.mpr z)
    refine g_iconst (pc := 14) (v := 0) C dX7_nearest_14 (by decide) ?_
    refine g_istore_n (pc := 15) (lv' := [(1, .int 0), (0, .ref m)]) C dX7_nearest_15 rfl (by decide) rfl ?_
    refine g_iconst (pc := 16) (v := 1) C dX7_nearest_16 (by decide) ?_
    refine g_istore_n (pc := 17) (lv' := [(2, .int 1), (1, .int 0), (0, .ref m)]) C dX7_nearest_17 rfl (by decide) rfl ?_
    have key_18 : ∀ (n18 : Nat) (i : Nat) (hi : i ≤ tQ τ) (h1 : 1 ≤ i), tQ τ - i < n18 → GW p9 l e9 (rmh 12 0 0) s9 m9 a9 b9 t9 c9 (MQ b9 (va_Qi (fun r (_ : Unit) => r = if rcNe τ = 0 then (neN τ (tQ τ)).1 else (rcNe τ)) (BW G (wN G m A τ y ++ ([iC G (A 11) 8 rr])) sz9 (fun _ => wN G m A τ y ++ ([iC G (A 11) 8 (rfI rr (rcNe τ))]))) (va_A (wN G m A τ y ++ ([iC G (A 11) 8 rr])) sz9)) a9 s9 0 0 (va_A (wN G m A τ y ++ ([iC G (A 11) 8 rr])) sz9)) G (va_A (wN G m A τ y ++ ([iC G (A 11) 8 rr])) sz9) true 3 0 0 (wN G m A τ y ++ ([iC G (A 11) 8 rr])) [(0, .ref m), (1, .int (nI (nx (neN τ i).1))), (2, .int (nI i))] 18 [] := by
      intro n18
      induction n18 with
      | zero => intro i hi h1 hn18; exact absurd hn18 (Nat.not_lt_zero _)
      | succ n18 ih18 =>
        intro i hi h1 hn18
        have hn9 := ne_at hT i h1 hi
        refine g_iload_n (pc := 18) C dX7_nearest_18 2 rfl ?_
        refine g_aload_n (pc := 19) C dX7_nearest_19 0 rfl ?_
        refine g_get (pc := 20) (T := TX7) (N := 33) (v := .int (τ 8 0)) C ib_X7 0 rfl rfl 3 (by decide) mf_X7_85 rfl rfl rfl dX7_nearest_20 ?_
        refine g_top (z := nI (tQ τ)) (hT.q) ?_
        refine g_icmpN_ge (pc := 23) (i := i) (j := tQ τ) (tgt := 53) C dX7_nearest_23 (by decide) ⟨by omega, by omega⟩ (fun h23 => ?_) (fun h23 => ?_)
        · refine g_iload_n (pc := 53) C dX7_nearest_53 1 rfl ?_
          exact g_retIW (pc := 54) C rfl rfl () (rfl) (by have e9 : rcNe τ = 0 := (by first | (simp [rcNe, *]; done) | (grind [rcNe])); rw [if_pos e9] <;> (rw [← hn9.1, show i = tQ τ from by omega])) (by have e9 : rcNe τ = 0 := (by first | (simp [rcNe, *]; done) | (grind [rcNe])); rw [e9, rfI_0] <;> (rfl)) dX7_nearest_54
        · refine g_aload_n (pc := 26) C dX7_nearest_26 0 rfl ?_
          refine g_iload_n (pc := 27) C dX7_nearest_27 2 rfl ?_
          refine g_rdVI (pc := 28) (val := wrong τ i) (rest := []) C k_X7_wrongOf (c_X7_wrongOf l G m A τ y i (by first | assumption | omega | decide) (by first | assumption | omega | decide)) ml_X7_133 rfl ⟨Nat.le_of_ble_eq_true rfl, Nat.le_of_ble_eq_true rfl⟩ rfl [0, 1, 2, 3, 4, 5, 6, 7, 8] rfl 0 rfl rfl rfl rfl (Nat.le_of_ble_eq_true rfl) ⟨by decide, by decide⟩ dX7_nearest_28 ?_
          refine g_mabs (pc := 31) (v := mAbs (wrong τ i)) C ml_X7_242 rfl ⟨Nat.le_of_ble_eq_true rfl, Nat.le_of_ble_eq_true rfl⟩ ⟨by decide, by decide⟩ rfl dX7_nearest_31 ?_
          refine g_aload_n (pc := 34) C dX7_nearest_34 0 rfl ?_
          refine g_iload_n (pc := 35) C dX7_nearest_35 1 rfl ?_
          refine g_rdVI (pc := 36) (val := wrong τ (nx (neN τ i).1)) (rest := [.int (mAbs (wrong τ i))]) C k_X7_wrongOf (c_X7_wrongOf l G m A τ y (nx (neN τ i).1) (by first | assumption | omega | decide) (by first | assumption | omega | decide)) ml_X7_133 rfl ⟨Nat.le_of_ble_eq_true rfl, Nat.le_of_ble_eq_true rfl⟩ rfl [0, 1, 2, 3, 4, 5, 6, 7, 8] rfl 0 rfl rfl rfl rfl (Nat.le_of_ble_eq_true rfl) ⟨by decide, by decide⟩ dX7_nearest_36 ?_
          refine g_mabs (pc := 39) (v := mAbs (wrong τ (nx (neN τ i).1))) C ml_X7_242 rfl ⟨Nat.le_of_ble_eq_true rfl, Nat.le_of_ble_eq_true rfl⟩ ⟨by decide, by decide⟩ rfl dX7_nearest_39 ?_
          refine g_icmp_ge (pc := 42) (tgt := 47) C dX7_nearest_42 (by decide) (fun h42 => ?_) (fun h42 => ?_)
          · refine g_iinc (pc := 47) (v := nI (i + 1)) (lv' := [(2, .int (nI (i + 1))), (0, .ref m), (1, .int (nI (nx (neN τ i).1)))]) C dX7_nearest_47 2 rfl (nI_1 i) (by decide) rfl ?_
            refine g_goto (pc := 50) (tgt := 18) C dX7_nearest_50 (by decide) ?_
            refine g_sub (lv' := [(0, .ref m), (1, .int (nI (nx (neN τ i).1))), (2, .int (nI (i + 1)))]) [1, 2, 0] rfl ?_
            refine g_lv (lv' := [(0, .ref m), (1, .int (nI (nx (neN τ (i + 1)).1))), (2, .int (nI (i + 1)))]) (by rw [neN, if_neg (by rw [hn9.2.2]; exact Int32.not_lt.mpr h42)]) ?_
            exact ih18 (i + 1) (by first | assumption | omega | decide) (by first | assumption | omega | decide) (by omega)
          · refine g_iload_n (pc := 45) C dX7_nearest_45 2 rfl ?_
            refine g_istore_n (pc := 46) (lv' := [(1, .int (nI i)), (0, .ref m), (2, .int (nI i))]) C dX7_nearest_46 rfl (by decide) rfl ?_
            refine g_iinc (pc := 47) (v := nI (i + 1)) (lv' := [(2, .int (nI (i + 1))), (1, .int (nI i)), (0, .ref m)]) C dX7_nearest_47 2 rfl (nI_1 i) (by decide) rfl ?_
            refine g_goto (pc := 50) (tgt := 18) C dX7_nearest_50 (by decide) ?_
            refine g_sub (lv' := [(0, .ref m), (1, .int (nI i)), (2, .int (nI (i + 1)))]) [2, 1, 0] rfl ?_
            refine g_lv (lv' := [(0, .ref m), (1, .int (nI (nx (neN τ (i + 1)).1))), (2, .int (nI (i + 1)))]) (by rw [neN, if_pos (by rw [hn9.2.2]; exact Int32.not_le.mp h42), nx_nI (by omega)]) ?_
            exact ih18 (i + 1) (by first | assumption | omega | decide) (by first | assumption | omega | decide) (by omega)
    refine g_sub (lv' := [(0, .ref m), (1, .int 0), (2, .int 1)]) [2, 1, 0] rfl ?_
    refine g_lv (lv' := [(0, .ref m), (1, .int (nI (nx (neN τ 1).1))), (2, .int (nI 1))]) (by have e9 := (ne_at hT 1 (by decide) (by omega)).2.1; rw [show nx (neN τ 1).1 = 0 from by omega] <;> rfl) ?_
    exact key_18 _ 1 (by omega) (by first | assumption | omega | decide) (Nat.lt_succ_self _)
  · refine g_aload_n (pc := 7) C dX7_nearest_7 0 rfl ?_
    refine g_bipush (pc := 8) (v := (-5)) C dX7_nearest_8 (by decide) ?_
    refine g_wrVI (pc := 10) (rest := []) (wr := []) C (fun _ => wN G m A τ y ++ ([iC G (A 11) 8 (rfI rr (-5))])) rfl k_X7_no (c_X7_no l G m A τ y rr (-5) (by first | assumption | omega | decide)) ml_X7_81 rfl ⟨Nat.le_of_ble_eq_true rfl, Nat.le_of_ble_eq_true rfl⟩ rfl [0, 1, 2, 3, 4, 5, 6, 7, 8, 9] [] [0, 1, 2, 3, 4, 5, 6, 7, 8, 9] rfl (by decide) rfl (by decide) (by decide) (by decide) (fun _ => rfl) 0 rfl rfl rfl rfl (Nat.le_of_ble_eq_true rfl) ⟨by decide, by decide⟩ dX7_nearest_10 (fun r10 _ e10 => ?_)
    subst e10
    exact g_retIW (pc := 13) C rfl rfl () (rfl) (by have e9 : rcNe τ = (-5) := (by first | (simp [rcNe, *]; done) | (grind [rcNe])); rw [if_neg (by rw [e9] <;> (first | done | decide)), e9]) (by have e9 : rcNe τ = (-5) := (by first | (simp [rcNe, *]; done) | (grind [rcNe])); rw [e9] <;> (first | done | rfl | (rw [if_neg (by decide)] <;> (first | done | rfl)))) dX7_nearest_13
