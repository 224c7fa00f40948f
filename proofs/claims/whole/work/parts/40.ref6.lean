theorem shA_1 (τ : tT) (q t : Nat) (an : Nat → Int32) : shN τ q (frW (fun x9 => anN τ x9 t - anN τ x9 (t - 1)) an (tG τ)) (anB τ (t - 1) t) = shA τ q (t - 1) t := by
  unfold shN shA
  congr 1
  refine sumN_congr _ (fun k hk => ?_)
  rw [frW_lt hk]
set_option maxRecDepth 20000 in
set_option maxHeartbeats 4000000 in
theorem c_X7_enough (l : Launch) (G : gT) (m : Nat) (A : Nat → Nat) (τ : tT) (y : Nat → Int32) (le : Nat → Int32) (an : Nat → Int32) (q : Int32) (v : Int32) (rr : Nat → Int32) (hT : TI τ) : WI l yX7_enough cX7_enough 4 (some .int) 12 0 0 G [.ref m, .int q, .int v] (wN G m A τ y ++ ([iC G (A 16) 10 an, iC G (A 17) 10 le, iC G (A 11) 8 rr])) (S := (Nat → Int32) × (Nat → Int32)) (fun r _ => r = if rcEn τ q v = 0 then enF τ (nx q) v 10 0 else -10 + (rcEn τ q v)) (fun u => wN G m A τ y ++ ([iC G (A 16) 10 u.1, iC G (A 17) 10 u.2, iC G (A 11) 8 (rfI rr (rcEn τ q v))])) := by
  have hg10 := hT.g10
  have hq8 := hT.q8
  intro sz9
  refine start_W (by decide) (Nat.le_of_ble_eq_true rfl) (fun p9 e9 s9 m9 a9 b9 t9 c9 C => ?_)
  refine g_lv (lv' := [(0, .ref m), (1, .int q), (2, .int v)]) rfl ?_
  refine g_aload_n (pc := 0) C dX7_enough_0 0 rfl ?_
  refine g_iload_n (pc := 1) C dX7_enough_1 1 rfl ?_
  refine g_rdVI (pc := 2) (val := bI (0 ≤ q ∧ q ≤ nI (tQ τ) - 1)) (rest := []) C k_X7_isQuestion (c_X7_isQuestion l G m A τ y q (by first | assumption | omega | decide)) ml_X7_102 rfl ⟨Nat.le_of_ble_eq_true rfl, Nat.le_of_ble_eq_true rfl⟩ rfl [0, 1, 2, 3, 4, 5, 6, 7, 8] rfl 0 rfl rfl rfl rfl (Nat.le_of_ble_eq_true rfl) ⟨by decide, by decide⟩ dX7_enough_2 ?_
  refine g_ifb_ne (pc := 5) (tgt := 14) C dX7_enough_5 (by decide) (fun h5 => ?_) (fun h5 => ?_)
  · obtain ⟨q8, hq8, rfl⟩ := isQ_nI hT h5
    have eq8 : nx (nI q8) = q8 := nx_nI (by omega)
    refine g_iload_n (pc := 14) C dX7_enough_14 2 rfl ?_
    refine g_iconst (pc := 15) (v := 0) C dX7_enough_15 (by decide) ?_
    refine g_sipush (pc := 16) (v := 1000) C dX7_enough_16 (by decide) ?_
    refine g_rdSI (pc := 19) (val := bI (0 ≤ v ∧ v ≤ 1000)) (rest := []) C k_X7_within (c_X7_within l G v 0 1000) ml_X7_88 rfl ⟨Nat.le_of_ble_eq_true rfl, Nat.le_of_ble_eq_true rfl⟩ rfl [] rfl rfl (Nat.le_of_ble_eq_true rfl) ⟨by decide, by decide⟩ dX7_enough_19 ?_
    refine g_ifb_ne (pc := 22) (tgt := 32) C dX7_enough_22 (by decide) (fun h22 => ?_) (fun h22 => ?_)
    · refine g_iconst (pc := 32) (v := 0) C dX7_enough_32 (by decide) ?_
      refine g_istore_n (pc := 33) (lv' := [(3, .int 0), (0, .ref m), (1, .int (nI q8)), (2, .int v)]) C dX7_enough_33 rfl (by decide) rfl ?_
      have key_34 : ∀ (n34 : Nat) (i : Nat) (n : Nat) (an2 : Nat → Int32) (le2 : Nat → Int32) (hn : n + i = 10) (hv : enF τ q8 v 10 0 = enF τ q8 v n i), n < n34 → GW p9 l e9 (rmh 12 0 0) s9 m9 a9 b9 t9 c9 (MQ b9 (va_Qi (fun r (_ : (Nat → Int32) × (Nat → Int32)) => r = if rcEn τ (nI q8) v = 0 then enF τ (nx (nI q8)) v 10 0 else -10 + (rcEn τ (nI q8) v)) (BW G (wN G m A τ y ++ ([iC G (A 16) 10 an, iC G (A 17) 10 le, iC G (A 11) 8 rr])) sz9 (fun u => wN G m A τ y ++ ([iC G (A 16) 10 u.1, iC G (A 17) 10 u.2, iC G (A 11) 8 (rfI rr (rcEn τ (nI q8) v))]))) (va_A (wN G m A τ y ++ ([iC G (A 16) 10 an, iC G (A 17) 10 le, iC G (A 11) 8 rr])) sz9)) a9 s9 0 0 (va_A (wN G m A τ y ++ ([iC G (A 16) 10 an, iC G (A 17) 10 le, iC G (A 11) 8 rr])) sz9)) G (va_A (wN G m A τ y ++ ([iC G (A 16) 10 an, iC G (A 17) 10 le, iC G (A 11) 8 rr])) sz9) true 4 0 0 (wN G m A τ y ++ ([iC G (A 16) 10 an2, iC G (A 17) 10 le2, iC G (A 11) 8 rr])) [(0, .ref m), (1, .int (nI q8)), (2, .int v), (3, .int (nI i))] 34 [] := by
        intro n34
        induction n34 with
        | zero => intro i n an2 le2 hn hv hn34; exact absurd hn34 (Nat.not_lt_zero _)
        | succ n34 ih34 =>
          intro i n an2 le2 hn hv hn34
          refine g_iload_n (pc := 34) C dX7_enough_34 3 rfl ?_
          refine g_bipush (pc := 35) (v := 10) C dX7_enough_35 (by decide) ?_
          refine g_icmpN_ge (pc := 37) (i := i) (j := 10) (tgt := 61) C dX7_enough_37 (by decide) ⟨by omega, by omega⟩ (fun h37 => ?_) (fun h37 => ?_)
          · refine g_iconst (pc := 61) (v := (-1)) C dX7_enough_61 (by decide) ?_
            exact g_retIW (pc := 62) C rfl rfl (an2, le2) (rfl) (by have e9 : rcEn τ (nI q8) v = 0 := (by first | (simp [rcEn, *]; done) | (grind [rcEn])); rw [if_pos e9] <;> (rw [eq8, hv, show n = 0 from by omega] <;> rfl)) (by have e9 : rcEn τ (nI q8) v = 0 := (by first | (simp [rcEn, *]; done) | (grind [rcEn])); rw [e9, rfI_0] <;> (rfl)) dX7_enough_62
          · refine g_aload_n (pc := 40) C dX7_enough_40 0 rfl ?_
            refine g_iload_n (pc := 41) C dX7_enough_41 1 rfl ?_
            refine g_iload_n (pc := 42) C dX7_enough_42 3 rfl ?_
            refine g_wrVI (pc := 43) (rest := []) (wr := [iC G (A 11) 8 rr]) C (fun _ => wN G m A τ y ++ ([iC G (A 16) 10 (frW (fun x9 => anN τ x9 i) an2 (tG τ)), iC G (A 17) 10 (frW (fun x9 => lfN τ x9 i) le2 (tG τ)), iC G (A 11) 8 rr])) rfl k_X7_offBy (c_X7_offBy l G m A τ y le2 an2 q8 i (by first | assumption | omega | decide) (by first | assumption | omega | decide) (by first | assumption | omega | decide)) ml_X7_229 rfl ⟨Nat.le_of_ble_eq_true rfl, Nat.le_of_ble_eq_true rfl⟩ rfl [0, 1, 2, 3, 4, 5, 6, 7, 8, 9, 10] [11] [1, 2, 3, 4, 5, 6, 7, 8, 9, 10, 11, 0] rfl (by decide) rfl (by decide) (by decide) (by decide) (fun _ => rfl) 0 rfl rfl rfl rfl (Nat.le_of_ble_eq_true rfl) ⟨by decide, by decide⟩ dX7_enough_43 (fun r43 _ e43 => ?_)
            subst e43
            refine g_mabs (pc := 46) (v := mAbs (off τ q8 i)) C ml_X7_242 rfl ⟨Nat.le_of_ble_eq_true rfl, Nat.le_of_ble_eq_true rfl⟩ ⟨by decide, by decide⟩ rfl dX7_enough_46 ?_
            refine g_iload_n (pc := 49) C dX7_enough_49 2 rfl ?_
            refine g_icmp_gt (pc := 50) (tgt := 55) C dX7_enough_50 (by decide) (fun h50 => ?_) (fun h50 => ?_)
            · refine g_iinc (pc := 55) (v := nI (i + 1)) (lv' := [(3, .int (nI (i + 1))), (0, .ref m), (1, .int (nI q8)), (2, .int v)]) C dX7_enough_55 3 rfl (nI_1 i) (by decide) rfl ?_
              refine g_goto (pc := 58) (tgt := 34) C dX7_enough_58 (by decide) ?_
              refine g_ws (ws' := wN G m A τ y ++ ([iC G (A 16) 10 (frW (fun x9 => anN τ x9 i) an2 (tG τ)), iC G (A 17) 10 (frW (fun x9 => lfN τ x9 i) le2 (tG τ)), iC G (A 11) 8 rr])) (rfl) ?_
              refine g_sub (lv' := [(0, .ref m), (1, .int (nI q8)), (2, .int v), (3, .int (nI (i + 1)))]) [1, 2, 3, 0] rfl ?_
              exact ih34 (i + 1) (n - 1) (frW (fun x9 => anN τ x9 i) an2 (tG τ)) (frW (fun x9 => lfN τ x9 i) le2 (tG τ)) (by omega) (by rw [hv, show n = (n - 1) + 1 from by omega, enF, if_neg (Int32.not_le.mpr h50)]; rfl) (by omega)
            · refine g_iload_n (pc := 53) C dX7_enough_53 3 rfl ?_
              exact g_retIW (pc := 54) C rfl rfl (frW (fun x9 => anN τ x9 i) an2 (tG τ), frW (fun x9 => lfN τ x9 i) le2 (tG τ)) (rfl) (by have e9 : rcEn τ (nI q8) v = 0 := (by first | (simp [rcEn, *]; done) | (grind [rcEn])); rw [if_pos e9] <;> (rw [eq8, hv, show n = (n - 1) + 1 from by omega, enF, if_pos (Int32.not_lt.mp h50)])) (by have e9 : rcEn τ (nI q8) v = 0 := (by first | (simp [rcEn, *]; done) | (grind [rcEn])); rw [e9, rfI_0] <;> (rfl)) dX7_enough_54
      refine g_ws (ws' := wN G m A τ y ++ ([iC G (A 16) 10 an, iC G (A 17) 10 le, iC G (A 11) 8 rr])) (rfl) ?_
      refine g_sub (lv' := [(0, .ref m), (1, .int (nI q8)), (2, .int v), (3, .int (nI 0))]) [1, 2, 3, 0] rfl ?_
      exact key_34 _ 0 10 an le (by first | assumption | omega | decide) rfl (Nat.lt_succ_self _)
    · refine g_aload_n (pc := 25) C dX7_enough_25 0 rfl ?_
      refine g_bipush (pc := 26) (v := (-6)) C dX7_enough_26 (by decide) ?_
      refine g_wrVI (pc := 28) (rest := []) (wr := [iC G (A 16) 10 an, iC G (A 17) 10 le]) C (fun _ => wN G m A τ y ++ ([iC G (A 16) 10 an, iC G (A 17) 10 le, iC G (A 11) 8 (rfI rr (-6))])) rfl k_X7_no10 (c_X7_no10 l G m A τ y rr (-6) (by first | assumption | omega | decide)) ml_X7_266 rfl ⟨Nat.le_of_ble_eq_true rfl, Nat.le_of_ble_eq_true rfl⟩ rfl [0, 1, 2, 3, 4, 5, 6, 7, 8, 11] [9, 10] [2, 3, 4, 5, 6, 7, 8, 9, 10, 0, 1, 11] rfl (by decide) rfl (by decide) (by decide) (by decide) (fun _ => rfl) 0 rfl rfl rfl rfl (Nat.le_of_ble_eq_true rfl) ⟨by decide, by decide⟩ dX7_enough_28 (fun r28 _ e28 => ?_)
      subst e28
      exact g_retIW (pc := 31) C rfl rfl (an, le) (rfl) (by have e9 : rcEn τ (nI q8) v = (-6) := (by first | (simp [rcEn, *]; done) | (grind [rcEn])); rw [if_neg (by rw [e9] <;> (first | done | decide)), e9]) (by have e9 : rcEn τ (nI q8) v = (-6) := (by first | (simp [rcEn, *]; done) | (grind [rcEn])); rw [e9] <;> (first | done | rfl | (rw [if_neg (by decide)] <;> (first | done | rfl)))) dX7_enough_31
  · refine g_aload_n (pc := 8) C dX7_enough_8 0 rfl ?_
    refine g_iconst (pc := 9) (v := (-1)) C dX7_enough_9 (by decide) ?_
    refine g_wrVI (pc := 10) (rest := []) (wr := [iC G (A 16) 10 an, iC G (A 17) 10 le]) C (fun _ => wN G m A τ y ++ ([iC G (A 16) 10 an, iC G (A 17) 10 le, iC G (A 11) 8 (rfI rr (-1))])) rfl k_X7_no10 (c_X7_no10 l G m A τ y rr (-1) (by first | assumption | omega | decide)) ml_X7_266 rfl ⟨Nat.le_of_ble_eq_true rfl, Nat.le_of_ble_eq_true rfl⟩ rfl [0, 1, 2, 3, 4, 5, 6, 7, 8, 11] [9, 10] [2, 3, 4, 5, 6, 7, 8, 9, 10, 0, 1, 11] rfl (by decide) rfl (by decide) (by decide) (by decide) (fun _ => rfl) 0 rfl rfl rfl rfl (Nat.le_of_ble_eq_true rfl) ⟨by decide, by decide⟩ dX7_enough_10 (fun r10 _ e10 => ?_)
    subst e10
    exact g_retIW (pc := 13) C rfl rfl (an, le) (rfl) (by have e9 : rcEn τ q v = (-1) := (by first | (simp [rcEn, *]; done) | (grind [rcEn])); rw [if_neg (by rw [e9] <;> (first | done | decide)), e9]) (by have e9 : rcEn τ q v = (-1) := (by first | (simp [rcEn, *]; done) | (grind [rcEn])); rw [e9] <;> (first | done | rfl | (rw [if_neg (by decide)] <;> (first | done | rfl)))) dX7_enough_13
set_option maxRecDepth 20000 in
set_option maxHeartbeats 4000000 in
theorem c_X7_costOf (l : Launch) (G : gT) (m : Nat) (A : Nat → Nat) (τ : tT) (y : Nat → Int32) (le : Nat → Int32) (an : Nat → Int32) (t : Nat) (hT : TI τ) (ht : t ≤ 9) : WI l yX7_costOf cX7_costOf 5 (some .int) 2 0 0 G [.ref m, .int (nI t)] (wN G m A τ y ++ ([iC G (A 16) 10 an, iC G (A 17) 10 le])) (S := (Nat → Int32) × (Nat → Int32)) (fun r _ => r = cost τ t) (fun u => wN G m A τ y ++ ([iC G (A 16) 10 u.1, iC G (A 17) 10 u.2])) := by
  have hg10 := hT.g10
  have hq8 := hT.q8
  intro sz9
  refine start_W (by decide) (Nat.le_of_ble_eq_true rfl) (fun p9 e9 s9 m9 a9 b9 t9 c9 C => ?_)
  refine g_lv (lv' := [(0, .ref m), (1, .int (nI t))]) rfl ?_
  refine g_iconst (pc := 0) (v := 0) C dX7_costOf_0 (by decide) ?_
  refine g_istore_n (pc := 1) (lv' := [(2, .int 0), (0, .ref m), (1, .int (nI t))]) C dX7_costOf_1 rfl (by decide) rfl ?_
  refine g_iconst (pc := 2) (v := 0) C dX7_costOf_2 (by decide) ?_
  refine g_istore_n (pc := 3) (lv' := [(3, .int 0), (2, .int 0), (0, .ref m), (1, .int (nI t))]) C dX7_costOf_3 rfl (by decide) rfl ?_
  have key_4 : ∀ (n4 : Nat) (i : Nat) (an2 : Nat → Int32) (le2 : Nat → Int32) (hi : i ≤ t), t - i < n4 → GW p9 l e9 (rmh 2 0 0) s9 m9 a9 b9 t9 c9 (MQ b9 (va_Qi (fun r (_ : (Nat → Int32) × (Nat → Int32)) => r = cost τ t) (BW G (wN G m A τ y ++ ([iC G (A 16) 10 an, iC G (A 17) 10 le])) sz9 (fun u => wN G m A τ y ++ ([iC G (A 16) 10 u.1, iC G (A 17) 10 u.2]))) (va_A (wN G m A τ y ++ ([iC G (A 16) 10 an, iC G (A 17) 10 le])) sz9)) a9 s9 0 0 (va_A (wN G m A τ y ++ ([iC G (A 16) 10 an, iC G (A 17) 10 le])) sz9)) G (va_A (wN G m A τ y ++ ([iC G (A 16) 10 an, iC G (A 17) 10 le])) sz9) true 5 0 0 (wN G m A τ y ++ ([iC G (A 16) 10 an2, iC G (A 17) 10 le2])) [(0, .ref m), (1, .int (nI t)), (2, .int (τ 8 2 * sumN (lfB τ) i)), (3, .int (nI i))] 4 [] := by
    intro n4
    induction n4 with
    | zero => intro i an2 le2 hi hn4; exact absurd hn4 (Nat.not_lt_zero _)
    | succ n4 ih4 =>
      intro i an2 le2 hi hn4
      refine g_iload_n (pc := 4) C dX7_costOf_4 3 rfl ?_
      refine g_iload_n (pc := 5) C dX7_costOf_5 1 rfl ?_
      refine g_icmpN_ge (pc := 6) (i := i) (j := t) (tgt := 54) C dX7_costOf_6 (by decide) ⟨by omega, by omega⟩ (fun h6 => ?_) (fun h6 => ?_)
      · refine g_iload_n (pc := 54) C dX7_costOf_54 2 rfl ?_
        exact g_retIW (pc := 55) C rfl rfl (an2, le2) (rfl) (by rw [show i = t from by omega]; rfl) (by rfl) dX7_costOf_55
      · refine g_aload_n (pc := 9) C dX7_costOf_9 0 rfl ?_
        refine g_iload_n (pc := 10) C dX7_costOf_10 3 rfl ?_
        refine g_wrVI (pc := 11) (rest := []) (wr := []) C (fun _ => wN G m A τ y ++ ([iC G (A 16) 10 (frW (fun x9 => anN τ x9 i) an2 (tG τ)), iC G (A 17) 10 (frW (fun x9 => lfN τ x9 i) le2 (tG τ))])) rfl k_X7_answered (c_X7_answered l G m A τ y le2 an2 i (by first | assumption | omega) (by first | assumption | omega)) ml_X7_220 rfl ⟨Nat.le_of_ble_eq_true rfl, Nat.le_of_ble_eq_true rfl⟩ rfl [0, 1, 2, 3, 4, 5, 6, 7, 8, 9, 10] [] [0, 1, 2, 3, 4, 5, 6, 7, 8, 9, 10] rfl (by decide) rfl (by decide) (by decide) (by decide) (fun _ => rfl) 0 rfl rfl rfl rfl (Nat.le_of_ble_eq_true rfl) ⟨by decide, by decide⟩ dX7_costOf_11 (fun r11 _ e11 => ?_)
        subst e11
        refine g_pop (pc := 14) C dX7_costOf_14 rfl ?_
        refine g_iconst (pc := 15) (v := 0) C dX7_costOf_15 (by decide) ?_
        refine g_istore (pc := 16) (lv' := [(4, .int 0), (0, .ref m), (1, .int (nI t)), (2, .int (τ 8 2 * sumN (lfB τ) i)), (3, .int (nI i))]) C dX7_costOf_16 (by decide) rfl ?_
        have key_18 : ∀ (n18 : Nat) (j : Nat) (hj : j ≤ tG τ), tG τ - j < n18 → GW p9 l e9 (rmh 2 0 0) s9 m9 a9 b9 t9 c9 (MQ b9 (va_Qi (fun r (_ : (Nat → Int32) × (Nat → Int32)) => r = cost τ t) (BW G (wN G m A τ y ++ ([iC G (A 16) 10 an, iC G (A 17) 10 le])) sz9 (fun u => wN G m A τ y ++ ([iC G (A 16) 10 u.1, iC G (A 17) 10 u.2]))) (va_A (wN G m A τ y ++ ([iC G (A 16) 10 an, iC G (A 17) 10 le])) sz9)) a9 s9 0 0 (va_A (wN G m A τ y ++ ([iC G (A 16) 10 an, iC G (A 17) 10 le])) sz9)) G (va_A (wN G m A τ y ++ ([iC G (A 16) 10 an, iC G (A 17) 10 le])) sz9) true 5 0 0 (wN G m A τ y ++ ([iC G (A 16) 10 (frW (fun x9 => anN τ x9 i) an2 (tG τ)), iC G (A 17) 10 (frW (fun x9 => lfN τ x9 i) le2 (tG τ))])) [(0, .ref m), (1, .int (nI t)), (2, .int (τ 8 2 * sumN (lfB τ) i + τ 8 2 * sumN (fun x9 => lfN τ x9 i) j)), (3, .int (nI i)), (4, .int (nI j))] 18 [] := by
          intro n18
          induction n18 with
          | zero => intro j hj hn18; exact absurd hn18 (Nat.not_lt_zero _)
          | succ n18 ih18 =>
            intro j hj hn18
            refine g_iload (pc := 18) C dX7_costOf_18 4 rfl ?_
            refine g_aload_n (pc := 20) C dX7_costOf_20 0 rfl ?_
            refine g_get (pc := 21) (T := TX7) (N := 33) (v := .int (τ 8 1)) C ib_X7 0 rfl rfl 7 (by decide) mf_X7_92 rfl rfl rfl dX7_costOf_21 ?_
            refine g_top (z := nI (tG τ)) (hT.g) ?_
            refine g_icmpN_ge (pc := 24) (i := j) (j := tG τ) (tgt := 48) C dX7_costOf_24 (by decide) ⟨by omega, by omega⟩ (fun h24 => ?_) (fun h24 => ?_)
            · refine g_iinc (pc := 48) (v := nI (i + 1)) (lv' := [(3, .int (nI (i + 1))), (0, .ref m), (1, .int (nI t)), (2, .int (τ 8 2 * sumN (lfB τ) i + τ 8 2 * sumN (fun x9 => lfN τ x9 i) j)), (4, .int (nI j))]) C dX7_costOf_48 3 rfl (nI_1 i) (by decide) rfl ?_
              refine g_goto (pc := 51) (tgt := 4) C dX7_costOf_51 (by decide) ?_
              refine g_ws (ws' := wN G m A τ y ++ ([iC G (A 16) 10 (frW (fun x9 => anN τ x9 i) an2 (tG τ)), iC G (A 17) 10 (frW (fun x9 => lfN τ x9 i) le2 (tG τ))])) (rfl) ?_
              refine g_sub (lv' := [(0, .ref m), (1, .int (nI t)), (2, .int (τ 8 2 * sumN (lfB τ) i + τ 8 2 * sumN (fun x9 => lfN τ x9 i) j)), (3, .int (nI (i + 1)))]) [1, 2, 3, 0] rfl ?_
              refine g_lv (lv' := [(0, .ref m), (1, .int (nI t)), (2, .int (τ 8 2 * sumN (lfB τ) (i + 1))), (3, .int (nI (i + 1)))]) (by rw [show j = tG τ from by omega, sumN, Int32.mul_add]; rfl) ?_
              exact ih4 (i + 1) (frW (fun x9 => anN τ x9 i) an2 (tG τ)) (frW (fun x9 => lfN τ x9 i) le2 (tG τ)) (by first | assumption | omega) (by omega)
            · refine g_iload_n (pc := 27) C dX7_costOf_27 2 rfl ?_
              refine g_aload_n (pc := 28) C dX7_costOf_28 0 rfl ?_
              refine g_get (pc := 29) (T := TX7) (N := 33) (v := .int (τ 8 2)) C ib_X7 0 rfl rfl 13 (by decide) mf_X7_71 rfl rfl rfl dX7_costOf_29 ?_
              refine g_aload_n (pc := 32) C dX7_costOf_32 0 rfl ?_
              refine g_get (pc := 33) (T := TX7) (N := 33) (v := .ref (A 17)) C ib_X7 0 rfl rfl 29 (by decide) mf_X7_62 rfl rfl rfl dX7_costOf_33 ?_
              refine g_iload (pc := 36) C dX7_costOf_36 4 rfl ?_
              refine g_iald (pc := 38) (v := lfN τ j i) C 10 rfl j (rfl) ⟨by omega, by decide⟩ (frW_lt (by omega)) dX7_costOf_38 ?_
              refine g_imul (pc := 39) C dX7_costOf_39 ?_
              refine g_iadd (pc := 40) C dX7_costOf_40 ?_
              refine g_istore_n (pc := 41) (lv' := [(2, .int ((τ 8 2 * sumN (lfB τ) i + τ 8 2 * sumN (fun x9 => lfN τ x9 i) j) + ((τ 8 2) * (lfN τ j i)))), (0, .ref m), (1, .int (nI t)), (3, .int (nI i)), (4, .int (nI j))]) C dX7_costOf_41 rfl (by decide) rfl ?_
              refine g_iinc (pc := 42) (v := nI (j + 1)) (lv' := [(4, .int (nI (j + 1))), (2, .int ((τ 8 2 * sumN (lfB τ) i + τ 8 2 * sumN (fun x9 => lfN τ x9 i) j) + ((τ 8 2) * (lfN τ j i)))), (0, .ref m), (1, .int (nI t)), (3, .int (nI i))]) C dX7_costOf_42 4 rfl (nI_1 j) (by decide) rfl ?_
              refine g_goto (pc := 45) (tgt := 18) C dX7_costOf_45 (by decide) ?_
              refine g_ws (ws' := wN G m A τ y ++ ([iC G (A 16) 10 (frW (fun x9 => anN τ x9 i) an2 (tG τ)), iC G (A 17) 10 (frW (fun x9 => lfN τ x9 i) le2 (tG τ))])) (rfl) ?_
              refine g_sub (lv' := [(0, .ref m), (1, .int (nI t)), (2, .int ((τ 8 2 * sumN (lfB τ) i + τ 8 2 * sumN (fun x9 => lfN τ x9 i) j) + ((τ 8 2) * (lfN τ j i)))), (3, .int (nI i)), (4, .int (nI (j + 1)))]) [2, 3, 1, 4, 0] rfl ?_
              refine g_lv (lv' := [(0, .ref m), (1, .int (nI t)), (2, .int (τ 8 2 * sumN (lfB τ) i + τ 8 2 * sumN (fun x9 => lfN τ x9 i) (j + 1))), (3, .int (nI i)), (4, .int (nI (j + 1)))]) (by rw [sumN, Int32.mul_add, ← Int32.add_assoc] <;> rfl) ?_
              exact ih18 (j + 1) (by first | assumption | omega) (by omega)
        refine g_ws (ws' := wN G m A τ y ++ ([iC G (A 16) 10 (frW (fun x9 => anN τ x9 i) an2 (tG τ)), iC G (A 17) 10 (frW (fun x9 => lfN τ x9 i) le2 (tG τ))])) (rfl) ?_
        refine g_sub (lv' := [(0, .ref m), (1, .int (nI t)), (2, .int (τ 8 2 * sumN (lfB τ) i)), (3, .int (nI i)), (4, .int 0)]) [1, 2, 3, 4, 0] rfl ?_
        refine g_lv (lv' := [(0, .ref m), (1, .int (nI t)), (2, .int (τ 8 2 * sumN (lfB τ) i + τ 8 2 * sumN (fun x9 => lfN τ x9 i) 0)), (3, .int (nI i)), (4, .int (nI 0))]) (by rw [show sumN (fun x9 => lfN τ x9 i) 0 = 0 from rfl, Int32.mul_zero, Int32.add_zero] <;> rfl) ?_
        exact key_18 _ 0 (by first | assumption | omega) (Nat.lt_succ_self _)
  refine g_ws (ws' := wN G m A τ y ++ ([iC G (A 16) 10 an, iC G (A 17) 10 le])) (rfl) ?_
  refine g_sub (lv' := [(0, .ref m), (1, .int (nI t)), (2, .int 0), (3, .int 0)]) [2, 3, 1, 0] rfl ?_
  refine g_lv (lv' := [(0, .ref m), (1, .int (nI t)), (2, .int (τ 8 2 * sumN (lfB τ) 0)), (3, .int (nI 0))]) (by rw [sumN, Int32.mul_zero] <;> rfl) ?_
  exact key_4 _ 0 an le (by first | assumption | omega) (Nat.lt_succ_self _)
set_option maxRecDepth 20000 in
set_option maxHeartbeats 4000000 in
theorem c_X7_by (l : Launch) (G : gT) (m : Nat) (A : Nat → Nat) (τ : tT) (y : Nat → Int32) (le : Nat → Int32) (an : Nat → Int32) (q : Int32) (tt : Int32) (k : Int32) (rr : Nat → Int32) (hT : TI τ) : WI l yX7_by cX7_by 4 (some .int) 12 0 0 G [.ref m, .int q, .int tt, .int k] (wN G m A τ y ++ ([iC G (A 16) 10 an, iC G (A 17) 10 le, iC G (A 11) 8 rr])) (S := (Nat → Int32) × (Nat → Int32)) (fun r _ => r = if rcBy τ q tt k = 0 then (if k = 0 then shA τ (nx q) 0 (nx tt) else off τ (nx q) (nx tt)) else -10000 + (rcBy τ q tt k)) (fun u => wN G m A τ y ++ ([iC G (A 16) 10 u.1, iC G (A 17) 10 u.2, iC G (A 11) 8 (rfI rr (rcBy τ q tt k))])) := by
  have hg10 := hT.g10
  have hq8 := hT.q8
  intro sz9
  refine start_W (by decide) (Nat.le_of_ble_eq_true rfl) (fun p9 e9 s9 m9 a9 b9 t9 c9 C => ?_)
  refine g_lv (lv' := [(0, .ref m), (1, .int q), (2, .int tt), (3, .int k)]) rfl ?_
  refine g_aload_n (pc := 0) C dX7_by_0 0 rfl ?_
  refine g_iload_n (pc := 1) C dX7_by_1 1 rfl ?_
  refine g_rdVI (pc := 2) (val := bI (0 ≤ q ∧ q ≤ nI (tQ τ) - 1)) (rest := []) C k_X7_isQuestion (c_X7_isQuestion l G m A τ y q (by first | assumption | omega | decide)) ml_X7_102 rfl ⟨Nat.le_of_ble_eq_true rfl, Nat.le_of_ble_eq_true rfl⟩ rfl [0, 1, 2, 3, 4, 5, 6, 7, 8] rfl 0 rfl rfl rfl rfl (Nat.le_of_ble_eq_true rfl) ⟨by decide, by decide⟩ dX7_by_2 ?_
  refine g_ifb_ne (pc := 5) (tgt := 14) C dX7_by_5 (by decide) (fun h5 => ?_) (fun h5 => ?_)
  · obtain ⟨q8, hq8, rfl⟩ := isQ_nI hT h5
    have eq8 : nx (nI q8) = q8 := nx_nI (by omega)
    refine g_iload_n (pc := 14) C dX7_by_14 3 rfl ?_
    refine g_iconst (pc := 15) (v := 0) C dX7_by_15 (by decide) ?_
    refine g_iconst (pc := 16) (v := 1) C dX7_by_16 (by decide) ?_
    refine g_rdSI (pc := 17) (val := bI (0 ≤ k ∧ k ≤ 1)) (rest := []) C k_X7_within (c_X7_within l G k 0 1) ml_X7_88 rfl ⟨Nat.le_of_ble_eq_true rfl, Nat.le_of_ble_eq_true rfl⟩ rfl [] rfl rfl (Nat.le_of_ble_eq_true rfl) ⟨by decide, by decide⟩ dX7_by_17 ?_
    refine g_ifb_ne (pc := 20) (tgt := 30) C dX7_by_20 (by decide) (fun h20 => ?_) (fun h20 => ?_)
    · refine g_iload_n (pc := 30) C dX7_by_30 2 rfl ?_
      refine g_rdSI (pc := 31) (val := bI (0 ≤ tt ∧ tt ≤ 9)) (rest := []) C k_X7_isTries (c_X7_isTries l G tt) ml_X7_223 rfl ⟨Nat.le_of_ble_eq_true rfl, Nat.le_of_ble_eq_true rfl⟩ rfl [] rfl rfl (Nat.le_of_ble_eq_true rfl) ⟨by decide, by decide⟩ dX7_by_31 ?_
      refine g_ifb_ne (pc := 34) (tgt := 44) C dX7_by_34 (by decide) (fun h34 => ?_) (fun h34 => ?_)
      · obtain ⟨tt8, htt8, rfl⟩ := (lt_Q (n := 10) (by decide)).mp h34
        have ett8 : nx (nI tt8) = tt8 := nx_nI (by omega)
        refine g_iload_n (pc := 44) C dX7_by_44 3 rfl ?_
        refine g_if_ne (pc := 45) (tgt := 61) C dX7_by_45 (by decide) (fun h45 => ?_) (fun h45 => ?_)
        · refine g_aload_n (pc := 61) C dX7_by_61 0 rfl ?_
          refine g_iload_n (pc := 62) C dX7_by_62 1 rfl ?_
          refine g_iload_n (pc := 63) C dX7_by_63 2 rfl ?_
          refine g_wrVI (pc := 64) (rest := []) (wr := [iC G (A 11) 8 rr]) C (fun _ => wN G m A τ y ++ ([iC G (A 16) 10 (frW (fun x9 => anN τ x9 tt8) an (tG τ)), iC G (A 17) 10 (frW (fun x9 => lfN τ x9 tt8) le (tG τ)), iC G (A 11) 8 rr])) rfl k_X7_offBy (c_X7_offBy l G m A τ y le an q8 tt8 (by first | assumption | omega | decide) (by first | assumption | omega | decide) (by first | assumption | omega | decide)) ml_X7_229 rfl ⟨Nat.le_of_ble_eq_true rfl, Nat.le_of_ble_eq_true rfl⟩ rfl [0, 1, 2, 3, 4, 5, 6, 7, 8, 9, 10] [11] [1, 2, 3, 4, 5, 6, 7, 8, 9, 10, 11, 0] rfl (by decide) rfl (by decide) (by decide) (by decide) (fun _ => rfl) 0 rfl rfl rfl rfl (Nat.le_of_ble_eq_true rfl) ⟨by decide, by decide⟩ dX7_by_64 (fun r64 _ e64 => ?_)
          subst e64
          exact g_retIW (pc := 67) C rfl rfl (frW (fun x9 => anN τ x9 tt8) an (tG τ), frW (fun x9 => lfN τ x9 tt8) le (tG τ)) (rfl) (by have e9 : rcBy τ (nI q8) (nI tt8) k = 0 := (by first | (simp [rcBy, *]; done) | (grind [rcBy])); rw [if_pos e9] <;> (simp [shA_0, eq8, ett8, *])) (by have e9 : rcBy τ (nI q8) (nI tt8) k = 0 := (by first | (simp [rcBy, *]; done) | (grind [rcBy])); rw [e9, rfI_0] <;> (rfl)) dX7_by_67
        · refine g_aload_n (pc := 48) C dX7_by_48 0 rfl ?_
          refine g_iload_n (pc := 49) C dX7_by_49 1 rfl ?_
          refine g_aload_n (pc := 50) C dX7_by_50 0 rfl ?_
          refine g_iload_n (pc := 51) C dX7_by_51 2 rfl ?_
          refine g_wrVI (pc := 52) (rest := [.int (nI q8), .ref m]) (wr := [iC G (A 11) 8 rr]) C (fun _ => wN G m A τ y ++ ([iC G (A 16) 10 (frW (fun x9 => anN τ x9 tt8) an (tG τ)), iC G (A 17) 10 (frW (fun x9 => lfN τ x9 tt8) le (tG τ)), iC G (A 11) 8 rr])) rfl k_X7_answered (c_X7_answered l G m A τ y le an tt8 (by first | assumption | omega | decide) (by first | assumption | omega | decide)) ml_X7_220 rfl ⟨Nat.le_of_ble_eq_true rfl, Nat.le_of_ble_eq_true rfl⟩ rfl [0, 1, 2, 3, 4, 5, 6, 7, 8, 9, 10] [11] [1, 2, 3, 4, 5, 6, 7, 8, 9, 10, 11, 0] rfl (by decide) rfl (by decide) (by decide) (by decide) (fun _ => rfl) 0 rfl rfl rfl rfl (Nat.le_of_ble_eq_true rfl) ⟨by decide, by decide⟩ dX7_by_52 (fun r52 _ e52 => ?_)
          subst e52
          refine g_rdVI (pc := 55) (val := shN τ q8 (frW (fun x9 => anN τ x9 tt8) an (tG τ)) (sumN (fun x9 => anN τ x9 tt8) (tG τ))) (rest := []) C k_X7_shareOfAnswers (c_X7_shareOfAnswers l G m A τ y (frW (fun x9 => anN τ x9 tt8) an (tG τ)) q8 (sumN (fun x9 => anN τ x9 tt8) (tG τ)) (by first | assumption | omega | decide) (by first | assumption | omega | decide)) ml_X7_226 rfl ⟨Nat.le_of_ble_eq_true rfl, Nat.le_of_ble_eq_true rfl⟩ rfl [0, 1, 2, 3, 4, 5, 6, 7, 8, 9] rfl 0 rfl rfl rfl rfl (Nat.le_of_ble_eq_true rfl) ⟨by decide, by decide⟩ dX7_by_55 ?_
          refine g_goto (pc := 58) (tgt := 67) C dX7_by_58 (by decide) ?_
          exact g_retIW (pc := 67) C rfl rfl (frW (fun x9 => anN τ x9 tt8) an (tG τ), frW (fun x9 => lfN τ x9 tt8) le (tG τ)) (rfl) (by have e9 : rcBy τ (nI q8) (nI tt8) k = 0 := (by first | (simp [rcBy, *]; done) | (grind [rcBy])); rw [if_pos e9] <;> (simp [shA_0, eq8, ett8, *])) (by have e9 : rcBy τ (nI q8) (nI tt8) k = 0 := (by first | (simp [rcBy, *]; done) | (grind [rcBy])); rw [e9, rfI_0] <;> (rfl)) dX7_by_67
      · refine g_aload_n (pc := 37) C dX7_by_37 0 rfl ?_
        refine g_bipush (pc := 38) (v := (-6)) C dX7_by_38 (by decide) ?_
        refine g_wrVI (pc := 40) (rest := []) (wr := [iC G (A 16) 10 an, iC G (A 17) 10 le]) C (fun _ => wN G m A τ y ++ ([iC G (A 16) 10 an, iC G (A 17) 10 le, iC G (A 11) 8 (rfI rr (-6))])) rfl k_X7_noMuch (c_X7_noMuch l G m A τ y rr (-6) (by first | assumption | omega | decide)) ml_X7_127 rfl ⟨Nat.le_of_ble_eq_true rfl, Nat.le_of_ble_eq_true rfl⟩ rfl [0, 1, 2, 3, 4, 5, 6, 7, 8, 11] [9, 10] [2, 3, 4, 5, 6, 7, 8, 9, 10, 0, 1, 11] rfl (by decide) rfl (by decide) (by decide) (by decide) (fun _ => rfl) 0 rfl rfl rfl rfl (Nat.le_of_ble_eq_true rfl) ⟨by decide, by decide⟩ dX7_by_40 (fun r40 _ e40 => ?_)
        subst e40
        exact g_retIW (pc := 43) C rfl rfl (an, le) (rfl) (by have e9 : rcBy τ (nI q8) tt k = (-6) := (by first | (simp [rcBy, *]; done) | (grind [rcBy])); rw [if_neg (by rw [e9] <;> (first | done | decide)), e9]) (by have e9 : rcBy τ (nI q8) tt k = (-6) := (by first | (simp [rcBy, *]; done) | (grind [rcBy])); rw [e9] <;> (first | done | rfl | (rw [if_neg (by decide)] <;> (first | done | rfl)))) dX7_by_43
    · refine g_aload_n (pc := 23) C dX7_by_23 0 rfl ?_
      refine g_bipush (pc := 24) (v := (-5)) C dX7_by_24 (by decide) ?_
      refine g_wrVI (pc := 26) (rest := []) (wr := [iC G (A 16) 10 an, iC G (A 17) 10 le]) C (fun _ => wN G m A τ y ++ ([iC G (A 16) 10 an, iC G (A 17) 10 le, iC G (A 11) 8 (rfI rr (-5))])) rfl k_X7_noMuch (c_X7_noMuch l G m A τ y rr (-5) (by first | assumption | omega | decide)) ml_X7_127 rfl ⟨Nat.le_of_ble_eq_true rfl, Nat.le_of_ble_eq_true rfl⟩ rfl [0, 1, 2, 3, 4, 5, 6, 7, 8, 11] [9, 10] [2, 3, 4, 5, 6, 7, 8, 9, 10, 0, 1, 11] rfl (by decide) rfl (by decide) (by decide) (by decide) (fun _ => rfl) 0 rfl rfl rfl rfl (Nat.le_of_ble_eq_true rfl) ⟨by decide, by decide⟩ dX7_by_26 (fun r26 _ e26 => ?_)
      subst e26
      exact g_retIW (pc := 29) C rfl rfl (an, le) (rfl) (by have e9 : rcBy τ (nI q8) tt k = (-5) := (by first | (simp [rcBy, *]; done) | (grind [rcBy])); rw [if_neg (by rw [e9] <;> (first | done | decide)), e9]) (by have e9 : rcBy τ (nI q8) tt k = (-5) := (by first | (simp [rcBy, *]; done) | (grind [rcBy])); rw [e9] <;> (first | done | rfl | (rw [if_neg (by decide)] <;> (first | done | rfl)))) dX7_by_29
  · refine g_aload_n (pc := 8) C dX7_by_8 0 rfl ?_
    refine g_iconst (pc := 9) (v := (-1)) C dX7_by_9 (by decide) ?_
    refine g_wrVI (pc := 10) (rest := []) (wr := [iC G (A 16) 10 an, iC G (A 17) 10 le]) C (fun _ => wN G m A τ y ++ ([iC G (A 16) 10 an, iC G (A 17) 10 le, iC G (A 11) 8 (rfI rr (-1))])) rfl k_X7_noMuch (c_X7_noMuch l G m A τ y rr (-1) (by first | assumption | omega | decide)) ml_X7_127 rfl ⟨Nat.le_of_ble_eq_true rfl, Nat.le_of_ble_eq_true rfl⟩ rfl [0, 1, 2, 3, 4, 5, 6, 7, 8, 11] [9, 10] [2, 3, 4, 5, 6, 7, 8, 9, 10, 0, 1, 11] rfl (by decide) rfl (by decide) (by decide) (by decide) (fun _ => rfl) 0 rfl rfl rfl rfl (Nat.le_of_ble_eq_true rfl) ⟨by decide, by decide⟩ dX7_by_10 (fun r10 _ e10 => ?_)
    subst e10
    exact g_retIW (pc := 13) C rfl rfl (an, le) (rfl) (by have e9 : rcBy τ q tt k = (-1) := (by first | (simp [rcBy, *]; done) | (grind [rcBy])); rw [if_neg (by rw [e9] <;> (first | done | decide)), e9]) (by have e9 : rcBy τ q tt k = (-1) := (by first | (simp [rcBy, *]; done) | (grind [rcBy])); rw [e9] <;> (first | done | rfl | (rw [if_neg (by decide)] <;> (first | done | rfl)))) dX7_by_13
set_option maxRecDepth 20000 in
set_option maxHeartbeats 4000000 in
theorem c_X7_late (l : Launch) (G : gT) (m : Nat) (A : Nat → Nat) (τ : tT) (y : Nat → Int32) (le : Nat → Int32) (an : Nat → Int32) (q : Int32) (tt : Int32) (rr : Nat → Int32) (hT : TI τ) : WI l yX7_late cX7_late 4 (some .int) 12 0 0 G [.ref m, .int q, .int tt] (wN G m A τ y ++ ([iC G (A 16) 10 an, iC G (A 17) 10 le, iC G (A 11) 8 rr])) (S := (Nat → Int32) × (Nat → Int32)) (fun r _ => r = if rcLa τ q tt = 0 then laV τ q tt else (rcLa τ q tt)) (fun u => wN G m A τ y ++ ([iC G (A 16) 10 u.1, iC G (A 17) 10 u.2, iC G (A 11) 8 (rfI rr (rcLa τ q tt))])) := by
  have hg10 := hT.g10
  have hq8 := hT.q8
  intro sz9
  refine start_W (by decide) (Nat.le_of_ble_eq_true rfl) (fun p9 e9 s9 m9 a9 b9 t9 c9 C => ?_)
  refine g_lv (lv' := [(0, .ref m), (1, .int q), (2, .int tt)]) rfl ?_
  refine g_iload_n (pc := 0) C dX7_late_0 1 rfl ?_
  refine g_iconst (pc := 1) (v := (-1)) C dX7_late_1 (by decide) ?_
  refine g_icmp_eq (pc := 2) (tgt := 19) C dX7_late_2 (by decide) (fun h2 => ?_) (fun h2 => ?_)
  · refine g_iload_n (pc := 19) C dX7_late_19 2 rfl ?_
    refine g_iconst (pc := 20) (v := 1) C dX7_late_20 (by decide) ?_
    refine g_bipush (pc := 21) (v := 9) C dX7_late_21 (by decide) ?_
    refine g_rdSI (pc := 23) (val := bI (1 ≤ tt ∧ tt ≤ 9)) (rest := []) C k_X7_within (c_X7_within l G tt 1 9) ml_X7_88 rfl ⟨Nat.le_of_ble_eq_true rfl, Nat.le_of_ble_eq_true rfl⟩ rfl [] rfl rfl (Nat.le_of_ble_eq_true rfl) ⟨by decide, by decide⟩ dX7_late_23 ?_
    refine g_ifb_ne (pc := 26) (tgt := 36) C dX7_late_26 (by decide) (fun h26 => ?_) (fun h26 => ?_)
    · obtain ⟨tt8, htt8, rfl⟩ := in19_nI h26
      have ett8 : nx (nI tt8) = tt8 := nx_nI (by omega)
      refine g_aload_n (pc := 36) C dX7_late_36 0 rfl ?_
      refine g_iload_n (pc := 37) C dX7_late_37 2 rfl ?_
      refine g_wrVI (pc := 38) (rest := []) (wr := [iC G (A 11) 8 rr]) C (fun _ => wN G m A τ y ++ ([iC G (A 16) 10 (frW (fun x9 => anN τ x9 tt8 - anN τ x9 (tt8 - 1)) (frW (fun x9 => anN τ x9 (tt8 - 1)) an (tG τ)) (tG τ)), iC G (A 17) 10 (frW (fun x9 => lfN τ x9 tt8) (frW (fun x9 => lfN τ x9 (tt8 - 1)) le (tG τ)) (tG τ)), iC G (A 11) 8 rr])) rfl k_X7_answeredLate (c_X7_answeredLate l G m A τ y le an tt8 (by first | assumption | omega | decide) (by first | assumption | omega | decide) (by first | assumption | omega | decide)) ml_X7_272 rfl ⟨Nat.le_of_ble_eq_true rfl, Nat.le_of_ble_eq_true rfl⟩ rfl [0, 1, 2, 3, 4, 5, 6, 7, 8, 9, 10] [11] [1, 2, 3, 4, 5, 6, 7, 8, 9, 10, 11, 0] rfl (by decide) rfl (by decide) (by decide) (by decide) (fun _ => rfl) 0 rfl rfl rfl rfl (Nat.le_of_ble_eq_true rfl) ⟨by decide, by decide⟩ dX7_late_38 (fun r38 _ e38 => ?_)
      subst e38
      refine g_istore_n (pc := 41) (lv' := [(3, .int (anB τ (tt8 - 1) tt8)), (0, .ref m), (1, .int q), (2, .int (nI tt8))]) C dX7_late_41 rfl (by decide) rfl ?_
      refine g_iload_n (pc := 42) C dX7_late_42 2 rfl ?_
      refine g_iconst (pc := 43) (v := (-1)) C dX7_late_43 (by decide) ?_
      refine g_icmp_ne (pc := 44) (tgt := 51) C dX7_late_44 (by decide) (fun h44 => ?_) (fun h44 => ?_)
      · exact absurd h2 h44
      · refine g_iload_n (pc := 47) C dX7_late_47 0 rfl ?_
        refine g_goto (pc := 48) (tgt := 57) C dX7_late_48 (by decide) ?_
        exact g_retIW (pc := 57) C rfl rfl (frW (fun x9 => anN τ x9 tt8 - anN τ x9 (tt8 - 1)) (frW (fun x9 => anN τ x9 (tt8 - 1)) an (tG τ)) (tG τ), frW (fun x9 => lfN τ x9 tt8) (frW (fun x9 => lfN τ x9 (tt8 - 1)) le (tG τ)) (tG τ)) (rfl) (by have e9 : rcLa τ q (nI tt8) = 0 := (by first | (simp [rcLa, *]; done) | (grind [rcLa])); rw [if_pos e9] <;> (simp [laV, shA_1, ett8, *])) (by have e9 : rcLa τ q (nI tt8) = 0 := (by first | (simp [rcLa, *]; done) | (grind [rcLa])); rw [e9, rfI_0] <;> (rfl)) dX7_late_57
    · refine g_aload_n (pc := 29) C dX7_late_29 0 rfl ?_
      refine g_bipush (pc := 30) (v := (-6)) C dX7_late_30 (by decide) ?_
      refine g_wrVI (pc := 32) (rest := []) (wr := [iC G (A 16) 10 an, iC G (A 17) 10 le]) C (fun _ => wN G m A τ y ++ ([iC G (A 16) 10 an, iC G (A 17) 10 le, iC G (A 11) 8 (rfI rr (-6))])) rfl k_X7_no (c_X7_no l G m A τ y rr (-6) (by first | assumption | omega | decide)) ml_X7_81 rfl ⟨Nat.le_of_ble_eq_true rfl, Nat.le_of_ble_eq_true rfl⟩ rfl [0, 1, 2, 3, 4, 5, 6, 7, 8, 11] [9, 10] [2, 3, 4, 5, 6, 7, 8, 9, 10, 0, 1, 11] rfl (by decide) rfl (by decide) (by decide) (by decide) (fun _ => rfl) 0 rfl rfl rfl rfl (Nat.le_of_ble_eq_true rfl) ⟨by decide, by decide⟩ dX7_late_32 (fun r32 _ e32 => ?_)
      subst e32
      exact g_retIW (pc := 35) C rfl rfl (an, le) (rfl) (by have e9 : rcLa τ q tt = (-6) := (by first | (simp [rcLa, *]; done) | (grind [rcLa])); rw [if_neg (by rw [e9] <;> (first | done | decide)), e9]) (by have e9 : rcLa τ q tt = (-6) := (by first | (simp [rcLa, *]; done) | (grind [rcLa])); rw [e9] <;> (first | done | rfl | (rw [if_neg (by decide)] <;> (first | done | rfl)))) dX7_late_35
  · refine g_aload_n (pc := 5) C dX7_late_5 0 rfl ?_
    refine g_iload_n (pc := 6) C dX7_late_6 1 rfl ?_
    refine g_rdVI (pc := 7) (val := bI (0 ≤ q ∧ q ≤ nI (tQ τ) - 1)) (rest := []) C k_X7_isQuestion (c_X7_isQuestion l G m A τ y q (by first | assumption | omega | decide)) ml_X7_102 rfl ⟨Nat.le_of_ble_eq_true rfl, Nat.le_of_ble_eq_true rfl⟩ rfl [0, 1, 2, 3, 4, 5, 6, 7, 8] rfl 0 rfl rfl rfl rfl (Nat.le_of_ble_eq_true rfl) ⟨by decide, by decide⟩ dX7_late_7 ?_
    refine g_ifb_ne (pc := 10) (tgt := 19) C dX7_late_10 (by decide) (fun h10 => ?_) (fun h10 => ?_)
    · obtain ⟨q8, hq8, rfl⟩ := isQ_nI hT h10
      have eq8 : nx (nI q8) = q8 := nx_nI (by omega)
      refine g_iload_n (pc := 19) C dX7_late_19 2 rfl ?_
      refine g_iconst (pc := 20) (v := 1) C dX7_late_20 (by decide) ?_
      refine g_bipush (pc := 21) (v := 9) C dX7_late_21 (by decide) ?_
      refine g_rdSI (pc := 23) (val := bI (1 ≤ tt ∧ tt ≤ 9)) (rest := []) C k_X7_within (c_X7_within l G tt 1 9) ml_X7_88 rfl ⟨Nat.le_of_ble_eq_true rfl, Nat.le_of_ble_eq_true rfl⟩ rfl [] rfl rfl (Nat.le_of_ble_eq_true rfl) ⟨by decide, by decide⟩ dX7_late_23 ?_
      refine g_ifb_ne (pc := 26) (tgt := 36) C dX7_late_26 (by decide) (fun h26 => ?_) (fun h26 => ?_)
      · obtain ⟨tt8, htt8, rfl⟩ := in19_nI h26
        have ett8 : nx (nI tt8) = tt8 := nx_nI (by omega)
        refine g_aload_n (pc := 36) C dX7_late_36 0 rfl ?_
        refine g_iload_n (pc := 37) C dX7_late_37 2 rfl ?_
        refine g_wrVI (pc := 38) (rest := []) (wr := [iC G (A 11) 8 rr]) C (fun _ => wN G m A τ y ++ ([iC G (A 16) 10 (frW (fun x9 => anN τ x9 tt8 - anN τ x9 (tt8 - 1)) (frW (fun x9 => anN τ x9 (tt8 - 1)) an (tG τ)) (tG τ)), iC G (A 17) 10 (frW (fun x9 => lfN τ x9 tt8) (frW (fun x9 => lfN τ x9 (tt8 - 1)) le (tG τ)) (tG τ)), iC G (A 11) 8 rr])) rfl k_X7_answeredLate (c_X7_answeredLate l G m A τ y le an tt8 (by first | assumption | omega | decide) (by first | assumption | omega | decide) (by first | assumption | omega | decide)) ml_X7_272 rfl ⟨Nat.le_of_ble_eq_true rfl, Nat.le_of_ble_eq_true rfl⟩ rfl [0, 1, 2, 3, 4, 5, 6, 7, 8, 9, 10] [11] [1, 2, 3, 4, 5, 6, 7, 8, 9, 10, 11, 0] rfl (by decide) rfl (by decide) (by decide) (by decide) (fun _ => rfl) 0 rfl rfl rfl rfl (Nat.le_of_ble_eq_true rfl) ⟨by decide, by decide⟩ dX7_late_38 (fun r38 _ e38 => ?_)
        subst e38
        refine g_istore_n (pc := 41) (lv' := [(3, .int (anB τ (tt8 - 1) tt8)), (0, .ref m), (1, .int (nI q8)), (2, .int (nI tt8))]) C dX7_late_41 rfl (by decide) rfl ?_
        refine g_iload_n (pc := 42) C dX7_late_42 2 rfl ?_
        refine g_iconst (pc := 43) (v := (-1)) C dX7_late_43 (by decide) ?_
        refine g_icmp_ne (pc := 44) (tgt := 51) C dX7_late_44 (by decide) (fun h44 => ?_) (fun h44 => ?_)
        · refine g_aload_n (pc := 51) C dX7_late_51 1 rfl ?_
          refine g_iload_n (pc := 52) C dX7_late_52 2 rfl ?_
          refine g_iload_n (pc := 53) C dX7_late_53 0 rfl ?_
          refine g_rdVI (pc := 54) (val := shN τ q8 (frW (fun x9 => anN τ x9 tt8 - anN τ x9 (tt8 - 1)) (frW (fun x9 => anN τ x9 (tt8 - 1)) an (tG τ)) (tG τ)) (anB τ (tt8 - 1) tt8)) (rest := []) C k_X7_shareOfAnswers (c_X7_shareOfAnswers l G m A τ y (frW (fun x9 => anN τ x9 tt8 - anN τ x9 (tt8 - 1)) (frW (fun x9 => anN τ x9 (tt8 - 1)) an (tG τ)) (tG τ)) q8 (anB τ (tt8 - 1) tt8) (by first | assumption | omega | decide) (by first | assumption | omega | decide)) ml_X7_226 rfl ⟨Nat.le_of_ble_eq_true rfl, Nat.le_of_ble_eq_true rfl⟩ rfl [0, 1, 2, 3, 4, 5, 6, 7, 8, 9] rfl 0 rfl rfl rfl rfl (Nat.le_of_ble_eq_true rfl) ⟨by decide, by decide⟩ dX7_late_54 ?_
          exact g_retIW (pc := 57) C rfl rfl (frW (fun x9 => anN τ x9 tt8 - anN τ x9 (tt8 - 1)) (frW (fun x9 => anN τ x9 (tt8 - 1)) an (tG τ)) (tG τ), frW (fun x9 => lfN τ x9 tt8) (frW (fun x9 => lfN τ x9 (tt8 - 1)) le (tG τ)) (tG τ)) (rfl) (by have e9 : rcLa τ (nI q8) (nI tt8) = 0 := (by first | (simp [rcLa, *]; done) | (grind [rcLa])); rw [if_pos e9] <;> (simp [laV, shA_1, ett8, *])) (by have e9 : rcLa τ (nI q8) (nI tt8) = 0 := (by first | (simp [rcLa, *]; done) | (grind [rcLa])); rw [e9, rfI_0] <;> (rfl)) dX7_late_57
        · refine g_iload_n (pc := 47) C dX7_late_47 0 rfl ?_
          refine g_goto (pc := 48) (tgt := 57) C dX7_late_48 (by decide) ?_
          exact g_retIW (pc := 57) C rfl rfl (frW (fun x9 => anN τ x9 tt8 - anN τ x9 (tt8 - 1)) (frW (fun x9 => anN τ x9 (tt8 - 1)) an (tG τ)) (tG τ), frW (fun x9 => lfN τ x9 tt8) (frW (fun x9 => lfN τ x9 (tt8 - 1)) le (tG τ)) (tG τ)) (rfl) (by have e9 : rcLa τ (nI q8) (nI tt8) = 0 := (by first | (simp [rcLa, *]; done) | (grind [rcLa])); rw [if_pos e9] <;> (simp [laV, shA_1, ett8, *])) (by have e9 : rcLa τ (nI q8) (nI tt8) = 0 := (by first | (simp [rcLa, *]; done) | (grind [rcLa])); rw [e9, rfI_0] <;> (rfl)) dX7_late_57
      · refine g_aload_n (pc := 29) C dX7_late_29 0 rfl ?_
        refine g_bipush (pc := 30) (v := (-6)) C dX7_late_30 (by decide) ?_
        refine g_wrVI (pc := 32) (rest := []) (wr := [iC G (A 16) 10 an, iC G (A 17) 10 le]) C (fun _ => wN G m A τ y ++ ([iC G (A 16) 10 an, iC G (A 17) 10 le, iC G (A 11) 8 (rfI rr (-6))])) rfl k_X7_no (c_X7_no l G m A τ y rr (-6) (by first | assumption | omega | decide)) ml_X7_81 rfl ⟨Nat.le_of_ble_eq_true rfl, Nat.le_of_ble_eq_true rfl⟩ rfl [0, 1, 2, 3, 4, 5, 6, 7, 8, 11] [9, 10] [2, 3, 4, 5, 6, 7, 8, 9, 10, 0, 1, 11] rfl (by decide) rfl (by decide) (by decide) (by decide) (fun _ => rfl) 0 rfl rfl rfl rfl (Nat.le_of_ble_eq_true rfl) ⟨by decide, by decide⟩ dX7_late_32 (fun r32 _ e32 => ?_)
        subst e32
        exact g_retIW (pc := 35) C rfl rfl (an, le) (rfl) (by have e9 : rcLa τ (nI q8) tt = (-6) := (by first | (simp [rcLa, *]; done) | (grind [rcLa])); rw [if_neg (by rw [e9] <;> (first | done | decide)), e9]) (by have e9 : rcLa τ (nI q8) tt = (-6) := (by first | (simp [rcLa, *]; done) | (grind [rcLa])); rw [e9] <;> (first | done | rfl | (rw [if_neg (by decide)] <;> (first | done | rfl)))) dX7_late_35
    · refine g_aload_n (pc := 13) C dX7_late_13 0 rfl ?_
      refine g_iconst (pc := 14) (v := (-1)) C dX7_late_14 (by decide) ?_
      refine g_wrVI (pc := 15) (rest := []) (wr := [iC G (A 16) 10 an, iC G (A 17) 10 le]) C (fun _ => wN G m A τ y ++ ([iC G (A 16) 10 an, iC G (A 17) 10 le, iC G (A 11) 8 (rfI rr (-1))])) rfl k_X7_no (c_X7_no l G m A τ y rr (-1) (by first | assumption | omega | decide)) ml_X7_81 rfl ⟨Nat.le_of_ble_eq_true rfl, Nat.le_of_ble_eq_true rfl⟩ rfl [0, 1, 2, 3, 4, 5, 6, 7, 8, 11] [9, 10] [2, 3, 4, 5, 6, 7, 8, 9, 10, 0, 1, 11] rfl (by decide) rfl (by decide) (by decide) (by decide) (fun _ => rfl) 0 rfl rfl rfl rfl (Nat.le_of_ble_eq_true rfl) ⟨by decide, by decide⟩ dX7_late_15 (fun r15 _ e15 => ?_)
      subst e15
      exact g_retIW (pc := 18) C rfl rfl (an, le) (rfl) (by have e9 : rcLa τ q tt = (-1) := (by first | (simp [rcLa, *]; done) | (grind [rcLa])); rw [if_neg (by rw [e9] <;> (first | done | decide)), e9]) (by have e9 : rcLa τ q tt = (-1) := (by first | (simp [rcLa, *]; done) | (grind [rcLa])); rw [e9] <;> (first | done | rfl | (rw [if_neg (by decide)] <;> (first | done | rfl)))) dX7_late_18
