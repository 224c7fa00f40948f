set_option maxRecDepth 20000 in
set_option maxHeartbeats 4000000 in
theorem c_X7_enough (l : Launch) (G : gT) (m : Nat) (A : Nat → Nat) (τ : tT) (y : Nat → Int32) (le : Nat → Int32) (an : Nat → Int32) (q : Int32) (v : Int32) (rr : Nat → Int32) (hT : TI τ) : WI l yX7_enough cX7_enough 4 (some .int) 12 0 0 G [.ref m, .int q, .int v] (wN G m A τ y ++ ([iC G (A 16) 10 an, iC G (A 17) 10 le, iC G (A 11) 8 rr])) (S := (Nat → Int32) × (Nat → Int32)) (fun r _ => r = if rcEn τ q v = 0 then enF τ (nx q) v 10 0 else -10 + (rcEn τ q v)) (fun u => wN G m A τ y ++ ([iC G (A 16) 10 u.1, iC G (A 17) 10 u.2, iC G (A 11) 8 (rfI rr (rcEn τ q v))])) := by
  have hg10 := hT.g10
  have hq8 := hT.q8
  intro sz9
  refine start_W (by decide) (Nat.le_of_ble_eq_true rfl) (fun p9 e9 s9 m9 a9 b9 t9 c9 C => ?_)
  refine g_lv (lv' := [(0, .ref m), (1, .int q), (2, .int v)]) rfl ?_
  refine g_aload_n (pc := 0) C dX7_enough_0 0 rfl ?_
  refine g_iload_n (pc := 1) C dX7_enough_1 1 rfl ?_
  refine g_rdVI (pc := 2) (val := bI (0 ≤ q ∧ q ≤ nI (tQ τ) - 1)) (rest := []) C k_X7_isQuestion (c_X7_isQuestion l G m A τ y q (by first | assumption | omega | decide)) ml_X7_102 rfl ⟨Nat.le_of_ble_eq_true rfl, Nat.le_of_ble_eq_true rfl⟩ rfl [0, 1, 2, 3, 4, 5, 6, 7, 8] rfl 0 rfl rfl rfl rfl (Nat.le_of_ble_eq_true rfl) ⟨by decide, by decide⟩ dX7_enough_2 ?_
  refine g_ifb_ne (pc := 5) (tgt := 14) C dX7_enough_5 (by decide) (fun h5 => ?_) (fun h5 => ?_)
  · obtain ⟨q8, hq8, rfl⟩ := isQ_nI hT h5
    have eq8 : nx (nI q8) = q8 := nx_nI (by omega)
    refine g_iload_n (pc := 14) C dX7_enough_14 2 rfl ?_
    refine g_iconst (pc := 15) (v := 0) C dX7_enough_15 (by decide) ?_
    refine g_sipush (pc := 16) (v := 1000) C dX7_enough_16 (by decide) ?_
    refine g_rdSI (pc := 19) (val := bI (0 ≤ v ∧ v ≤ 1000)) (rest := []) C k_X7_within (c_X7_within l G v 0 1000) ml_X7_88 rfl ⟨Nat.le_of_ble_eq_true rfl, Nat.le_of_ble_eq_true rfl⟩ rfl [] rfl rfl (Nat.le_of_ble_eq_true rfl) ⟨by decide, by decide⟩ dX7_enough_19 ?_
    refine g_ifb_ne (pc := 22) (tgt := 32) C dX7_enough_22 (by decide) (fun h22 => ?_) (fun h22 => ?_)
    · refine g_iconst (pc := 32) (v := 0) C dX7_enough_32 (by decide) ?_
      refine g_istore_n (pc := 33) (lv' := [(3, .int 0), (0, .ref m), (1, .int (nI q8)), (2, .int v)]) C dX7_enough_33 rfl (by decide) rfl ?_
      have key_34 : ∀ (n34 : Nat) (i : Nat) (n : Nat) (an2 : Nat → Int32) (le2 : Nat → Int32) (hn : n + i = 10) (hv : enF τ q8 v 10 0 = enF τ q8 v n i), n < n34 → GW p9 l e9 (rmh 12 0 0) s9 m9 a9 b9 t9 c9 (MQ b9 (va_Qi (fun r (_ : (Nat → Int32) × (Nat → Int32)) => r = if rcEn τ (nI q8) v = 0 then enF τ (nx (nI q8)) v 10 0 else -10 + (rcEn τ (nI q8) v)) (BW G (wN G m A τ y ++ ([iC G (A 16) 10 an, iC G (A 17) 10 le, iC G (A 11) 8 rr])) sz9 (fun u => wN G m A τ y ++ ([iC G (A 16) 10 u.1, iC G (A 17) 10 u.2, iC G (A 11) 8 (rfI rr (rcEn τ (nI q8) v))]))) (va_A (wN G m A τ y ++ ([iC G (A 16) 10 an, iC G (A 17) 10 le, iC G (A 11) 8 rr])) sz9)) a9 s9 0 0 (va_A (wN G m A τ y ++ ([iC G (A 16) 10 an, iC G (A 17) 10 le, iC G (A 11) 8 rr])) sz9)) G (va_A (wN G m A τ y ++ ([iC G (A 16) 10 an, iC G (A 17) 10 le, iC G (A 11) 8 rr])) sz9) true 4 0 0 (wN G m A τ y ++ ([iC G (A 16) 10 an2, iC G (A 17) 10 le2, iC G (A 11) 8 rr])) [(0, .ref m), (1, .int (nI q8)), (2, .int v), (3, .int (nI i))] 34 [] := by
        intro n34
        induction n34 with
        | zero => intro i n an2 le2 hn hv hn34; exact absurd hn34 (Nat.not_lt_zero _)
        | succ n34 ih34 =>
          intro i n an2 le2 hn hv hn34
          refine g_iload_n (pc := 34) C dX7_enough_34 3 rfl ?_
          refine g_bipush (pc := 35) (v := 10) C dX7_enough_35 (by decide) ?_
          refine g_icmpN_ge (pc := 37) (i := i) (j := 10) (tgt := 61) C dX7_enough_37 (by decide) ⟨by omega, by omega⟩ (fun h37 => ?_) (fun h37 => ?_)
          · refine g_iconst (pc := 61) (v := (-1)) C dX7_enough_61 (by decide) ?_
            exact g_retIW (pc := 62) C rfl rfl (an2, le2) (rfl) (by have e9 : rcEn τ (nI q8) v = 0 := (by first | (simp [rcEn, *]; done) | (grind [rcEn])); rw [if_pos e9] <;> (rw [eq8, hv, show n = 0 from by omega] <;> rfl)) (by have e9 : rcEn τ (nI q8) v = 0 := (by first | (simp [rcEn, *]; done) | (grind [rcEn])); rw [e9, rfI_0] <;> (rfl)) dX7_enough_62
          · refine g_aload_n (pc := 40) C dX7_enough_40 0 rfl ?_
            refine g_iload_n (pc := 41) C dX7_enough_41 1 rfl ?_
            refine g_iload_n (pc := 42) C dX7_enough_42 3 rfl ?_
            refine g_wrVI (pc := 43) (rest := []) (wr := [iC G (A 11) 8 rr]) C (fun _ => wN G m A τ y ++ ([iC G (A 16) 10 (frW (fun x9 => anN τ x9 i) an2 (tG τ)), iC G (A 17) 10 (frW (fun x9 => lfN τ x9 i) le2 (tG τ)), iC G (A 11) 8 rr])) rfl k_X7_offBy (c_X7_offBy l G m A τ y le2 an2 q8 i (by first | assumption | omega | decide) (by first | assumption | omega | decide) (by first | assumption | omega | decide)) ml_X7_229 rfl ⟨Nat.le_of_ble_eq_true rfl, Nat.le_of_ble_eq_true rfl⟩ rfl [0, 1, 2, 3, 4, 5, 6, 7, 8, 9, 10] [11] [1, 2, 3, 4, 5, 6, 7, 8, 9, 10, 11, 0] rfl (by decide) rfl (by decide) (by decide) (by decide) (fun _ => rfl) 0 rfl rfl rfl rfl (Nat.le_of_ble_eq_true rfl) ⟨by decide, by decide⟩ dX7_enough_43 (fun r43 _ e43 => ?_)
            subst e43
            refine g_mabs (pc := 46) (v := mAbs (off τ q8 i)) C ml_X7_242 rfl ⟨Nat.le_of_ble_eq_true rfl, Nat.le_of_ble_eq_true rfl⟩ ⟨by decide, by decide⟩ rfl dX7_enough_46 ?_
            refine g_iload_n (pc := 49) C dX7_enough_49 2 rfl ?_
            refine g_icmp_gt (pc := 50) (tgt := 55) C dX7_enough_50 (by decide) (fun h50 => ?_) (fun h50 => ?_)
            · refine g_iinc (pc := 55) (v := nI (i + 1)) (lv' := [(3, .int (nI (i + 1))), (0, .ref m), (1, .int (nI q8)), (2, .int v)]) C dX7_enough_55 3 rfl (nI_1 i) (by decide) rfl ?_
              refine g_goto (pc := 58) (tgt := 34) C dX7_enough_58 (by decide) ?_
              refine g_ws (ws' := wN G m A τ y ++ ([iC G (A 16) 10 (frW (fun x9 => anN τ x9 i) an2 (tG τ)), iC G (A 17) 10 (frW (fun x9 => lfN τ x9 i) le2 (tG τ)), iC G (A 11) 8 rr])) (rfl) ?_
              refine g_sub (lv' := [(0, .ref m), (1, .int (nI q8)), (2, .int v), (3, .int (nI (i + 1)))]) [1, 2, 3, 0] rfl ?_
              exact ih34 (i + 1) (n - 1) (frW (fun x9 => anN τ x9 i) an2 (tG τ)) (frW (fun x9 => lfN τ x9 i) le2 (tG τ)) (by omega) (by rw [hv, show n = (n - 1) + 1 from by omega, enF, if_neg (Int32.not_le.mpr h50)]; rfl) (by omega)
            · refine g_iload_n (pc := 53) C dX7_enough_53 3 rfl ?_
              exact g_retIW (pc := 54) C rfl rfl (frW (fun x9 => anN τ x9 i) an2 (tG τ), frW (fun x9 => lfN τ x9 i) le2 (tG τ)) (rfl) (by have e9 : rcEn τ (nI q8) v = 0 := (by first | (simp [rcEn, *]; done) | (grind [rcEn])); rw [if_pos e9] <;> (rw [eq8, hv, show n = (n - 1) + 1 from by omega, enF, if_pos (Int32.not_lt.mp h50)])) (by have e9 : rcEn τ (nI q8) v = 0 := (by first | (simp [rcEn, *]; done) | (grind [rcEn])); rw [e9, rfI_0] <;> (rfl)) dX7_enough_54
      refine g_ws (ws' := wN G m A τ y ++ ([iC G (A 16) 10 an, iC G (A 17) 10 le, iC G (A 11) 8 rr])) (rfl) ?_
      refine g_sub (lv' := [(0, .ref m), (1, .int (nI q8)), (2, .int v), (3, .int (nI 0))]) [1, 2, 3, 0] rfl ?_
      exact key_34 _ 0 10 an le (by first | assumption | omega | decide) rfl (Nat.lt_succ_self _)
    · refine g_aload_n (pc := 25) C dX7_enough_25 0 rfl ?_
      refine g_bipush (pc := 26) (v := (-6)) C dX7_enough_26 (by decide) ?_
      refine g_wrVI (pc := 28) (rest := []) (wr := [iC G (A 16) 10 an, iC G (A 17) 10 le]) C (fun _ => wN G m A τ y ++ ([iC G (A 16) 10 an, iC G (A 17) 10 le, iC G (A 11) 8 (rfI rr (-6))])) rfl k_X7_no10 (c_X7_no10 l G m A τ y rr (-6) (by first | assumption | omega | decide)) ml_X7_266 rfl ⟨Nat.le_of_ble_eq_true rfl, Nat.le_of_ble_eq_true rfl⟩ rfl [0, 1, 2, 3, 4, 5, 6, 7, 8, 11] [9, 10] [2, 3, 4, 5, 6, 7, 8, 9, 10, 0, 1, 11] rfl (by decide) rfl (by decide) (by decide) (by decide) (fun _ => rfl) 0 rfl rfl rfl rfl (Nat.le_of_ble_eq_true rfl) ⟨by decide, by decide⟩ dX7_enough_28 (fun r28 _ e28 => ?_)
      subst e28
      exact g_retIW (pc := 31) C rfl rfl (an, le) (rfl) (by have e9 : rcEn τ (nI q8) v = (-6) := (by first | (simp [rcEn, *]; done) | (grind [rcEn])); rw [if_neg (by rw [e9] <;> (first | done | decide)), e9]) (by have e9 : rcEn τ (nI q8) v = (-6) := (by first | (simp [rcEn, *]; done) | (grind [rcEn])); rw [e9] <;> (first | done | rfl | (rw [if_neg (by decide)] <;> (first | done | rfl)))) dX7_enough_31
  · refine g_aload_n (pc := 8) C dX7_enough_8 0 rfl ?_
    refine g_iconst (pc := 9) (v := (-1)) C dX7_enough_9 (by decide) ?_
    refine g_wrVI (pc := 10) (rest := []) (wr := [iC G (A 16) 10 an, iC G (A 17) 10 le]) C (fun _ => wN G m A τ y ++ ([iC G (A 16) 10 an, iC G (A 17) 10 le, iC G (A 11) 8 (rfI rr (-1))])) rfl k_X7_no10 (c_X7_no10 l G m A τ y rr (-1) (by first | assumption | omega | decide)) ml_X7_266 rfl ⟨Nat.le_of_ble_eq_true rfl, Nat.le_of_ble_eq_true rfl⟩ rfl [0, 1, 2, 3, 4, 5, 6, 7, 8, 11] [9, 10] [2, 3, 4, 5, 6, 7, 8, 9, 10, 0, 1, 11] rfl (by decide) rfl (by decide) (by decide) (by decide) (fun _ => rfl) 0 rfl rfl rfl rfl (Nat.le_of_ble_eq_true rfl) ⟨by decide, by decide⟩ dX7_enough_10 (fun r10 _ e10 => ?_)
    subst e10
    exact g_retIW (pc := 13) C rfl rfl (an, le) (rfl) (by have e9 : rcEn τ q v = (-1) := (by first | (simp [rcEn, *]; done) | (grind [rcEn])); rw [if_neg (by rw [e9] <;> (first | done | decide)), e9]) (by have e9 : rcEn τ q v = (-1) := (by first | (simp [rcEn, *]; done) | (grind [rcEn])); rw [e9] <;> (first | done | rfl | (rw [if_neg (by decide)] <;> (first | done | rfl)))) dX7_enough_13
