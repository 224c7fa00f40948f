theorem fi_st (τ : tT) (q : Nat) (c : Int32) {i : Nat} (h : 1 ≤ i) : fiN τ q c i = if cost τ i ≤ c ∧ mAbs (off τ q i) < mAbs (off τ q (fiN τ q c (i - 1))) then i else fiN τ q c (i - 1) := by
  obtain ⟨u, rfl⟩ : ∃ u, i = u + 1 := ⟨i - 1, by omega⟩
  rfl
set_option maxRecDepth 20000 in
set_option maxHeartbeats 4000000 in
theorem c_X7_cost (l : Launch) (G : gT) (m : Nat) (A : Nat → Nat) (τ : tT) (y : Nat → Int32) (le : Nat → Int32) (an : Nat → Int32) (tt : Int32) (rr : Nat → Int32) (hT : TI τ) : WI l yX7_cost cX7_cost 2 (some .int) 12 0 0 G [.ref m, .int tt] (wN G m A τ y ++ ([iC G (A 16) 10 an, iC G (A 17) 10 le, iC G (A 11) 8 rr])) (S := (Nat → Int32) × (Nat → Int32)) (fun r _ => r = if rcCo tt = 0 then cost τ (nx tt) else (rcCo tt)) (fun u => wN G m A τ y ++ ([iC G (A 16) 10 u.1, iC G (A 17) 10 u.2, iC G (A 11) 8 (rfI rr (rcCo tt))])) := by
  have hg10 := hT.g10
  have hq8 := hT.q8
  intro sz9
  refine start_W (by decide) (Nat.le_of_ble_eq_true rfl) (fun p9 e9 s9 m9 a9 b9 t9 c9 C => ?_)
  refine g_lv (lv' := [(0, .ref m), (1, .int tt)]) rfl ?_
  refine g_iload_n (pc := 0) C dX7_cost_0 1 rfl ?_
  refine g_rdSI (pc := 1) (val := bI (0 ≤ tt ∧ tt ≤ 9)) (rest := []) C k_X7_isTries (c_X7_isTries l G tt) ml_X7_223 rfl ⟨Nat.le_of_ble_eq_true rfl, Nat.le_of_ble_eq_true rfl⟩ rfl [] rfl rfl (Nat.le_of_ble_eq_true rfl) ⟨by decide, by decide⟩ dX7_cost_1 ?_
  refine g_ifb_eq (pc := 4) (tgt := 15) C dX7_cost_4 (by decide) (fun h4 => ?_) (fun h4 => ?_)
  · refine g_aload_n (pc := 15) C dX7_cost_15 0 rfl ?_
    refine g_bipush (pc := 16) (v := (-6)) C dX7_cost_16 (by decide) ?_
    refine g_wrVI (pc := 18) (rest := []) (wr := [iC G (A 16) 10 an, iC G (A 17) 10 le]) C (fun _ => wN G m A τ y ++ ([iC G (A 16) 10 an, iC G (A 17) 10 le, iC G (A 11) 8 (rfI rr (-6))])) rfl k_X7_no (c_X7_no l G m A τ y rr (-6) (by first | assumption | omega | decide)) ml_X7_81 rfl ⟨Nat.le_of_ble_eq_true rfl, Nat.le_of_ble_eq_true rfl⟩ rfl [0, 1, 2, 3, 4, 5, 6, 7, 8, 11] [9, 10] [2, 3, 4, 5, 6, 7, 8, 9, 10, 0, 1, 11] rfl (by decide) rfl (by decide) (by decide) (by decide) (fun _ => rfl) 0 rfl rfl rfl rfl (Nat.le_of_ble_eq_true rfl) ⟨by decide, by decide⟩ dX7_cost_18 (fun r18 _ e18 => ?_)
    subst e18
    exact g_retIW (pc := 21) C rfl rfl (an, le) (rfl) (by have e9 : rcCo tt = (-6) := (by first | (simp [rcCo, *]; done) | (grind [rcCo])); rw [if_neg (by rw [e9] <;> (first | done | decide)), e9]) (by have e9 : rcCo tt = (-6) := (by first | (simp [rcCo, *]; done) | (grind [rcCo])); rw [e9] <;> (first | done | rfl | (rw [if_neg (by decide)] <;> (first | done | rfl)))) dX7_cost_21
  · obtain ⟨tt8, htt8, rfl⟩ := (lt_Q (n := 10) (by decide)).mp h4
    have ett8 : nx (nI tt8) = tt8 := nx_nI (by omega)
    refine g_aload_n (pc := 7) C dX7_cost_7 0 rfl ?_
    refine g_iload_n (pc := 8) C dX7_cost_8 1 rfl ?_
    refine g_wrVI (pc := 9) (rest := []) (wr := [iC G (A 11) 8 rr]) C (fun u => wN G m A τ y ++ ([iC G (A 16) 10 u.1, iC G (A 17) 10 u.2, iC G (A 11) 8 rr])) rfl k_X7_costOf (c_X7_costOf l G m A τ y le an tt8 (by first | assumption | omega | decide) (by first | assumption | omega | decide)) ml_X7_269 rfl ⟨Nat.le_of_ble_eq_true rfl, Nat.le_of_ble_eq_true rfl⟩ rfl [0, 1, 2, 3, 4, 5, 6, 7, 8, 9, 10] [11] [1, 2, 3, 4, 5, 6, 7, 8, 9, 10, 11, 0] rfl (by decide) rfl (by decide) (by decide) (by decide) (fun _ => rfl) 0 rfl rfl rfl rfl (Nat.le_of_ble_eq_true rfl) ⟨by decide, by decide⟩ dX7_cost_9 (fun r9 u9 e9 => ?_)
    subst e9
    obtain ⟨an9_9, le9_9⟩ := u9
    refine g_ws (ws' := wN G m A τ y ++ ([iC G (A 16) 10 an9_9, iC G (A 17) 10 le9_9, iC G (A 11) 8 rr])) rfl ?_
    refine g_goto (pc := 12) (tgt := 21) C dX7_cost_12 (by decide) ?_
    exact g_retIW (pc := 21) C rfl rfl (an9_9, le9_9) (rfl) (by have e9 : rcCo (nI tt8) = 0 := (by first | (simp [rcCo, *]; done) | (grind [rcCo])); rw [if_pos e9] <;> (rw [ett8])) (by have e9 : rcCo (nI tt8) = 0 := (by first | (simp [rcCo, *]; done) | (grind [rcCo])); rw [e9, rfI_0] <;> (rfl)) dX7_cost_21
set_option maxRecDepth 20000 in
set_option maxHeartbeats 4000000 in
theorem c_X7_fine (l : Launch) (G : gT) (m : Nat) (A : Nat → Nat) (τ : tT) (y : Nat → Int32) (le : Nat → Int32) (an : Nat → Int32) (q : Int32) (co : Int32) (rr : Nat → Int32) (hT : TI τ) : WI l yX7_fine cX7_fine 5 (some .int) 12 0 0 G [.ref m, .int q, .int co] (wN G m A τ y ++ ([iC G (A 16) 10 an, iC G (A 17) 10 le, iC G (A 11) 8 rr])) (S := (Nat → Int32) × (Nat → Int32)) (fun r _ => r = if rcFi τ q co = 0 then nI (fiN τ (nx q) co 9) else (rcFi τ q co)) (fun u => wN G m A τ y ++ ([iC G (A 16) 10 u.1, iC G (A 17) 10 u.2, iC G (A 11) 8 (rfI rr (rcFi τ q co))])) := by
  have hg10 := hT.g10
  have hq8 := hT.q8
  intro sz9
  refine start_W (by decide) (Nat.le_of_ble_eq_true rfl) (fun p9 e9 s9 m9 a9 b9 t9 c9 C => ?_)
  refine g_lv (lv' := [(0, .ref m), (1, .int q), (2, .int co)]) rfl ?_
  refine g_aload_n (pc := 0) C dX7_fine_0 0 rfl ?_
  refine g_iload_n (pc := 1) C dX7_fine_1 1 rfl ?_
  refine g_rdVI (pc := 2) (val := bI (0 ≤ q ∧ q ≤ nI (tQ τ) - 1)) (rest := []) C k_X7_isQuestion (c_X7_isQuestion l G m A τ y q (by first | assumption | omega | decide)) ml_X7_102 rfl ⟨Nat.le_of_ble_eq_true rfl, Nat.le_of_ble_eq_true rfl⟩ rfl [0, 1, 2, 3, 4, 5, 6, 7, 8] rfl 0 rfl rfl rfl rfl (Nat.le_of_ble_eq_true rfl) ⟨by decide, by decide⟩ dX7_fine_2 ?_
  refine g_ifb_ne (pc := 5) (tgt := 14) C dX7_fine_5 (by decide) (fun h5 => ?_) (fun h5 => ?_)
  · obtain ⟨q8, hq8, rfl⟩ := isQ_nI hT h5
    have eq8 : nx (nI q8) = q8 := nx_nI (by omega)
    refine g_iload_n (pc := 14) C dX7_fine_14 2 rfl ?_
    refine g_if_ge (pc := 15) (tgt := 25) C dX7_fine_15 (by decide) (fun h15 => ?_) (fun h15 => ?_)
    · refine g_iconst (pc := 25) (v := 0) C dX7_fine_25 (by decide) ?_
      refine g_istore_n (pc := 26) (lv' := [(3, .int 0), (0, .ref m), (1, .int (nI q8)), (2, .int co)]) C dX7_fine_26 rfl (by decide) rfl ?_
      refine g_iconst (pc := 27) (v := 1) C dX7_fine_27 (by decide) ?_
      refine g_istore (pc := 28) (lv' := [(4, .int 1), (3, .int 0), (0, .ref m), (1, .int (nI q8)), (2, .int co)]) C dX7_fine_28 (by decide) rfl ?_
      have key_30 : ∀ (n30 : Nat) (i : Nat) (an2 : Nat → Int32) (le2 : Nat → Int32) (hi : i ≤ 10) (h1 : 1 ≤ i), 10 - i < n30 → GW p9 l e9 (rmh 12 0 0) s9 m9 a9 b9 t9 c9 (MQ b9 (va_Qi (fun r (_ : (Nat → Int32) × (Nat → Int32)) => r = if rcFi τ (nI q8) co = 0 then nI (fiN τ (nx (nI q8)) co 9) else (rcFi τ (nI q8) co)) (BW G (wN G m A τ y ++ ([iC G (A 16) 10 an, iC G (A 17) 10 le, iC G (A 11) 8 rr])) sz9 (fun u => wN G m A τ y ++ ([iC G (A 16) 10 u.1, iC G (A 17) 10 u.2, iC G (A 11) 8 (rfI rr (rcFi τ (nI q8) co))]))) (va_A (wN G m A τ y ++ ([iC G (A 16) 10 an, iC G (A 17) 10 le, iC G (A 11) 8 rr])) sz9)) a9 s9 0 0 (va_A (wN G m A τ y ++ ([iC G (A 16) 10 an, iC G (A 17) 10 le, iC G (A 11) 8 rr])) sz9)) G (va_A (wN G m A τ y ++ ([iC G (A 16) 10 an, iC G (A 17) 10 le, iC G (A 11) 8 rr])) sz9) true 5 0 0 (wN G m A τ y ++ ([iC G (A 16) 10 an2, iC G (A 17) 10 le2, iC G (A 11) 8 rr])) [(0, .ref m), (1, .int (nI q8)), (2, .int co), (3, .int (nI (fiN τ q8 co (i - 1)))), (4, .int (nI i))] 30 [] := by
        intro n30
        induction n30 with
        | zero => intro i an2 le2 hi h1 hn30; exact absurd hn30 (Nat.not_lt_zero _)
        | succ n30 ih30 =>
          intro i an2 le2 hi h1 hn30
          refine g_iload (pc := 30) C dX7_fine_30 4 rfl ?_
          refine g_bipush (pc := 32) (v := 10) C dX7_fine_32 (by decide) ?_
          refine g_icmpN_ge (pc := 34) (i := i) (j := 10) (tgt := 78) C dX7_fine_34 (by decide) ⟨by omega, by omega⟩ (fun h34 => ?_) (fun h34 => ?_)
          · refine g_iload_n (pc := 78) C dX7_fine_78 3 rfl ?_
            exact g_retIW (pc := 79) C rfl rfl (an2, le2) (rfl) (by have e9 : rcFi τ (nI q8) co = 0 := (by first | (simp [rcFi, *]; done) | (grind [rcFi])); rw [if_pos e9] <;> (rw [eq8, show i = 10 from by omega])) (by have e9 : rcFi τ (nI q8) co = 0 := (by first | (simp [rcFi, *]; done) | (grind [rcFi])); rw [e9, rfI_0] <;> (rfl)) dX7_fine_79
          · refine g_aload_n (pc := 37) C dX7_fine_37 0 rfl ?_
            refine g_iload (pc := 38) C dX7_fine_38 4 rfl ?_
            refine g_wrVI (pc := 40) (rest := []) (wr := [iC G (A 11) 8 rr]) C (fun u => wN G m A τ y ++ ([iC G (A 16) 10 u.1, iC G (A 17) 10 u.2, iC G (A 11) 8 rr])) rfl k_X7_costOf (c_X7_costOf l G m A τ y le2 an2 i (by first | assumption | omega | decide) (by first | assumption | omega | decide)) ml_X7_269 rfl ⟨Nat.le_of_ble_eq_true rfl, Nat.le_of_ble_eq_true rfl⟩ rfl [0, 1, 2, 3, 4, 5, 6, 7, 8, 9, 10] [11] [1, 2, 3, 4, 5, 6, 7, 8, 9, 10, 11, 0] rfl (by decide) rfl (by decide) (by decide) (by decide) (fun _ => rfl) 0 rfl rfl rfl rfl (Nat.le_of_ble_eq_true rfl) ⟨by decide, by decide⟩ dX7_fine_40 (fun r40 u40 e40 => ?_)
            subst e40
            obtain ⟨an9_40, le9_40⟩ := u40
            refine g_ws (ws' := wN G m A τ y ++ ([iC G (A 16) 10 an9_40, iC G (A 17) 10 le9_40, iC G (A 11) 8 rr])) rfl ?_
            refine g_iload_n (pc := 43) C dX7_fine_43 2 rfl ?_
            refine g_icmp_gt (pc := 44) (tgt := 72) C dX7_fine_44 (by decide) (fun h44 => ?_) (fun h44 => ?_)
            · refine g_iinc (pc := 72) (v := nI (i + 1)) (lv' := [(4, .int (nI (i + 1))), (0, .ref m), (1, .int (nI q8)), (2, .int co), (3, .int (nI (fiN τ q8 co (i - 1))))]) C dX7_fine_72 4 rfl (nI_1 i) (by decide) rfl ?_
              refine g_goto (pc := 75) (tgt := 30) C dX7_fine_75 (by decide) ?_
              refine g_ws (ws' := wN G m A τ y ++ ([iC G (A 16) 10 an9_40, iC G (A 17) 10 le9_40, iC G (A 11) 8 rr])) (rfl) ?_
              refine g_sub (lv' := [(0, .ref m), (1, .int (nI q8)), (2, .int co), (3, .int (nI (fiN τ q8 co (i - 1)))), (4, .int (nI (i + 1)))]) [1, 2, 3, 4, 0] rfl ?_
              refine g_lv (lv' := [(0, .ref m), (1, .int (nI q8)), (2, .int co), (3, .int (nI (fiN τ q8 co ((i + 1) - 1)))), (4, .int (nI (i + 1)))]) (by rw [show i + 1 - 1 = i from rfl, fi_st τ q8 co h1, if_neg (fun z => Int32.not_le.mpr h44 z.1)]) ?_
              exact ih30 (i + 1) an9_40 le9_40 (by first | assumption | omega | decide) (by first | assumption | omega | decide) (by omega)
            · refine g_aload_n (pc := 47) C dX7_fine_47 0 rfl ?_
              refine g_iload_n (pc := 48) C dX7_fine_48 1 rfl ?_
              refine g_iload (pc := 49) C dX7_fine_49 4 rfl ?_
              refine g_wrVI (pc := 51) (rest := []) (wr := [iC G (A 11) 8 rr]) C (fun _ => wN G m A τ y ++ ([iC G (A 16) 10 (frW (fun x9 => anN τ x9 i) an9_40 (tG τ)), iC G (A 17) 10 (frW (fun x9 => lfN τ x9 i) le9_40 (tG τ)), iC G (A 11) 8 rr])) rfl k_X7_offBy (c_X7_offBy l G m A τ y le9_40 an9_40 q8 i (by first | assumption | omega | decide) (by first | assumption | omega | decide) (by first | assumption | omega | decide)) ml_X7_229 rfl ⟨Nat.le_of_ble_eq_true rfl, Nat.le_of_ble_eq_true rfl⟩ rfl [0, 1, 2, 3, 4, 5, 6, 7, 8, 9, 10] [11] [1, 2, 3, 4, 5, 6, 7, 8, 9, 10, 11, 0] rfl (by decide) rfl (by decide) (by decide) (by decide) (fun _ => rfl) 0 rfl rfl rfl rfl (Nat.le_of_ble_eq_true rfl) ⟨by decide, by decide⟩ dX7_fine_51 (fun r51 _ e51 => ?_)
              subst e51
              refine g_mabs (pc := 54) (v := mAbs (off τ q8 i)) C ml_X7_242 rfl ⟨Nat.le_of_ble_eq_true rfl, Nat.le_of_ble_eq_true rfl⟩ ⟨by decide, by decide⟩ rfl dX7_fine_54 ?_
              refine g_aload_n (pc := 57) C dX7_fine_57 0 rfl ?_
              refine g_iload_n (pc := 58) C dX7_fine_58 1 rfl ?_
              refine g_iload_n (pc := 59) C dX7_fine_59 3 rfl ?_
              refine g_wrVI (pc := 60) (rest := [.int (mAbs (off τ q8 i))]) (wr := [iC G (A 11) 8 rr]) C (fun _ => wN G m A τ y ++ ([iC G (A 16) 10 (frW (fun x9 => anN τ x9 (fiN τ q8 co (i - 1))) (frW (fun x9 => anN τ x9 i) an9_40 (tG τ)) (tG τ)), iC G (A 17) 10 (frW (fun x9 => lfN τ x9 (fiN τ q8 co (i - 1))) (frW (fun x9 => lfN τ x9 i) le9_40 (tG τ)) (tG τ)), iC G (A 11) 8 rr])) rfl k_X7_offBy (c_X7_offBy l G m A τ y (frW (fun x9 => lfN τ x9 i) le9_40 (tG τ)) (frW (fun x9 => anN τ x9 i) an9_40 (tG τ)) q8 (fiN τ q8 co (i - 1)) (by first | assumption | omega | decide) (by first | assumption | omega | decide) (by have := fiN_le τ q8 co (i - 1); omega)) ml_X7_229 rfl ⟨Nat.le_of_ble_eq_true rfl, Nat.le_of_ble_eq_true rfl⟩ rfl [0, 1, 2, 3, 4, 5, 6, 7, 8, 9, 10] [11] [1, 2, 3, 4, 5, 6, 7, 8, 9, 10, 11, 0] rfl (by decide) rfl (by decide) (by decide) (by decide) (fun _ => rfl) 0 rfl rfl rfl rfl (Nat.le_of_ble_eq_true rfl) ⟨by decide, by decide⟩ dX7_fine_60 (fun r60 _ e60 => ?_)
              subst e60
              refine g_mabs (pc := 63) (v := mAbs (off τ q8 (fiN τ q8 co (i - 1)))) C ml_X7_242 rfl ⟨Nat.le_of_ble_eq_true rfl, Nat.le_of_ble_eq_true rfl⟩ ⟨by decide, by decide⟩ rfl dX7_fine_63 ?_
              refine g_icmp_ge (pc := 66) (tgt := 72) C dX7_fine_66 (by decide) (fun h66 => ?_) (fun h66 => ?_)
              · refine g_iinc (pc := 72) (v := nI (i + 1)) (lv' := [(4, .int (nI (i + 1))), (0, .ref m), (1, .int (nI q8)), (2, .int co), (3, .int (nI (fiN τ q8 co (i - 1))))]) C dX7_fine_72 4 rfl (nI_1 i) (by decide) rfl ?_
                refine g_goto (pc := 75) (tgt := 30) C dX7_fine_75 (by decide) ?_
                refine g_ws (ws' := wN G m A τ y ++ ([iC G (A 16) 10 (frW (fun x9 => anN τ x9 (fiN τ q8 co (i - 1))) (frW (fun x9 => anN τ x9 i) an9_40 (tG τ)) (tG τ)), iC G (A 17) 10 (frW (fun x9 => lfN τ x9 (fiN τ q8 co (i - 1))) (frW (fun x9 => lfN τ x9 i) le9_40 (tG τ)) (tG τ)), iC G (A 11) 8 rr])) (rfl) ?_
                refine g_sub (lv' := [(0, .ref m), (1, .int (nI q8)), (2, .int co), (3, .int (nI (fiN τ q8 co (i - 1)))), (4, .int (nI (i + 1)))]) [1, 2, 3, 4, 0] rfl ?_
                refine g_lv (lv' := [(0, .ref m), (1, .int (nI q8)), (2, .int co), (3, .int (nI (fiN τ q8 co ((i + 1) - 1)))), (4, .int (nI (i + 1)))]) (by rw [show i + 1 - 1 = i from rfl, fi_st τ q8 co h1, if_neg (fun z => Int32.not_lt.mpr h66 z.2)]) ?_
                exact ih30 (i + 1) (frW (fun x9 => anN τ x9 (fiN τ q8 co (i - 1))) (frW (fun x9 => anN τ x9 i) an9_40 (tG τ)) (tG τ)) (frW (fun x9 => lfN τ x9 (fiN τ q8 co (i - 1))) (frW (fun x9 => lfN τ x9 i) le9_40 (tG τ)) (tG τ)) (by first | assumption | omega | decide) (by first | assumption | omega | decide) (by omega)
              · refine g_iload (pc := 69) C dX7_fine_69 4 rfl ?_
                refine g_istore_n (pc := 71) (lv' := [(3, .int (nI i)), (0, .ref m), (1, .int (nI q8)), (2, .int co), (4, .int (nI i))]) C dX7_fine_71 rfl (by decide) rfl ?_
                refine g_iinc (pc := 72) (v := nI (i + 1)) (lv' := [(4, .int (nI (i + 1))), (3, .int (nI i)), (0, .ref m), (1, .int (nI q8)), (2, .int co)]) C dX7_fine_72 4 rfl (nI_1 i) (by decide) rfl ?_
                refine g_goto (pc := 75) (tgt := 30) C dX7_fine_75 (by decide) ?_
                refine g_ws (ws' := wN G m A τ y ++ ([iC G (A 16) 10 (frW (fun x9 => anN τ x9 (fiN τ q8 co (i - 1))) (frW (fun x9 => anN τ x9 i) an9_40 (tG τ)) (tG τ)), iC G (A 17) 10 (frW (fun x9 => lfN τ x9 (fiN τ q8 co (i - 1))) (frW (fun x9 => lfN τ x9 i) le9_40 (tG τ)) (tG τ)), iC G (A 11) 8 rr])) (rfl) ?_
                refine g_sub (lv' := [(0, .ref m), (1, .int (nI q8)), (2, .int co), (3, .int (nI i)), (4, .int (nI (i + 1)))]) [2, 3, 4, 1, 0] rfl ?_
                refine g_lv (lv' := [(0, .ref m), (1, .int (nI q8)), (2, .int co), (3, .int (nI (fiN τ q8 co ((i + 1) - 1)))), (4, .int (nI (i + 1)))]) (by rw [show i + 1 - 1 = i from rfl, fi_st τ q8 co h1, if_pos ⟨Int32.not_lt.mp h44, Int32.not_le.mp h66⟩]) ?_
                exact ih30 (i + 1) (frW (fun x9 => anN τ x9 (fiN τ q8 co (i - 1))) (frW (fun x9 => anN τ x9 i) an9_40 (tG τ)) (tG τ)) (frW (fun x9 => lfN τ x9 (fiN τ q8 co (i - 1))) (frW (fun x9 => lfN τ x9 i) le9_40 (tG τ)) (tG τ)) (by first | assumption | omega | decide) (by first | assumption | omega | decide) (by omega)
      refine g_ws (ws' := wN G m A τ y ++ ([iC G (A 16) 10 an, iC G (A 17) 10 le, iC G (A 11) 8 rr])) (rfl) ?_
      refine g_sub (lv' := [(0, .ref m), (1, .int (nI q8)), (2, .int co), (3, .int (nI (fiN τ q8 co (1 - 1)))), (4, .int (nI 1))]) [2, 3, 4, 1, 0] rfl ?_
      exact key_30 _ 1 an le (by first | assumption | omega | decide) (by first | assumption | omega | decide) (Nat.lt_succ_self _)
    · refine g_aload_n (pc := 18) C dX7_fine_18 0 rfl ?_
      refine g_bipush (pc := 19) (v := (-6)) C dX7_fine_19 (by decide) ?_
      refine g_wrVI (pc := 21) (rest := []) (wr := [iC G (A 16) 10 an, iC G (A 17) 10 le]) C (fun _ => wN G m A τ y ++ ([iC G (A 16) 10 an, iC G (A 17) 10 le, iC G (A 11) 8 (rfI rr (-6))])) rfl k_X7_no (c_X7_no l G m A τ y rr (-6) (by first | assumption | omega | decide)) ml_X7_81 rfl ⟨Nat.le_of_ble_eq_true rfl, Nat.le_of_ble_eq_true rfl⟩ rfl [0, 1, 2, 3, 4, 5, 6, 7, 8, 11] [9, 10] [2, 3, 4, 5, 6, 7, 8, 9, 10, 0, 1, 11] rfl (by decide) rfl (by decide) (by decide) (by decide) (fun _ => rfl) 0 rfl rfl rfl rfl (Nat.le_of_ble_eq_true rfl) ⟨by decide, by decide⟩ dX7_fine_21 (fun r21 _ e21 => ?_)
      subst e21
      exact g_retIW (pc := 24) C rfl rfl (an, le) (rfl) (by have e9 : rcFi τ (nI q8) co = (-6) := (by first | (simp [rcFi, *]; done) | (grind [rcFi])); rw [if_neg (by rw [e9] <;> (first | done | decide)), e9]) (by have e9 : rcFi τ (nI q8) co = (-6) := (by first | (simp [rcFi, *]; done) | (grind [rcFi])); rw [e9] <;> (first | done | rfl | (rw [if_neg (by decide)] <;> (first | done | rfl)))) dX7_fine_24
  · refine g_aload_n (pc := 8) C dX7_fine_8 0 rfl ?_
    refine g_iconst (pc := 9) (v := (-1)) C dX7_fine_9 (by decide) ?_
    refine g_wrVI (pc := 10) (rest := []) (wr := [iC G (A 16) 10 an, iC G (A 17) 10 le]) C (fun _ => wN G m A τ y ++ ([iC G (A 16) 10 an, iC G (A 17) 10 le, iC G (A 11) 8 (rfI rr (-1))])) rfl k_X7_no (c_X7_no l G m A τ y rr (-1) (by first | assumption | omega | decide)) ml_X7_81 rfl ⟨Nat.le_of_ble_eq_true rfl, Nat.le_of_ble_eq_true rfl⟩ rfl [0, 1, 2, 3, 4, 5, 6, 7, 8, 11] [9, 10] [2, 3, 4, 5, 6, 7, 8, 9, 10, 0, 1, 11] rfl (by decide) rfl (by decide) (by decide) (by decide) (fun _ => rfl) 0 rfl rfl rfl rfl (Nat.le_of_ble_eq_true rfl) ⟨by decide, by decide⟩ dX7_fine_10 (fun r10 _ e10 => ?_)
    subst e10
    exact g_retIW (pc := 13) C rfl rfl (an, le) (rfl) (by have e9 : rcFi τ q co = (-1) := (by first | (simp [rcFi, *]; done) | (grind [rcFi])); rw [if_neg (by rw [e9] <;> (first | done | decide)), e9]) (by have e9 : rcFi τ q co = (-1) := (by first | (simp [rcFi, *]; done) | (grind [rcFi])); rw [e9] <;> (first | done | rfl | (rw [if_neg (by decide)] <;> (first | done | rfl)))) dX7_fine_13
set_option maxRecDepth 20000 in
set_option maxHeartbeats 4000000 in
theorem c_X7_answers (l : Launch) (G : gT) (m : Nat) (A : Nat → Nat) (τ : tT) (y : Nat → Int32) (le : Nat → Int32) (an : Nat → Int32) (tt : Int32) (k : Int32) (rr : Nat → Int32) (hT : TI τ) : WI l yX7_answers cX7_answers 6 (some .int) 12 0 0 G [.ref m, .int tt, .int k] (wN G m A τ y ++ ([iC G (A 16) 10 an, iC G (A 17) 10 le, iC G (A 11) 8 rr])) (S := (Nat → Int32) × (Nat → Int32)) (fun r _ => r = if rcAn tt k = 0 then (if k = 0 then anB τ 0 (nx tt) else lfB τ (nx tt)) else (rcAn tt k)) (fun u => wN G m A τ y ++ ([iC G (A 16) 10 u.1, iC G (A 17) 10 u.2, iC G (A 11) 8 (rfI rr (rcAn tt k))])) := by
  have hg10 := hT.g10
  have hq8 := hT.q8
  intro sz9
  refine start_W (by decide) (Nat.le_of_ble_eq_true rfl) (fun p9 e9 s9 m9 a9 b9 t9 c9 C => ?_)
  refine g_lv (lv' := [(0, .ref m), (1, .int tt), (2, .int k)]) rfl ?_
  refine g_iload_n (pc := 0) C dX7_answers_0 2 rfl ?_
  refine g_iconst (pc := 1) (v := 0) C dX7_answers_1 (by decide) ?_
  refine g_iconst (pc := 2) (v := 1) C dX7_answers_2 (by decide) ?_
  refine g_rdSI (pc := 3) (val := bI (0 ≤ k ∧ k ≤ 1)) (rest := []) C k_X7_within (c_X7_within l G k 0 1) ml_X7_88 rfl ⟨Nat.le_of_ble_eq_true rfl, Nat.le_of_ble_eq_true rfl⟩ rfl [] rfl rfl (Nat.le_of_ble_eq_true rfl) ⟨by decide, by decide⟩ dX7_answers_3 ?_
  refine g_ifb_ne (pc := 6) (tgt := 16) C dX7_answers_6 (by decide) (fun h6 => ?_) (fun h6 => ?_)
  · refine g_iload_n (pc := 16) C dX7_answers_16 1 rfl ?_
    refine g_rdSI (pc := 17) (val := bI (0 ≤ tt ∧ tt ≤ 9)) (rest := []) C k_X7_isTries (c_X7_isTries l G tt) ml_X7_223 rfl ⟨Nat.le_of_ble_eq_true rfl, Nat.le_of_ble_eq_true rfl⟩ rfl [] rfl rfl (Nat.le_of_ble_eq_true rfl) ⟨by decide, by decide⟩ dX7_answers_17 ?_
    refine g_ifb_ne (pc := 20) (tgt := 30) C dX7_answers_20 (by decide) (fun h20 => ?_) (fun h20 => ?_)
    · obtain ⟨tt8, htt8, rfl⟩ := (lt_Q (n := 10) (by decide)).mp h20
      have ett8 : nx (nI tt8) = tt8 := nx_nI (by omega)
      refine g_aload_n (pc := 30) C dX7_answers_30 0 rfl ?_
      refine g_iload_n (pc := 31) C dX7_answers_31 1 rfl ?_
      refine g_wrVI (pc := 32) (rest := []) (wr := [iC G (A 11) 8 rr]) C (fun _ => wN G m A τ y ++ ([iC G (A 16) 10 (frW (fun x9 => anN τ x9 tt8) an (tG τ)), iC G (A 17) 10 (frW (fun x9 => lfN τ x9 tt8) le (tG τ)), iC G (A 11) 8 rr])) rfl k_X7_answered (c_X7_answered l G m A τ y le an tt8 (by first | assumption | omega | decide) (by first | assumption | omega | decide)) ml_X7_220 rfl ⟨Nat.le_of_ble_eq_true rfl, Nat.le_of_ble_eq_true rfl⟩ rfl [0, 1, 2, 3, 4, 5, 6, 7, 8, 9, 10] [11] [1, 2, 3, 4, 5, 6, 7, 8, 9, 10, 11, 0] rfl (by decide) rfl (by decide) (by decide) (by decide) (fun _ => rfl) 0 rfl rfl rfl rfl (Nat.le_of_ble_eq_true rfl) ⟨by decide, by decide⟩ dX7_answers_32 (fun r32 _ e32 => ?_)
      subst e32
      refine g_istore_n (pc := 35) (lv' := [(3, .int (sumN (fun x9 => anN τ x9 tt8) (tG τ))), (0, .ref m), (1, .int (nI tt8)), (2, .int k)]) C dX7_answers_35 rfl (by decide) rfl ?_
      refine g_iload_n (pc := 36) C dX7_answers_36 3 rfl ?_
      refine g_if_ne (pc := 37) (tgt := 42) C dX7_answers_37 (by decide) (fun h37 => ?_) (fun h37 => ?_)
      · refine g_iconst (pc := 42) (v := 0) C dX7_answers_42 (by decide) ?_
        refine g_istore (pc := 43) (lv' := [(4, .int 0), (3, .int (sumN (fun x9 => anN τ x9 tt8) (tG τ))), (0, .ref m), (1, .int (nI tt8)), (2, .int k)]) C dX7_answers_43 (by decide) rfl ?_
        refine g_iconst (pc := 45) (v := 0) C dX7_answers_45 (by decide) ?_
        refine g_istore (pc := 46) (lv' := [(5, .int 0), (4, .int 0), (3, .int (sumN (fun x9 => anN τ x9 tt8) (tG τ))), (0, .ref m), (1, .int (nI tt8)), (2, .int k)]) C dX7_answers_46 (by decide) rfl ?_
        have key_48 : ∀ (n48 : Nat) (j : Nat) (hj : j ≤ tG τ), tG τ - j < n48 → GW p9 l e9 (rmh 12 0 0) s9 m9 a9 b9 t9 c9 (MQ b9 (va_Qi (fun r (_ : (Nat → Int32) × (Nat → Int32)) => r = if rcAn (nI tt8) k = 0 then (if k = 0 then anB τ 0 (nx (nI tt8)) else lfB τ (nx (nI tt8))) else (rcAn (nI tt8) k)) (BW G (wN G m A τ y ++ ([iC G (A 16) 10 an, iC G (A 17) 10 le, iC G (A 11) 8 rr])) sz9 (fun u => wN G m A τ y ++ ([iC G (A 16) 10 u.1, iC G (A 17) 10 u.2, iC G (A 11) 8 (rfI rr (rcAn (nI tt8) k))]))) (va_A (wN G m A τ y ++ ([iC G (A 16) 10 an, iC G (A 17) 10 le, iC G (A 11) 8 rr])) sz9)) a9 s9 0 0 (va_A (wN G m A τ y ++ ([iC G (A 16) 10 an, iC G (A 17) 10 le, iC G (A 11) 8 rr])) sz9)) G (va_A (wN G m A τ y ++ ([iC G (A 16) 10 an, iC G (A 17) 10 le, iC G (A 11) 8 rr])) sz9) true 6 0 0 (wN G m A τ y ++ ([iC G (A 16) 10 (frW (fun x9 => anN τ x9 tt8) an (tG τ)), iC G (A 17) 10 (frW (fun x9 => lfN τ x9 tt8) le (tG τ)), iC G (A 11) 8 rr])) [(0, .ref m), (1, .int (nI tt8)), (2, .int k), (3, .int (sumN (fun x9 => anN τ x9 tt8) (tG τ))), (4, .int (sumN (fun x9 => lfN τ x9 tt8) j)), (5, .int (nI j))] 48 [] := by
          intro n48
          induction n48 with
          | zero => intro j hj hn48; exact absurd hn48 (Nat.not_lt_zero _)
          | succ n48 ih48 =>
            intro j hj hn48
            refine g_iload (pc := 48) C dX7_answers_48 5 rfl ?_
            refine g_aload_n (pc := 50) C dX7_answers_50 0 rfl ?_
            refine g_get (pc := 51) (T := TX7) (N := 33) (v := .int (τ 8 1)) C ib_X7 0 rfl rfl 7 (by decide) mf_X7_92 rfl rfl rfl dX7_answers_51 ?_
            refine g_top (z := nI (tG τ)) (hT.g) ?_
            refine g_icmpN_ge (pc := 54) (i := j) (j := tG τ) (tgt := 75) C dX7_answers_54 (by decide) ⟨by omega, by omega⟩ (fun h54 => ?_) (fun h54 => ?_)
            · refine g_iload (pc := 75) C dX7_answers_75 4 rfl ?_
              exact g_retIW (pc := 77) C rfl rfl (frW (fun x9 => anN τ x9 tt8) an (tG τ), frW (fun x9 => lfN τ x9 tt8) le (tG τ)) (rfl) (by have e9 : rcAn (nI tt8) k = 0 := (by first | (simp [rcAn, *]; done) | (grind [rcAn])); rw [if_pos e9] <;> (rw [if_neg h37, ett8, show j = tG τ from by omega] <;> rfl)) (by have e9 : rcAn (nI tt8) k = 0 := (by first | (simp [rcAn, *]; done) | (grind [rcAn])); rw [e9, rfI_0] <;> (rfl)) dX7_answers_77
            · refine g_iload (pc := 57) C dX7_answers_57 4 rfl ?_
              refine g_aload_n (pc := 59) C dX7_answers_59 0 rfl ?_
              refine g_get (pc := 60) (T := TX7) (N := 33) (v := .ref (A 17)) C ib_X7 0 rfl rfl 29 (by decide) mf_X7_62 rfl rfl rfl dX7_answers_60 ?_
              refine g_iload (pc := 63) C dX7_answers_63 5 rfl ?_
              refine g_iald (pc := 65) (v := lfN τ j tt8) C 10 rfl j (rfl) ⟨by omega, by decide⟩ (frW_lt (by omega)) dX7_answers_65 ?_
              refine g_iadd (pc := 66) C dX7_answers_66 ?_
              refine g_istore (pc := 67) (lv' := [(4, .int ((sumN (fun x9 => lfN τ x9 tt8) j) + (lfN τ j tt8))), (0, .ref m), (1, .int (nI tt8)), (2, .int k), (3, .int (sumN (fun x9 => anN τ x9 tt8) (tG τ))), (5, .int (nI j))]) C dX7_answers_67 (by decide) rfl ?_
              refine g_iinc (pc := 69) (v := nI (j + 1)) (lv' := [(5, .int (nI (j + 1))), (4, .int ((sumN (fun x9 => lfN τ x9 tt8) j) + (lfN τ j tt8))), (0, .ref m), (1, .int (nI tt8)), (2, .int k), (3, .int (sumN (fun x9 => anN τ x9 tt8) (tG τ)))]) C dX7_answers_69 5 rfl (nI_1 j) (by decide) rfl ?_
              refine g_goto (pc := 72) (tgt := 48) C dX7_answers_72 (by decide) ?_
              refine g_ws (ws' := wN G m A τ y ++ ([iC G (A 16) 10 (frW (fun x9 => anN τ x9 tt8) an (tG τ)), iC G (A 17) 10 (frW (fun x9 => lfN τ x9 tt8) le (tG τ)), iC G (A 11) 8 rr])) (rfl) ?_
              refine g_sub (lv' := [(0, .ref m), (1, .int (nI tt8)), (2, .int k), (3, .int (sumN (fun x9 => anN τ x9 tt8) (tG τ))), (4, .int (sumN (fun x9 => lfN τ x9 tt8) (j + 1))), (5, .int (nI (j + 1)))]) [2, 3, 4, 5, 1, 0] rfl ?_
              exact ih48 (j + 1) (by first | assumption | omega | decide) (by omega)
        refine g_ws (ws' := wN G m A τ y ++ ([iC G (A 16) 10 (frW (fun x9 => anN τ x9 tt8) an (tG τ)), iC G (A 17) 10 (frW (fun x9 => lfN τ x9 tt8) le (tG τ)), iC G (A 11) 8 rr])) (rfl) ?_
        refine g_sub (lv' := [(0, .ref m), (1, .int (nI tt8)), (2, .int k), (3, .int (sumN (fun x9 => anN τ x9 tt8) (tG τ))), (4, .int (sumN (fun x9 => lfN τ x9 tt8) 0)), (5, .int (nI 0))]) [3, 4, 5, 2, 1, 0] rfl ?_
        exact key_48 _ 0 (by first | assumption | omega | decide) (Nat.lt_succ_self _)
      · refine g_iload_n (pc := 40) C dX7_answers_40 0 rfl ?_
        exact g_retIW (pc := 41) C rfl rfl (frW (fun x9 => anN τ x9 tt8) an (tG τ), frW (fun x9 => lfN τ x9 tt8) le (tG τ)) (rfl) (by have e9 : rcAn (nI tt8) k = 0 := (by first | (simp [rcAn, *]; done) | (grind [rcAn])); rw [if_pos e9] <;> (rw [if_pos h37, ett8, anB_0])) (by have e9 : rcAn (nI tt8) k = 0 := (by first | (simp [rcAn, *]; done) | (grind [rcAn])); rw [e9, rfI_0] <;> (rfl)) dX7_answers_41
    · refine g_aload_n (pc := 23) C dX7_answers_23 0 rfl ?_
      refine g_bipush (pc := 24) (v := (-6)) C dX7_answers_24 (by decide) ?_
      refine g_wrVI (pc := 26) (rest := []) (wr := [iC G (A 16) 10 an, iC G (A 17) 10 le]) C (fun _ => wN G m A τ y ++ ([iC G (A 16) 10 an, iC G (A 17) 10 le, iC G (A 11) 8 (rfI rr (-6))])) rfl k_X7_no (c_X7_no l G m A τ y rr (-6) (by first | assumption | omega | decide)) ml_X7_81 rfl ⟨Nat.le_of_ble_eq_true rfl, Nat.le_of_ble_eq_true rfl⟩ rfl [0, 1, 2, 3, 4, 5, 6, 7, 8, 11] [9, 10] [2, 3, 4, 5, 6, 7, 8, 9, 10, 0, 1, 11] rfl (by decide) rfl (by decide) (by decide) (by decide) (fun _ => rfl) 0 rfl rfl rfl rfl (Nat.le_of_ble_eq_true rfl) ⟨by decide, by decide⟩ dX7_answers_26 (fun r26 _ e26 => ?_)
      subst e26
      exact g_retIW (pc := 29) C rfl rfl (an, le) (rfl) (by have e9 : rcAn tt k = (-6) := (by first | (simp [rcAn, *]; done) | (grind [rcAn])); rw [if_neg (by rw [e9] <;> (first | done | decide)), e9]) (by have e9 : rcAn tt k = (-6) := (by first | (simp [rcAn, *]; done) | (grind [rcAn])); rw [e9] <;> (first | done | rfl | (rw [if_neg (by decide)] <;> (first | done | rfl)))) dX7_answers_29
  · refine g_aload_n (pc := 9) C dX7_answers_9 0 rfl ?_
    refine g_bipush (pc := 10) (v := (-5)) C dX7_answers_10 (by decide) ?_
    refine g_wrVI (pc := 12) (rest := []) (wr := [iC G (A 16) 10 an, iC G (A 17) 10 le]) C (fun _ => wN G m A τ y ++ ([iC G (A 16) 10 an, iC G (A 17) 10 le, iC G (A 11) 8 (rfI rr (-5))])) rfl k_X7_no (c_X7_no l G m A τ y rr (-5) (by first | assumption | omega | decide)) ml_X7_81 rfl ⟨Nat.le_of_ble_eq_true rfl, Nat.le_of_ble_eq_true rfl⟩ rfl [0, 1, 2, 3, 4, 5, 6, 7, 8, 11] [9, 10] [2, 3, 4, 5, 6, 7, 8, 9, 10, 0, 1, 11] rfl (by decide) rfl (by decide) (by decide) (by decide) (fun _ => rfl) 0 rfl rfl rfl rfl (Nat.le_of_ble_eq_true rfl) ⟨by decide, by decide⟩ dX7_answers_12 (fun r12 _ e12 => ?_)
    subst e12
    exact g_retIW (pc := 15) C rfl rfl (an, le) (rfl) (by have e9 : rcAn tt k = (-5) := (by first | (simp [rcAn, *]; done) | (grind [rcAn])); rw [if_neg (by rw [e9] <;> (first | done | decide)), e9]) (by have e9 : rcAn tt k = (-5) := (by first | (simp [rcAn, *]; done) | (grind [rcAn])); rw [e9] <;> (first | done | rfl | (rw [if_neg (by decide)] <;> (first | done | rfl)))) dX7_answers_15
