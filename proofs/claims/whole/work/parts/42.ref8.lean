set_option maxRecDepth 20000 in
set_option maxHeartbeats 4000000 in
theorem c_X7_fits (l : Launch) (G : gT) (m : Nat) (A : Nat → Nat) (τ : tT) (y : Nat → Int32) (v : Int32) (w : Int32) (rr : Nat → Int32) (hT : TI τ) : WI l yX7_fits cX7_fits 5 (some .int) 12 0 0 G [.ref m, .int v, .int w] (wN G m A τ y ++ ([iC G (A 11) 8 rr])) (S := Unit) (fun r _ => r = if rcFt v w = 0 then ftN τ v w (tQ τ) else (rcFt v w)) (fun _ => wN G m A τ y ++ ([iC G (A 11) 8 (rfI rr (rcFt v w))])) := by
  have hg10 := hT.g10
  have hq8 := hT.q8
  intro sz9
  refine start_W (by decide) (Nat.le_of_ble_eq_true rfl) (fun p9 e9 s9 m9 a9 b9 t9 c9 C => ?_)
  refine g_lv (lv' := [(0, .ref m), (1, .int v), (2, .int w)]) rfl ?_
  refine g_iload_n (pc := 0) C dX7_fits_0 1 rfl ?_
  refine g_iconst (pc := 1) (v := 0) C dX7_fits_1 (by decide) ?_
  refine g_sipush (pc := 2) (v := 1000) C dX7_fits_2 (by decide) ?_
  refine g_rdSI (pc := 5) (val := bI (0 ≤ v ∧ v ≤ 1000)) (rest := []) C k_X7_within (c_X7_within l G v 0 1000) ml_X7_88 rfl ⟨Nat.le_of_ble_eq_true rfl, Nat.le_of_ble_eq_true rfl⟩ rfl [] rfl rfl (Nat.le_of_ble_eq_true rfl) ⟨by decide, by decide⟩ dX7_fits_5 ?_
  refine g_ifb_eq (pc := 8) (tgt := 22) C dX7_fits_8 (by decide) (fun h8 => ?_) (fun h8 => ?_)
  · refine g_aload_n (pc := 22) C dX7_fits_22 0 rfl ?_
    refine g_bipush (pc := 23) (v := (-6)) C dX7_fits_23 (by decide) ?_
    refine g_wrVI (pc := 25) (rest := []) (wr := []) C (fun _ => wN G m A τ y ++ ([iC G (A 11) 8 (rfI rr (-6))])) rfl k_X7_no (c_X7_no l G m A τ y rr (-6) (by first | assumption | omega | decide)) ml_X7_81 rfl ⟨Nat.le_of_ble_eq_true rfl, Nat.le_of_ble_eq_true rfl⟩ rfl [0, 1, 2, 3, 4, 5, 6, 7, 8, 9] [] [0, 1, 2, 3, 4, 5, 6, 7, 8, 9] rfl (by decide) rfl (by decide) (by decide) (by decide) (fun _ => rfl) 0 rfl rfl rfl rfl (Nat.le_of_ble_eq_true rfl) ⟨by decide, by decide⟩ dX7_fits_25 (fun r25 _ e25 => ?_)
    subst e25
    exact g_retIW (pc := 28) C rfl rfl () (rfl) (by have e9 : rcFt v w = (-6) := (by first | (simp [rcFt, *]; done) | (grind [rcFt])); rw [if_neg (by rw [e9] <;> (first | done | decide)), e9]) (by have e9 : rcFt v w = (-6) := (by first | (simp [rcFt, *]; done) | (grind [rcFt])); rw [e9] <;> (first | done | rfl | (rw [if_neg (by decide)] <;> (first | done | rfl)))) dX7_fits_28
  · refine g_iload_n (pc := 11) C dX7_fits_11 2 rfl ?_
    refine g_iconst (pc := 12) (v := 0) C dX7_fits_12 (by decide) ?_
    refine g_sipush (pc := 13) (v := 1000) C dX7_fits_13 (by decide) ?_
    refine g_rdSI (pc := 16) (val := bI (0 ≤ w ∧ w ≤ 1000)) (rest := []) C k_X7_within (c_X7_within l G w 0 1000) ml_X7_88 rfl ⟨Nat.le_of_ble_eq_true rfl, Nat.le_of_ble_eq_true rfl⟩ rfl [] rfl rfl (Nat.le_of_ble_eq_true rfl) ⟨by decide, by decide⟩ dX7_fits_16 ?_
    refine g_ifb_ne (pc := 19) (tgt := 29) C dX7_fits_19 (by decide) (fun h19 => ?_) (fun h19 => ?_)
    · refine g_iconst (pc := 29) (v := 0) C dX7_fits_29 (by decide) ?_
      refine g_istore_n (pc := 30) (lv' := [(3, .int 0), (0, .ref m), (1, .int v), (2, .int w)]) C dX7_fits_30 rfl (by decide) rfl ?_
      refine g_iconst (pc := 31) (v := 0) C dX7_fits_31 (by decide) ?_
      refine g_istore (pc := 32) (lv' := [(4, .int 0), (3, .int 0), (0, .ref m), (1, .int v), (2, .int w)]) C dX7_fits_32 (by decide) rfl ?_
      have key_34 : ∀ (n34 : Nat) (i : Nat) (hi : i ≤ tQ τ), tQ τ - i < n34 → GW p9 l e9 (rmh 12 0 0) s9 m9 a9 b9 t9 c9 (MQ b9 (va_Qi (fun r (_ : Unit) => r = if rcFt v w = 0 then ftN τ v w (tQ τ) else (rcFt v w)) (BW G (wN G m A τ y ++ ([iC G (A 11) 8 rr])) sz9 (fun _ => wN G m A τ y ++ ([iC G (A 11) 8 (rfI rr (rcFt v w))]))) (va_A (wN G m A τ y ++ ([iC G (A 11) 8 rr])) sz9)) a9 s9 0 0 (va_A (wN G m A τ y ++ ([iC G (A 11) 8 rr])) sz9)) G (va_A (wN G m A τ y ++ ([iC G (A 11) 8 rr])) sz9) true 5 0 0 (wN G m A τ y ++ ([iC G (A 11) 8 rr])) [(0, .ref m), (1, .int v), (2, .int w), (3, .int (ftN τ v w i)), (4, .int (nI i))] 34 [] := by
        intro n34
        induction n34 with
        | zero => intro i hi hn34; exact absurd hn34 (Nat.not_lt_zero _)
        | succ n34 ih34 =>
          intro i hi hn34
          refine g_iload (pc := 34) C dX7_fits_34 4 rfl ?_
          refine g_aload_n (pc := 36) C dX7_fits_36 0 rfl ?_
          refine g_get (pc := 37) (T := TX7) (N := 33) (v := .int (τ 8 0)) C ib_X7 0 rfl rfl 3 (by decide) mf_X7_85 rfl rfl rfl dX7_fits_37 ?_
          refine g_top (z := nI (tQ τ)) (hT.q) ?_
          refine g_icmpN_ge (pc := 40) (i := i) (j := tQ τ) (tgt := 71) C dX7_fits_40 (by decide) ⟨by omega, by omega⟩ (fun h40 => ?_) (fun h40 => ?_)
          · refine g_iload_n (pc := 71) C dX7_fits_71 3 rfl ?_
            exact g_retIW (pc := 72) C rfl rfl () (rfl) (by have e9 : rcFt v w = 0 := (by first | (simp [rcFt, *]; done) | (grind [rcFt])); rw [if_pos e9] <;> (rw [show i = tQ τ from by omega])) (by have e9 : rcFt v w = 0 := (by first | (simp [rcFt, *]; done) | (grind [rcFt])); rw [e9, rfI_0] <;> (rfl)) dX7_fits_72
          · refine g_aload_n (pc := 43) C dX7_fits_43 0 rfl ?_
            refine g_iload (pc := 44) C dX7_fits_44 4 rfl ?_
            refine g_rdVI (pc := 46) (val := share τ i) (rest := []) C k_X7_shareOf (c_X7_shareOf l G m A τ y i (by first | assumption | omega | decide) (by first | assumption | omega | decide)) ml_X7_112 rfl ⟨Nat.le_of_ble_eq_true rfl, Nat.le_of_ble_eq_true rfl⟩ rfl [0, 1, 2, 3, 4, 5, 6, 7, 8] rfl 0 rfl rfl rfl rfl (Nat.le_of_ble_eq_true rfl) ⟨by decide, by decide⟩ dX7_fits_46 ?_
            refine g_iload_n (pc := 49) C dX7_fits_49 1 rfl ?_
            refine g_isub (pc := 50) C dX7_fits_50 ?_
            refine g_mabs (pc := 51) (v := mAbs ((share τ i) - v)) C ml_X7_242 rfl ⟨Nat.le_of_ble_eq_true rfl, Nat.le_of_ble_eq_true rfl⟩ ⟨by decide, by decide⟩ rfl dX7_fits_51 ?_
            refine g_iload_n (pc := 54) C dX7_fits_54 2 rfl ?_
            refine g_icmp_gt (pc := 55) (tgt := 65) C dX7_fits_55 (by decide) (fun h55 => ?_) (fun h55 => ?_)
            · refine g_iinc (pc := 65) (v := nI (i + 1)) (lv' := [(4, .int (nI (i + 1))), (0, .ref m), (1, .int v), (2, .int w), (3, .int (ftN τ v w i))]) C dX7_fits_65 4 rfl (nI_1 i) (by decide) rfl ?_
              refine g_goto (pc := 68) (tgt := 34) C dX7_fits_68 (by decide) ?_
              refine g_sub (lv' := [(0, .ref m), (1, .int v), (2, .int w), (3, .int (ftN τ v w i)), (4, .int (nI (i + 1)))]) [1, 2, 3, 4, 0] rfl ?_
              refine g_lv (lv' := [(0, .ref m), (1, .int v), (2, .int w), (3, .int (ftN τ v w (i + 1))), (4, .int (nI (i + 1)))]) (by rw [ftN, if_neg (Int32.not_le.mpr h55)]) ?_
              exact ih34 (i + 1) (by first | assumption | omega | decide) (by omega)
            · refine g_iload_n (pc := 58) C dX7_fits_58 3 rfl ?_
              refine g_iconst (pc := 59) (v := 1) C dX7_fits_59 (by decide) ?_
              refine g_iload (pc := 60) C dX7_fits_60 4 rfl ?_
              refine g_ishl (pc := 62) C dX7_fits_62 ?_
              refine g_ior (pc := 63) C dX7_fits_63 ?_
              refine g_istore_n (pc := 64) (lv' := [(3, .int ((ftN τ v w i) ||| (1 <<< ((nI i) &&& 31)))), (0, .ref m), (1, .int v), (2, .int w), (4, .int (nI i))]) C dX7_fits_64 rfl (by decide) rfl ?_
              refine g_iinc (pc := 65) (v := nI (i + 1)) (lv' := [(4, .int (nI (i + 1))), (3, .int ((ftN τ v w i) ||| (1 <<< ((nI i) &&& 31)))), (0, .ref m), (1, .int v), (2, .int w)]) C dX7_fits_65 4 rfl (nI_1 i) (by decide) rfl ?_
              refine g_goto (pc := 68) (tgt := 34) C dX7_fits_68 (by decide) ?_
              refine g_sub (lv' := [(0, .ref m), (1, .int v), (2, .int w), (3, .int ((ftN τ v w i) ||| (1 <<< ((nI i) &&& 31)))), (4, .int (nI (i + 1)))]) [2, 3, 4, 1, 0] rfl ?_
              refine g_lv (lv' := [(0, .ref m), (1, .int v), (2, .int w), (3, .int (ftN τ v w (i + 1))), (4, .int (nI (i + 1)))]) (by rw [ftN, if_pos (Int32.not_lt.mp h55)]) ?_
              exact ih34 (i + 1) (by first | assumption | omega | decide) (by omega)
      refine g_sub (lv' := [(0, .ref m), (1, .int v), (2, .int w), (3, .int (ftN τ v w 0)), (4, .int (nI 0))]) [2, 3, 4, 1, 0] rfl ?_
      exact key_34 _ 0 (by first | assumption | omega | decide) (Nat.lt_succ_self _)
    · refine g_aload_n (pc := 22) C dX7_fits_22 0 rfl ?_
      refine g_bipush (pc := 23) (v := (-6)) C dX7_fits_23 (by decide) ?_
      refine g_wrVI (pc := 25) (rest := []) (wr := []) C (fun _ => wN G m A τ y ++ ([iC G (A 11) 8 (rfI rr (-6))])) rfl k_X7_no (c_X7_no l G m A τ y rr (-6) (by first | assumption | omega | decide)) ml_X7_81 rfl ⟨Nat.le_of_ble_eq_true rfl, Nat.le_of_ble_eq_true rfl⟩ rfl [0, 1, 2, 3, 4, 5, 6, 7, 8, 9] [] [0, 1, 2, 3, 4, 5, 6, 7, 8, 9] rfl (by decide) rfl (by decide) (by decide) (by decide) (fun _ => rfl) 0 rfl rfl rfl rfl (Nat.le_of_ble_eq_true rfl) ⟨by decide, by decide⟩ dX7_fits_25 (fun r25 _ e25 => ?_)
      subst e25
      exact g_retIW (pc := 28) C rfl rfl () (rfl) (by have e9 : rcFt v w = (-6) := (by first | (simp [rcFt, *]; done) | (grind [rcFt])); rw [if_neg (by rw [e9] <;> (first | done | decide)), e9]) (by have e9 : rcFt v w = (-6) := (by first | (simp [rcFt, *]; done) | (grind [rcFt])); rw [e9] <;> (first | done | rfl | (rw [if_neg (by decide)] <;> (first | done | rfl)))) dX7_fits_28
set_option maxRecDepth 20000 in
set_option maxHeartbeats 4000000 in
theorem c_X7_never (l : Launch) (G : gT) (m : Nat) (A : Nat → Nat) (τ : tT) (y : Nat → Int32) (le : Nat → Int32) (an : Nat → Int32) (hT : TI τ) : WI l yX7_never cX7_never 3 (some .int) 3 0 0 G [.ref m] (wN G m A τ y ++ ([iC G (A 16) 10 an, iC G (A 17) 10 le])) (S := (Nat → Int32) × (Nat → Int32)) (fun r _ => r = nvN τ (tG τ)) (fun u => wN G m A τ y ++ ([iC G (A 16) 10 u.1, iC G (A 17) 10 u.2])) := by
  have hg10 := hT.g10
  have hq8 := hT.q8
  intro sz9
  refine start_W (by decide) (Nat.le_of_ble_eq_true rfl) (fun p9 e9 s9 m9 a9 b9 t9 c9 C => ?_)
  refine g_lv (lv' := [(0, .ref m)]) rfl ?_
  refine g_aload_n (pc := 0) C dX7_never_0 0 rfl ?_
  refine g_bipush (pc := 1) (v := 9) C dX7_never_1 (by decide) ?_
  refine g_wrVI (pc := 3) (rest := []) (wr := []) C (fun _ => wN G m A τ y ++ ([iC G (A 16) 10 (frW (fun x9 => anN τ x9 9) an (tG τ)), iC G (A 17) 10 (frW (fun x9 => lfN τ x9 9) le (tG τ))])) rfl k_X7_answered (c_X7_answered l G m A τ y le an 9 (by first | assumption | omega) (by first | assumption | omega)) ml_X7_220 rfl ⟨Nat.le_of_ble_eq_true rfl, Nat.le_of_ble_eq_true rfl⟩ rfl [0, 1, 2, 3, 4, 5, 6, 7, 8, 9, 10] [] [0, 1, 2, 3, 4, 5, 6, 7, 8, 9, 10] rfl (by decide) rfl (by decide) (by decide) (by decide) (fun _ => rfl) 0 rfl rfl rfl rfl (Nat.le_of_ble_eq_true rfl) ⟨by decide, by decide⟩ dX7_never_3 (fun r3 _ e3 => ?_)
  subst e3
  refine g_pop (pc := 6) C dX7_never_6 rfl ?_
  refine g_iconst (pc := 7) (v := 0) C dX7_never_7 (by decide) ?_
  refine g_istore_n (pc := 8) (lv' := [(1, .int 0), (0, .ref m)]) C dX7_never_8 rfl (by decide) rfl ?_
  refine g_iconst (pc := 9) (v := 0) C dX7_never_9 (by decide) ?_
  refine g_istore_n (pc := 10) (lv' := [(2, .int 0), (1, .int 0), (0, .ref m)]) C dX7_never_10 rfl (by decide) rfl ?_
  have key_11 : ∀ (n11 : Nat) (i : Nat) (hi : i ≤ tG τ), tG τ - i < n11 → GW p9 l e9 (rmh 3 0 0) s9 m9 a9 b9 t9 c9 (MQ b9 (va_Qi (fun r (_ : (Nat → Int32) × (Nat → Int32)) => r = nvN τ (tG τ)) (BW G (wN G m A τ y ++ ([iC G (A 16) 10 an, iC G (A 17) 10 le])) sz9 (fun u => wN G m A τ y ++ ([iC G (A 16) 10 u.1, iC G (A 17) 10 u.2]))) (va_A (wN G m A τ y ++ ([iC G (A 16) 10 an, iC G (A 17) 10 le])) sz9)) a9 s9 0 0 (va_A (wN G m A τ y ++ ([iC G (A 16) 10 an, iC G (A 17) 10 le])) sz9)) G (va_A (wN G m A τ y ++ ([iC G (A 16) 10 an, iC G (A 17) 10 le])) sz9) true 3 0 0 (wN G m A τ y ++ ([iC G (A 16) 10 (frW (fun x9 => anN τ x9 9) an (tG τ)), iC G (A 17) 10 (frW (fun x9 => lfN τ x9 9) le (tG τ))])) [(0, .ref m), (1, .int (nvN τ i)), (2, .int (nI i))] 11 [] := by
    intro n11
    induction n11 with
    | zero => intro i hi hn11; exact absurd hn11 (Nat.not_lt_zero _)
    | succ n11 ih11 =>
      intro i hi hn11
      refine g_iload_n (pc := 11) C dX7_never_11 2 rfl ?_
      refine g_aload_n (pc := 12) C dX7_never_12 0 rfl ?_
      refine g_get (pc := 13) (T := TX7) (N := 33) (v := .int (τ 8 1)) C ib_X7 0 rfl rfl 7 (by decide) mf_X7_92 rfl rfl rfl dX7_never_13 ?_
      refine g_top (z := nI (tG τ)) (hT.g) ?_
      refine g_icmpN_ge (pc := 16) (i := i) (j := tG τ) (tgt := 40) C dX7_never_16 (by decide) ⟨by omega, by omega⟩ (fun h16 => ?_) (fun h16 => ?_)
      · refine g_iload_n (pc := 40) C dX7_never_40 1 rfl ?_
        exact g_retIW (pc := 41) C rfl rfl (frW (fun x9 => anN τ x9 9) an (tG τ), frW (fun x9 => lfN τ x9 9) le (tG τ)) (rfl) (by rw [show i = tG τ from by omega]) (by rfl) dX7_never_41
      · refine g_aload_n (pc := 19) C dX7_never_19 0 rfl ?_
        refine g_get (pc := 20) (T := TX7) (N := 33) (v := .ref (A 16)) C ib_X7 0 rfl rfl 28 (by decide) mf_X7_59 rfl rfl rfl dX7_never_20 ?_
        refine g_iload_n (pc := 23) C dX7_never_23 2 rfl ?_
        refine g_iald (pc := 24) (v := anN τ i 9) C 9 rfl i (rfl) ⟨by omega, by decide⟩ (frW_lt (by omega)) dX7_never_24 ?_
        refine g_if_ne (pc := 25) (tgt := 34) C dX7_never_25 (by decide) (fun h25 => ?_) (fun h25 => ?_)
        · refine g_iinc (pc := 34) (v := nI (i + 1)) (lv' := [(2, .int (nI (i + 1))), (0, .ref m), (1, .int (nvN τ i))]) C dX7_never_34 2 rfl (nI_1 i) (by decide) rfl ?_
          refine g_goto (pc := 37) (tgt := 11) C dX7_never_37 (by decide) ?_
          refine g_ws (ws' := wN G m A τ y ++ ([iC G (A 16) 10 (frW (fun x9 => anN τ x9 9) an (tG τ)), iC G (A 17) 10 (frW (fun x9 => lfN τ x9 9) le (tG τ))])) (rfl) ?_
          refine g_sub (lv' := [(0, .ref m), (1, .int (nvN τ i)), (2, .int (nI (i + 1)))]) [1, 2, 0] rfl ?_
          refine g_lv (lv' := [(0, .ref m), (1, .int (nvN τ (i + 1))), (2, .int (nI (i + 1)))]) (by rw [nvN, if_neg h25]) ?_
          exact ih11 (i + 1) (by first | assumption | omega) (by omega)
        · refine g_iload_n (pc := 28) C dX7_never_28 1 rfl ?_
          refine g_iconst (pc := 29) (v := 1) C dX7_never_29 (by decide) ?_
          refine g_iload_n (pc := 30) C dX7_never_30 2 rfl ?_
          refine g_ishl (pc := 31) C dX7_never_31 ?_
          refine g_ior (pc := 32) C dX7_never_32 ?_
          refine g_istore_n (pc := 33) (lv' := [(1, .int ((nvN τ i) ||| (1 <<< ((nI i) &&& 31)))), (0, .ref m), (2, .int (nI i))]) C dX7_never_33 rfl (by decide) rfl ?_
          refine g_iinc (pc := 34) (v := nI (i + 1)) (lv' := [(2, .int (nI (i + 1))), (1, .int ((nvN τ i) ||| (1 <<< ((nI i) &&& 31)))), (0, .ref m)]) C dX7_never_34 2 rfl (nI_1 i) (by decide) rfl ?_
          refine g_goto (pc := 37) (tgt := 11) C dX7_never_37 (by decide) ?_
          refine g_ws (ws' := wN G m A τ y ++ ([iC G (A 16) 10 (frW (fun x9 => anN τ x9 9) an (tG τ)), iC G (A 17) 10 (frW (fun x9 => lfN τ x9 9) le (tG τ))])) (rfl) ?_
          refine g_sub (lv' := [(0, .ref m), (1, .int ((nvN τ i) ||| (1 <<< ((nI i) &&& 31)))), (2, .int (nI (i + 1)))]) [2, 1, 0] rfl ?_
          refine g_lv (lv' := [(0, .ref m), (1, .int (nvN τ (i + 1))), (2, .int (nI (i + 1)))]) (by rw [nvN, if_pos h25]) ?_
          exact ih11 (i + 1) (by first | assumption | omega) (by omega)
  refine g_ws (ws' := wN G m A τ y ++ ([iC G (A 16) 10 (frW (fun x9 => anN τ x9 9) an (tG τ)), iC G (A 17) 10 (frW (fun x9 => lfN τ x9 9) le (tG τ))])) (rfl) ?_
  refine g_sub (lv' := [(0, .ref m), (1, .int (nvN τ 0)), (2, .int (nI 0))]) [2, 1, 0] rfl ?_
  exact key_11 _ 0 (by first | assumption | omega) (Nat.lt_succ_self _)
set_option maxRecDepth 20000 in
set_option maxHeartbeats 4000000 in
theorem c_X7_blame (l : Launch) (G : gT) (m : Nat) (A : Nat → Nat) (τ : tT) (y : Nat → Int32) (hT : TI τ) : RI l yX7_blame cX7_blame 6 (some .int) 2 G [.ref m] (wN G m A τ y) ((blN τ (tQ τ)).2) := by
  have hg10 := hT.g10
  have hq8 := hT.q8
  refine start_R (by decide) (Nat.le_of_ble_eq_true rfl) (fun p9 e9 s9 m9 a9 b9 t9 c9 C => ?_)
  refine g_lv (lv' := [(0, .ref m)]) rfl ?_
  refine g_iconst (pc := 0) (v := (-1)) C dX7_blame_0 (by decide) ?_
  refine g_istore_n (pc := 1) (lv' := [(1, .int (-1)), (0, .ref m)]) C dX7_blame_1 rfl (by decide) rfl ?_
  refine g_iconst (pc := 2) (v := 0) C dX7_blame_2 (by decide) ?_
  refine g_istore_n (pc := 3) (lv' := [(2, .int 0), (1, .int (-1)), (0, .ref m)]) C dX7_blame_3 rfl (by decide) rfl ?_
  refine g_iconst (pc := 4) (v := 0) C dX7_blame_4 (by decide) ?_
  refine g_istore_n (pc := 5) (lv' := [(3, .int 0), (2, .int 0), (1, .int (-1)), (0, .ref m)]) C dX7_blame_5 rfl (by decide) rfl ?_
  have key_6 : ∀ (n6 : Nat) (i : Nat) (hi : i ≤ tQ τ), tQ τ - i < n6 → GW p9 l e9 (rmh 2 0 0) s9 m9 a9 b9 t9 c9 (MQ b9 (QcI ((blN τ (tQ τ)).2)) a9 s9 0 0 NoA) G NoA false 6 0 0 (wN G m A τ y) [(0, .ref m), (1, .int ((blN τ i).2)), (2, .int ((blN τ i).1)), (3, .int (nI i))] 6 [] := by
    intro n6
    induction n6 with
    | zero => intro i hi hn6; exact absurd hn6 (Nat.not_lt_zero _)
    | succ n6 ih6 =>
      intro i hi hn6
      refine g_iload_n (pc := 6) C dX7_blame_6 3 rfl ?_
      refine g_aload_n (pc := 7) C dX7_blame_7 0 rfl ?_
      refine g_get (pc := 8) (T := TX7) (N := 33) (v := .int (τ 8 0)) C ib_X7 0 rfl rfl 3 (by decide) mf_X7_85 rfl rfl rfl dX7_blame_8 ?_
      refine g_top (z := nI (tQ τ)) (hT.q) ?_
      refine g_icmpN_ge (pc := 11) (i := i) (j := tQ τ) (tgt := 75) C dX7_blame_11 (by decide) ⟨by omega, by omega⟩ (fun h11 => ?_) (fun h11 => ?_)
      · refine g_iload_n (pc := 75) C dX7_blame_75 1 rfl ?_
        exact g_retIR (pc := 76) C (rfl) (by rw [show i = tQ τ from by omega]) dX7_blame_76
      · refine g_iconst (pc := 14) (v := 0) C dX7_blame_14 (by decide) ?_
        refine g_istore (pc := 15) (lv' := [(4, .int 0), (0, .ref m), (1, .int ((blN τ i).2)), (2, .int ((blN τ i).1)), (3, .int (nI i))]) C dX7_blame_15 (by decide) rfl ?_
        have key_17 : ∀ (n17 : Nat) (j : Nat) (hj : j ≤ tQ τ), tQ τ - j < n17 → GW p9 l e9 (rmh 2 0 0) s9 m9 a9 b9 t9 c9 (MQ b9 (QcI ((blN τ (tQ τ)).2)) a9 s9 0 0 NoA) G NoA false 6 0 0 (wN G m A τ y) [(0, .ref m), (1, .int ((blI τ i (blN τ i) j).2)), (2, .int ((blI τ i (blN τ i) j).1)), (3, .int (nI i)), (4, .int (nI j))] 17 [] := by
          intro n17
          induction n17 with
          | zero => intro j hj hn17; exact absurd hn17 (Nat.not_lt_zero _)
          | succ n17 ih17 =>
            intro j hj hn17
            refine g_iload (pc := 17) C dX7_blame_17 4 rfl ?_
            refine g_aload_n (pc := 19) C dX7_blame_19 0 rfl ?_
            refine g_get (pc := 20) (T := TX7) (N := 33) (v := .int (τ 8 0)) C ib_X7 0 rfl rfl 3 (by decide) mf_X7_85 rfl rfl rfl dX7_blame_20 ?_
            refine g_top (z := nI (tQ τ)) (hT.q) ?_
            refine g_icmpN_ge (pc := 23) (i := j) (j := tQ τ) (tgt := 69) C dX7_blame_23 (by decide) ⟨by omega, by omega⟩ (fun h23 => ?_) (fun h23 => ?_)
            · refine g_iinc (pc := 69) (v := nI (i + 1)) (lv' := [(3, .int (nI (i + 1))), (0, .ref m), (1, .int ((blI τ i (blN τ i) j).2)), (2, .int ((blI τ i (blN τ i) j).1)), (4, .int (nI j))]) C dX7_blame_69 3 rfl (nI_1 i) (by decide) rfl ?_
              refine g_goto (pc := 72) (tgt := 6) C dX7_blame_72 (by decide) ?_
              refine g_sub (lv' := [(0, .ref m), (1, .int ((blI τ i (blN τ i) j).2)), (2, .int ((blI τ i (blN τ i) j).1)), (3, .int (nI (i + 1)))]) [1, 2, 3, 0] rfl ?_
              refine g_lv (lv' := [(0, .ref m), (1, .int ((blN τ (i + 1)).2)), (2, .int ((blN τ (i + 1)).1)), (3, .int (nI (i + 1)))]) (by rw [show j = tQ τ from by omega]; rfl) ?_
              exact ih6 (i + 1) (by first | assumption | omega) (by omega)
            · refine g_aload_n (pc := 26) C dX7_blame_26 0 rfl ?_
              refine g_get (pc := 27) (T := TX7) (N := 33) (v := .ref (A 5)) C ib_X7 0 rfl rfl 6 (by decide) mf_X7_26 rfl rfl rfl dX7_blame_27 ?_
              refine g_bipush (pc := 30) (v := 8) C dX7_blame_30 (by decide) ?_
              refine g_iload_n (pc := 32) C dX7_blame_32 3 rfl ?_
              refine g_imulN (pc := 33) (i := 8) (j := i) C dX7_blame_33 ?_
              refine g_iload (pc := 34) C dX7_blame_34 4 rfl ?_
              refine g_iaddN (pc := 36) (i := 8 * i) (j := j) C dX7_blame_36 ?_
              refine g_iald (pc := 37) (v := (τ 2) ((8 * i) + j)) C 3 rfl ((8 * i) + j) (rfl) ⟨by omega, by decide⟩ (rfl) dX7_blame_37 ?_
              refine g_mabs (pc := 38) (v := mAbs ((τ 2) ((8 * i) + j))) C ml_X7_242 rfl ⟨Nat.le_of_ble_eq_true rfl, Nat.le_of_ble_eq_true rfl⟩ ⟨by decide, by decide⟩ rfl dX7_blame_38 ?_
              refine g_istore (pc := 41) (lv' := [(5, .int (mAbs ((τ 2) ((8 * i) + j)))), (0, .ref m), (1, .int ((blI τ i (blN τ i) j).2)), (2, .int ((blI τ i (blN τ i) j).1)), (3, .int (nI i)), (4, .int (nI j))]) C dX7_blame_41 (by decide) rfl ?_
              refine g_iload (pc := 43) C dX7_blame_43 0 rfl ?_
              refine g_iload_n (pc := 45) C dX7_blame_45 3 rfl ?_
              refine g_icmp_gt (pc := 46) (tgt := 52) C dX7_blame_46 (by decide) (fun h46 => ?_) (fun h46 => ?_)
              · refine g_iload (pc := 52) C dX7_blame_52 0 rfl ?_
                refine g_istore_n (pc := 54) (lv' := [(2, .int (mAbs ((τ 2) ((8 * i) + j)))), (5, .int (mAbs ((τ 2) ((8 * i) + j)))), (0, .ref m), (1, .int ((blI τ i (blN τ i) j).2)), (3, .int (nI i)), (4, .int (nI j))]) C dX7_blame_54 rfl (by decide) rfl ?_
                refine g_bipush (pc := 55) (v := 100) C dX7_blame_55 (by decide) ?_
                refine g_iload_n (pc := 57) C dX7_blame_57 4 rfl ?_
                refine g_imulN (pc := 58) (i := 100) (j := i) C dX7_blame_58 ?_
                refine g_iload (pc := 59) C dX7_blame_59 5 rfl ?_
                refine g_iaddN (pc := 61) (i := 100 * i) (j := j) C dX7_blame_61 ?_
                refine g_istore_n (pc := 62) (lv' := [(1, .int (nI ((100 * i) + j))), (2, .int (mAbs ((τ 2) ((8 * i) + j)))), (5, .int (mAbs ((τ 2) ((8 * i) + j)))), (0, .ref m), (3, .int (nI i)), (4, .int (nI j))]) C dX7_blame_62 rfl (by decide) rfl ?_
                refine g_iinc (pc := 63) (v := nI (j + 1)) (lv' := [(4, .int (nI (j + 1))), (1, .int (nI ((100 * i) + j))), (2, .int (mAbs ((τ 2) ((8 * i) + j)))), (5, .int (mAbs ((τ 2) ((8 * i) + j)))), (0, .ref m), (3, .int (nI i))]) C dX7_blame_63 5 rfl (nI_1 j) (by decide) rfl ?_
                refine g_goto (pc := 66) (tgt := 17) C dX7_blame_66 (by decide) ?_
                refine g_sub (lv' := [(0, .ref m), (1, .int (nI ((100 * i) + j))), (2, .int (mAbs ((τ 2) ((8 * i) + j)))), (3, .int (nI i)), (4, .int (nI (j + 1)))]) [4, 1, 2, 5, 0] rfl ?_
                refine g_lv (lv' := [(0, .ref m), (1, .int ((blI τ i (blN τ i) (j + 1)).2)), (2, .int ((blI τ i (blN τ i) (j + 1)).1)), (3, .int (nI i)), (4, .int (nI (j + 1)))]) (by rw [blI, Nat.mul_comm i 8, if_pos h46]) ?_
                exact ih17 (j + 1) (by first | assumption | omega) (by omega)
              · refine g_goto (pc := 49) (tgt := 63) C dX7_blame_49 (by decide) ?_
                refine g_iinc (pc := 63) (v := nI (j + 1)) (lv' := [(4, .int (nI (j + 1))), (5, .int (mAbs ((τ 2) ((8 * i) + j)))), (0, .ref m), (1, .int ((blI τ i (blN τ i) j).2)), (2, .int ((blI τ i (blN τ i) j).1)), (3, .int (nI i))]) C dX7_blame_63 5 rfl (nI_1 j) (by decide) rfl ?_
                refine g_goto (pc := 66) (tgt := 17) C dX7_blame_66 (by decide) ?_
                refine g_sub (lv' := [(0, .ref m), (1, .int ((blI τ i (blN τ i) j).2)), (2, .int ((blI τ i (blN τ i) j).1)), (3, .int (nI i)), (4, .int (nI (j + 1)))]) [2, 3, 4, 5, 0] rfl ?_
                refine g_lv (lv' := [(0, .ref m), (1, .int ((blI τ i (blN τ i) (j + 1)).2)), (2, .int ((blI τ i (blN τ i) (j + 1)).1)), (3, .int (nI i)), (4, .int (nI (j + 1)))]) (by rw [blI, Nat.mul_comm i 8, if_neg h46]) ?_
                exact ih17 (j + 1) (by first | assumption | omega) (by omega)
        refine g_sub (lv' := [(0, .ref m), (1, .int ((blI τ i (blN τ i) 0).2)), (2, .int ((blI τ i (blN τ i) 0).1)), (3, .int (nI i)), (4, .int (nI 0))]) [1, 2, 3, 4, 0] rfl ?_
        exact key_17 _ 0 (by first | assumption | omega) (Nat.lt_succ_self _)
  refine g_sub (lv' := [(0, .ref m), (1, .int ((blN τ 0).2)), (2, .int ((blN τ 0).1)), (3, .int (nI 0))]) [3, 2, 1, 0] rfl ?_
  exact key_6 _ 0 (by first | assumption | omega) (Nat.lt_succ_self _)
