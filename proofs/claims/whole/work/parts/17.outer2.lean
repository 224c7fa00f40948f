set_option maxRecDepth 20000 in
set_option maxHeartbeats 4000000 in
theorem c_X6_set (l : Launch) (G : gT) (x : Nat) (t : Nat) (im : Nat) (it : Int32) (o : Nat) (sv : Nat) (tx : Nat) (ac : Nat) (rf : Nat) (lf : Int32) (sa : Nat) (sb : Nat) (sc : Nat) (hd : Nat → Int32) (sz : Nat → Int32) (el : Nat → Int64) (s : Int32) (i : Int32) (v : Int64) (rr : Nat → Int32) (hS : SI hd sz) : WI l yX6_set cX6_set 6 (some .int) 10 0 0 G [.ref x, .int s, .int i, .long v] ([wX x t im it o sv tx ac rf lf] ++ (wS G sv sa sb sc hd sz el ++ ([iC G rf 8 rr]))) (S := Unit) (fun r _ => r = if rcSet hd sz s i = 0 then 1 else (rcSet hd sz s i)) (fun _ => [wX x t im it o sv tx ac rf lf] ++ (wS G sv sa sb sc hd sz (if rcSet hd sz s i = 0 then vp_updL el (nx s * 160 + nx i) (lowB (hd (nx s) - 100) v) else el) ++ ([iC G rf 8 (rfI rr (rcSet hd sz s i))]))) := by
  intro sz9
  refine start_W (by decide) (Nat.le_of_ble_eq_true rfl) (fun p9 e9 s9 m9 a9 b9 t9 c9 C => ?_)
  refine g_lv (lv' := [(0, .ref x), (1, .int s), (2, .int i), (3, .long v)]) rfl ?_
  refine g_aload_n (pc := 0) C dX6_set_0 0 rfl ?_
  refine g_get (pc := 1) (T := TX6) (N := 9) (v := .ref sv) C ib_X6 0 rfl rfl 4 (by decide) mf_X6_29 rfl rfl rfl dX6_set_1 ?_
  refine g_iload_n (pc := 4) C dX6_set_4 1 rfl ?_
  refine g_rdVI (pc := 5) (val := rfRows hd s s) (rest := []) C k_X2_refusalOfRow (c_X2_refusalOfRow l G sv sa sb sc hd sz el s) ml_X6_71 rfl ⟨Nat.le_of_ble_eq_true rfl, Nat.le_of_ble_eq_true rfl⟩ rfl [1, 2, 3, 4] rfl 1 rfl rfl rfl rfl (Nat.le_of_ble_eq_true rfl) ⟨by decide, by decide⟩ dX6_set_5 ?_
  refine g_istore (pc := 8) (lv' := [(5, .int (rfRows hd s s)), (0, .ref x), (1, .int s), (2, .int i), (3, .long v)]) C dX6_set_8 (by decide) rfl ?_
  refine g_iload (pc := 10) C dX6_set_10 0 rfl ?_
  refine g_if_eq (pc := 12) (tgt := 22) C dX6_set_12 (by decide) (fun h12 => ?_) (fun h12 => ?_)
  · obtain ⟨s8, hs8, rfl⟩ := in8_nI (rf_in h12).1
    have es8 : nx (nI s8) = s8 := nx_nI (by omega)
    have hz8 := (hS.z hs8).2
    refine g_aload_n (pc := 22) C dX6_set_22 1 rfl ?_
    refine g_get (pc := 23) (T := TX6) (N := 9) (v := .ref sv) C ib_X6 0 rfl rfl 4 (by decide) mf_X6_29 rfl rfl rfl dX6_set_23 ?_
    refine g_iload_n (pc := 26) C dX6_set_26 2 rfl ?_
    refine g_iload_n (pc := 27) C dX6_set_27 3 rfl ?_
    refine g_iconst (pc := 28) (v := 1) C dX6_set_28 (by decide) ?_
    refine g_rdVI (pc := 29) (val := bI (¬ i < 0 ∧ ¬ sz s8 - 1 < i)) (rest := []) C k_X2_has (c_X2_has l G sv sa sb sc hd sz el s8 i 1 (by first | assumption | omega)) ml_X6_74 rfl ⟨Nat.le_of_ble_eq_true rfl, Nat.le_of_ble_eq_true rfl⟩ rfl [1, 2, 3, 4] rfl 1 rfl rfl rfl rfl (Nat.le_of_ble_eq_true rfl) ⟨by decide, by decide⟩ dX6_set_29 ?_
    refine g_ifb_ne (pc := 32) (tgt := 42) C dX6_set_32 (by decide) (fun h32 => ?_) (fun h32 => ?_)
    · obtain ⟨i8, hi8, rfl⟩ := has_nI (n := 1) hS hs8 (by decide) h32
      have ei8 : nx (nI i8) = i8 := nx_nI (by omega)
      refine g_aload_n (pc := 42) C dX6_set_42 1 rfl ?_
      refine g_get (pc := 43) (T := TX6) (N := 9) (v := .ref sv) C ib_X6 0 rfl rfl 4 (by decide) mf_X6_29 rfl rfl rfl dX6_set_43 ?_
      refine g_iload_n (pc := 46) C dX6_set_46 2 rfl ?_
      refine g_iload_n (pc := 47) C dX6_set_47 3 rfl ?_
      refine g_lload_n (pc := 48) C dX6_set_48 4 rfl ?_
      refine g_wrVV (pc := 49) (rest := []) (wr := [wX x t im it o sv tx ac rf lf, iC G rf 8 rr]) C (fun _ => [wX x t im it o sv tx ac rf lf] ++ (wS G sv sa sb sc hd sz (vp_updL el (s8 * 160 + i8) (lowB (hd s8 - 100) v)) ++ ([iC G rf 8 rr]))) rfl k_X2_putElement (c_X2_putElement l G sv sa sb sc hd sz el s8 i8 v (by first | assumption | omega) (by first | assumption | omega)) ml_X6_77 rfl ⟨Nat.le_of_ble_eq_true rfl, Nat.le_of_ble_eq_true rfl⟩ rfl [1, 2, 3, 4] [0, 5] [0, 2, 3, 4, 5, 1] rfl (by decide) rfl (by decide) (by decide) (by decide) (fun _ => rfl) 1 rfl rfl rfl rfl (Nat.le_of_ble_eq_true rfl) ⟨by decide, by decide⟩ dX6_set_49 (fun _ _ => ?_)
      refine g_iconst (pc := 52) (v := 1) C dX6_set_52 (by decide) ?_
      exact g_retIW (pc := 53) C rfl rfl () (rfl) (by have e9 : rcSet hd sz (nI s8) (nI i8) = 0 := (by first | (simp [rcSet, *]; done) | (grind [rcSet])); rw [if_pos e9] <;> (rfl)) (by have e9 : rcSet hd sz (nI s8) (nI i8) = 0 := (by first | (simp [rcSet, *]; done) | (grind [rcSet])); rw [e9, rfI_0] <;> (rw [es8, ei8] <;> rfl)) dX6_set_53
    · refine g_aload_n (pc := 35) C dX6_set_35 1 rfl ?_
      refine g_bipush (pc := 36) (v := (-5)) C dX6_set_36 (by decide) ?_
      refine g_wrVI (pc := 38) (rest := []) (wr := [oC sv 2 [.ref sa, .ref sb, .ref sc], iC G sa 8 hd, iC G sb 8 sz, jC G sc 1280 el]) C (fun _ => [wX x t im it o sv tx ac rf lf] ++ (wS G sv sa sb sc hd sz el ++ ([iC G rf 8 (rfI rr (-5))]))) rfl k_X6_refuse (c_X6_refuse l G x t im it o sv tx ac rf lf rr (-5)) ml_X6_59 rfl ⟨Nat.le_of_ble_eq_true rfl, Nat.le_of_ble_eq_true rfl⟩ rfl [0, 5] [1, 2, 3, 4] [4, 0, 1, 2, 3, 5] rfl (by decide) rfl (by decide) (by decide) (by decide) (fun _ => rfl) 0 rfl rfl rfl rfl (Nat.le_of_ble_eq_true rfl) ⟨by decide, by decide⟩ dX6_set_38 (fun r38 _ e38 => ?_)
      subst e38
      exact g_retIW (pc := 41) C rfl rfl () (rfl) (by have e9 : rcSet hd sz (nI s8) i = (-5) := (by first | (simp [rcSet, *]; done) | (grind [rcSet])); rw [if_neg (by rw [e9] <;> (first | done | decide)), e9]) (by have e9 : rcSet hd sz (nI s8) i = (-5) := (by first | (simp [rcSet, *]; done) | (grind [rcSet])); rw [e9] <;> (first | done | rfl | (rw [if_neg (by decide)] <;> (first | done | rfl)))) dX6_set_41
  · refine g_aload_n (pc := 15) C dX6_set_15 1 rfl ?_
    refine g_iload (pc := 16) C dX6_set_16 0 rfl ?_
    refine g_wrVI (pc := 18) (rest := []) (wr := [oC sv 2 [.ref sa, .ref sb, .ref sc], iC G sa 8 hd, iC G sb 8 sz, jC G sc 1280 el]) C (fun _ => [wX x t im it o sv tx ac rf lf] ++ (wS G sv sa sb sc hd sz el ++ ([iC G rf 8 (rfI rr (rfRows hd s s))]))) rfl k_X6_refuse (c_X6_refuse l G x t im it o sv tx ac rf lf rr (rfRows hd s s)) ml_X6_59 rfl ⟨Nat.le_of_ble_eq_true rfl, Nat.le_of_ble_eq_true rfl⟩ rfl [0, 5] [1, 2, 3, 4] [4, 0, 1, 2, 3, 5] rfl (by decide) rfl (by decide) (by decide) (by decide) (fun _ => rfl) 0 rfl rfl rfl rfl (Nat.le_of_ble_eq_true rfl) ⟨by decide, by decide⟩ dX6_set_18 (fun r18 _ e18 => ?_)
    subst e18
    exact g_retIW (pc := 21) C rfl rfl () (rfl) (by have e9 : rcSet hd sz s i = (rfRows hd s s) := (by first | (simp [rcSet, *]; done) | (grind [rcSet])); rw [if_neg (by rw [e9] <;> (first | done | assumption)), e9]) (by have e9 : rcSet hd sz s i = (rfRows hd s s) := (by first | (simp [rcSet, *]; done) | (grind [rcSet])); rw [e9] <;> (first | done | rfl | (rw [if_neg (by assumption)] <;> (first | done | rfl)))) dX6_set_21
set_option maxRecDepth 20000 in
set_option maxHeartbeats 4000000 in
theorem c_X6_copy (l : Launch) (G : gT) (x : Nat) (t : Nat) (im : Nat) (it : Int32) (o : Nat) (sv : Nat) (tx : Nat) (ac : Nat) (rf : Nat) (lf : Int32) (sa : Nat) (sb : Nat) (sc : Nat) (hd : Nat → Int32) (sz : Nat → Int32) (el : Nat → Int64) (p : Int32) (q : Int32) (i : Int32) (j : Int32) (n : Int32) (rr : Nat → Int32) (hS : SI hd sz) : WI l yX6_copy cX6_copy 7 (some .int) 10 0 0 G [.ref x, .int p, .int q, .int i, .int j, .int n] ([wX x t im it o sv tx ac rf lf] ++ (wS G sv sa sb sc hd sz el ++ ([iC G rf 8 rr]))) (S := Unit) (fun r _ => r = if rcCopy hd sz p q i j n = 0 then 1 else (rcCopy hd sz p q i j n)) (fun _ => [wX x t im it o sv tx ac rf lf] ++ (wS G sv sa sb sc hd sz (if rcCopy hd sz p q i j n = 0 then va_cpy el el (nx p * 160 + nx i) (nx q * 160 + nx j) (nx n) else el) ++ ([iC G rf 8 (rfI rr (rcCopy hd sz p q i j n))]))) := by
  intro sz9
  refine start_W (by decide) (Nat.le_of_ble_eq_true rfl) (fun p9 e9 s9 m9 a9 b9 t9 c9 C => ?_)
  refine g_lv (lv' := [(0, .ref x), (1, .int p), (2, .int q), (3, .int i), (4, .int j), (5, .int n)]) rfl ?_
  refine g_aload_n (pc := 0) C dX6_copy_0 0 rfl ?_
  refine g_get (pc := 1) (T := TX6) (N := 9) (v := .ref sv) C ib_X6 0 rfl rfl 4 (by decide) mf_X6_29 rfl rfl rfl dX6_copy_1 ?_
  refine g_iload_n (pc := 4) C dX6_copy_4 1 rfl ?_
  refine g_iload_n (pc := 5) C dX6_copy_5 2 rfl ?_
  refine g_rdVI (pc := 6) (val := rfRows hd p q) (rest := []) C k_X2_refusalOfRows (c_X2_refusalOfRows l G sv sa sb sc hd sz el p q) ml_X6_81 rfl ⟨Nat.le_of_ble_eq_true rfl, Nat.le_of_ble_eq_true rfl⟩ rfl [1, 2, 3, 4] rfl 1 rfl rfl rfl rfl (Nat.le_of_ble_eq_true rfl) ⟨by decide, by decide⟩ dX6_copy_6 ?_
  refine g_istore (pc := 9) (lv' := [(6, .int (rfRows hd p q)), (0, .ref x), (1, .int p), (2, .int q), (3, .int i), (4, .int j), (5, .int n)]) C dX6_copy_9 (by decide) rfl ?_
  refine g_iload (pc := 11) C dX6_copy_11 0 rfl ?_
  refine g_if_eq (pc := 13) (tgt := 23) C dX6_copy_13 (by decide) (fun h13 => ?_) (fun h13 => ?_)
  · obtain ⟨p8, hp8, rfl⟩ := in8_nI (rf_in h13).1
    obtain ⟨q8, hq8, rfl⟩ := in8_nI (rf_in h13).2.1
    have ep8 : nx (nI p8) = p8 := nx_nI (by omega)
    have eq8 : nx (nI q8) = q8 := nx_nI (by omega)
    have hzp := (hS.z hp8).2
    have hzq := (hS.z hq8).2
    refine g_iload (pc := 23) C dX6_copy_23 6 rfl ?_
    refine g_if_ge (pc := 25) (tgt := 35) C dX6_copy_25 (by decide) (fun h25 => ?_) (fun h25 => ?_)
    · obtain ⟨n8, hn8, rfl⟩ := nI_of (Int32.not_lt.mpr h25)
      have en8 : nx (nI n8) = n8 := nx_nI hn8
      refine g_aload_n (pc := 35) C dX6_copy_35 1 rfl ?_
      refine g_get (pc := 36) (T := TX6) (N := 9) (v := .ref sv) C ib_X6 0 rfl rfl 4 (by decide) mf_X6_29 rfl rfl rfl dX6_copy_36 ?_
      refine g_iload_n (pc := 39) C dX6_copy_39 2 rfl ?_
      refine g_iload_n (pc := 40) C dX6_copy_40 4 rfl ?_
      refine g_iload (pc := 41) C dX6_copy_41 6 rfl ?_
      refine g_rdVI (pc := 43) (val := bI (¬ i < 0 ∧ ¬ sz p8 - (nI n8) < i)) (rest := []) C k_X2_has (c_X2_has l G sv sa sb sc hd sz el p8 i (nI n8) (by first | assumption | omega)) ml_X6_74 rfl ⟨Nat.le_of_ble_eq_true rfl, Nat.le_of_ble_eq_true rfl⟩ rfl [1, 2, 3, 4] rfl 1 rfl rfl rfl rfl (Nat.le_of_ble_eq_true rfl) ⟨by decide, by decide⟩ dX6_copy_43 ?_
      refine g_ifb_eq (pc := 46) (tgt := 64) C dX6_copy_46 (by decide) (fun h46 => ?_) (fun h46 => ?_)
      · refine g_aload_n (pc := 64) C dX6_copy_64 1 rfl ?_
        refine g_bipush (pc := 65) (v := (-5)) C dX6_copy_65 (by decide) ?_
        refine g_wrVI (pc := 67) (rest := []) (wr := [oC sv 2 [.ref sa, .ref sb, .ref sc], iC G sa 8 hd, iC G sb 8 sz, jC G sc 1280 el]) C (fun _ => [wX x t im it o sv tx ac rf lf] ++ (wS G sv sa sb sc hd sz el ++ ([iC G rf 8 (rfI rr (-5))]))) rfl k_X6_refuse (c_X6_refuse l G x t im it o sv tx ac rf lf rr (-5)) ml_X6_59 rfl ⟨Nat.le_of_ble_eq_true rfl, Nat.le_of_ble_eq_true rfl⟩ rfl [0, 5] [1, 2, 3, 4] [4, 0, 1, 2, 3, 5] rfl (by decide) rfl (by decide) (by decide) (by decide) (fun _ => rfl) 0 rfl rfl rfl rfl (Nat.le_of_ble_eq_true rfl) ⟨by decide, by decide⟩ dX6_copy_67 (fun r67 _ e67 => ?_)
        subst e67
        exact g_retIW (pc := 70) C rfl rfl () (rfl) (by have e9 : rcCopy hd sz (nI p8) (nI q8) i j (nI n8) = (-5) := (by first | (simp [rcCopy, *]; done) | (grind [rcCopy])); rw [if_neg (by rw [e9] <;> (first | done | decide)), e9]) (by have e9 : rcCopy hd sz (nI p8) (nI q8) i j (nI n8) = (-5) := (by first | (simp [rcCopy, *]; done) | (grind [rcCopy])); rw [e9] <;> (first | done | rfl | (rw [if_neg (by decide)] <;> (first | done | rfl)))) dX6_copy_70
      · refine g_aload_n (pc := 49) C dX6_copy_49 1 rfl ?_
        refine g_get (pc := 50) (T := TX6) (N := 9) (v := .ref sv) C ib_X6 0 rfl rfl 4 (by decide) mf_X6_29 rfl rfl rfl dX6_copy_50 ?_
        refine g_iload_n (pc := 53) C dX6_copy_53 3 rfl ?_
        refine g_iload (pc := 54) C dX6_copy_54 5 rfl ?_
        refine g_iload (pc := 56) C dX6_copy_56 6 rfl ?_
        refine g_rdVI (pc := 58) (val := bI (¬ j < 0 ∧ ¬ sz q8 - (nI n8) < j)) (rest := []) C k_X2_has (c_X2_has l G sv sa sb sc hd sz el q8 j (nI n8) (by first | assumption | omega)) ml_X6_74 rfl ⟨Nat.le_of_ble_eq_true rfl, Nat.le_of_ble_eq_true rfl⟩ rfl [1, 2, 3, 4] rfl 1 rfl rfl rfl rfl (Nat.le_of_ble_eq_true rfl) ⟨by decide, by decide⟩ dX6_copy_58 ?_
        refine g_ifb_ne (pc := 61) (tgt := 71) C dX6_copy_61 (by decide) (fun h61 => ?_) (fun h61 => ?_)
        · obtain ⟨i8, hi8, rfl⟩ := has_nI hS hp8 hn8 h46
          obtain ⟨j8, hj8, rfl⟩ := has_nI hS hq8 hn8 h61
          have ei8 : nx (nI i8) = i8 := nx_nI (by omega)
          have ej8 : nx (nI j8) = j8 := nx_nI (by omega)
          refine g_aload_n (pc := 71) C dX6_copy_71 1 rfl ?_
          refine g_get (pc := 72) (T := TX6) (N := 9) (v := .ref sv) C ib_X6 0 rfl rfl 4 (by decide) mf_X6_29 rfl rfl rfl dX6_copy_72 ?_
          refine g_iload_n (pc := 75) C dX6_copy_75 2 rfl ?_
          refine g_iload_n (pc := 76) C dX6_copy_76 3 rfl ?_
          refine g_iload_n (pc := 77) C dX6_copy_77 4 rfl ?_
          refine g_iload (pc := 78) C dX6_copy_78 5 rfl ?_
          refine g_iload (pc := 80) C dX6_copy_80 6 rfl ?_
          refine g_wrVV (pc := 82) (rest := []) (wr := [wX x t im it o sv tx ac rf lf, iC G rf 8 rr]) C (fun _ => [wX x t im it o sv tx ac rf lf] ++ (wS G sv sa sb sc hd sz (va_cpy el el (p8 * 160 + i8) (q8 * 160 + j8) n8) ++ ([iC G rf 8 rr]))) rfl k_X2_copyElements (c_X2_copyElements l G sv sa sb sc hd sz el p8 q8 i8 j8 n8 (by first | assumption | omega) (by first | assumption | omega) (by first | assumption | omega) (by first | assumption | omega)) ml_X6_85 rfl ⟨Nat.le_of_ble_eq_true rfl, Nat.le_of_ble_eq_true rfl⟩ rfl [1, 2, 3, 4] [0, 5] [0, 2, 3, 4, 5, 1] rfl (by decide) rfl (by decide) (by decide) (by decide) (fun _ => rfl) 1 rfl rfl rfl rfl (Nat.le_of_ble_eq_true rfl) ⟨by decide, by decide⟩ dX6_copy_82 (fun _ _ => ?_)
          refine g_iconst (pc := 85) (v := 1) C dX6_copy_85 (by decide) ?_
          exact g_retIW (pc := 86) C rfl rfl () (rfl) (by have e9 : rcCopy hd sz (nI p8) (nI q8) (nI i8) (nI j8) (nI n8) = 0 := (by first | (simp [rcCopy, *]; done) | (grind [rcCopy])); rw [if_pos e9] <;> (rfl)) (by have e9 : rcCopy hd sz (nI p8) (nI q8) (nI i8) (nI j8) (nI n8) = 0 := (by first | (simp [rcCopy, *]; done) | (grind [rcCopy])); rw [e9, rfI_0] <;> (rw [ep8, eq8, ei8, ej8, en8] <;> rfl)) dX6_copy_86
        · refine g_aload_n (pc := 64) C dX6_copy_64 1 rfl ?_
          refine g_bipush (pc := 65) (v := (-5)) C dX6_copy_65 (by decide) ?_
          refine g_wrVI (pc := 67) (rest := []) (wr := [oC sv 2 [.ref sa, .ref sb, .ref sc], iC G sa 8 hd, iC G sb 8 sz, jC G sc 1280 el]) C (fun _ => [wX x t im it o sv tx ac rf lf] ++ (wS G sv sa sb sc hd sz el ++ ([iC G rf 8 (rfI rr (-5))]))) rfl k_X6_refuse (c_X6_refuse l G x t im it o sv tx ac rf lf rr (-5)) ml_X6_59 rfl ⟨Nat.le_of_ble_eq_true rfl, Nat.le_of_ble_eq_true rfl⟩ rfl [0, 5] [1, 2, 3, 4] [4, 0, 1, 2, 3, 5] rfl (by decide) rfl (by decide) (by decide) (by decide) (fun _ => rfl) 0 rfl rfl rfl rfl (Nat.le_of_ble_eq_true rfl) ⟨by decide, by decide⟩ dX6_copy_67 (fun r67 _ e67 => ?_)
          subst e67
          exact g_retIW (pc := 70) C rfl rfl () (rfl) (by have e9 : rcCopy hd sz (nI p8) (nI q8) i j (nI n8) = (-5) := (by first | (simp [rcCopy, *]; done) | (grind [rcCopy])); rw [if_neg (by rw [e9] <;> (first | done | decide)), e9]) (by have e9 : rcCopy hd sz (nI p8) (nI q8) i j (nI n8) = (-5) := (by first | (simp [rcCopy, *]; done) | (grind [rcCopy])); rw [e9] <;> (first | done | rfl | (rw [if_neg (by decide)] <;> (first | done | rfl)))) dX6_copy_70
    · refine g_aload_n (pc := 28) C dX6_copy_28 1 rfl ?_
      refine g_bipush (pc := 29) (v := (-4)) C dX6_copy_29 (by decide) ?_
      refine g_wrVI (pc := 31) (rest := []) (wr := [oC sv 2 [.ref sa, .ref sb, .ref sc], iC G sa 8 hd, iC G sb 8 sz, jC G sc 1280 el]) C (fun _ => [wX x t im it o sv tx ac rf lf] ++ (wS G sv sa sb sc hd sz el ++ ([iC G rf 8 (rfI rr (-4))]))) rfl k_X6_refuse (c_X6_refuse l G x t im it o sv tx ac rf lf rr (-4)) ml_X6_59 rfl ⟨Nat.le_of_ble_eq_true rfl, Nat.le_of_ble_eq_true rfl⟩ rfl [0, 5] [1, 2, 3, 4] [4, 0, 1, 2, 3, 5] rfl (by decide) rfl (by decide) (by decide) (by decide) (fun _ => rfl) 0 rfl rfl rfl rfl (Nat.le_of_ble_eq_true rfl) ⟨by decide, by decide⟩ dX6_copy_31 (fun r31 _ e31 => ?_)
      subst e31
      exact g_retIW (pc := 34) C rfl rfl () (rfl) (by have e9 : rcCopy hd sz (nI p8) (nI q8) i j n = (-4) := (by first | (simp [rcCopy, *]; done) | (grind [rcCopy])); rw [if_neg (by rw [e9] <;> (first | done | decide)), e9]) (by have e9 : rcCopy hd sz (nI p8) (nI q8) i j n = (-4) := (by first | (simp [rcCopy, *]; done) | (grind [rcCopy])); rw [e9] <;> (first | done | rfl | (rw [if_neg (by decide)] <;> (first | done | rfl)))) dX6_copy_34
  · refine g_aload_n (pc := 16) C dX6_copy_16 1 rfl ?_
    refine g_iload (pc := 17) C dX6_copy_17 0 rfl ?_
    refine g_wrVI (pc := 19) (rest := []) (wr := [oC sv 2 [.ref sa, .ref sb, .ref sc], iC G sa 8 hd, iC G sb 8 sz, jC G sc 1280 el]) C (fun _ => [wX x t im it o sv tx ac rf lf] ++ (wS G sv sa sb sc hd sz el ++ ([iC G rf 8 (rfI rr (rfRows hd p q))]))) rfl k_X6_refuse (c_X6_refuse l G x t im it o sv tx ac rf lf rr (rfRows hd p q)) ml_X6_59 rfl ⟨Nat.le_of_ble_eq_true rfl, Nat.le_of_ble_eq_true rfl⟩ rfl [0, 5] [1, 2, 3, 4] [4, 0, 1, 2, 3, 5] rfl (by decide) rfl (by decide) (by decide) (by decide) (fun _ => rfl) 0 rfl rfl rfl rfl (Nat.le_of_ble_eq_true rfl) ⟨by decide, by decide⟩ dX6_copy_19 (fun r19 _ e19 => ?_)
    subst e19
    exact g_retIW (pc := 22) C rfl rfl () (rfl) (by have e9 : rcCopy hd sz p q i j n = (rfRows hd p q) := (by first | (simp [rcCopy, *]; done) | (grind [rcCopy])); rw [if_neg (by rw [e9] <;> (first | done | assumption)), e9]) (by have e9 : rcCopy hd sz p q i j n = (rfRows hd p q) := (by first | (simp [rcCopy, *]; done) | (grind [rcCopy])); rw [e9] <;> (first | done | rfl | (rw [if_neg (by assumption)] <;> (first | done | rfl)))) dX6_copy_22
set_option maxRecDepth 20000 in
set_option maxHeartbeats 4000000 in
theorem c_X6_holds (l : Launch) (G : gT) (x : Nat) (t : Nat) (im : Nat) (it : Int32) (o : Nat) (sv : Nat) (tx : Nat) (ac : Nat) (rf : Nat) (lf : Int32) (sa : Nat) (sb : Nat) (sc : Nat) (hd : Nat → Int32) (sz : Nat → Int32) (el : Nat → Int64) (s : Int32) : RI l yX6_holds cX6_holds 2 (some .int) 10 G [.ref x, .int s] ([wX x t im it o sv tx ac rf lf] ++ (wS G sv sa sb sc hd sz el)) (if in8 s then hd (nx s) else -1) := by
  refine start_R (by decide) (Nat.le_of_ble_eq_true rfl) (fun p9 e9 s9 m9 a9 b9 t9 c9 C => ?_)
  refine g_lv (lv' := [(0, .ref x), (1, .int s)]) rfl ?_
  refine g_iload_n (pc := 0) C dX6_holds_0 1 rfl ?_
  refine g_rdSI (pc := 1) (val := bI (0 ≤ s ∧ s ≤ 7)) (rest := []) C k_X6_isShelf (c_X6_isShelf l G s) ml_X6_55 rfl ⟨Nat.le_of_ble_eq_true rfl, Nat.le_of_ble_eq_true rfl⟩ rfl [] rfl rfl (Nat.le_of_ble_eq_true rfl) ⟨by decide, by decide⟩ dX6_holds_1 ?_
  refine g_ifb_eq (pc := 4) (tgt := 18) C dX6_holds_4 (by decide) (fun h4 => ?_) (fun h4 => ?_)
  · refine g_iconst (pc := 18) (v := (-1)) C dX6_holds_18 (by decide) ?_
    exact g_retIR (pc := 19) C (rfl) (by first | rw [if_pos (by assumption), es8] | rw [if_neg (by assumption)]) dX6_holds_19
  · obtain ⟨s8, hs8, rfl⟩ := in8_nI h4
    have es8 : nx (nI s8) = s8 := nx_nI (by omega)
    refine g_aload_n (pc := 7) C dX6_holds_7 0 rfl ?_
    refine g_get (pc := 8) (T := TX6) (N := 9) (v := .ref sv) C ib_X6 0 rfl rfl 4 (by decide) mf_X6_29 rfl rfl rfl dX6_holds_8 ?_
    refine g_iload_n (pc := 11) C dX6_holds_11 1 rfl ?_
    refine g_rdVI (pc := 12) (val := hd s8) (rest := []) C k_X2_heldBy (c_X2_heldBy l G sv sa sb sc hd sz el s8 (by first | assumption | omega)) ml_X6_100 rfl ⟨Nat.le_of_ble_eq_true rfl, Nat.le_of_ble_eq_true rfl⟩ rfl [1, 2, 3, 4] rfl 1 rfl rfl rfl rfl (Nat.le_of_ble_eq_true rfl) ⟨by decide, by decide⟩ dX6_holds_12 ?_
    refine g_goto (pc := 15) (tgt := 19) C dX6_holds_15 (by decide) ?_
    exact g_retIR (pc := 19) C (rfl) (by first | rw [if_pos (by assumption), es8] | rw [if_neg (by assumption)]) dX6_holds_19
