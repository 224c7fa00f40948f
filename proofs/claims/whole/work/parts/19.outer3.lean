set_option maxRecDepth 20000 in
set_option maxHeartbeats 4000000 in
theorem c_X6_element (l : Launch) (G : gT) (x : Nat) (t : Nat) (im : Nat) (it : Int32) (o : Nat) (sv : Nat) (tx : Nat) (ac : Nat) (rf : Nat) (lf : Int32) (sa : Nat) (sb : Nat) (sc : Nat) (hd : Nat → Int32) (sz : Nat → Int32) (el : Nat → Int64) (s : Int32) (i : Int32) (hS : SI hd sz) : RLg l yX6_element cX6_element 3 (some .long) 10 G [.ref x, .int s, .int i] ([wX x t im it o sv tx ac rf lf] ++ (wS G sv sa sb sc hd sz el)) (elV hd sz el s i) := by
  refine start_R (by decide) (Nat.le_of_ble_eq_true rfl) (fun p9 e9 s9 m9 a9 b9 t9 c9 C => ?_)
  refine g_lv (lv' := [(0, .ref x), (1, .int s), (2, .int i)]) rfl ?_
  refine g_aload_n (pc := 0) C dX6_element_0 0 rfl ?_
  refine g_get (pc := 1) (T := TX6) (N := 9) (v := .ref sv) C ib_X6 0 rfl rfl 4 (by decide) mf_X6_29 rfl rfl rfl dX6_element_1 ?_
  refine g_iload_n (pc := 4) C dX6_element_4 1 rfl ?_
  refine g_rdVI (pc := 5) (val := rfRows hd s s) (rest := []) C k_X2_refusalOfRow (c_X2_refusalOfRow l G sv sa sb sc hd sz el s) ml_X6_71 rfl ⟨Nat.le_of_ble_eq_true rfl, Nat.le_of_ble_eq_true rfl⟩ rfl [1, 2, 3, 4] rfl 1 rfl rfl rfl rfl (Nat.le_of_ble_eq_true rfl) ⟨by decide, by decide⟩ dX6_element_5 ?_
  refine g_if_ne (pc := 8) (tgt := 24) C dX6_element_8 (by decide) (fun h8 => ?_) (fun h8 => ?_)
  · refine g_lconst (pc := 24) (v := 0) C dX6_element_24 rfl ?_
    exact g_retLR (pc := 25) C (by rw [elV, if_neg (fun q => h8 q.1)]) dX6_element_25
  · obtain ⟨s8, hs8, rfl⟩ := in8_nI (rf_in h8).1
    have es8 : nx (nI s8) = s8 := nx_nI (by omega)
    have hz8 := (hS.z hs8).2
    refine g_aload_n (pc := 11) C dX6_element_11 0 rfl ?_
    refine g_get (pc := 12) (T := TX6) (N := 9) (v := .ref sv) C ib_X6 0 rfl rfl 4 (by decide) mf_X6_29 rfl rfl rfl dX6_element_12 ?_
    refine g_iload_n (pc := 15) C dX6_element_15 1 rfl ?_
    refine g_iload_n (pc := 16) C dX6_element_16 2 rfl ?_
    refine g_iconst (pc := 17) (v := 1) C dX6_element_17 (by decide) ?_
    refine g_rdVI (pc := 18) (val := bI (¬ i < 0 ∧ ¬ sz s8 - 1 < i)) (rest := []) C k_X2_has (c_X2_has l G sv sa sb sc hd sz el s8 i 1 (by first | assumption | omega)) ml_X6_74 rfl ⟨Nat.le_of_ble_eq_true rfl, Nat.le_of_ble_eq_true rfl⟩ rfl [1, 2, 3, 4] rfl 1 rfl rfl rfl rfl (Nat.le_of_ble_eq_true rfl) ⟨by decide, by decide⟩ dX6_element_18 ?_
    refine g_ifb_ne (pc := 21) (tgt := 26) C dX6_element_21 (by decide) (fun h21 => ?_) (fun h21 => ?_)
    · obtain ⟨i8, hi8, rfl⟩ := has_nI (n := 1) hS hs8 (by decide) h21
      have ei8 : nx (nI i8) = i8 := nx_nI (by omega)
      refine g_aload_n (pc := 26) C dX6_element_26 0 rfl ?_
      refine g_get (pc := 27) (T := TX6) (N := 9) (v := .ref sv) C ib_X6 0 rfl rfl 4 (by decide) mf_X6_29 rfl rfl rfl dX6_element_27 ?_
      refine g_iload_n (pc := 30) C dX6_element_30 1 rfl ?_
      refine g_iload_n (pc := 31) C dX6_element_31 2 rfl ?_
      refine g_rdVL (pc := 32) (val := el (s8 * 160 + i8)) (rest := []) C k_X2_longAt (c_X2_longAt l G sv sa sb sc hd sz el s8 i8 (by first | assumption | omega) (by first | assumption | omega)) ml_X6_89 rfl ⟨Nat.le_of_ble_eq_true rfl, Nat.le_of_ble_eq_true rfl⟩ rfl [1, 2, 3, 4] rfl 1 rfl rfl rfl rfl (Nat.le_of_ble_eq_true rfl) ⟨by decide, by decide⟩ dX6_element_32 ?_
      exact g_retLR (pc := 35) C (by rw [elV, if_pos ⟨h8, by rw [es8]; exact h21⟩, es8, ei8]) dX6_element_35
    · refine g_lconst (pc := 24) (v := 0) C dX6_element_24 rfl ?_
      exact g_retLR (pc := 25) C (by rw [elV, if_neg (fun q => h21 (by have q2 := q.2; rw [es8] at q2; exact q2))]) dX6_element_25
set_option maxRecDepth 20000 in
set_option maxHeartbeats 4000000 in
theorem c_X6_show (l : Launch) (G : gT) (x : Nat) (t : Nat) (im : Nat) (it : Int32) (o : Nat) (sv : Nat) (tx : Nat) (ac : Nat) (rf : Nat) (lf : Int32) (ta : Nat) (tb : Nat) (tc : Nat) (τ : tT) (sa : Nat) (sb : Nat) (sc : Nat) (hd : Nat → Int32) (sz : Nat → Int32) (el : Nat → Int64) (s : Int32) (q : Int32) (rr : Nat → Int32) (hT : TI τ) : WI l yX6_show cX6_show 3 (some .int) 10 0 0 G [.ref x, .int s, .int q] ([wX x t im it o sv tx ac rf lf] ++ (wT G t ta tb tc τ ++ (wS G sv sa sb sc hd sz el ++ ([iC G rf 8 rr])))) (S := Unit) (fun r _ => r = if rcShow τ s q = 0 then (if q = -1 then 0 else 1) else (rcShow τ s q)) (fun _ => [wX x t im it o sv tx ac rf lf] ++ (wT G t ta tb tc τ ++ (wS G sv sa sb sc (if rcShow τ s q = 0 then upd hd (nx s) q else hd) sz el ++ ([iC G rf 8 (rfI rr (rcShow τ s q))])))) := by
  have hg10 := hT.g10
  have hq8 := hT.q8
  intro sz9
  refine start_W (by decide) (Nat.le_of_ble_eq_true rfl) (fun p9 e9 s9 m9 a9 b9 t9 c9 C => ?_)
  refine g_lv (lv' := [(0, .ref x), (1, .int s), (2, .int q)]) rfl ?_
  refine g_iload_n (pc := 0) C dX6_show_0 1 rfl ?_
  refine g_rdSI (pc := 1) (val := bI (0 ≤ s ∧ s ≤ 7)) (rest := []) C k_X6_isShelf (c_X6_isShelf l G s) ml_X6_55 rfl ⟨Nat.le_of_ble_eq_true rfl, Nat.le_of_ble_eq_true rfl⟩ rfl [] rfl rfl (Nat.le_of_ble_eq_true rfl) ⟨by decide, by decide⟩ dX6_show_1 ?_
  refine g_ifb_ne (pc := 4) (tgt := 13) C dX6_show_4 (by decide) (fun h4 => ?_) (fun h4 => ?_)
  · obtain ⟨s8, hs8, rfl⟩ := in8_nI h4
    have es8 : nx (nI s8) = s8 := nx_nI (by omega)
    refine g_iload_n (pc := 13) C dX6_show_13 2 rfl ?_
    refine g_iconst (pc := 14) (v := (-1)) C dX6_show_14 (by decide) ?_
    refine g_icmp_eq (pc := 15) (tgt := 35) C dX6_show_15 (by decide) (fun h15 => ?_) (fun h15 => ?_)
    · refine g_aload_n (pc := 35) C dX6_show_35 0 rfl ?_
      refine g_get (pc := 36) (T := TX6) (N := 9) (v := .ref sv) C ib_X6 0 rfl rfl 4 (by decide) mf_X6_29 rfl rfl rfl dX6_show_36 ?_
      refine g_iload_n (pc := 39) C dX6_show_39 1 rfl ?_
      refine g_iload_n (pc := 40) C dX6_show_40 2 rfl ?_
      refine g_wrVV (pc := 41) (rest := []) (wr := [wX x t im it o sv tx ac rf lf, oC t 3 [.ref ta, .ref tb, .ref tc, .int (τ 8 0), .int (τ 8 1), .int (τ 8 2), .int (τ 8 3), .int (τ 8 4), .int (τ 8 5), .int (τ 8 6)], iC G ta 16 (fq τ), iC G tb 64 (τ 2), iC G tc 50 (fg τ), iC G rf 8 rr]) C (fun _ => [wX x t im it o sv tx ac rf lf] ++ (wT G t ta tb tc τ ++ (wS G sv sa sb sc (upd hd s8 q) sz el ++ ([iC G rf 8 rr])))) rfl k_X2_putQuestion (c_X2_putQuestion l G sv sa sb sc hd sz el s8 q (by first | assumption | omega)) ml_X6_96 rfl ⟨Nat.le_of_ble_eq_true rfl, Nat.le_of_ble_eq_true rfl⟩ rfl [5, 6, 7, 8] [0, 1, 2, 3, 4, 9] [0, 1, 2, 3, 4, 6, 7, 8, 9, 5] rfl (by decide) rfl (by decide) (by decide) (by decide) (fun _ => rfl) 5 rfl rfl rfl rfl (Nat.le_of_ble_eq_true rfl) ⟨by decide, by decide⟩ dX6_show_41 (fun _ _ => ?_)
      refine g_iload_n (pc := 44) C dX6_show_44 2 rfl ?_
      refine g_iconst (pc := 45) (v := (-1)) C dX6_show_45 (by decide) ?_
      refine g_icmp_ne (pc := 46) (tgt := 53) C dX6_show_46 (by decide) (fun h46 => ?_) (fun h46 => ?_)
      · refine g_iconst (pc := 53) (v := 1) C dX6_show_53 (by decide) ?_
        exact g_retIW (pc := 54) C rfl rfl () (rfl) (by have e9 : rcShow τ (nI s8) q = 0 := (by first | (simp [rcShow, *]; done) | (grind [rcShow])); rw [if_pos e9] <;> (first | (simp [*]; done) | (simp_all; done))) (by have e9 : rcShow τ (nI s8) q = 0 := (by first | (simp [rcShow, *]; done) | (grind [rcShow])); rw [e9, rfI_0] <;> (rw [es8] <;> rfl)) dX6_show_54
      · refine g_iconst (pc := 49) (v := 0) C dX6_show_49 (by decide) ?_
        refine g_goto (pc := 50) (tgt := 54) C dX6_show_50 (by decide) ?_
        exact g_retIW (pc := 54) C rfl rfl () (rfl) (by have e9 : rcShow τ (nI s8) q = 0 := (by first | (simp [rcShow, *]; done) | (grind [rcShow])); rw [if_pos e9] <;> (first | (simp [*]; done) | (simp_all; done))) (by have e9 : rcShow τ (nI s8) q = 0 := (by first | (simp [rcShow, *]; done) | (grind [rcShow])); rw [e9, rfI_0] <;> (rw [es8] <;> rfl)) dX6_show_54
    · refine g_aload_n (pc := 18) C dX6_show_18 0 rfl ?_
      refine g_get (pc := 19) (T := TX6) (N := 9) (v := .ref t) C ib_X6 0 rfl rfl 0 (by decide) mf_X6_10 rfl rfl rfl dX6_show_19 ?_
      refine g_iload_n (pc := 22) C dX6_show_22 2 rfl ?_
      refine g_rdVI (pc := 23) (val := bI (0 ≤ q ∧ q ≤ nI (tQ τ) - 1)) (rest := []) C k_X3_hasQuestion (c_X3_hasQuestion l G t ta tb tc τ q (by first | assumption | omega)) ml_X6_93 rfl ⟨Nat.le_of_ble_eq_true rfl, Nat.le_of_ble_eq_true rfl⟩ rfl [1, 2, 3, 4] rfl 1 rfl rfl rfl rfl (Nat.le_of_ble_eq_true rfl) ⟨by decide, by decide⟩ dX6_show_23 ?_
      refine g_ifb_ne (pc := 26) (tgt := 35) C dX6_show_26 (by decide) (fun h26 => ?_) (fun h26 => ?_)
      · obtain ⟨q8, hq8, rfl⟩ := isQ_nI hT h26
        have eq8 : nx (nI q8) = q8 := nx_nI (by omega)
        refine g_aload_n (pc := 35) C dX6_show_35 0 rfl ?_
        refine g_get (pc := 36) (T := TX6) (N := 9) (v := .ref sv) C ib_X6 0 rfl rfl 4 (by decide) mf_X6_29 rfl rfl rfl dX6_show_36 ?_
        refine g_iload_n (pc := 39) C dX6_show_39 1 rfl ?_
        refine g_iload_n (pc := 40) C dX6_show_40 2 rfl ?_
        refine g_wrVV (pc := 41) (rest := []) (wr := [wX x t im it o sv tx ac rf lf, oC t 3 [.ref ta, .ref tb, .ref tc, .int (τ 8 0), .int (τ 8 1), .int (τ 8 2), .int (τ 8 3), .int (τ 8 4), .int (τ 8 5), .int (τ 8 6)], iC G ta 16 (fq τ), iC G tb 64 (τ 2), iC G tc 50 (fg τ), iC G rf 8 rr]) C (fun _ => [wX x t im it o sv tx ac rf lf] ++ (wT G t ta tb tc τ ++ (wS G sv sa sb sc (upd hd s8 (nI q8)) sz el ++ ([iC G rf 8 rr])))) rfl k_X2_putQuestion (c_X2_putQuestion l G sv sa sb sc hd sz el s8 (nI q8) (by first | assumption | omega)) ml_X6_96 rfl ⟨Nat.le_of_ble_eq_true rfl, Nat.le_of_ble_eq_true rfl⟩ rfl [5, 6, 7, 8] [0, 1, 2, 3, 4, 9] [0, 1, 2, 3, 4, 6, 7, 8, 9, 5] rfl (by decide) rfl (by decide) (by decide) (by decide) (fun _ => rfl) 5 rfl rfl rfl rfl (Nat.le_of_ble_eq_true rfl) ⟨by decide, by decide⟩ dX6_show_41 (fun _ _ => ?_)
        refine g_iload_n (pc := 44) C dX6_show_44 2 rfl ?_
        refine g_iconst (pc := 45) (v := (-1)) C dX6_show_45 (by decide) ?_
        refine g_icmp_ne (pc := 46) (tgt := 53) C dX6_show_46 (by decide) (fun h46 => ?_) (fun h46 => ?_)
        · refine g_iconst (pc := 53) (v := 1) C dX6_show_53 (by decide) ?_
          exact g_retIW (pc := 54) C rfl rfl () (rfl) (by have e9 : rcShow τ (nI s8) (nI q8) = 0 := (by first | (simp [rcShow, *]; done) | (grind [rcShow])); rw [if_pos e9] <;> (first | (simp [*]; done) | (simp_all; done))) (by have e9 : rcShow τ (nI s8) (nI q8) = 0 := (by first | (simp [rcShow, *]; done) | (grind [rcShow])); rw [e9, rfI_0] <;> (rw [es8] <;> rfl)) dX6_show_54
        · refine g_iconst (pc := 49) (v := 0) C dX6_show_49 (by decide) ?_
          refine g_goto (pc := 50) (tgt := 54) C dX6_show_50 (by decide) ?_
          exact g_retIW (pc := 54) C rfl rfl () (rfl) (by have e9 : rcShow τ (nI s8) (nI q8) = 0 := (by first | (simp [rcShow, *]; done) | (grind [rcShow])); rw [if_pos e9] <;> (first | (simp [*]; done) | (simp_all; done))) (by have e9 : rcShow τ (nI s8) (nI q8) = 0 := (by first | (simp [rcShow, *]; done) | (grind [rcShow])); rw [e9, rfI_0] <;> (rw [es8] <;> rfl)) dX6_show_54
      · refine g_aload_n (pc := 29) C dX6_show_29 0 rfl ?_
        refine g_iconst (pc := 30) (v := (-1)) C dX6_show_30 (by decide) ?_
        refine g_wrVI (pc := 31) (rest := []) (wr := [oC t 3 [.ref ta, .ref tb, .ref tc, .int (τ 8 0), .int (τ 8 1), .int (τ 8 2), .int (τ 8 3), .int (τ 8 4), .int (τ 8 5), .int (τ 8 6)], iC G ta 16 (fq τ), iC G tb 64 (τ 2), iC G tc 50 (fg τ), oC sv 2 [.ref sa, .ref sb, .ref sc], iC G sa 8 hd, iC G sb 8 sz, jC G sc 1280 el]) C (fun _ => [wX x t im it o sv tx ac rf lf] ++ (wT G t ta tb tc τ ++ (wS G sv sa sb sc hd sz el ++ ([iC G rf 8 (rfI rr (-1))])))) rfl k_X6_refuse (c_X6_refuse l G x t im it o sv tx ac rf lf rr (-1)) ml_X6_59 rfl ⟨Nat.le_of_ble_eq_true rfl, Nat.le_of_ble_eq_true rfl⟩ rfl [0, 9] [1, 2, 3, 4, 5, 6, 7, 8] [8, 0, 1, 2, 3, 4, 5, 6, 7, 9] rfl (by decide) rfl (by decide) (by decide) (by decide) (fun _ => rfl) 0 rfl rfl rfl rfl (Nat.le_of_ble_eq_true rfl) ⟨by decide, by decide⟩ dX6_show_31 (fun r31 _ e31 => ?_)
        subst e31
        exact g_retIW (pc := 34) C rfl rfl () (rfl) (by have e9 : rcShow τ (nI s8) q = (-1) := (by first | (simp [rcShow, *]; done) | (grind [rcShow])); rw [if_neg (by rw [e9] <;> (first | done | decide)), e9]) (by have e9 : rcShow τ (nI s8) q = (-1) := (by first | (simp [rcShow, *]; done) | (grind [rcShow])); rw [e9] <;> (first | done | rfl | (rw [if_neg (by decide)] <;> (first | done | rfl)))) dX6_show_34
  · refine g_aload_n (pc := 7) C dX6_show_7 0 rfl ?_
    refine g_iconst (pc := 8) (v := (-1)) C dX6_show_8 (by decide) ?_
    refine g_wrVI (pc := 9) (rest := []) (wr := [oC t 3 [.ref ta, .ref tb, .ref tc, .int (τ 8 0), .int (τ 8 1), .int (τ 8 2), .int (τ 8 3), .int (τ 8 4), .int (τ 8 5), .int (τ 8 6)], iC G ta 16 (fq τ), iC G tb 64 (τ 2), iC G tc 50 (fg τ), oC sv 2 [.ref sa, .ref sb, .ref sc], iC G sa 8 hd, iC G sb 8 sz, jC G sc 1280 el]) C (fun _ => [wX x t im it o sv tx ac rf lf] ++ (wT G t ta tb tc τ ++ (wS G sv sa sb sc hd sz el ++ ([iC G rf 8 (rfI rr (-1))])))) rfl k_X6_refuse (c_X6_refuse l G x t im it o sv tx ac rf lf rr (-1)) ml_X6_59 rfl ⟨Nat.le_of_ble_eq_true rfl, Nat.le_of_ble_eq_true rfl⟩ rfl [0, 9] [1, 2, 3, 4, 5, 6, 7, 8] [8, 0, 1, 2, 3, 4, 5, 6, 7, 9] rfl (by decide) rfl (by decide) (by decide) (by decide) (fun _ => rfl) 0 rfl rfl rfl rfl (Nat.le_of_ble_eq_true rfl) ⟨by decide, by decide⟩ dX6_show_9 (fun r9 _ e9 => ?_)
    subst e9
    exact g_retIW (pc := 12) C rfl rfl () (rfl) (by have e9 : rcShow τ s q = (-1) := (by first | (simp [rcShow, *]; done) | (grind [rcShow])); rw [if_neg (by rw [e9] <;> (first | done | decide)), e9]) (by have e9 : rcShow τ s q = (-1) := (by first | (simp [rcShow, *]; done) | (grind [rcShow])); rw [e9] <;> (first | done | rfl | (rw [if_neg (by decide)] <;> (first | done | rfl)))) dX6_show_12
set_option maxRecDepth 20000 in
set_option maxHeartbeats 4000000 in
theorem c_X6_question (l : Launch) (G : gT) (x : Nat) (t : Nat) (im : Nat) (it : Int32) (o : Nat) (sv : Nat) (tx : Nat) (ac : Nat) (rf : Nat) (lf : Int32) (ta : Nat) (tb : Nat) (tc : Nat) (τ : tT) (k : Int32) (a : Int32) (rr : Nat → Int32) (hT : TI τ) : WI l yX6_question cX6_question 3 (some .int) 10 0 0 G [.ref x, .int k, .int a] ([wX x t im it o sv tx ac rf lf] ++ (wT G t ta tb tc τ ++ ([iC G rf 8 rr]))) (S := Unit) (fun r _ => r = if rcQu τ k a = 0 then nI (tQ τ) else (rcQu τ k a)) (fun _ => [wX x t im it o sv tx ac rf lf] ++ (wT G t ta tb tc (if rcQu τ k a = 0 then aQu τ k a else τ) ++ ([iC G rf 8 (rfI rr (rcQu τ k a))]))) := by
  have hg10 := hT.g10
  have hq8 := hT.q8
  intro sz9
  refine start_W (by decide) (Nat.le_of_ble_eq_true rfl) (fun p9 e9 s9 m9 a9 b9 t9 c9 C => ?_)
  refine g_lv (lv' := [(0, .ref x), (1, .int k), (2, .int a)]) rfl ?_
  refine g_iload_n (pc := 0) C dX6_question_0 1 rfl ?_
  refine g_rdSI (pc := 1) (val := bI (0 ≤ k ∧ k ≤ 6)) (rest := []) C k_X6_isKind (c_X6_isKind l G k) ml_X6_103 rfl ⟨Nat.le_of_ble_eq_true rfl, Nat.le_of_ble_eq_true rfl⟩ rfl [] rfl rfl (Nat.le_of_ble_eq_true rfl) ⟨by decide, by decide⟩ dX6_question_1 ?_
  refine g_ifb_ne (pc := 4) (tgt := 13) C dX6_question_4 (by decide) (fun h4 => ?_) (fun h4 => ?_)
  · refine g_iload_n (pc := 13) C dX6_question_13 2 rfl ?_
    refine g_iconst (pc := 14) (v := 0) C dX6_question_14 (by decide) ?_
    refine g_bipush (pc := 15) (v := 9) C dX6_question_15 (by decide) ?_
    refine g_rdSI (pc := 17) (val := bI (0 ≤ a ∧ a ≤ 9)) (rest := []) C k_X6_isWithin (c_X6_isWithin l G a 0 9) ml_X6_63 rfl ⟨Nat.le_of_ble_eq_true rfl, Nat.le_of_ble_eq_true rfl⟩ rfl [] rfl rfl (Nat.le_of_ble_eq_true rfl) ⟨by decide, by decide⟩ dX6_question_17 ?_
    refine g_ifb_ne (pc := 20) (tgt := 30) C dX6_question_20 (by decide) (fun h20 => ?_) (fun h20 => ?_)
    · refine g_aload_n (pc := 30) C dX6_question_30 0 rfl ?_
      refine g_get (pc := 31) (T := TX6) (N := 9) (v := .ref t) C ib_X6 0 rfl rfl 0 (by decide) mf_X6_10 rfl rfl rfl dX6_question_31 ?_
      refine g_rdVI (pc := 34) (val := bI (tQ τ < 8)) (rest := []) C k_X3_hasRoomForQuestion (c_X3_hasRoomForQuestion l G t ta tb tc τ (by first | assumption | omega)) ml_X6_120 rfl ⟨Nat.le_of_ble_eq_true rfl, Nat.le_of_ble_eq_true rfl⟩ rfl [1, 2, 3, 4] rfl 1 rfl rfl rfl rfl (Nat.le_of_ble_eq_true rfl) ⟨by decide, by decide⟩ dX6_question_34 ?_
      refine g_ifb_ne (pc := 37) (tgt := 47) C dX6_question_37 (by decide) (fun h37 => ?_) (fun h37 => ?_)
      · refine g_aload_n (pc := 47) C dX6_question_47 0 rfl ?_
        refine g_get (pc := 48) (T := TX6) (N := 9) (v := .ref t) C ib_X6 0 rfl rfl 0 (by decide) mf_X6_10 rfl rfl rfl dX6_question_48 ?_
        refine g_iload_n (pc := 51) C dX6_question_51 1 rfl ?_
        refine g_iload_n (pc := 52) C dX6_question_52 2 rfl ?_
        refine g_wrVI (pc := 53) (rest := []) (wr := [wX x t im it o sv tx ac rf lf, iC G rf 8 rr]) C (fun _ => [wX x t im it o sv tx ac rf lf] ++ (wT G t ta tb tc (aQu τ k a) ++ ([iC G rf 8 rr]))) rfl k_X3_addQuestion (c_X3_addQuestion l G t ta tb tc τ k a (by first | assumption | omega) (by first | assumption | omega)) ml_X6_124 rfl ⟨Nat.le_of_ble_eq_true rfl, Nat.le_of_ble_eq_true rfl⟩ rfl [1, 2, 3, 4] [0, 5] [0, 2, 3, 4, 5, 1] rfl (by decide) rfl (by decide) (by decide) (by decide) (fun _ => rfl) 1 rfl rfl rfl rfl (Nat.le_of_ble_eq_true rfl) ⟨by decide, by decide⟩ dX6_question_53 (fun r53 _ e53 => ?_)
        subst e53
        exact g_retIW (pc := 56) C rfl rfl () (rfl) (by have e9 : rcQu τ k a = 0 := (by first | (simp [rcQu, *]; done) | (grind [rcQu])); rw [if_pos e9] <;> (rfl)) (by have e9 : rcQu τ k a = 0 := (by first | (simp [rcQu, *]; done) | (grind [rcQu])); rw [e9, rfI_0] <;> (rfl)) dX6_question_56
      · refine g_aload_n (pc := 40) C dX6_question_40 0 rfl ?_
        refine g_bipush (pc := 41) (v := (-7)) C dX6_question_41 (by decide) ?_
        refine g_wrVI (pc := 43) (rest := []) (wr := [oC t 3 [.ref ta, .ref tb, .ref tc, .int (τ 8 0), .int (τ 8 1), .int (τ 8 2), .int (τ 8 3), .int (τ 8 4), .int (τ 8 5), .int (τ 8 6)], iC G ta 16 (fq τ), iC G tb 64 (τ 2), iC G tc 50 (fg τ)]) C (fun _ => [wX x t im it o sv tx ac rf lf] ++ (wT G t ta tb tc τ ++ ([iC G rf 8 (rfI rr (-7))]))) rfl k_X6_refuse (c_X6_refuse l G x t im it o sv tx ac rf lf rr (-7)) ml_X6_59 rfl ⟨Nat.le_of_ble_eq_true rfl, Nat.le_of_ble_eq_true rfl⟩ rfl [0, 5] [1, 2, 3, 4] [4, 0, 1, 2, 3, 5] rfl (by decide) rfl (by decide) (by decide) (by decide) (fun _ => rfl) 0 rfl rfl rfl rfl (Nat.le_of_ble_eq_true rfl) ⟨by decide, by decide⟩ dX6_question_43 (fun r43 _ e43 => ?_)
        subst e43
        exact g_retIW (pc := 46) C rfl rfl () (rfl) (by have e9 : rcQu τ k a = (-7) := (by first | (simp [rcQu, *]; done) | (grind [rcQu])); rw [if_neg (by rw [e9] <;> (first | done | decide)), e9]) (by have e9 : rcQu τ k a = (-7) := (by first | (simp [rcQu, *]; done) | (grind [rcQu])); rw [e9] <;> (first | done | rfl | (rw [if_neg (by decide)] <;> (first | done | rfl)))) dX6_question_46
    · refine g_aload_n (pc := 23) C dX6_question_23 0 rfl ?_
      refine g_bipush (pc := 24) (v := (-6)) C dX6_question_24 (by decide) ?_
      refine g_wrVI (pc := 26) (rest := []) (wr := [oC t 3 [.ref ta, .ref tb, .ref tc, .int (τ 8 0), .int (τ 8 1), .int (τ 8 2), .int (τ 8 3), .int (τ 8 4), .int (τ 8 5), .int (τ 8 6)], iC G ta 16 (fq τ), iC G tb 64 (τ 2), iC G tc 50 (fg τ)]) C (fun _ => [wX x t im it o sv tx ac rf lf] ++ (wT G t ta tb tc τ ++ ([iC G rf 8 (rfI rr (-6))]))) rfl k_X6_refuse (c_X6_refuse l G x t im it o sv tx ac rf lf rr (-6)) ml_X6_59 rfl ⟨Nat.le_of_ble_eq_true rfl, Nat.le_of_ble_eq_true rfl⟩ rfl [0, 5] [1, 2, 3, 4] [4, 0, 1, 2, 3, 5] rfl (by decide) rfl (by decide) (by decide) (by decide) (fun _ => rfl) 0 rfl rfl rfl rfl (Nat.le_of_ble_eq_true rfl) ⟨by decide, by decide⟩ dX6_question_26 (fun r26 _ e26 => ?_)
      subst e26
      exact g_retIW (pc := 29) C rfl rfl () (rfl) (by have e9 : rcQu τ k a = (-6) := (by first | (simp [rcQu, *]; done) | (grind [rcQu])); rw [if_neg (by rw [e9] <;> (first | done | decide)), e9]) (by have e9 : rcQu τ k a = (-6) := (by first | (simp [rcQu, *]; done) | (grind [rcQu])); rw [e9] <;> (first | done | rfl | (rw [if_neg (by decide)] <;> (first | done | rfl)))) dX6_question_29
  · refine g_aload_n (pc := 7) C dX6_question_7 0 rfl ?_
    refine g_iconst (pc := 8) (v := (-1)) C dX6_question_8 (by decide) ?_
    refine g_wrVI (pc := 9) (rest := []) (wr := [oC t 3 [.ref ta, .ref tb, .ref tc, .int (τ 8 0), .int (τ 8 1), .int (τ 8 2), .int (τ 8 3), .int (τ 8 4), .int (τ 8 5), .int (τ 8 6)], iC G ta 16 (fq τ), iC G tb 64 (τ 2), iC G tc 50 (fg τ)]) C (fun _ => [wX x t im it o sv tx ac rf lf] ++ (wT G t ta tb tc τ ++ ([iC G rf 8 (rfI rr (-1))]))) rfl k_X6_refuse (c_X6_refuse l G x t im it o sv tx ac rf lf rr (-1)) ml_X6_59 rfl ⟨Nat.le_of_ble_eq_true rfl, Nat.le_of_ble_eq_true rfl⟩ rfl [0, 5] [1, 2, 3, 4] [4, 0, 1, 2, 3, 5] rfl (by decide) rfl (by decide) (by decide) (by decide) (fun _ => rfl) 0 rfl rfl rfl rfl (Nat.le_of_ble_eq_true rfl) ⟨by decide, by decide⟩ dX6_question_9 (fun r9 _ e9 => ?_)
    subst e9
    exact g_retIW (pc := 12) C rfl rfl () (rfl) (by have e9 : rcQu τ k a = (-1) := (by first | (simp [rcQu, *]; done) | (grind [rcQu])); rw [if_neg (by rw [e9] <;> (first | done | decide)), e9]) (by have e9 : rcQu τ k a = (-1) := (by first | (simp [rcQu, *]; done) | (grind [rcQu])); rw [e9] <;> (first | done | rfl | (rw [if_neg (by decide)] <;> (first | done | rfl)))) dX6_question_12
set_option maxRecDepth 20000 in
set_option maxHeartbeats 4000000 in
theorem c_X6_group (l : Launch) (G : gT) (x : Nat) (t : Nat) (im : Nat) (it : Int32) (o : Nat) (sv : Nat) (tx : Nat) (ac : Nat) (rf : Nat) (lf : Int32) (ta : Nat) (tb : Nat) (tc : Nat) (τ : tT) (n : Int32) (v : Int32) (g : Int32) (hm : Int32) (w : Int32) (rr : Nat → Int32) (hT : TI τ) : WI l yX6_group cX6_group 7 (some .int) 10 0 0 G [.ref x, .int n, .int v, .int g, .int hm, .int w] ([wX x t im it o sv tx ac rf lf] ++ (wT G t ta tb tc τ ++ ([iC G rf 8 rr]))) (S := Unit) (fun r _ => r = if rcGr τ n v g hm w = 0 then nI (tG τ) else (rcGr τ n v g hm w)) (fun _ => [wX x t im it o sv tx ac rf lf] ++ (wT G t ta tb tc (if rcGr τ n v g hm w = 0 then aGr τ n v g hm w else τ) ++ ([iC G rf 8 (rfI rr (rcGr τ n v g hm w))]))) := by
  have hg10 := hT.g10
  have hq8 := hT.q8
  intro sz9
  refine start_W (by decide) (Nat.le_of_ble_eq_true rfl) (fun p9 e9 s9 m9 a9 b9 t9 c9 C => ?_)
  refine g_lv (lv' := [(0, .ref x), (1, .int n), (2, .int v), (3, .int g), (4, .int hm), (5, .int w)]) rfl ?_
  refine g_iload_n (pc := 0) C dX6_group_0 1 rfl ?_
  refine g_iconst (pc := 1) (v := 1) C dX6_group_1 (by decide) ?_
  refine g_sipush (pc := 2) (v := 999) C dX6_group_2 (by decide) ?_
  refine g_rdSI (pc := 5) (val := bI (1 ≤ n ∧ n ≤ 999)) (rest := []) C k_X6_isWithin (c_X6_isWithin l G n 1 999) ml_X6_63 rfl ⟨Nat.le_of_ble_eq_true rfl, Nat.le_of_ble_eq_true rfl⟩ rfl [] rfl rfl (Nat.le_of_ble_eq_true rfl) ⟨by decide, by decide⟩ dX6_group_5 ?_
  refine g_ifb_eq (pc := 8) (tgt := 56) C dX6_group_8 (by decide) (fun h8 => ?_) (fun h8 => ?_)
  · refine g_iconst (pc := 56) (v := 0) C dX6_group_56 (by decide) ?_
    refine g_istore (pc := 57) (lv' := [(6, .int 0), (0, .ref x), (1, .int n), (2, .int v), (3, .int g), (4, .int hm), (5, .int w)]) C dX6_group_57 (by decide) rfl ?_
    refine g_iload (pc := 59) C dX6_group_59 0 rfl ?_
    refine g_if_ne (pc := 61) (tgt := 71) C dX6_group_61 (by decide) (fun h61 => absurd h61 (by decide)) (fun h61 => ?_)
    refine g_aload_n (pc := 64) C dX6_group_64 1 rfl ?_
    refine g_bipush (pc := 65) (v := (-6)) C dX6_group_65 (by decide) ?_
    refine g_wrVI (pc := 67) (rest := []) (wr := [oC t 3 [.ref ta, .ref tb, .ref tc, .int (τ 8 0), .int (τ 8 1), .int (τ 8 2), .int (τ 8 3), .int (τ 8 4), .int (τ 8 5), .int (τ 8 6)], iC G ta 16 (fq τ), iC G tb 64 (τ 2), iC G tc 50 (fg τ)]) C (fun _ => [wX x t im it o sv tx ac rf lf] ++ (wT G t ta tb tc τ ++ ([iC G rf 8 (rfI rr (-6))]))) rfl k_X6_refuse (c_X6_refuse l G x t im it o sv tx ac rf lf rr (-6)) ml_X6_59 rfl ⟨Nat.le_of_ble_eq_true rfl, Nat.le_of_ble_eq_true rfl⟩ rfl [0, 5] [1, 2, 3, 4] [4, 0, 1, 2, 3, 5] rfl (by decide) rfl (by decide) (by decide) (by decide) (fun _ => rfl) 0 rfl rfl rfl rfl (Nat.le_of_ble_eq_true rfl) ⟨by decide, by decide⟩ dX6_group_67 (fun r67 _ e67 => ?_)
    subst e67
    exact g_retIW (pc := 70) C rfl rfl () (rfl) (by have e9 : rcGr τ n v g hm w = (-6) := (by first | (simp [rcGr, *]; done) | (grind [rcGr])); rw [if_neg (by rw [e9] <;> (first | done | decide)), e9]) (by have e9 : rcGr τ n v g hm w = (-6) := (by first | (simp [rcGr, *]; done) | (grind [rcGr])); rw [e9] <;> (first | done | rfl | (rw [if_neg (by decide)] <;> (first | done | rfl)))) dX6_group_70
  · refine g_iload_n (pc := 11) C dX6_group_11 2 rfl ?_
    refine g_iconst (pc := 12) (v := 0) C dX6_group_12 (by decide) ?_
    refine g_iconst (pc := 13) (v := 2) C dX6_group_13 (by decide) ?_
    refine g_rdSI (pc := 14) (val := bI (0 ≤ v ∧ v ≤ 2)) (rest := []) C k_X6_isWithin (c_X6_isWithin l G v 0 2) ml_X6_63 rfl ⟨Nat.le_of_ble_eq_true rfl, Nat.le_of_ble_eq_true rfl⟩ rfl [] rfl rfl (Nat.le_of_ble_eq_true rfl) ⟨by decide, by decide⟩ dX6_group_14 ?_
    refine g_ifb_eq (pc := 17) (tgt := 56) C dX6_group_17 (by decide) (fun h17 => ?_) (fun h17 => ?_)
    · refine g_iconst (pc := 56) (v := 0) C dX6_group_56 (by decide) ?_
      refine g_istore (pc := 57) (lv' := [(6, .int 0), (0, .ref x), (1, .int n), (2, .int v), (3, .int g), (4, .int hm), (5, .int w)]) C dX6_group_57 (by decide) rfl ?_
      refine g_iload (pc := 59) C dX6_group_59 0 rfl ?_
      refine g_if_ne (pc := 61) (tgt := 71) C dX6_group_61 (by decide) (fun h61 => absurd h61 (by decide)) (fun h61 => ?_)
      refine g_aload_n (pc := 64) C dX6_group_64 1 rfl ?_
      refine g_bipush (pc := 65) (v := (-6)) C dX6_group_65 (by decide) ?_
      refine g_wrVI (pc := 67) (rest := []) (wr := [oC t 3 [.ref ta, .ref tb, .ref tc, .int (τ 8 0), .int (τ 8 1), .int (τ 8 2), .int (τ 8 3), .int (τ 8 4), .int (τ 8 5), .int (τ 8 6)], iC G ta 16 (fq τ), iC G tb 64 (τ 2), iC G tc 50 (fg τ)]) C (fun _ => [wX x t im it o sv tx ac rf lf] ++ (wT G t ta tb tc τ ++ ([iC G rf 8 (rfI rr (-6))]))) rfl k_X6_refuse (c_X6_refuse l G x t im it o sv tx ac rf lf rr (-6)) ml_X6_59 rfl ⟨Nat.le_of_ble_eq_true rfl, Nat.le_of_ble_eq_true rfl⟩ rfl [0, 5] [1, 2, 3, 4] [4, 0, 1, 2, 3, 5] rfl (by decide) rfl (by decide) (by decide) (by decide) (fun _ => rfl) 0 rfl rfl rfl rfl (Nat.le_of_ble_eq_true rfl) ⟨by decide, by decide⟩ dX6_group_67 (fun r67 _ e67 => ?_)
      subst e67
      exact g_retIW (pc := 70) C rfl rfl () (rfl) (by have e9 : rcGr τ n v g hm w = (-6) := (by first | (simp [rcGr, *]; done) | (grind [rcGr])); rw [if_neg (by rw [e9] <;> (first | done | decide)), e9]) (by have e9 : rcGr τ n v g hm w = (-6) := (by first | (simp [rcGr, *]; done) | (grind [rcGr])); rw [e9] <;> (first | done | rfl | (rw [if_neg (by decide)] <;> (first | done | rfl)))) dX6_group_70
    · refine g_iload_n (pc := 20) C dX6_group_20 3 rfl ?_
      refine g_iconst (pc := 21) (v := 0) C dX6_group_21 (by decide) ?_
      refine g_bipush (pc := 22) (v := 10) C dX6_group_22 (by decide) ?_
      refine g_rdSI (pc := 24) (val := bI (0 ≤ g ∧ g ≤ 10)) (rest := []) C k_X6_isWithin (c_X6_isWithin l G g 0 10) ml_X6_63 rfl ⟨Nat.le_of_ble_eq_true rfl, Nat.le_of_ble_eq_true rfl⟩ rfl [] rfl rfl (Nat.le_of_ble_eq_true rfl) ⟨by decide, by decide⟩ dX6_group_24 ?_
      refine g_ifb_eq (pc := 27) (tgt := 56) C dX6_group_27 (by decide) (fun h27 => ?_) (fun h27 => ?_)
      · refine g_iconst (pc := 56) (v := 0) C dX6_group_56 (by decide) ?_
        refine g_istore (pc := 57) (lv' := [(6, .int 0), (0, .ref x), (1, .int n), (2, .int v), (3, .int g), (4, .int hm), (5, .int w)]) C dX6_group_57 (by decide) rfl ?_
        refine g_iload (pc := 59) C dX6_group_59 0 rfl ?_
        refine g_if_ne (pc := 61) (tgt := 71) C dX6_group_61 (by decide) (fun h61 => absurd h61 (by decide)) (fun h61 => ?_)
        refine g_aload_n (pc := 64) C dX6_group_64 1 rfl ?_
        refine g_bipush (pc := 65) (v := (-6)) C dX6_group_65 (by decide) ?_
        refine g_wrVI (pc := 67) (rest := []) (wr := [oC t 3 [.ref ta, .ref tb, .ref tc, .int (τ 8 0), .int (τ 8 1), .int (τ 8 2), .int (τ 8 3), .int (τ 8 4), .int (τ 8 5), .int (τ 8 6)], iC G ta 16 (fq τ), iC G tb 64 (τ 2), iC G tc 50 (fg τ)]) C (fun _ => [wX x t im it o sv tx ac rf lf] ++ (wT G t ta tb tc τ ++ ([iC G rf 8 (rfI rr (-6))]))) rfl k_X6_refuse (c_X6_refuse l G x t im it o sv tx ac rf lf rr (-6)) ml_X6_59 rfl ⟨Nat.le_of_ble_eq_true rfl, Nat.le_of_ble_eq_true rfl⟩ rfl [0, 5] [1, 2, 3, 4] [4, 0, 1, 2, 3, 5] rfl (by decide) rfl (by decide) (by decide) (by decide) (fun _ => rfl) 0 rfl rfl rfl rfl (Nat.le_of_ble_eq_true rfl) ⟨by decide, by decide⟩ dX6_group_67 (fun r67 _ e67 => ?_)
        subst e67
        exact g_retIW (pc := 70) C rfl rfl () (rfl) (by have e9 : rcGr τ n v g hm w = (-6) := (by first | (simp [rcGr, *]; done) | (grind [rcGr])); rw [if_neg (by rw [e9] <;> (first | done | decide)), e9]) (by have e9 : rcGr τ n v g hm w = (-6) := (by first | (simp [rcGr, *]; done) | (grind [rcGr])); rw [e9] <;> (first | done | rfl | (rw [if_neg (by decide)] <;> (first | done | rfl)))) dX6_group_70
      · refine g_iload (pc := 30) C dX6_group_30 4 rfl ?_
        refine g_iconst (pc := 32) (v := 0) C dX6_group_32 (by decide) ?_
        refine g_bipush (pc := 33) (v := 10) C dX6_group_33 (by decide) ?_
        refine g_rdSI (pc := 35) (val := bI (0 ≤ hm ∧ hm ≤ 10)) (rest := []) C k_X6_isWithin (c_X6_isWithin l G hm 0 10) ml_X6_63 rfl ⟨Nat.le_of_ble_eq_true rfl, Nat.le_of_ble_eq_true rfl⟩ rfl [] rfl rfl (Nat.le_of_ble_eq_true rfl) ⟨by decide, by decide⟩ dX6_group_35 ?_
        refine g_ifb_eq (pc := 38) (tgt := 56) C dX6_group_38 (by decide) (fun h38 => ?_) (fun h38 => ?_)
        · refine g_iconst (pc := 56) (v := 0) C dX6_group_56 (by decide) ?_
          refine g_istore (pc := 57) (lv' := [(6, .int 0), (0, .ref x), (1, .int n), (2, .int v), (3, .int g), (4, .int hm), (5, .int w)]) C dX6_group_57 (by decide) rfl ?_
          refine g_iload (pc := 59) C dX6_group_59 0 rfl ?_
          refine g_if_ne (pc := 61) (tgt := 71) C dX6_group_61 (by decide) (fun h61 => absurd h61 (by decide)) (fun h61 => ?_)
          refine g_aload_n (pc := 64) C dX6_group_64 1 rfl ?_
          refine g_bipush (pc := 65) (v := (-6)) C dX6_group_65 (by decide) ?_
          refine g_wrVI (pc := 67) (rest := []) (wr := [oC t 3 [.ref ta, .ref tb, .ref tc, .int (τ 8 0), .int (τ 8 1), .int (τ 8 2), .int (τ 8 3), .int (τ 8 4), .int (τ 8 5), .int (τ 8 6)], iC G ta 16 (fq τ), iC G tb 64 (τ 2), iC G tc 50 (fg τ)]) C (fun _ => [wX x t im it o sv tx ac rf lf] ++ (wT G t ta tb tc τ ++ ([iC G rf 8 (rfI rr (-6))]))) rfl k_X6_refuse (c_X6_refuse l G x t im it o sv tx ac rf lf rr (-6)) ml_X6_59 rfl ⟨Nat.le_of_ble_eq_true rfl, Nat.le_of_ble_eq_true rfl⟩ rfl [0, 5] [1, 2, 3, 4] [4, 0, 1, 2, 3, 5] rfl (by decide) rfl (by decide) (by decide) (by decide) (fun _ => rfl) 0 rfl rfl rfl rfl (Nat.le_of_ble_eq_true rfl) ⟨by decide, by decide⟩ dX6_group_67 (fun r67 _ e67 => ?_)
          subst e67
          exact g_retIW (pc := 70) C rfl rfl () (rfl) (by have e9 : rcGr τ n v g hm w = (-6) := (by first | (simp [rcGr, *]; done) | (grind [rcGr])); rw [if_neg (by rw [e9] <;> (first | done | decide)), e9]) (by have e9 : rcGr τ n v g hm w = (-6) := (by first | (simp [rcGr, *]; done) | (grind [rcGr])); rw [e9] <;> (first | done | rfl | (rw [if_neg (by decide)] <;> (first | done | rfl)))) dX6_group_70
        · refine g_iload (pc := 41) C dX6_group_41 5 rfl ?_
          refine g_iconst (pc := 43) (v := 0) C dX6_group_43 (by decide) ?_
          refine g_bipush (pc := 44) (v := 10) C dX6_group_44 (by decide) ?_
          refine g_rdSI (pc := 46) (val := bI (0 ≤ w ∧ w ≤ 10)) (rest := []) C k_X6_isWithin (c_X6_isWithin l G w 0 10) ml_X6_63 rfl ⟨Nat.le_of_ble_eq_true rfl, Nat.le_of_ble_eq_true rfl⟩ rfl [] rfl rfl (Nat.le_of_ble_eq_true rfl) ⟨by decide, by decide⟩ dX6_group_46 ?_
          refine g_ifb_eq (pc := 49) (tgt := 56) C dX6_group_49 (by decide) (fun h49 => ?_) (fun h49 => ?_)
          · refine g_iconst (pc := 56) (v := 0) C dX6_group_56 (by decide) ?_
            refine g_istore (pc := 57) (lv' := [(6, .int 0), (0, .ref x), (1, .int n), (2, .int v), (3, .int g), (4, .int hm), (5, .int w)]) C dX6_group_57 (by decide) rfl ?_
            refine g_iload (pc := 59) C dX6_group_59 0 rfl ?_
            refine g_if_ne (pc := 61) (tgt := 71) C dX6_group_61 (by decide) (fun h61 => absurd h61 (by decide)) (fun h61 => ?_)
            refine g_aload_n (pc := 64) C dX6_group_64 1 rfl ?_
            refine g_bipush (pc := 65) (v := (-6)) C dX6_group_65 (by decide) ?_
            refine g_wrVI (pc := 67) (rest := []) (wr := [oC t 3 [.ref ta, .ref tb, .ref tc, .int (τ 8 0), .int (τ 8 1), .int (τ 8 2), .int (τ 8 3), .int (τ 8 4), .int (τ 8 5), .int (τ 8 6)], iC G ta 16 (fq τ), iC G tb 64 (τ 2), iC G tc 50 (fg τ)]) C (fun _ => [wX x t im it o sv tx ac rf lf] ++ (wT G t ta tb tc τ ++ ([iC G rf 8 (rfI rr (-6))]))) rfl k_X6_refuse (c_X6_refuse l G x t im it o sv tx ac rf lf rr (-6)) ml_X6_59 rfl ⟨Nat.le_of_ble_eq_true rfl, Nat.le_of_ble_eq_true rfl⟩ rfl [0, 5] [1, 2, 3, 4] [4, 0, 1, 2, 3, 5] rfl (by decide) rfl (by decide) (by decide) (by decide) (fun _ => rfl) 0 rfl rfl rfl rfl (Nat.le_of_ble_eq_true rfl) ⟨by decide, by decide⟩ dX6_group_67 (fun r67 _ e67 => ?_)
            subst e67
            exact g_retIW (pc := 70) C rfl rfl () (rfl) (by have e9 : rcGr τ n v g hm w = (-6) := (by first | (simp [rcGr, *]; done) | (grind [rcGr])); rw [if_neg (by rw [e9] <;> (first | done | decide)), e9]) (by have e9 : rcGr τ n v g hm w = (-6) := (by first | (simp [rcGr, *]; done) | (grind [rcGr])); rw [e9] <;> (first | done | rfl | (rw [if_neg (by decide)] <;> (first | done | rfl)))) dX6_group_70
          · refine g_iconst (pc := 52) (v := 1) C dX6_group_52 (by decide) ?_
            refine g_goto (pc := 53) (tgt := 57) C dX6_group_53 (by decide) ?_
            refine g_istore (pc := 57) (lv' := [(6, .int 1), (0, .ref x), (1, .int n), (2, .int v), (3, .int g), (4, .int hm), (5, .int w)]) C dX6_group_57 (by decide) rfl ?_
            refine g_iload (pc := 59) C dX6_group_59 0 rfl ?_
            refine g_if_ne (pc := 61) (tgt := 71) C dX6_group_61 (by decide) (fun h61 => ?_) (fun h61 => absurd h61 (by decide))
            refine g_aload_n (pc := 71) C dX6_group_71 1 rfl ?_
            refine g_get (pc := 72) (T := TX6) (N := 9) (v := .ref t) C ib_X6 0 rfl rfl 0 (by decide) mf_X6_10 rfl rfl rfl dX6_group_72 ?_
            refine g_rdVI (pc := 75) (val := bI (tG τ < 10)) (rest := []) C k_X3_hasRoomForGroup (c_X3_hasRoomForGroup l G t ta tb tc τ (by first | assumption | omega)) ml_X6_127 rfl ⟨Nat.le_of_ble_eq_true rfl, Nat.le_of_ble_eq_true rfl⟩ rfl [1, 2, 3, 4] rfl 1 rfl rfl rfl rfl (Nat.le_of_ble_eq_true rfl) ⟨by decide, by decide⟩ dX6_group_75 ?_
            refine g_ifb_ne (pc := 78) (tgt := 88) C dX6_group_78 (by decide) (fun h78 => ?_) (fun h78 => ?_)
            · refine g_aload_n (pc := 88) C dX6_group_88 1 rfl ?_
              refine g_get (pc := 89) (T := TX6) (N := 9) (v := .ref t) C ib_X6 0 rfl rfl 0 (by decide) mf_X6_10 rfl rfl rfl dX6_group_89 ?_
              refine g_iload_n (pc := 92) C dX6_group_92 2 rfl ?_
              refine g_iload_n (pc := 93) C dX6_group_93 3 rfl ?_
              refine g_iload_n (pc := 94) C dX6_group_94 4 rfl ?_
              refine g_iload (pc := 95) C dX6_group_95 5 rfl ?_
              refine g_iload (pc := 97) C dX6_group_97 6 rfl ?_
              refine g_wrVI (pc := 99) (rest := []) (wr := [wX x t im it o sv tx ac rf lf, iC G rf 8 rr]) C (fun _ => [wX x t im it o sv tx ac rf lf] ++ (wT G t ta tb tc (aGr τ n v g hm w) ++ ([iC G rf 8 rr]))) rfl k_X3_addGroup (c_X3_addGroup l G t ta tb tc τ n v g hm w (by first | assumption | omega) (by first | assumption | omega)) ml_X6_130 rfl ⟨Nat.le_of_ble_eq_true rfl, Nat.le_of_ble_eq_true rfl⟩ rfl [1, 2, 3, 4] [0, 5] [0, 2, 3, 4, 5, 1] rfl (by decide) rfl (by decide) (by decide) (by decide) (fun _ => rfl) 1 rfl rfl rfl rfl (Nat.le_of_ble_eq_true rfl) ⟨by decide, by decide⟩ dX6_group_99 (fun r99 _ e99 => ?_)
              subst e99
              exact g_retIW (pc := 102) C rfl rfl () (rfl) (by have e9 : rcGr τ n v g hm w = 0 := (by first | (simp [rcGr, *]; done) | (grind [rcGr])); rw [if_pos e9] <;> (rfl)) (by have e9 : rcGr τ n v g hm w = 0 := (by first | (simp [rcGr, *]; done) | (grind [rcGr])); rw [e9, rfI_0] <;> (rfl)) dX6_group_102
            · refine g_aload_n (pc := 81) C dX6_group_81 1 rfl ?_
              refine g_bipush (pc := 82) (v := (-7)) C dX6_group_82 (by decide) ?_
              refine g_wrVI (pc := 84) (rest := []) (wr := [oC t 3 [.ref ta, .ref tb, .ref tc, .int (τ 8 0), .int (τ 8 1), .int (τ 8 2), .int (τ 8 3), .int (τ 8 4), .int (τ 8 5), .int (τ 8 6)], iC G ta 16 (fq τ), iC G tb 64 (τ 2), iC G tc 50 (fg τ)]) C (fun _ => [wX x t im it o sv tx ac rf lf] ++ (wT G t ta tb tc τ ++ ([iC G rf 8 (rfI rr (-7))]))) rfl k_X6_refuse (c_X6_refuse l G x t im it o sv tx ac rf lf rr (-7)) ml_X6_59 rfl ⟨Nat.le_of_ble_eq_true rfl, Nat.le_of_ble_eq_true rfl⟩ rfl [0, 5] [1, 2, 3, 4] [4, 0, 1, 2, 3, 5] rfl (by decide) rfl (by decide) (by decide) (by decide) (fun _ => rfl) 0 rfl rfl rfl rfl (Nat.le_of_ble_eq_true rfl) ⟨by decide, by decide⟩ dX6_group_84 (fun r84 _ e84 => ?_)
              subst e84
              exact g_retIW (pc := 87) C rfl rfl () (rfl) (by have e9 : rcGr τ n v g hm w = (-7) := (by first | (simp [rcGr, *]; done) | (grind [rcGr])); rw [if_neg (by rw [e9] <;> (first | done | decide)), e9]) (by have e9 : rcGr τ n v g hm w = (-7) := (by first | (simp [rcGr, *]; done) | (grind [rcGr])); rw [e9] <;> (first | done | rfl | (rw [if_neg (by decide)] <;> (first | done | rfl)))) dX6_group_87
set_option maxRecDepth 20000 in
set_option maxHeartbeats 4000000 in
theorem c_X6_questionOf (l : Launch) (G : gT) (x : Nat) (t : Nat) (im : Nat) (it : Int32) (o : Nat) (sv : Nat) (tx : Nat) (ac : Nat) (rf : Nat) (lf : Int32) (ta : Nat) (tb : Nat) (tc : Nat) (τ : tT) (q : Int32) (k : Int32) (rr : Nat → Int32) (hT : TI τ) : WI l yX6_questionOf cX6_questionOf 3 (some .int) 10 0 0 G [.ref x, .int q, .int k] ([wX x t im it o sv tx ac rf lf] ++ (wT G t ta tb tc τ ++ ([iC G rf 8 rr]))) (S := Unit) (fun r _ => r = if rcQo τ q k = 0 then qoV τ (nx q) k else -10000 + (rcQo τ q k)) (fun _ => [wX x t im it o sv tx ac rf lf] ++ (wT G t ta tb tc τ ++ ([iC G rf 8 (rfI rr (rcQo τ q k))]))) := by
  have hg10 := hT.g10
  have hq8 := hT.q8
  intro sz9
  refine start_W (by decide) (Nat.le_of_ble_eq_true rfl) (fun p9 e9 s9 m9 a9 b9 t9 c9 C => ?_)
  refine g_lv (lv' := [(0, .ref x), (1, .int q), (2, .int k)]) rfl ?_
  refine g_aload_n (pc := 0) C dX6_questionOf_0 0 rfl ?_
  refine g_get (pc := 1) (T := TX6) (N := 9) (v := .ref t) C ib_X6 0 rfl rfl 0 (by decide) mf_X6_10 rfl rfl rfl dX6_questionOf_1 ?_
  refine g_iload_n (pc := 4) C dX6_questionOf_4 1 rfl ?_
  refine g_rdVI (pc := 5) (val := bI (0 ≤ q ∧ q ≤ nI (tQ τ) - 1)) (rest := []) C k_X3_hasQuestion (c_X3_hasQuestion l G t ta tb tc τ q (by first | assumption | omega)) ml_X6_93 rfl ⟨Nat.le_of_ble_eq_true rfl, Nat.le_of_ble_eq_true rfl⟩ rfl [1, 2, 3, 4] rfl 1 rfl rfl rfl rfl (Nat.le_of_ble_eq_true rfl) ⟨by decide, by decide⟩ dX6_questionOf_5 ?_
  refine g_ifb_ne (pc := 8) (tgt := 18) C dX6_questionOf_8 (by decide) (fun h8 => ?_) (fun h8 => ?_)
  · obtain ⟨q8, hq8, rfl⟩ := isQ_nI hT h8
    have eq8 : nx (nI q8) = q8 := nx_nI (by omega)
    refine g_iload_n (pc := 18) C dX6_questionOf_18 2 rfl ?_
    by_cases h19_0 : k = 0
    · refine g_top (z := 0) h19_0 ?_
      refine g_tsIn (pc := 19) (off := 33) (tgt := 52) C dX6_questionOf_19 (by decide) (by decide) (by decide) (by decide) ?_
      refine g_aload_n (pc := 52) C dX6_questionOf_52 0 rfl ?_
      refine g_get (pc := 53) (T := TX6) (N := 9) (v := .ref t) C ib_X6 0 rfl rfl 0 (by decide) mf_X6_10 rfl rfl rfl dX6_questionOf_53 ?_
      refine g_iload_n (pc := 56) C dX6_questionOf_56 1 rfl ?_
      refine g_rdVI (pc := 57) (val := τ 0 q8) (rest := []) C k_X3_kindOf (c_X3_kindOf l G t ta tb tc τ q8 (by first | assumption | omega)) ml_X6_106 rfl ⟨Nat.le_of_ble_eq_true rfl, Nat.le_of_ble_eq_true rfl⟩ rfl [1, 2, 3, 4] rfl 1 rfl rfl rfl rfl (Nat.le_of_ble_eq_true rfl) ⟨by decide, by decide⟩ dX6_questionOf_57 ?_
      exact g_retIW (pc := 60) C rfl rfl () (rfl) (by have e9 : rcQo τ (nI q8) k = 0 := (by first | (simp [rcQo, *]; done) | (grind [rcQo])); rw [if_pos e9] <;> (simp [qoV, eq8, *])) (by have e9 : rcQo τ (nI q8) k = 0 := (by first | (simp [rcQo, *]; done) | (grind [rcQo])); rw [e9, rfI_0] <;> (rfl)) dX6_questionOf_60
    by_cases h19_1 : k = 1
    · refine g_top (z := 1) h19_1 ?_
      refine g_tsIn (pc := 19) (off := 42) (tgt := 61) C dX6_questionOf_19 (by decide) (by decide) (by decide) (by decide) ?_
      refine g_aload_n (pc := 61) C dX6_questionOf_61 0 rfl ?_
      refine g_get (pc := 62) (T := TX6) (N := 9) (v := .ref t) C ib_X6 0 rfl rfl 0 (by decide) mf_X6_10 rfl rfl rfl dX6_questionOf_62 ?_
      refine g_iload_n (pc := 65) C dX6_questionOf_65 1 rfl ?_
      refine g_rdVI (pc := 66) (val := τ 1 q8) (rest := []) C k_X3_aOf (c_X3_aOf l G t ta tb tc τ q8 (by first | assumption | omega)) ml_X6_137 rfl ⟨Nat.le_of_ble_eq_true rfl, Nat.le_of_ble_eq_true rfl⟩ rfl [1, 2, 3, 4] rfl 1 rfl rfl rfl rfl (Nat.le_of_ble_eq_true rfl) ⟨by decide, by decide⟩ dX6_questionOf_66 ?_
      exact g_retIW (pc := 69) C rfl rfl () (rfl) (by have e9 : rcQo τ (nI q8) k = 0 := (by first | (simp [rcQo, *]; done) | (grind [rcQo])); rw [if_pos e9] <;> (simp [qoV, eq8, *])) (by have e9 : rcQo τ (nI q8) k = 0 := (by first | (simp [rcQo, *]; done) | (grind [rcQo])); rw [e9, rfI_0] <;> (rfl)) dX6_questionOf_69
    by_cases h19_2 : k = 2
    · refine g_top (z := 2) h19_2 ?_
      refine g_tsIn (pc := 19) (off := 51) (tgt := 70) C dX6_questionOf_19 (by decide) (by decide) (by decide) (by decide) ?_
      refine g_aload_n (pc := 70) C dX6_questionOf_70 0 rfl ?_
      refine g_get (pc := 71) (T := TX6) (N := 9) (v := .ref t) C ib_X6 0 rfl rfl 0 (by decide) mf_X6_10 rfl rfl rfl dX6_questionOf_71 ?_
      refine g_iload_n (pc := 74) C dX6_questionOf_74 1 rfl ?_
      refine g_sipush (pc := 75) (v := 1023) C dX6_questionOf_75 (by decide) ?_
      refine g_rdVI (pc := 78) (val := allN τ q8) (rest := []) C k_X3_allOf (c_X3_allOf_all l G t ta tb tc τ q8 (by first | assumption | omega) (by first | assumption | omega)) ml_X6_140 rfl ⟨Nat.le_of_ble_eq_true rfl, Nat.le_of_ble_eq_true rfl⟩ rfl [1, 2, 3, 4] rfl 1 rfl rfl rfl rfl (Nat.le_of_ble_eq_true rfl) ⟨by decide, by decide⟩ dX6_questionOf_78 ?_
      exact g_retIW (pc := 81) C rfl rfl () (rfl) (by have e9 : rcQo τ (nI q8) k = 0 := (by first | (simp [rcQo, *]; done) | (grind [rcQo])); rw [if_pos e9] <;> (simp [qoV, eq8, *])) (by have e9 : rcQo τ (nI q8) k = 0 := (by first | (simp [rcQo, *]; done) | (grind [rcQo])); rw [e9, rfI_0] <;> (rfl)) dX6_questionOf_81
    by_cases h19_3 : k = 3
    · refine g_top (z := 3) h19_3 ?_
      refine g_tsIn (pc := 19) (off := 63) (tgt := 82) C dX6_questionOf_19 (by decide) (by decide) (by decide) (by decide) ?_
      refine g_aload_n (pc := 82) C dX6_questionOf_82 0 rfl ?_
      refine g_get (pc := 83) (T := TX6) (N := 9) (v := .ref t) C ib_X6 0 rfl rfl 0 (by decide) mf_X6_10 rfl rfl rfl dX6_questionOf_83 ?_
      refine g_iload_n (pc := 86) C dX6_questionOf_86 1 rfl ?_
      refine g_sipush (pc := 87) (v := 1023) C dX6_questionOf_87 (by decide) ?_
      refine g_rdVI (pc := 90) (val := share τ q8) (rest := []) C k_X3_shareOf (c_X3_shareOf_all l G t ta tb tc τ q8 (by first | assumption | omega) (by first | assumption | omega)) ml_X6_113 rfl ⟨Nat.le_of_ble_eq_true rfl, Nat.le_of_ble_eq_true rfl⟩ rfl [1, 2, 3, 4] rfl 1 rfl rfl rfl rfl (Nat.le_of_ble_eq_true rfl) ⟨by decide, by decide⟩ dX6_questionOf_90 ?_
      exact g_retIW (pc := 93) C rfl rfl () (rfl) (by have e9 : rcQo τ (nI q8) k = 0 := (by first | (simp [rcQo, *]; done) | (grind [rcQo])); rw [if_pos e9] <;> (simp [qoV, eq8, *])) (by have e9 : rcQo τ (nI q8) k = 0 := (by first | (simp [rcQo, *]; done) | (grind [rcQo])); rw [e9, rfI_0] <;> (rfl)) dX6_questionOf_93
    by_cases h19_4 : k = 4
    · refine g_top (z := 4) h19_4 ?_
      refine g_tsIn (pc := 19) (off := 75) (tgt := 94) C dX6_questionOf_19 (by decide) (by decide) (by decide) (by decide) ?_
      refine g_aload_n (pc := 94) C dX6_questionOf_94 0 rfl ?_
      refine g_get (pc := 95) (T := TX6) (N := 9) (v := .ref t) C ib_X6 0 rfl rfl 0 (by decide) mf_X6_10 rfl rfl rfl dX6_questionOf_95 ?_
      refine g_iload_n (pc := 98) C dX6_questionOf_98 1 rfl ?_
      refine g_rdVI (pc := 99) (val := wrong τ q8) (rest := []) C k_X3_wrongOf (c_X3_wrongOf l G t ta tb tc τ q8 (by first | assumption | omega) (by first | assumption | omega)) ml_X6_143 rfl ⟨Nat.le_of_ble_eq_true rfl, Nat.le_of_ble_eq_true rfl⟩ rfl [1, 2, 3, 4] rfl 1 rfl rfl rfl rfl (Nat.le_of_ble_eq_true rfl) ⟨by decide, by decide⟩ dX6_questionOf_99 ?_
      exact g_retIW (pc := 102) C rfl rfl () (rfl) (by have e9 : rcQo τ (nI q8) k = 0 := (by first | (simp [rcQo, *]; done) | (grind [rcQo])); rw [if_pos e9] <;> (simp [qoV, eq8, *])) (by have e9 : rcQo τ (nI q8) k = 0 := (by first | (simp [rcQo, *]; done) | (grind [rcQo])); rw [e9, rfI_0] <;> (rfl)) dX6_questionOf_102
    refine g_tsOut (pc := 19) (tgt := 103) C dX6_questionOf_19 (by have a0 := lv_neT h19_0 (a := 0) rfl; have a1 := lv_neT h19_1 (a := 1) rfl; have a2 := lv_neT h19_2 (a := 2) rfl; have a3 := lv_neT h19_3 (a := 3) rfl; have a4 := lv_neT h19_4 (a := 4) rfl; omega) (by decide) ?_
    refine g_aload_n (pc := 103) C dX6_questionOf_103 0 rfl ?_
    refine g_bipush (pc := 104) (v := (-5)) C dX6_questionOf_104 (by decide) ?_
    refine g_wrVI (pc := 106) (rest := []) (wr := [oC t 3 [.ref ta, .ref tb, .ref tc, .int (τ 8 0), .int (τ 8 1), .int (τ 8 2), .int (τ 8 3), .int (τ 8 4), .int (τ 8 5), .int (τ 8 6)], iC G ta 16 (fq τ), iC G tb 64 (τ 2), iC G tc 50 (fg τ)]) C (fun _ => [wX x t im it o sv tx ac rf lf] ++ (wT G t ta tb tc τ ++ ([iC G rf 8 (rfI rr (-5))]))) rfl k_X6_refuseFarBelow (c_X6_refuseFarBelow l G x t im it o sv tx ac rf lf rr (-5)) ml_X6_134 rfl ⟨Nat.le_of_ble_eq_true rfl, Nat.le_of_ble_eq_true rfl⟩ rfl [0, 5] [1, 2, 3, 4] [4, 0, 1, 2, 3, 5] rfl (by decide) rfl (by decide) (by decide) (by decide) (fun _ => rfl) 0 rfl rfl rfl rfl (Nat.le_of_ble_eq_true rfl) ⟨by decide, by decide⟩ dX6_questionOf_106 (fun r106 _ e106 => ?_)
    subst e106
    exact g_retIW (pc := 109) C rfl rfl () (rfl) (by have e9 : rcQo τ (nI q8) k = (-5) := (by first | (simp [rcQo, *]; done) | (grind [rcQo])); rw [if_neg (by rw [e9] <;> (first | done | decide)), e9]) (by have e9 : rcQo τ (nI q8) k = (-5) := (by first | (simp [rcQo, *]; done) | (grind [rcQo])); rw [e9] <;> (first | done | rfl | (rw [if_neg (by decide)] <;> (first | done | rfl)))) dX6_questionOf_109
  · refine g_aload_n (pc := 11) C dX6_questionOf_11 0 rfl ?_
    refine g_bipush (pc := 12) (v := (-5)) C dX6_questionOf_12 (by decide) ?_
    refine g_wrVI (pc := 14) (rest := []) (wr := [oC t 3 [.ref ta, .ref tb, .ref tc, .int (τ 8 0), .int (τ 8 1), .int (τ 8 2), .int (τ 8 3), .int (τ 8 4), .int (τ 8 5), .int (τ 8 6)], iC G ta 16 (fq τ), iC G tb 64 (τ 2), iC G tc 50 (fg τ)]) C (fun _ => [wX x t im it o sv tx ac rf lf] ++ (wT G t ta tb tc τ ++ ([iC G rf 8 (rfI rr (-5))]))) rfl k_X6_refuseFarBelow (c_X6_refuseFarBelow l G x t im it o sv tx ac rf lf rr (-5)) ml_X6_134 rfl ⟨Nat.le_of_ble_eq_true rfl, Nat.le_of_ble_eq_true rfl⟩ rfl [0, 5] [1, 2, 3, 4] [4, 0, 1, 2, 3, 5] rfl (by decide) rfl (by decide) (by decide) (by decide) (fun _ => rfl) 0 rfl rfl rfl rfl (Nat.le_of_ble_eq_true rfl) ⟨by decide, by decide⟩ dX6_questionOf_14 (fun r14 _ e14 => ?_)
    subst e14
    exact g_retIW (pc := 17) C rfl rfl () (rfl) (by have e9 : rcQo τ q k = (-5) := (by first | (simp [rcQo, *]; done) | (grind [rcQo])); rw [if_neg (by rw [e9] <;> (first | done | decide)), e9]) (by have e9 : rcQo τ q k = (-5) := (by first | (simp [rcQo, *]; done) | (grind [rcQo])); rw [e9] <;> (first | done | rfl | (rw [if_neg (by decide)] <;> (first | done | rfl)))) dX6_questionOf_17
set_option maxRecDepth 20000 in
set_option maxHeartbeats 4000000 in
theorem c_X6_groupOf (l : Launch) (G : gT) (x : Nat) (t : Nat) (im : Nat) (it : Int32) (o : Nat) (sv : Nat) (tx : Nat) (ac : Nat) (rf : Nat) (lf : Int32) (ta : Nat) (tb : Nat) (tc : Nat) (τ : tT) (g : Int32) (k : Int32) (rr : Nat → Int32) (hT : TI τ) : WI l yX6_groupOf cX6_groupOf 3 (some .int) 10 0 0 G [.ref x, .int g, .int k] ([wX x t im it o sv tx ac rf lf] ++ (wT G t ta tb tc τ ++ ([iC G rf 8 rr]))) (S := Unit) (fun r _ => r = if rcGo τ g k = 0 then goV τ (nx g) k else (rcGo τ g k)) (fun _ => [wX x t im it o sv tx ac rf lf] ++ (wT G t ta tb tc τ ++ ([iC G rf 8 (rfI rr (rcGo τ g k))]))) := by
  have hg10 := hT.g10
  have hq8 := hT.q8
  intro sz9
  refine start_W (by decide) (Nat.le_of_ble_eq_true rfl) (fun p9 e9 s9 m9 a9 b9 t9 c9 C => ?_)
  refine g_lv (lv' := [(0, .ref x), (1, .int g), (2, .int k)]) rfl ?_
  refine g_aload_n (pc := 0) C dX6_groupOf_0 0 rfl ?_
  refine g_get (pc := 1) (T := TX6) (N := 9) (v := .ref t) C ib_X6 0 rfl rfl 0 (by decide) mf_X6_10 rfl rfl rfl dX6_groupOf_1 ?_
  refine g_iload_n (pc := 4) C dX6_groupOf_4 1 rfl ?_
  refine g_rdVI (pc := 5) (val := bI (0 ≤ g ∧ g ≤ nI (tG τ) - 1)) (rest := []) C k_X3_hasGroup (c_X3_hasGroup l G t ta tb tc τ g (by first | assumption | omega)) ml_X6_146 rfl ⟨Nat.le_of_ble_eq_true rfl, Nat.le_of_ble_eq_true rfl⟩ rfl [1, 2, 3, 4] rfl 1 rfl rfl rfl rfl (Nat.le_of_ble_eq_true rfl) ⟨by decide, by decide⟩ dX6_groupOf_5 ?_
  refine g_ifb_ne (pc := 8) (tgt := 18) C dX6_groupOf_8 (by decide) (fun h8 => ?_) (fun h8 => ?_)
  · obtain ⟨g8, hg8, rfl⟩ := isG_nI hT h8
    have eg8 : nx (nI g8) = g8 := nx_nI (by omega)
    refine g_iload_n (pc := 18) C dX6_groupOf_18 2 rfl ?_
    by_cases h19_0 : k = 0
    · refine g_top (z := 0) h19_0 ?_
      refine g_tsIn (pc := 19) (off := 33) (tgt := 52) C dX6_groupOf_19 (by decide) (by decide) (by decide) (by decide) ?_
      refine g_aload_n (pc := 52) C dX6_groupOf_52 0 rfl ?_
      refine g_get (pc := 53) (T := TX6) (N := 9) (v := .ref t) C ib_X6 0 rfl rfl 0 (by decide) mf_X6_10 rfl rfl rfl dX6_groupOf_53 ?_
      refine g_iload_n (pc := 56) C dX6_groupOf_56 1 rfl ?_
      refine g_rdVI (pc := 57) (val := τ 3 g8) (rest := []) C k_X3_countOf (c_X3_countOf l G t ta tb tc τ g8 (by first | assumption | omega)) ml_X6_149 rfl ⟨Nat.le_of_ble_eq_true rfl, Nat.le_of_ble_eq_true rfl⟩ rfl [1, 2, 3, 4] rfl 1 rfl rfl rfl rfl (Nat.le_of_ble_eq_true rfl) ⟨by decide, by decide⟩ dX6_groupOf_57 ?_
      exact g_retIW (pc := 60) C rfl rfl () (rfl) (by have e9 : rcGo τ (nI g8) k = 0 := (by first | (simp [rcGo, *]; done) | (grind [rcGo])); rw [if_pos e9] <;> (simp [goV, eg8, *])) (by have e9 : rcGo τ (nI g8) k = 0 := (by first | (simp [rcGo, *]; done) | (grind [rcGo])); rw [e9, rfI_0] <;> (rfl)) dX6_groupOf_60
    by_cases h19_1 : k = 1
    · refine g_top (z := 1) h19_1 ?_
      refine g_tsIn (pc := 19) (off := 42) (tgt := 61) C dX6_groupOf_19 (by decide) (by decide) (by decide) (by decide) ?_
      refine g_aload_n (pc := 61) C dX6_groupOf_61 0 rfl ?_
      refine g_get (pc := 62) (T := TX6) (N := 9) (v := .ref t) C ib_X6 0 rfl rfl 0 (by decide) mf_X6_10 rfl rfl rfl dX6_groupOf_62 ?_
      refine g_iload_n (pc := 65) C dX6_groupOf_65 1 rfl ?_
      refine g_rdVI (pc := 66) (val := τ 4 g8) (rest := []) C k_X3_viewOf (c_X3_viewOf l G t ta tb tc τ g8 (by first | assumption | omega)) ml_X6_152 rfl ⟨Nat.le_of_ble_eq_true rfl, Nat.le_of_ble_eq_true rfl⟩ rfl [1, 2, 3, 4] rfl 1 rfl rfl rfl rfl (Nat.le_of_ble_eq_true rfl) ⟨by decide, by decide⟩ dX6_groupOf_66 ?_
      exact g_retIW (pc := 69) C rfl rfl () (rfl) (by have e9 : rcGo τ (nI g8) k = 0 := (by first | (simp [rcGo, *]; done) | (grind [rcGo])); rw [if_pos e9] <;> (simp [goV, eg8, *])) (by have e9 : rcGo τ (nI g8) k = 0 := (by first | (simp [rcGo, *]; done) | (grind [rcGo])); rw [e9, rfI_0] <;> (rfl)) dX6_groupOf_69
    by_cases h19_2 : k = 2
    · refine g_top (z := 2) h19_2 ?_
      refine g_tsIn (pc := 19) (off := 51) (tgt := 70) C dX6_groupOf_19 (by decide) (by decide) (by decide) (by decide) ?_
      refine g_aload_n (pc := 70) C dX6_groupOf_70 0 rfl ?_
      refine g_get (pc := 71) (T := TX6) (N := 9) (v := .ref t) C ib_X6 0 rfl rfl 0 (by decide) mf_X6_10 rfl rfl rfl dX6_groupOf_71 ?_
      refine g_iload_n (pc := 74) C dX6_groupOf_74 1 rfl ?_
      refine g_rdVI (pc := 75) (val := τ 5 g8) (rest := []) C k_X3_gladOf (c_X3_gladOf l G t ta tb tc τ g8 (by first | assumption | omega)) ml_X6_155 rfl ⟨Nat.le_of_ble_eq_true rfl, Nat.le_of_ble_eq_true rfl⟩ rfl [1, 2, 3, 4] rfl 1 rfl rfl rfl rfl (Nat.le_of_ble_eq_true rfl) ⟨by decide, by decide⟩ dX6_groupOf_75 ?_
      exact g_retIW (pc := 78) C rfl rfl () (rfl) (by have e9 : rcGo τ (nI g8) k = 0 := (by first | (simp [rcGo, *]; done) | (grind [rcGo])); rw [if_pos e9] <;> (simp [goV, eg8, *])) (by have e9 : rcGo τ (nI g8) k = 0 := (by first | (simp [rcGo, *]; done) | (grind [rcGo])); rw [e9, rfI_0] <;> (rfl)) dX6_groupOf_78
    by_cases h19_3 : k = 3
    · refine g_top (z := 3) h19_3 ?_
      refine g_tsIn (pc := 19) (off := 60) (tgt := 79) C dX6_groupOf_19 (by decide) (by decide) (by decide) (by decide) ?_
      refine g_aload_n (pc := 79) C dX6_groupOf_79 0 rfl ?_
      refine g_get (pc := 80) (T := TX6) (N := 9) (v := .ref t) C ib_X6 0 rfl rfl 0 (by decide) mf_X6_10 rfl rfl rfl dX6_groupOf_80 ?_
      refine g_iload_n (pc := 83) C dX6_groupOf_83 1 rfl ?_
      refine g_rdVI (pc := 84) (val := τ 6 g8) (rest := []) C k_X3_homeOf (c_X3_homeOf l G t ta tb tc τ g8 (by first | assumption | omega)) ml_X6_158 rfl ⟨Nat.le_of_ble_eq_true rfl, Nat.le_of_ble_eq_true rfl⟩ rfl [1, 2, 3, 4] rfl 1 rfl rfl rfl rfl (Nat.le_of_ble_eq_true rfl) ⟨by decide, by decide⟩ dX6_groupOf_84 ?_
      exact g_retIW (pc := 87) C rfl rfl () (rfl) (by have e9 : rcGo τ (nI g8) k = 0 := (by first | (simp [rcGo, *]; done) | (grind [rcGo])); rw [if_pos e9] <;> (simp [goV, eg8, *])) (by have e9 : rcGo τ (nI g8) k = 0 := (by first | (simp [rcGo, *]; done) | (grind [rcGo])); rw [e9, rfI_0] <;> (rfl)) dX6_groupOf_87
    by_cases h19_4 : k = 4
    · refine g_top (z := 4) h19_4 ?_
      refine g_tsIn (pc := 19) (off := 69) (tgt := 88) C dX6_groupOf_19 (by decide) (by decide) (by decide) (by decide) ?_
      refine g_aload_n (pc := 88) C dX6_groupOf_88 0 rfl ?_
      refine g_get (pc := 89) (T := TX6) (N := 9) (v := .ref t) C ib_X6 0 rfl rfl 0 (by decide) mf_X6_10 rfl rfl rfl dX6_groupOf_89 ?_
      refine g_iload_n (pc := 92) C dX6_groupOf_92 1 rfl ?_
      refine g_rdVI (pc := 93) (val := τ 7 g8) (rest := []) C k_X3_willOf (c_X3_willOf l G t ta tb tc τ g8 (by first | assumption | omega)) ml_X6_161 rfl ⟨Nat.le_of_ble_eq_true rfl, Nat.le_of_ble_eq_true rfl⟩ rfl [1, 2, 3, 4] rfl 1 rfl rfl rfl rfl (Nat.le_of_ble_eq_true rfl) ⟨by decide, by decide⟩ dX6_groupOf_93 ?_
      exact g_retIW (pc := 96) C rfl rfl () (rfl) (by have e9 : rcGo τ (nI g8) k = 0 := (by first | (simp [rcGo, *]; done) | (grind [rcGo])); rw [if_pos e9] <;> (simp [goV, eg8, *])) (by have e9 : rcGo τ (nI g8) k = 0 := (by first | (simp [rcGo, *]; done) | (grind [rcGo])); rw [e9, rfI_0] <;> (rfl)) dX6_groupOf_96
    refine g_tsOut (pc := 19) (tgt := 97) C dX6_groupOf_19 (by have a0 := lv_neT h19_0 (a := 0) rfl; have a1 := lv_neT h19_1 (a := 1) rfl; have a2 := lv_neT h19_2 (a := 2) rfl; have a3 := lv_neT h19_3 (a := 3) rfl; have a4 := lv_neT h19_4 (a := 4) rfl; omega) (by decide) ?_
    refine g_aload_n (pc := 97) C dX6_groupOf_97 0 rfl ?_
    refine g_bipush (pc := 98) (v := (-5)) C dX6_groupOf_98 (by decide) ?_
    refine g_wrVI (pc := 100) (rest := []) (wr := [oC t 3 [.ref ta, .ref tb, .ref tc, .int (τ 8 0), .int (τ 8 1), .int (τ 8 2), .int (τ 8 3), .int (τ 8 4), .int (τ 8 5), .int (τ 8 6)], iC G ta 16 (fq τ), iC G tb 64 (τ 2), iC G tc 50 (fg τ)]) C (fun _ => [wX x t im it o sv tx ac rf lf] ++ (wT G t ta tb tc τ ++ ([iC G rf 8 (rfI rr (-5))]))) rfl k_X6_refuse (c_X6_refuse l G x t im it o sv tx ac rf lf rr (-5)) ml_X6_59 rfl ⟨Nat.le_of_ble_eq_true rfl, Nat.le_of_ble_eq_true rfl⟩ rfl [0, 5] [1, 2, 3, 4] [4, 0, 1, 2, 3, 5] rfl (by decide) rfl (by decide) (by decide) (by decide) (fun _ => rfl) 0 rfl rfl rfl rfl (Nat.le_of_ble_eq_true rfl) ⟨by decide, by decide⟩ dX6_groupOf_100 (fun r100 _ e100 => ?_)
    subst e100
    exact g_retIW (pc := 103) C rfl rfl () (rfl) (by have e9 : rcGo τ (nI g8) k = (-5) := (by first | (simp [rcGo, *]; done) | (grind [rcGo])); rw [if_neg (by rw [e9] <;> (first | done | decide)), e9]) (by have e9 : rcGo τ (nI g8) k = (-5) := (by first | (simp [rcGo, *]; done) | (grind [rcGo])); rw [e9] <;> (first | done | rfl | (rw [if_neg (by decide)] <;> (first | done | rfl)))) dX6_groupOf_103
  · refine g_aload_n (pc := 11) C dX6_groupOf_11 0 rfl ?_
    refine g_bipush (pc := 12) (v := (-5)) C dX6_groupOf_12 (by decide) ?_
    refine g_wrVI (pc := 14) (rest := []) (wr := [oC t 3 [.ref ta, .ref tb, .ref tc, .int (τ 8 0), .int (τ 8 1), .int (τ 8 2), .int (τ 8 3), .int (τ 8 4), .int (τ 8 5), .int (τ 8 6)], iC G ta 16 (fq τ), iC G tb 64 (τ 2), iC G tc 50 (fg τ)]) C (fun _ => [wX x t im it o sv tx ac rf lf] ++ (wT G t ta tb tc τ ++ ([iC G rf 8 (rfI rr (-5))]))) rfl k_X6_refuse (c_X6_refuse l G x t im it o sv tx ac rf lf rr (-5)) ml_X6_59 rfl ⟨Nat.le_of_ble_eq_true rfl, Nat.le_of_ble_eq_true rfl⟩ rfl [0, 5] [1, 2, 3, 4] [4, 0, 1, 2, 3, 5] rfl (by decide) rfl (by decide) (by decide) (by decide) (fun _ => rfl) 0 rfl rfl rfl rfl (Nat.le_of_ble_eq_true rfl) ⟨by decide, by decide⟩ dX6_groupOf_14 (fun r14 _ e14 => ?_)
    subst e14
    exact g_retIW (pc := 17) C rfl rfl () (rfl) (by have e9 : rcGo τ g k = (-5) := (by first | (simp [rcGo, *]; done) | (grind [rcGo])); rw [if_neg (by rw [e9] <;> (first | done | decide)), e9]) (by have e9 : rcGo τ g k = (-5) := (by first | (simp [rcGo, *]; done) | (grind [rcGo])); rw [e9] <;> (first | done | rfl | (rw [if_neg (by decide)] <;> (first | done | rfl)))) dX6_groupOf_17
set_option maxRecDepth 20000 in
set_option maxHeartbeats 4000000 in
theorem c_X6_bears (l : Launch) (G : gT) (x : Nat) (t : Nat) (im : Nat) (it : Int32) (o : Nat) (sv : Nat) (tx : Nat) (ac : Nat) (rf : Nat) (lf : Int32) (ta : Nat) (tb : Nat) (tc : Nat) (τ : tT) (q : Int32) (p : Int32) (n : Int32) (rr : Nat → Int32) (hT : TI τ) : WI l yX6_bears cX6_bears 5 (some .int) 10 0 0 G [.ref x, .int q, .int p, .int n] ([wX x t im it o sv tx ac rf lf] ++ (wT G t ta tb tc τ ++ ([iC G rf 8 rr]))) (S := Unit) (fun r _ => r = if rcBe τ q p n = 0 then τ 2 (nx q * 8 + nx p) else -10000 + (rcBe τ q p n)) (fun _ => [wX x t im it o sv tx ac rf lf] ++ (wT G t ta tb tc (if rcBe τ q p n = 0 then aBe τ (nx q) (nx p) n else τ) ++ ([iC G rf 8 (rfI rr (rcBe τ q p n))]))) := by
  have hg10 := hT.g10
  have hq8 := hT.q8
  intro sz9
  refine start_W (by decide) (Nat.le_of_ble_eq_true rfl) (fun p9 e9 s9 m9 a9 b9 t9 c9 C => ?_)
  refine g_lv (lv' := [(0, .ref x), (1, .int q), (2, .int p), (3, .int n)]) rfl ?_
  refine g_aload_n (pc := 0) C dX6_bears_0 0 rfl ?_
  refine g_get (pc := 1) (T := TX6) (N := 9) (v := .ref t) C ib_X6 0 rfl rfl 0 (by decide) mf_X6_10 rfl rfl rfl dX6_bears_1 ?_
  refine g_iload_n (pc := 4) C dX6_bears_4 1 rfl ?_
  refine g_rdVI (pc := 5) (val := bI (0 ≤ q ∧ q ≤ nI (tQ τ) - 1)) (rest := []) C k_X3_hasQuestion (c_X3_hasQuestion l G t ta tb tc τ q (by first | assumption | omega)) ml_X6_93 rfl ⟨Nat.le_of_ble_eq_true rfl, Nat.le_of_ble_eq_true rfl⟩ rfl [1, 2, 3, 4] rfl 1 rfl rfl rfl rfl (Nat.le_of_ble_eq_true rfl) ⟨by decide, by decide⟩ dX6_bears_5 ?_
  refine g_ifb_eq (pc := 8) (tgt := 22) C dX6_bears_8 (by decide) (fun h8 => ?_) (fun h8 => ?_)
  · refine g_aload_n (pc := 22) C dX6_bears_22 0 rfl ?_
    refine g_iconst (pc := 23) (v := (-1)) C dX6_bears_23 (by decide) ?_
    refine g_wrVI (pc := 24) (rest := []) (wr := [oC t 3 [.ref ta, .ref tb, .ref tc, .int (τ 8 0), .int (τ 8 1), .int (τ 8 2), .int (τ 8 3), .int (τ 8 4), .int (τ 8 5), .int (τ 8 6)], iC G ta 16 (fq τ), iC G tb 64 (τ 2), iC G tc 50 (fg τ)]) C (fun _ => [wX x t im it o sv tx ac rf lf] ++ (wT G t ta tb tc τ ++ ([iC G rf 8 (rfI rr (-1))]))) rfl k_X6_refuseFarBelow (c_X6_refuseFarBelow l G x t im it o sv tx ac rf lf rr (-1)) ml_X6_134 rfl ⟨Nat.le_of_ble_eq_true rfl, Nat.le_of_ble_eq_true rfl⟩ rfl [0, 5] [1, 2, 3, 4] [4, 0, 1, 2, 3, 5] rfl (by decide) rfl (by decide) (by decide) (by decide) (fun _ => rfl) 0 rfl rfl rfl rfl (Nat.le_of_ble_eq_true rfl) ⟨by decide, by decide⟩ dX6_bears_24 (fun r24 _ e24 => ?_)
    subst e24
    exact g_retIW (pc := 27) C rfl rfl () (rfl) (by have e9 : rcBe τ q p n = (-1) := (by first | (simp [rcBe, *]; done) | (grind [rcBe])); rw [if_neg (by rw [e9] <;> (first | done | decide)), e9]) (by have e9 : rcBe τ q p n = (-1) := (by first | (simp [rcBe, *]; done) | (grind [rcBe])); rw [e9] <;> (first | done | rfl | (rw [if_neg (by decide)] <;> (first | done | rfl)))) dX6_bears_27
  · obtain ⟨q8, hq8, rfl⟩ := isQ_nI hT h8
    have eq8 : nx (nI q8) = q8 := nx_nI (by omega)
    refine g_aload_n (pc := 11) C dX6_bears_11 0 rfl ?_
    refine g_get (pc := 12) (T := TX6) (N := 9) (v := .ref t) C ib_X6 0 rfl rfl 0 (by decide) mf_X6_10 rfl rfl rfl dX6_bears_12 ?_
    refine g_iload_n (pc := 15) C dX6_bears_15 2 rfl ?_
    refine g_rdVI (pc := 16) (val := bI (0 ≤ p ∧ p ≤ nI (tQ τ) - 1)) (rest := []) C k_X3_hasQuestion (c_X3_hasQuestion l G t ta tb tc τ p (by first | assumption | omega)) ml_X6_93 rfl ⟨Nat.le_of_ble_eq_true rfl, Nat.le_of_ble_eq_true rfl⟩ rfl [1, 2, 3, 4] rfl 1 rfl rfl rfl rfl (Nat.le_of_ble_eq_true rfl) ⟨by decide, by decide⟩ dX6_bears_16 ?_
    refine g_ifb_ne (pc := 19) (tgt := 28) C dX6_bears_19 (by decide) (fun h19 => ?_) (fun h19 => ?_)
    · obtain ⟨p8, hp8, rfl⟩ := isQ_nI hT h19
      have ep8 : nx (nI p8) = p8 := nx_nI (by omega)
      refine g_iload_n (pc := 28) C dX6_bears_28 1 rfl ?_
      refine g_iload_n (pc := 29) C dX6_bears_29 2 rfl ?_
      refine g_icmp_eq (pc := 30) (tgt := 44) C dX6_bears_30 (by decide) (fun h30 => ?_) (fun h30 => ?_)
      · refine g_aload_n (pc := 44) C dX6_bears_44 0 rfl ?_
        refine g_bipush (pc := 45) (v := (-6)) C dX6_bears_45 (by decide) ?_
        refine g_wrVI (pc := 47) (rest := []) (wr := [oC t 3 [.ref ta, .ref tb, .ref tc, .int (τ 8 0), .int (τ 8 1), .int (τ 8 2), .int (τ 8 3), .int (τ 8 4), .int (τ 8 5), .int (τ 8 6)], iC G ta 16 (fq τ), iC G tb 64 (τ 2), iC G tc 50 (fg τ)]) C (fun _ => [wX x t im it o sv tx ac rf lf] ++ (wT G t ta tb tc τ ++ ([iC G rf 8 (rfI rr (-6))]))) rfl k_X6_refuseFarBelow (c_X6_refuseFarBelow l G x t im it o sv tx ac rf lf rr (-6)) ml_X6_134 rfl ⟨Nat.le_of_ble_eq_true rfl, Nat.le_of_ble_eq_true rfl⟩ rfl [0, 5] [1, 2, 3, 4] [4, 0, 1, 2, 3, 5] rfl (by decide) rfl (by decide) (by decide) (by decide) (fun _ => rfl) 0 rfl rfl rfl rfl (Nat.le_of_ble_eq_true rfl) ⟨by decide, by decide⟩ dX6_bears_47 (fun r47 _ e47 => ?_)
        subst e47
        exact g_retIW (pc := 50) C rfl rfl () (rfl) (by have e9 : rcBe τ (nI q8) (nI p8) n = (-6) := (by first | (simp [rcBe, *]; done) | (grind [rcBe])); rw [if_neg (by rw [e9] <;> (first | done | decide)), e9]) (by have e9 : rcBe τ (nI q8) (nI p8) n = (-6) := (by first | (simp [rcBe, *]; done) | (grind [rcBe])); rw [e9] <;> (first | done | rfl | (rw [if_neg (by decide)] <;> (first | done | rfl)))) dX6_bears_50
      · refine g_iload_n (pc := 33) C dX6_bears_33 3 rfl ?_
        refine g_bipush (pc := 34) (v := (-9)) C dX6_bears_34 (by decide) ?_
        refine g_bipush (pc := 36) (v := 9) C dX6_bears_36 (by decide) ?_
        refine g_rdSI (pc := 38) (val := bI ((-9) ≤ n ∧ n ≤ 9)) (rest := []) C k_X6_isWithin (c_X6_isWithin l G n (-9) 9) ml_X6_63 rfl ⟨Nat.le_of_ble_eq_true rfl, Nat.le_of_ble_eq_true rfl⟩ rfl [] rfl rfl (Nat.le_of_ble_eq_true rfl) ⟨by decide, by decide⟩ dX6_bears_38 ?_
        refine g_ifb_ne (pc := 41) (tgt := 51) C dX6_bears_41 (by decide) (fun h41 => ?_) (fun h41 => ?_)
        · refine g_aload_n (pc := 51) C dX6_bears_51 0 rfl ?_
          refine g_get (pc := 52) (T := TX6) (N := 9) (v := .ref t) C ib_X6 0 rfl rfl 0 (by decide) mf_X6_10 rfl rfl rfl dX6_bears_52 ?_
          refine g_iload_n (pc := 55) C dX6_bears_55 1 rfl ?_
          refine g_iload_n (pc := 56) C dX6_bears_56 2 rfl ?_
          refine g_rdVI (pc := 57) (val := τ 2 (q8 * 8 + p8)) (rest := []) C k_X3_bearingOf (c_X3_bearingOf l G t ta tb tc τ q8 p8 (by first | assumption | omega) (by first | assumption | omega)) ml_X6_164 rfl ⟨Nat.le_of_ble_eq_true rfl, Nat.le_of_ble_eq_true rfl⟩ rfl [1, 2, 3, 4] rfl 1 rfl rfl rfl rfl (Nat.le_of_ble_eq_true rfl) ⟨by decide, by decide⟩ dX6_bears_57 ?_
          refine g_istore (pc := 60) (lv' := [(4, .int (τ 2 (q8 * 8 + p8))), (0, .ref x), (1, .int (nI q8)), (2, .int (nI p8)), (3, .int n)]) C dX6_bears_60 (by decide) rfl ?_
          refine g_aload_n (pc := 62) C dX6_bears_62 1 rfl ?_
          refine g_get (pc := 63) (T := TX6) (N := 9) (v := .ref t) C ib_X6 0 rfl rfl 0 (by decide) mf_X6_10 rfl rfl rfl dX6_bears_63 ?_
          refine g_iload_n (pc := 66) C dX6_bears_66 2 rfl ?_
          refine g_iload_n (pc := 67) C dX6_bears_67 3 rfl ?_
          refine g_iload_n (pc := 68) C dX6_bears_68 4 rfl ?_
          refine g_wrVV (pc := 69) (rest := []) (wr := [wX x t im it o sv tx ac rf lf, iC G rf 8 rr]) C (fun _ => [wX x t im it o sv tx ac rf lf] ++ (wT G t ta tb tc (aBe τ q8 p8 n) ++ ([iC G rf 8 rr]))) rfl k_X3_putBearing (c_X3_putBearing l G t ta tb tc τ q8 p8 n (by first | assumption | omega) (by first | assumption | omega)) ml_X6_167 rfl ⟨Nat.le_of_ble_eq_true rfl, Nat.le_of_ble_eq_true rfl⟩ rfl [1, 2, 3, 4] [0, 5] [0, 2, 3, 4, 5, 1] rfl (by decide) rfl (by decide) (by decide) (by decide) (fun _ => rfl) 1 rfl rfl rfl rfl (Nat.le_of_ble_eq_true rfl) ⟨by decide, by decide⟩ dX6_bears_69 (fun _ _ => ?_)
          refine g_iload (pc := 72) C dX6_bears_72 0 rfl ?_
          exact g_retIW (pc := 74) C rfl rfl () (rfl) (by have e9 : rcBe τ (nI q8) (nI p8) n = 0 := (by first | (simp [rcBe, *]; done) | (grind [rcBe])); rw [if_pos e9] <;> (rw [eq8, ep8])) (by have e9 : rcBe τ (nI q8) (nI p8) n = 0 := (by first | (simp [rcBe, *]; done) | (grind [rcBe])); rw [e9, rfI_0] <;> (rw [eq8, ep8] <;> rfl)) dX6_bears_74
        · refine g_aload_n (pc := 44) C dX6_bears_44 0 rfl ?_
          refine g_bipush (pc := 45) (v := (-6)) C dX6_bears_45 (by decide) ?_
          refine g_wrVI (pc := 47) (rest := []) (wr := [oC t 3 [.ref ta, .ref tb, .ref tc, .int (τ 8 0), .int (τ 8 1), .int (τ 8 2), .int (τ 8 3), .int (τ 8 4), .int (τ 8 5), .int (τ 8 6)], iC G ta 16 (fq τ), iC G tb 64 (τ 2), iC G tc 50 (fg τ)]) C (fun _ => [wX x t im it o sv tx ac rf lf] ++ (wT G t ta tb tc τ ++ ([iC G rf 8 (rfI rr (-6))]))) rfl k_X6_refuseFarBelow (c_X6_refuseFarBelow l G x t im it o sv tx ac rf lf rr (-6)) ml_X6_134 rfl ⟨Nat.le_of_ble_eq_true rfl, Nat.le_of_ble_eq_true rfl⟩ rfl [0, 5] [1, 2, 3, 4] [4, 0, 1, 2, 3, 5] rfl (by decide) rfl (by decide) (by decide) (by decide) (fun _ => rfl) 0 rfl rfl rfl rfl (Nat.le_of_ble_eq_true rfl) ⟨by decide, by decide⟩ dX6_bears_47 (fun r47 _ e47 => ?_)
          subst e47
          exact g_retIW (pc := 50) C rfl rfl () (rfl) (by have e9 : rcBe τ (nI q8) (nI p8) n = (-6) := (by first | (simp [rcBe, *]; done) | (grind [rcBe])); rw [if_neg (by rw [e9] <;> (first | done | decide)), e9]) (by have e9 : rcBe τ (nI q8) (nI p8) n = (-6) := (by first | (simp [rcBe, *]; done) | (grind [rcBe])); rw [e9] <;> (first | done | rfl | (rw [if_neg (by decide)] <;> (first | done | rfl)))) dX6_bears_50
    · refine g_aload_n (pc := 22) C dX6_bears_22 0 rfl ?_
      refine g_iconst (pc := 23) (v := (-1)) C dX6_bears_23 (by decide) ?_
      refine g_wrVI (pc := 24) (rest := []) (wr := [oC t 3 [.ref ta, .ref tb, .ref tc, .int (τ 8 0), .int (τ 8 1), .int (τ 8 2), .int (τ 8 3), .int (τ 8 4), .int (τ 8 5), .int (τ 8 6)], iC G ta 16 (fq τ), iC G tb 64 (τ 2), iC G tc 50 (fg τ)]) C (fun _ => [wX x t im it o sv tx ac rf lf] ++ (wT G t ta tb tc τ ++ ([iC G rf 8 (rfI rr (-1))]))) rfl k_X6_refuseFarBelow (c_X6_refuseFarBelow l G x t im it o sv tx ac rf lf rr (-1)) ml_X6_134 rfl ⟨Nat.le_of_ble_eq_true rfl, Nat.le_of_ble_eq_true rfl⟩ rfl [0, 5] [1, 2, 3, 4] [4, 0, 1, 2, 3, 5] rfl (by decide) rfl (by decide) (by decide) (by decide) (fun _ => rfl) 0 rfl rfl rfl rfl (Nat.le_of_ble_eq_true rfl) ⟨by decide, by decide⟩ dX6_bears_24 (fun r24 _ e24 => ?_)
      subst e24
      exact g_retIW (pc := 27) C rfl rfl () (rfl) (by have e9 : rcBe τ (nI q8) p n = (-1) := (by first | (simp [rcBe, *]; done) | (grind [rcBe])); rw [if_neg (by rw [e9] <;> (first | done | decide)), e9]) (by have e9 : rcBe τ (nI q8) p n = (-1) := (by first | (simp [rcBe, *]; done) | (grind [rcBe])); rw [e9] <;> (first | done | rfl | (rw [if_neg (by decide)] <;> (first | done | rfl)))) dX6_bears_27
set_option maxRecDepth 20000 in
set_option maxHeartbeats 4000000 in
theorem c_X6_ask (l : Launch) (G : gT) (x : Nat) (t : Nat) (im : Nat) (it : Int32) (o : Nat) (sv : Nat) (tx : Nat) (ac : Nat) (rf : Nat) (lf : Int32) (ta : Nat) (tb : Nat) (tc : Nat) (τ : tT) (k : Int32) (v : Int32) (rr : Nat → Int32) (hT : TI τ) : WI l yX6_ask cX6_ask 4 (some .int) 10 0 0 G [.ref x, .int k, .int v] ([wX x t im it o sv tx ac rf lf] ++ (wT G t ta tb tc τ ++ ([iC G rf 8 rr]))) (S := Unit) (fun r _ => r = if rcAsk k v = 0 then (if k = 0 then τ 8 2 else τ 8 3) else (rcAsk k v)) (fun _ => [wX x t im it o sv tx ac rf lf] ++ (wT G t ta tb tc (if rcAsk k v = 0 then (if k = 0 then aSc τ 2 v else aSc τ 3 v) else τ) ++ ([iC G rf 8 (rfI rr (rcAsk k v))]))) := by
  have hg10 := hT.g10
  have hq8 := hT.q8
  intro sz9
  refine start_W (by decide) (Nat.le_of_ble_eq_true rfl) (fun p9 e9 s9 m9 a9 b9 t9 c9 C => ?_)
  refine g_lv (lv' := [(0, .ref x), (1, .int k), (2, .int v)]) rfl ?_
  refine g_iload_n (pc := 0) C dX6_ask_0 1 rfl ?_
  refine g_if_ne (pc := 1) (tgt := 33) C dX6_ask_1 (by decide) (fun h1 => ?_) (fun h1 => ?_)
  · refine g_iload_n (pc := 33) C dX6_ask_33 1 rfl ?_
    refine g_iconst (pc := 34) (v := 1) C dX6_ask_34 (by decide) ?_
    refine g_icmp_ne (pc := 35) (tgt := 67) C dX6_ask_35 (by decide) (fun h35 => ?_) (fun h35 => ?_)
    · refine g_aload_n (pc := 67) C dX6_ask_67 0 rfl ?_
      refine g_bipush (pc := 68) (v := (-6)) C dX6_ask_68 (by decide) ?_
      refine g_wrVI (pc := 70) (rest := []) (wr := [oC t 3 [.ref ta, .ref tb, .ref tc, .int (τ 8 0), .int (τ 8 1), .int (τ 8 2), .int (τ 8 3), .int (τ 8 4), .int (τ 8 5), .int (τ 8 6)], iC G ta 16 (fq τ), iC G tb 64 (τ 2), iC G tc 50 (fg τ)]) C (fun _ => [wX x t im it o sv tx ac rf lf] ++ (wT G t ta tb tc τ ++ ([iC G rf 8 (rfI rr (-6))]))) rfl k_X6_refuse (c_X6_refuse l G x t im it o sv tx ac rf lf rr (-6)) ml_X6_59 rfl ⟨Nat.le_of_ble_eq_true rfl, Nat.le_of_ble_eq_true rfl⟩ rfl [0, 5] [1, 2, 3, 4] [4, 0, 1, 2, 3, 5] rfl (by decide) rfl (by decide) (by decide) (by decide) (fun _ => rfl) 0 rfl rfl rfl rfl (Nat.le_of_ble_eq_true rfl) ⟨by decide, by decide⟩ dX6_ask_70 (fun r70 _ e70 => ?_)
      subst e70
      refine g_istore_n (pc := 73) (lv' := [(3, .int (-6)), (0, .ref x), (1, .int k), (2, .int v)]) C dX6_ask_73 rfl (by decide) rfl ?_
      refine g_iload_n (pc := 74) C dX6_ask_74 0 rfl ?_
      exact g_retIW (pc := 75) C rfl rfl () (rfl) (by have e9 : rcAsk k v = (-6) := (by first | (simp [rcAsk, *]; done) | (grind [rcAsk])); rw [if_neg (by rw [e9] <;> (first | done | decide)), e9]) (by have e9 : rcAsk k v = (-6) := (by first | (simp [rcAsk, *]; done) | (grind [rcAsk])); rw [e9] <;> (first | done | rfl | (rw [if_neg (by decide)] <;> (first | done | rfl)))) dX6_ask_75
    · refine g_iload_n (pc := 38) C dX6_ask_38 2 rfl ?_
      refine g_iconst (pc := 39) (v := 0) C dX6_ask_39 (by decide) ?_
      refine g_bipush (pc := 40) (v := 7) C dX6_ask_40 (by decide) ?_
      refine g_rdSI (pc := 42) (val := bI (0 ≤ v ∧ v ≤ 7)) (rest := []) C k_X6_isWithin (c_X6_isWithin l G v 0 7) ml_X6_63 rfl ⟨Nat.le_of_ble_eq_true rfl, Nat.le_of_ble_eq_true rfl⟩ rfl [] rfl rfl (Nat.le_of_ble_eq_true rfl) ⟨by decide, by decide⟩ dX6_ask_42 ?_
      refine g_ifb_eq (pc := 45) (tgt := 67) C dX6_ask_45 (by decide) (fun h45 => ?_) (fun h45 => ?_)
      · refine g_aload_n (pc := 67) C dX6_ask_67 0 rfl ?_
        refine g_bipush (pc := 68) (v := (-6)) C dX6_ask_68 (by decide) ?_
        refine g_wrVI (pc := 70) (rest := []) (wr := [oC t 3 [.ref ta, .ref tb, .ref tc, .int (τ 8 0), .int (τ 8 1), .int (τ 8 2), .int (τ 8 3), .int (τ 8 4), .int (τ 8 5), .int (τ 8 6)], iC G ta 16 (fq τ), iC G tb 64 (τ 2), iC G tc 50 (fg τ)]) C (fun _ => [wX x t im it o sv tx ac rf lf] ++ (wT G t ta tb tc τ ++ ([iC G rf 8 (rfI rr (-6))]))) rfl k_X6_refuse (c_X6_refuse l G x t im it o sv tx ac rf lf rr (-6)) ml_X6_59 rfl ⟨Nat.le_of_ble_eq_true rfl, Nat.le_of_ble_eq_true rfl⟩ rfl [0, 5] [1, 2, 3, 4] [4, 0, 1, 2, 3, 5] rfl (by decide) rfl (by decide) (by decide) (by decide) (fun _ => rfl) 0 rfl rfl rfl rfl (Nat.le_of_ble_eq_true rfl) ⟨by decide, by decide⟩ dX6_ask_70 (fun r70 _ e70 => ?_)
        subst e70
        refine g_istore_n (pc := 73) (lv' := [(3, .int (-6)), (0, .ref x), (1, .int k), (2, .int v)]) C dX6_ask_73 rfl (by decide) rfl ?_
        refine g_iload_n (pc := 74) C dX6_ask_74 0 rfl ?_
        exact g_retIW (pc := 75) C rfl rfl () (rfl) (by have e9 : rcAsk k v = (-6) := (by first | (simp [rcAsk, *]; done) | (grind [rcAsk])); rw [if_neg (by rw [e9] <;> (first | done | decide)), e9]) (by have e9 : rcAsk k v = (-6) := (by first | (simp [rcAsk, *]; done) | (grind [rcAsk])); rw [e9] <;> (first | done | rfl | (rw [if_neg (by decide)] <;> (first | done | rfl)))) dX6_ask_75
      · obtain ⟨v8, hv8, rfl⟩ := in8_nI h45
        have ev8 : nx (nI v8) = v8 := nx_nI (by omega)
        refine g_aload_n (pc := 48) C dX6_ask_48 0 rfl ?_
        refine g_get (pc := 49) (T := TX6) (N := 9) (v := .ref t) C ib_X6 0 rfl rfl 0 (by decide) mf_X6_10 rfl rfl rfl dX6_ask_49 ?_
        refine g_get (pc := 52) (T := TX3) (N := 10) (v := .int (τ 8 3)) C ib_X3 1 rfl rfl 6 (by decide) mf_X6_173 rfl rfl rfl dX6_ask_52 ?_
        refine g_istore_n (pc := 55) (lv' := [(3, .int (τ 8 3)), (0, .ref x), (1, .int k), (2, .int (nI v8))]) C dX6_ask_55 rfl (by decide) rfl ?_
        refine g_aload_n (pc := 56) C dX6_ask_56 1 rfl ?_
        refine g_get (pc := 57) (T := TX6) (N := 9) (v := .ref t) C ib_X6 0 rfl rfl 0 (by decide) mf_X6_10 rfl rfl rfl dX6_ask_57 ?_
        refine g_iload_n (pc := 60) C dX6_ask_60 3 rfl ?_
        refine g_put (pc := 61) (T := TX3) (N := 10) (ty := .int) (ws' := [wX x t im it o sv tx ac rf lf, oC t 3 [.ref ta, .ref tb, .ref tc, .int (τ 8 0), .int (τ 8 1), .int (τ 8 2), .int (nI v8), .int (τ 8 4), .int (τ 8 5), .int (τ 8 6)], iC G ta 16 (fq τ), iC G tb 64 (τ 2), iC G tc 50 (fg τ), iC G rf 8 rr]) C rfl ib_X3 tyX3 tyX3_ok nmX3 1 rfl rfl 6 (by decide) mf_X6_173 rfl rfl rfl (by decide +kernel) rfl rfl (Nat.le_of_ble_eq_true rfl) dX6_ask_61 rfl ?_
        refine g_goto (pc := 64) (tgt := 74) C dX6_ask_64 (by decide) ?_
        refine g_iload_n (pc := 74) C dX6_ask_74 0 rfl ?_
        exact g_retIW (pc := 75) C rfl rfl () (rfl) (by have e9 : rcAsk k (nI v8) = 0 := (by first | (simp [rcAsk, *]; done) | (grind [rcAsk])); rw [if_pos e9] <;> (first | (exact absurd (h1.symm.trans h35) (by decide)) | (simp [*]; done))) (by have e9 : rcAsk k (nI v8) = 0 := (by first | (simp [rcAsk, *]; done) | (grind [rcAsk])); rw [e9, rfI_0] <;> (first | (exact absurd (h1.symm.trans h35) (by decide)) | (simp [wT, aSc, fq_upn, fg_upn, up2_n, up2, *]; done))) dX6_ask_75
  · refine g_iload_n (pc := 4) C dX6_ask_4 2 rfl ?_
    refine g_iconst (pc := 5) (v := 0) C dX6_ask_5 (by decide) ?_
    refine g_bipush (pc := 6) (v := 99) C dX6_ask_6 (by decide) ?_
    refine g_rdSI (pc := 8) (val := bI (0 ≤ v ∧ v ≤ 99)) (rest := []) C k_X6_isWithin (c_X6_isWithin l G v 0 99) ml_X6_63 rfl ⟨Nat.le_of_ble_eq_true rfl, Nat.le_of_ble_eq_true rfl⟩ rfl [] rfl rfl (Nat.le_of_ble_eq_true rfl) ⟨by decide, by decide⟩ dX6_ask_8 ?_
    refine g_ifb_eq (pc := 11) (tgt := 33) C dX6_ask_11 (by decide) (fun h11 => ?_) (fun h11 => ?_)
    · refine g_iload_n (pc := 33) C dX6_ask_33 1 rfl ?_
      refine g_iconst (pc := 34) (v := 1) C dX6_ask_34 (by decide) ?_
      refine g_icmp_ne (pc := 35) (tgt := 67) C dX6_ask_35 (by decide) (fun h35 => ?_) (fun h35 => ?_)
      · refine g_aload_n (pc := 67) C dX6_ask_67 0 rfl ?_
        refine g_bipush (pc := 68) (v := (-6)) C dX6_ask_68 (by decide) ?_
        refine g_wrVI (pc := 70) (rest := []) (wr := [oC t 3 [.ref ta, .ref tb, .ref tc, .int (τ 8 0), .int (τ 8 1), .int (τ 8 2), .int (τ 8 3), .int (τ 8 4), .int (τ 8 5), .int (τ 8 6)], iC G ta 16 (fq τ), iC G tb 64 (τ 2), iC G tc 50 (fg τ)]) C (fun _ => [wX x t im it o sv tx ac rf lf] ++ (wT G t ta tb tc τ ++ ([iC G rf 8 (rfI rr (-6))]))) rfl k_X6_refuse (c_X6_refuse l G x t im it o sv tx ac rf lf rr (-6)) ml_X6_59 rfl ⟨Nat.le_of_ble_eq_true rfl, Nat.le_of_ble_eq_true rfl⟩ rfl [0, 5] [1, 2, 3, 4] [4, 0, 1, 2, 3, 5] rfl (by decide) rfl (by decide) (by decide) (by decide) (fun _ => rfl) 0 rfl rfl rfl rfl (Nat.le_of_ble_eq_true rfl) ⟨by decide, by decide⟩ dX6_ask_70 (fun r70 _ e70 => ?_)
        subst e70
        refine g_istore_n (pc := 73) (lv' := [(3, .int (-6)), (0, .ref x), (1, .int k), (2, .int v)]) C dX6_ask_73 rfl (by decide) rfl ?_
        refine g_iload_n (pc := 74) C dX6_ask_74 0 rfl ?_
        exact g_retIW (pc := 75) C rfl rfl () (rfl) (by have e9 : rcAsk k v = (-6) := (by first | (simp [rcAsk, *]; done) | (grind [rcAsk])); rw [if_neg (by rw [e9] <;> (first | done | decide)), e9]) (by have e9 : rcAsk k v = (-6) := (by first | (simp [rcAsk, *]; done) | (grind [rcAsk])); rw [e9] <;> (first | done | rfl | (rw [if_neg (by decide)] <;> (first | done | rfl)))) dX6_ask_75
      · refine g_iload_n (pc := 38) C dX6_ask_38 2 rfl ?_
        refine g_iconst (pc := 39) (v := 0) C dX6_ask_39 (by decide) ?_
        refine g_bipush (pc := 40) (v := 7) C dX6_ask_40 (by decide) ?_
        refine g_rdSI (pc := 42) (val := bI (0 ≤ v ∧ v ≤ 7)) (rest := []) C k_X6_isWithin (c_X6_isWithin l G v 0 7) ml_X6_63 rfl ⟨Nat.le_of_ble_eq_true rfl, Nat.le_of_ble_eq_true rfl⟩ rfl [] rfl rfl (Nat.le_of_ble_eq_true rfl) ⟨by decide, by decide⟩ dX6_ask_42 ?_
        refine g_ifb_eq (pc := 45) (tgt := 67) C dX6_ask_45 (by decide) (fun h45 => ?_) (fun h45 => ?_)
        · refine g_aload_n (pc := 67) C dX6_ask_67 0 rfl ?_
          refine g_bipush (pc := 68) (v := (-6)) C dX6_ask_68 (by decide) ?_
          refine g_wrVI (pc := 70) (rest := []) (wr := [oC t 3 [.ref ta, .ref tb, .ref tc, .int (τ 8 0), .int (τ 8 1), .int (τ 8 2), .int (τ 8 3), .int (τ 8 4), .int (τ 8 5), .int (τ 8 6)], iC G ta 16 (fq τ), iC G tb 64 (τ 2), iC G tc 50 (fg τ)]) C (fun _ => [wX x t im it o sv tx ac rf lf] ++ (wT G t ta tb tc τ ++ ([iC G rf 8 (rfI rr (-6))]))) rfl k_X6_refuse (c_X6_refuse l G x t im it o sv tx ac rf lf rr (-6)) ml_X6_59 rfl ⟨Nat.le_of_ble_eq_true rfl, Nat.le_of_ble_eq_true rfl⟩ rfl [0, 5] [1, 2, 3, 4] [4, 0, 1, 2, 3, 5] rfl (by decide) rfl (by decide) (by decide) (by decide) (fun _ => rfl) 0 rfl rfl rfl rfl (Nat.le_of_ble_eq_true rfl) ⟨by decide, by decide⟩ dX6_ask_70 (fun r70 _ e70 => ?_)
          subst e70
          refine g_istore_n (pc := 73) (lv' := [(3, .int (-6)), (0, .ref x), (1, .int k), (2, .int v)]) C dX6_ask_73 rfl (by decide) rfl ?_
          refine g_iload_n (pc := 74) C dX6_ask_74 0 rfl ?_
          exact g_retIW (pc := 75) C rfl rfl () (rfl) (by have e9 : rcAsk k v = (-6) := (by first | (simp [rcAsk, *]; done) | (grind [rcAsk])); rw [if_neg (by rw [e9] <;> (first | done | decide)), e9]) (by have e9 : rcAsk k v = (-6) := (by first | (simp [rcAsk, *]; done) | (grind [rcAsk])); rw [e9] <;> (first | done | rfl | (rw [if_neg (by decide)] <;> (first | done | rfl)))) dX6_ask_75
        · obtain ⟨v8, hv8, rfl⟩ := in8_nI h45
          have ev8 : nx (nI v8) = v8 := nx_nI (by omega)
          refine g_aload_n (pc := 48) C dX6_ask_48 0 rfl ?_
          refine g_get (pc := 49) (T := TX6) (N := 9) (v := .ref t) C ib_X6 0 rfl rfl 0 (by decide) mf_X6_10 rfl rfl rfl dX6_ask_49 ?_
          refine g_get (pc := 52) (T := TX3) (N := 10) (v := .int (τ 8 3)) C ib_X3 1 rfl rfl 6 (by decide) mf_X6_173 rfl rfl rfl dX6_ask_52 ?_
          refine g_istore_n (pc := 55) (lv' := [(3, .int (τ 8 3)), (0, .ref x), (1, .int k), (2, .int (nI v8))]) C dX6_ask_55 rfl (by decide) rfl ?_
          refine g_aload_n (pc := 56) C dX6_ask_56 1 rfl ?_
          refine g_get (pc := 57) (T := TX6) (N := 9) (v := .ref t) C ib_X6 0 rfl rfl 0 (by decide) mf_X6_10 rfl rfl rfl dX6_ask_57 ?_
          refine g_iload_n (pc := 60) C dX6_ask_60 3 rfl ?_
          refine g_put (pc := 61) (T := TX3) (N := 10) (ty := .int) (ws' := [wX x t im it o sv tx ac rf lf, oC t 3 [.ref ta, .ref tb, .ref tc, .int (τ 8 0), .int (τ 8 1), .int (τ 8 2), .int (nI v8), .int (τ 8 4), .int (τ 8 5), .int (τ 8 6)], iC G ta 16 (fq τ), iC G tb 64 (τ 2), iC G tc 50 (fg τ), iC G rf 8 rr]) C rfl ib_X3 tyX3 tyX3_ok nmX3 1 rfl rfl 6 (by decide) mf_X6_173 rfl rfl rfl (by decide +kernel) rfl rfl (Nat.le_of_ble_eq_true rfl) dX6_ask_61 rfl ?_
          refine g_goto (pc := 64) (tgt := 74) C dX6_ask_64 (by decide) ?_
          refine g_iload_n (pc := 74) C dX6_ask_74 0 rfl ?_
          exact g_retIW (pc := 75) C rfl rfl () (rfl) (by have e9 : rcAsk k (nI v8) = 0 := (by first | (simp [rcAsk, *]; done) | (grind [rcAsk])); rw [if_pos e9] <;> (first | (exact absurd (h1.symm.trans h35) (by decide)) | (simp [*]; done))) (by have e9 : rcAsk k (nI v8) = 0 := (by first | (simp [rcAsk, *]; done) | (grind [rcAsk])); rw [e9, rfI_0] <;> (first | (exact absurd (h1.symm.trans h35) (by decide)) | (simp [wT, aSc, fq_upn, fg_upn, up2_n, up2, *]; done))) dX6_ask_75
    · refine g_aload_n (pc := 14) C dX6_ask_14 0 rfl ?_
      refine g_get (pc := 15) (T := TX6) (N := 9) (v := .ref t) C ib_X6 0 rfl rfl 0 (by decide) mf_X6_10 rfl rfl rfl dX6_ask_15 ?_
      refine g_get (pc := 18) (T := TX3) (N := 10) (v := .int (τ 8 2)) C ib_X3 1 rfl rfl 5 (by decide) mf_X6_170 rfl rfl rfl dX6_ask_18 ?_
      refine g_istore_n (pc := 21) (lv' := [(3, .int (τ 8 2)), (0, .ref x), (1, .int k), (2, .int v)]) C dX6_ask_21 rfl (by decide) rfl ?_
      refine g_aload_n (pc := 22) C dX6_ask_22 1 rfl ?_
      refine g_get (pc := 23) (T := TX6) (N := 9) (v := .ref t) C ib_X6 0 rfl rfl 0 (by decide) mf_X6_10 rfl rfl rfl dX6_ask_23 ?_
      refine g_iload_n (pc := 26) C dX6_ask_26 3 rfl ?_
      refine g_put (pc := 27) (T := TX3) (N := 10) (ty := .int) (ws' := [wX x t im it o sv tx ac rf lf, oC t 3 [.ref ta, .ref tb, .ref tc, .int (τ 8 0), .int (τ 8 1), .int v, .int (τ 8 3), .int (τ 8 4), .int (τ 8 5), .int (τ 8 6)], iC G ta 16 (fq τ), iC G tb 64 (τ 2), iC G tc 50 (fg τ), iC G rf 8 rr]) C rfl ib_X3 tyX3 tyX3_ok nmX3 1 rfl rfl 5 (by decide) mf_X6_170 rfl rfl rfl (by decide +kernel) rfl rfl (Nat.le_of_ble_eq_true rfl) dX6_ask_27 rfl ?_
      refine g_goto (pc := 30) (tgt := 74) C dX6_ask_30 (by decide) ?_
      refine g_iload_n (pc := 74) C dX6_ask_74 0 rfl ?_
      exact g_retIW (pc := 75) C rfl rfl () (rfl) (by have e9 : rcAsk k v = 0 := (by first | (simp [rcAsk, *]; done) | (grind [rcAsk])); rw [if_pos e9] <;> (first | (exact absurd (h1.symm.trans h35) (by decide)) | (simp [*]; done))) (by have e9 : rcAsk k v = 0 := (by first | (simp [rcAsk, *]; done) | (grind [rcAsk])); rw [e9, rfI_0] <;> (first | (exact absurd (h1.symm.trans h35) (by decide)) | (simp [wT, aSc, fq_upn, fg_upn, up2_n, up2, *]; done))) dX6_ask_75
set_option maxRecDepth 20000 in
set_option maxHeartbeats 4000000 in
theorem c_X6_fault (l : Launch) (G : gT) (x : Nat) (t : Nat) (im : Nat) (it : Int32) (o : Nat) (sv : Nat) (tx : Nat) (ac : Nat) (rf : Nat) (lf : Int32) : RI l yX6_fault cX6_fault 1 (some .int) 1 G [.ref x] ([wX x t im it o sv tx ac rf lf]) lf := by
  refine start_R (by decide) (Nat.le_of_ble_eq_true rfl) (fun p9 e9 s9 m9 a9 b9 t9 c9 C => ?_)
  refine g_lv (lv' := [(0, .ref x)]) rfl ?_
  refine g_aload_n (pc := 0) C dX6_fault_0 0 rfl ?_
  refine g_get (pc := 1) (T := TX6) (N := 9) (v := .int lf) C ib_X6 0 rfl rfl 8 (by decide) mf_X6_51 rfl rfl rfl dX6_fault_1 ?_
  exact g_retIR (pc := 4) C (rfl) (by rfl) dX6_fault_4
set_option maxRecDepth 20000 in
set_option maxHeartbeats 4000000 in
theorem c_X6_answers (l : Launch) (G : gT) (x : Nat) (t : Nat) (im : Nat) (it : Int32) (o : Nat) (sv : Nat) (tx : Nat) (ac : Nat) (rf : Nat) (lf : Int32) (ta : Nat) (tb : Nat) (tc : Nat) (τ : tT) (u : Int32) (k : Int32) (rr : Nat → Int32) (hT : TI τ) : WI l yX6_answers cX6_answers 3 (some .int) 10 0 0 G [.ref x, .int u, .int k] ([wX x t im it o sv tx ac rf lf] ++ (wT G t ta tb tc τ ++ ([iC G rf 8 rr]))) (S := Unit) (fun r _ => r = if rcAn u k = 0 then (if k = 0 then anB τ 0 (nx u) else lfB τ (nx u)) else (rcAn u k)) (fun _ => [wX x t im it o sv tx ac rf lf] ++ (wT G t ta tb tc τ ++ ([iC G rf 8 (rfI rr (rcAn u k))]))) := by
  have hg10 := hT.g10
  have hq8 := hT.q8
  intro sz9
  refine start_W (by decide) (Nat.le_of_ble_eq_true rfl) (fun p9 e9 s9 m9 a9 b9 t9 c9 C => ?_)
  refine g_lv (lv' := [(0, .ref x), (1, .int u), (2, .int k)]) rfl ?_
  refine g_iload_n (pc := 0) C dX6_answers_0 2 rfl ?_
  refine g_iconst (pc := 1) (v := 0) C dX6_answers_1 (by decide) ?_
  refine g_iconst (pc := 2) (v := 1) C dX6_answers_2 (by decide) ?_
  refine g_rdSI (pc := 3) (val := bI (0 ≤ k ∧ k ≤ 1)) (rest := []) C k_X6_isWithin (c_X6_isWithin l G k 0 1) ml_X6_63 rfl ⟨Nat.le_of_ble_eq_true rfl, Nat.le_of_ble_eq_true rfl⟩ rfl [] rfl rfl (Nat.le_of_ble_eq_true rfl) ⟨by decide, by decide⟩ dX6_answers_3 ?_
  refine g_ifb_ne (pc := 6) (tgt := 16) C dX6_answers_6 (by decide) (fun h6 => ?_) (fun h6 => ?_)
  · refine g_iload_n (pc := 16) C dX6_answers_16 1 rfl ?_
    refine g_iconst (pc := 17) (v := 0) C dX6_answers_17 (by decide) ?_
    refine g_bipush (pc := 18) (v := 9) C dX6_answers_18 (by decide) ?_
    refine g_rdSI (pc := 20) (val := bI (0 ≤ u ∧ u ≤ 9)) (rest := []) C k_X6_isWithin (c_X6_isWithin l G u 0 9) ml_X6_63 rfl ⟨Nat.le_of_ble_eq_true rfl, Nat.le_of_ble_eq_true rfl⟩ rfl [] rfl rfl (Nat.le_of_ble_eq_true rfl) ⟨by decide, by decide⟩ dX6_answers_20 ?_
    refine g_ifb_ne (pc := 23) (tgt := 33) C dX6_answers_23 (by decide) (fun h23 => ?_) (fun h23 => ?_)
    · obtain ⟨u8, hu8, rfl⟩ := (lt_Q (n := 10) (by decide)).mp h23
      have eu8 : nx (nI u8) = u8 := nx_nI (by omega)
      refine g_iload_n (pc := 33) C dX6_answers_33 2 rfl ?_
      refine g_if_ne (pc := 34) (tgt := 49) C dX6_answers_34 (by decide) (fun h34 => ?_) (fun h34 => ?_)
      · refine g_aload_n (pc := 49) C dX6_answers_49 0 rfl ?_
        refine g_get (pc := 50) (T := TX6) (N := 9) (v := .ref t) C ib_X6 0 rfl rfl 0 (by decide) mf_X6_10 rfl rfl rfl dX6_answers_50 ?_
        refine g_iload_n (pc := 53) C dX6_answers_53 1 rfl ?_
        refine g_rdSI (pc := 54) (val := lfB τ u8) (rest := []) C k_X5_leftBy (c_X5_leftBy l G t ta tb tc τ u8 (by first | assumption | omega) (by first | assumption | omega)) ml_X6_210 rfl ⟨Nat.le_of_ble_eq_true rfl, Nat.le_of_ble_eq_true rfl⟩ rfl [1, 2, 3, 4] rfl rfl (Nat.le_of_ble_eq_true rfl) ⟨by decide, by decide⟩ dX6_answers_54 ?_
        exact g_retIW (pc := 57) C rfl rfl () (rfl) (by have e9 : rcAn (nI u8) k = 0 := (by first | (simp [rcAn, *]; done) | (grind [rcAn])); rw [if_pos e9] <;> (simp [eu8, *])) (by have e9 : rcAn (nI u8) k = 0 := (by first | (simp [rcAn, *]; done) | (grind [rcAn])); rw [e9, rfI_0] <;> (rfl)) dX6_answers_57
      · refine g_aload_n (pc := 37) C dX6_answers_37 0 rfl ?_
        refine g_get (pc := 38) (T := TX6) (N := 9) (v := .ref t) C ib_X6 0 rfl rfl 0 (by decide) mf_X6_10 rfl rfl rfl dX6_answers_38 ?_
        refine g_iconst (pc := 41) (v := 0) C dX6_answers_41 (by decide) ?_
        refine g_iload_n (pc := 42) C dX6_answers_42 1 rfl ?_
        refine g_rdSI (pc := 43) (val := anB τ 0 u8) (rest := []) C k_X5_answersBetween (c_X5_answersBetween l G t ta tb tc τ 0 u8 (by first | assumption | omega) (by first | assumption | omega) (by first | assumption | omega)) ml_X6_204 rfl ⟨Nat.le_of_ble_eq_true rfl, Nat.le_of_ble_eq_true rfl⟩ rfl [1, 2, 3, 4] rfl rfl (Nat.le_of_ble_eq_true rfl) ⟨by decide, by decide⟩ dX6_answers_43 ?_
        refine g_goto (pc := 46) (tgt := 57) C dX6_answers_46 (by decide) ?_
        exact g_retIW (pc := 57) C rfl rfl () (rfl) (by have e9 : rcAn (nI u8) k = 0 := (by first | (simp [rcAn, *]; done) | (grind [rcAn])); rw [if_pos e9] <;> (simp [eu8, *])) (by have e9 : rcAn (nI u8) k = 0 := (by first | (simp [rcAn, *]; done) | (grind [rcAn])); rw [e9, rfI_0] <;> (rfl)) dX6_answers_57
    · refine g_aload_n (pc := 26) C dX6_answers_26 0 rfl ?_
      refine g_bipush (pc := 27) (v := (-6)) C dX6_answers_27 (by decide) ?_
      refine g_wrVI (pc := 29) (rest := []) (wr := [oC t 3 [.ref ta, .ref tb, .ref tc, .int (τ 8 0), .int (τ 8 1), .int (τ 8 2), .int (τ 8 3), .int (τ 8 4), .int (τ 8 5), .int (τ 8 6)], iC G ta 16 (fq τ), iC G tb 64 (τ 2), iC G tc 50 (fg τ)]) C (fun _ => [wX x t im it o sv tx ac rf lf] ++ (wT G t ta tb tc τ ++ ([iC G rf 8 (rfI rr (-6))]))) rfl k_X6_refuse (c_X6_refuse l G x t im it o sv tx ac rf lf rr (-6)) ml_X6_59 rfl ⟨Nat.le_of_ble_eq_true rfl, Nat.le_of_ble_eq_true rfl⟩ rfl [0, 5] [1, 2, 3, 4] [4, 0, 1, 2, 3, 5] rfl (by decide) rfl (by decide) (by decide) (by decide) (fun _ => rfl) 0 rfl rfl rfl rfl (Nat.le_of_ble_eq_true rfl) ⟨by decide, by decide⟩ dX6_answers_29 (fun r29 _ e29 => ?_)
      subst e29
      exact g_retIW (pc := 32) C rfl rfl () (rfl) (by have e9 : rcAn u k = (-6) := (by first | (simp [rcAn, *]; done) | (grind [rcAn])); rw [if_neg (by rw [e9] <;> (first | done | decide)), e9]) (by have e9 : rcAn u k = (-6) := (by first | (simp [rcAn, *]; done) | (grind [rcAn])); rw [e9] <;> (first | done | rfl | (rw [if_neg (by decide)] <;> (first | done | rfl)))) dX6_answers_32
  · refine g_aload_n (pc := 9) C dX6_answers_9 0 rfl ?_
    refine g_bipush (pc := 10) (v := (-5)) C dX6_answers_10 (by decide) ?_
    refine g_wrVI (pc := 12) (rest := []) (wr := [oC t 3 [.ref ta, .ref tb, .ref tc, .int (τ 8 0), .int (τ 8 1), .int (τ 8 2), .int (τ 8 3), .int (τ 8 4), .int (τ 8 5), .int (τ 8 6)], iC G ta 16 (fq τ), iC G tb 64 (τ 2), iC G tc 50 (fg τ)]) C (fun _ => [wX x t im it o sv tx ac rf lf] ++ (wT G t ta tb tc τ ++ ([iC G rf 8 (rfI rr (-5))]))) rfl k_X6_refuse (c_X6_refuse l G x t im it o sv tx ac rf lf rr (-5)) ml_X6_59 rfl ⟨Nat.le_of_ble_eq_true rfl, Nat.le_of_ble_eq_true rfl⟩ rfl [0, 5] [1, 2, 3, 4] [4, 0, 1, 2, 3, 5] rfl (by decide) rfl (by decide) (by decide) (by decide) (fun _ => rfl) 0 rfl rfl rfl rfl (Nat.le_of_ble_eq_true rfl) ⟨by decide, by decide⟩ dX6_answers_12 (fun r12 _ e12 => ?_)
    subst e12
    exact g_retIW (pc := 15) C rfl rfl () (rfl) (by have e9 : rcAn u k = (-5) := (by first | (simp [rcAn, *]; done) | (grind [rcAn])); rw [if_neg (by rw [e9] <;> (first | done | decide)), e9]) (by have e9 : rcAn u k = (-5) := (by first | (simp [rcAn, *]; done) | (grind [rcAn])); rw [e9] <;> (first | done | rfl | (rw [if_neg (by decide)] <;> (first | done | rfl)))) dX6_answers_15
set_option maxRecDepth 20000 in
set_option maxHeartbeats 4000000 in
theorem c_X6_by (l : Launch) (G : gT) (x : Nat) (t : Nat) (im : Nat) (it : Int32) (o : Nat) (sv : Nat) (tx : Nat) (ac : Nat) (rf : Nat) (lf : Int32) (ta : Nat) (tb : Nat) (tc : Nat) (τ : tT) (q : Int32) (u : Int32) (k : Int32) (rr : Nat → Int32) (hT : TI τ) : WI l yX6_by cX6_by 4 (some .int) 10 0 0 G [.ref x, .int q, .int u, .int k] ([wX x t im it o sv tx ac rf lf] ++ (wT G t ta tb tc τ ++ ([iC G rf 8 rr]))) (S := Unit) (fun r _ => r = if rcBy τ q u k = 0 then (if k = 0 then shA τ (nx q) 0 (nx u) else off τ (nx q) (nx u)) else -10000 + (rcBy τ q u k)) (fun _ => [wX x t im it o sv tx ac rf lf] ++ (wT G t ta tb tc τ ++ ([iC G rf 8 (rfI rr (rcBy τ q u k))]))) := by
  have hg10 := hT.g10
  have hq8 := hT.q8
  intro sz9
  refine start_W (by decide) (Nat.le_of_ble_eq_true rfl) (fun p9 e9 s9 m9 a9 b9 t9 c9 C => ?_)
  refine g_lv (lv' := [(0, .ref x), (1, .int q), (2, .int u), (3, .int k)]) rfl ?_
  refine g_aload_n (pc := 0) C dX6_by_0 0 rfl ?_
  refine g_get (pc := 1) (T := TX6) (N := 9) (v := .ref t) C ib_X6 0 rfl rfl 0 (by decide) mf_X6_10 rfl rfl rfl dX6_by_1 ?_
  refine g_iload_n (pc := 4) C dX6_by_4 1 rfl ?_
  refine g_rdVI (pc := 5) (val := bI (0 ≤ q ∧ q ≤ nI (tQ τ) - 1)) (rest := []) C k_X3_hasQuestion (c_X3_hasQuestion l G t ta tb tc τ q (by first | assumption | omega)) ml_X6_93 rfl ⟨Nat.le_of_ble_eq_true rfl, Nat.le_of_ble_eq_true rfl⟩ rfl [1, 2, 3, 4] rfl 1 rfl rfl rfl rfl (Nat.le_of_ble_eq_true rfl) ⟨by decide, by decide⟩ dX6_by_5 ?_
  refine g_ifb_ne (pc := 8) (tgt := 17) C dX6_by_8 (by decide) (fun h8 => ?_) (fun h8 => ?_)
  · obtain ⟨q8, hq8, rfl⟩ := isQ_nI hT h8
    have eq8 : nx (nI q8) = q8 := nx_nI (by omega)
    refine g_iload_n (pc := 17) C dX6_by_17 3 rfl ?_
    refine g_iconst (pc := 18) (v := 0) C dX6_by_18 (by decide) ?_
    refine g_iconst (pc := 19) (v := 1) C dX6_by_19 (by decide) ?_
    refine g_rdSI (pc := 20) (val := bI (0 ≤ k ∧ k ≤ 1)) (rest := []) C k_X6_isWithin (c_X6_isWithin l G k 0 1) ml_X6_63 rfl ⟨Nat.le_of_ble_eq_true rfl, Nat.le_of_ble_eq_true rfl⟩ rfl [] rfl rfl (Nat.le_of_ble_eq_true rfl) ⟨by decide, by decide⟩ dX6_by_20 ?_
    refine g_ifb_ne (pc := 23) (tgt := 33) C dX6_by_23 (by decide) (fun h23 => ?_) (fun h23 => ?_)
    · refine g_iload_n (pc := 33) C dX6_by_33 2 rfl ?_
      refine g_iconst (pc := 34) (v := 0) C dX6_by_34 (by decide) ?_
      refine g_bipush (pc := 35) (v := 9) C dX6_by_35 (by decide) ?_
      refine g_rdSI (pc := 37) (val := bI (0 ≤ u ∧ u ≤ 9)) (rest := []) C k_X6_isWithin (c_X6_isWithin l G u 0 9) ml_X6_63 rfl ⟨Nat.le_of_ble_eq_true rfl, Nat.le_of_ble_eq_true rfl⟩ rfl [] rfl rfl (Nat.le_of_ble_eq_true rfl) ⟨by decide, by decide⟩ dX6_by_37 ?_
      refine g_ifb_ne (pc := 40) (tgt := 50) C dX6_by_40 (by decide) (fun h40 => ?_) (fun h40 => ?_)
      · obtain ⟨u8, hu8, rfl⟩ := (lt_Q (n := 10) (by decide)).mp h40
        have eu8 : nx (nI u8) = u8 := nx_nI (by omega)
        refine g_iload_n (pc := 50) C dX6_by_50 3 rfl ?_
        refine g_if_ne (pc := 51) (tgt := 67) C dX6_by_51 (by decide) (fun h51 => ?_) (fun h51 => ?_)
        · refine g_aload_n (pc := 67) C dX6_by_67 0 rfl ?_
          refine g_get (pc := 68) (T := TX6) (N := 9) (v := .ref t) C ib_X6 0 rfl rfl 0 (by decide) mf_X6_10 rfl rfl rfl dX6_by_68 ?_
          refine g_iload_n (pc := 71) C dX6_by_71 1 rfl ?_
          refine g_iload_n (pc := 72) C dX6_by_72 2 rfl ?_
          refine g_rdSI (pc := 73) (val := off τ q8 u8) (rest := []) C k_X5_offBy (c_X5_offBy l G t ta tb tc τ q8 u8 (by first | assumption | omega) (by first | assumption | omega) (by first | assumption | omega)) ml_X6_218 rfl ⟨Nat.le_of_ble_eq_true rfl, Nat.le_of_ble_eq_true rfl⟩ rfl [1, 2, 3, 4] rfl rfl (Nat.le_of_ble_eq_true rfl) ⟨by decide, by decide⟩ dX6_by_73 ?_
          exact g_retIW (pc := 76) C rfl rfl () (rfl) (by have e9 : rcBy τ (nI q8) (nI u8) k = 0 := (by first | (simp [rcBy, *]; done) | (grind [rcBy])); rw [if_pos e9] <;> (simp [eq8, eu8, *])) (by have e9 : rcBy τ (nI q8) (nI u8) k = 0 := (by first | (simp [rcBy, *]; done) | (grind [rcBy])); rw [e9, rfI_0] <;> (rfl)) dX6_by_76
        · refine g_aload_n (pc := 54) C dX6_by_54 0 rfl ?_
          refine g_get (pc := 55) (T := TX6) (N := 9) (v := .ref t) C ib_X6 0 rfl rfl 0 (by decide) mf_X6_10 rfl rfl rfl dX6_by_55 ?_
          refine g_iload_n (pc := 58) C dX6_by_58 1 rfl ?_
          refine g_iconst (pc := 59) (v := 0) C dX6_by_59 (by decide) ?_
          refine g_iload_n (pc := 60) C dX6_by_60 2 rfl ?_
          refine g_rdSI (pc := 61) (val := shA τ q8 0 u8) (rest := []) C k_X5_shareBetween (c_X5_shareBetween l G t ta tb tc τ q8 0 u8 (by first | assumption | omega) (by first | assumption | omega) (by first | assumption | omega) (by first | assumption | omega)) ml_X6_214 rfl ⟨Nat.le_of_ble_eq_true rfl, Nat.le_of_ble_eq_true rfl⟩ rfl [1, 2, 3, 4] rfl rfl (Nat.le_of_ble_eq_true rfl) ⟨by decide, by decide⟩ dX6_by_61 ?_
          refine g_goto (pc := 64) (tgt := 76) C dX6_by_64 (by decide) ?_
          exact g_retIW (pc := 76) C rfl rfl () (rfl) (by have e9 : rcBy τ (nI q8) (nI u8) k = 0 := (by first | (simp [rcBy, *]; done) | (grind [rcBy])); rw [if_pos e9] <;> (simp [eq8, eu8, *])) (by have e9 : rcBy τ (nI q8) (nI u8) k = 0 := (by first | (simp [rcBy, *]; done) | (grind [rcBy])); rw [e9, rfI_0] <;> (rfl)) dX6_by_76
      · refine g_aload_n (pc := 43) C dX6_by_43 0 rfl ?_
        refine g_bipush (pc := 44) (v := (-6)) C dX6_by_44 (by decide) ?_
        refine g_wrVI (pc := 46) (rest := []) (wr := [oC t 3 [.ref ta, .ref tb, .ref tc, .int (τ 8 0), .int (τ 8 1), .int (τ 8 2), .int (τ 8 3), .int (τ 8 4), .int (τ 8 5), .int (τ 8 6)], iC G ta 16 (fq τ), iC G tb 64 (τ 2), iC G tc 50 (fg τ)]) C (fun _ => [wX x t im it o sv tx ac rf lf] ++ (wT G t ta tb tc τ ++ ([iC G rf 8 (rfI rr (-6))]))) rfl k_X6_refuseFarBelow (c_X6_refuseFarBelow l G x t im it o sv tx ac rf lf rr (-6)) ml_X6_134 rfl ⟨Nat.le_of_ble_eq_true rfl, Nat.le_of_ble_eq_true rfl⟩ rfl [0, 5] [1, 2, 3, 4] [4, 0, 1, 2, 3, 5] rfl (by decide) rfl (by decide) (by decide) (by decide) (fun _ => rfl) 0 rfl rfl rfl rfl (Nat.le_of_ble_eq_true rfl) ⟨by decide, by decide⟩ dX6_by_46 (fun r46 _ e46 => ?_)
        subst e46
        exact g_retIW (pc := 49) C rfl rfl () (rfl) (by have e9 : rcBy τ (nI q8) u k = (-6) := (by first | (simp [rcBy, *]; done) | (grind [rcBy])); rw [if_neg (by rw [e9] <;> (first | done | decide)), e9]) (by have e9 : rcBy τ (nI q8) u k = (-6) := (by first | (simp [rcBy, *]; done) | (grind [rcBy])); rw [e9] <;> (first | done | rfl | (rw [if_neg (by decide)] <;> (first | done | rfl)))) dX6_by_49
    · refine g_aload_n (pc := 26) C dX6_by_26 0 rfl ?_
      refine g_bipush (pc := 27) (v := (-5)) C dX6_by_27 (by decide) ?_
      refine g_wrVI (pc := 29) (rest := []) (wr := [oC t 3 [.ref ta, .ref tb, .ref tc, .int (τ 8 0), .int (τ 8 1), .int (τ 8 2), .int (τ 8 3), .int (τ 8 4), .int (τ 8 5), .int (τ 8 6)], iC G ta 16 (fq τ), iC G tb 64 (τ 2), iC G tc 50 (fg τ)]) C (fun _ => [wX x t im it o sv tx ac rf lf] ++ (wT G t ta tb tc τ ++ ([iC G rf 8 (rfI rr (-5))]))) rfl k_X6_refuseFarBelow (c_X6_refuseFarBelow l G x t im it o sv tx ac rf lf rr (-5)) ml_X6_134 rfl ⟨Nat.le_of_ble_eq_true rfl, Nat.le_of_ble_eq_true rfl⟩ rfl [0, 5] [1, 2, 3, 4] [4, 0, 1, 2, 3, 5] rfl (by decide) rfl (by decide) (by decide) (by decide) (fun _ => rfl) 0 rfl rfl rfl rfl (Nat.le_of_ble_eq_true rfl) ⟨by decide, by decide⟩ dX6_by_29 (fun r29 _ e29 => ?_)
      subst e29
      exact g_retIW (pc := 32) C rfl rfl () (rfl) (by have e9 : rcBy τ (nI q8) u k = (-5) := (by first | (simp [rcBy, *]; done) | (grind [rcBy])); rw [if_neg (by rw [e9] <;> (first | done | decide)), e9]) (by have e9 : rcBy τ (nI q8) u k = (-5) := (by first | (simp [rcBy, *]; done) | (grind [rcBy])); rw [e9] <;> (first | done | rfl | (rw [if_neg (by decide)] <;> (first | done | rfl)))) dX6_by_32
  · refine g_aload_n (pc := 11) C dX6_by_11 0 rfl ?_
    refine g_iconst (pc := 12) (v := (-1)) C dX6_by_12 (by decide) ?_
    refine g_wrVI (pc := 13) (rest := []) (wr := [oC t 3 [.ref ta, .ref tb, .ref tc, .int (τ 8 0), .int (τ 8 1), .int (τ 8 2), .int (τ 8 3), .int (τ 8 4), .int (τ 8 5), .int (τ 8 6)], iC G ta 16 (fq τ), iC G tb 64 (τ 2), iC G tc 50 (fg τ)]) C (fun _ => [wX x t im it o sv tx ac rf lf] ++ (wT G t ta tb tc τ ++ ([iC G rf 8 (rfI rr (-1))]))) rfl k_X6_refuseFarBelow (c_X6_refuseFarBelow l G x t im it o sv tx ac rf lf rr (-1)) ml_X6_134 rfl ⟨Nat.le_of_ble_eq_true rfl, Nat.le_of_ble_eq_true rfl⟩ rfl [0, 5] [1, 2, 3, 4] [4, 0, 1, 2, 3, 5] rfl (by decide) rfl (by decide) (by decide) (by decide) (fun _ => rfl) 0 rfl rfl rfl rfl (Nat.le_of_ble_eq_true rfl) ⟨by decide, by decide⟩ dX6_by_13 (fun r13 _ e13 => ?_)
    subst e13
    exact g_retIW (pc := 16) C rfl rfl () (rfl) (by have e9 : rcBy τ q u k = (-1) := (by first | (simp [rcBy, *]; done) | (grind [rcBy])); rw [if_neg (by rw [e9] <;> (first | done | decide)), e9]) (by have e9 : rcBy τ q u k = (-1) := (by first | (simp [rcBy, *]; done) | (grind [rcBy])); rw [e9] <;> (first | done | rfl | (rw [if_neg (by decide)] <;> (first | done | rfl)))) dX6_by_16
set_option maxRecDepth 20000 in
set_option maxHeartbeats 4000000 in
theorem c_X6_hold (l : Launch) (G : gT) (x : Nat) (t : Nat) (im : Nat) (it : Int32) (o : Nat) (sv : Nat) (tx : Nat) (ac : Nat) (rf : Nat) (lf : Int32) (ta : Nat) (tb : Nat) (tc : Nat) (τ : tT) (hT : TI τ) : RI l yX6_hold cX6_hold 1 (some .int) 9 G [.ref x] ([wX x t im it o sv tx ac rf lf] ++ (wT G t ta tb tc τ)) (hold τ) := by
  refine start_R (by decide) (Nat.le_of_ble_eq_true rfl) (fun p9 e9 s9 m9 a9 b9 t9 c9 C => ?_)
  refine g_lv (lv' := [(0, .ref x)]) rfl ?_
  refine g_aload_n (pc := 0) C dX6_hold_0 0 rfl ?_
  refine g_get (pc := 1) (T := TX6) (N := 9) (v := .ref t) C ib_X6 0 rfl rfl 0 (by decide) mf_X6_10 rfl rfl rfl dX6_hold_1 ?_
  refine g_rdVI (pc := 4) (val := hold τ) (rest := []) C k_X3_holding (c_X3_holding l G t ta tb tc τ (by first | assumption | omega)) ml_X6_221 rfl ⟨Nat.le_of_ble_eq_true rfl, Nat.le_of_ble_eq_true rfl⟩ rfl [1, 2, 3, 4] rfl 1 rfl rfl rfl rfl (Nat.le_of_ble_eq_true rfl) ⟨by decide, by decide⟩ dX6_hold_4 ?_
  exact g_retIR (pc := 7) C (rfl) (by rfl) dX6_hold_7
set_option maxRecDepth 20000 in
set_option maxHeartbeats 4000000 in
theorem c_X6_nothing (l : Launch) (G : gT) (x : Nat) (t : Nat) (im : Nat) (it : Int32) (o : Nat) (sv : Nat) (tx : Nat) (ac : Nat) (rf : Nat) (lf : Int32) (ta : Nat) (tb : Nat) (tc : Nat) (τ : tT) (q : Int32) (p : Int32) (rr : Nat → Int32) (hT : TI τ) : WI l yX6_nothing cX6_nothing 3 (some .int) 10 0 0 G [.ref x, .int q, .int p] ([wX x t im it o sv tx ac rf lf] ++ (wT G t ta tb tc τ ++ ([iC G rf 8 rr]))) (S := Unit) (fun r _ => r = if rcNo τ q p = 0 then 1000 - share τ (nx q) - share τ (nx p) else -10000 + (rcNo τ q p)) (fun _ => [wX x t im it o sv tx ac rf lf] ++ (wT G t ta tb tc τ ++ ([iC G rf 8 (rfI rr (rcNo τ q p))]))) := by
  have hg10 := hT.g10
  have hq8 := hT.q8
  intro sz9
  refine start_W (by decide) (Nat.le_of_ble_eq_true rfl) (fun p9 e9 s9 m9 a9 b9 t9 c9 C => ?_)
  refine g_lv (lv' := [(0, .ref x), (1, .int q), (2, .int p)]) rfl ?_
  refine g_aload_n (pc := 0) C dX6_nothing_0 0 rfl ?_
  refine g_get (pc := 1) (T := TX6) (N := 9) (v := .ref t) C ib_X6 0 rfl rfl 0 (by decide) mf_X6_10 rfl rfl rfl dX6_nothing_1 ?_
  refine g_iload_n (pc := 4) C dX6_nothing_4 1 rfl ?_
  refine g_rdVI (pc := 5) (val := bI (0 ≤ q ∧ q ≤ nI (tQ τ) - 1)) (rest := []) C k_X3_hasQuestion (c_X3_hasQuestion l G t ta tb tc τ q (by first | assumption | omega)) ml_X6_93 rfl ⟨Nat.le_of_ble_eq_true rfl, Nat.le_of_ble_eq_true rfl⟩ rfl [1, 2, 3, 4] rfl 1 rfl rfl rfl rfl (Nat.le_of_ble_eq_true rfl) ⟨by decide, by decide⟩ dX6_nothing_5 ?_
  refine g_ifb_eq (pc := 8) (tgt := 22) C dX6_nothing_8 (by decide) (fun h8 => ?_) (fun h8 => ?_)
  · refine g_aload_n (pc := 22) C dX6_nothing_22 0 rfl ?_
    refine g_iconst (pc := 23) (v := (-1)) C dX6_nothing_23 (by decide) ?_
    refine g_wrVI (pc := 24) (rest := []) (wr := [oC t 3 [.ref ta, .ref tb, .ref tc, .int (τ 8 0), .int (τ 8 1), .int (τ 8 2), .int (τ 8 3), .int (τ 8 4), .int (τ 8 5), .int (τ 8 6)], iC G ta 16 (fq τ), iC G tb 64 (τ 2), iC G tc 50 (fg τ)]) C (fun _ => [wX x t im it o sv tx ac rf lf] ++ (wT G t ta tb tc τ ++ ([iC G rf 8 (rfI rr (-1))]))) rfl k_X6_refuseFarBelow (c_X6_refuseFarBelow l G x t im it o sv tx ac rf lf rr (-1)) ml_X6_134 rfl ⟨Nat.le_of_ble_eq_true rfl, Nat.le_of_ble_eq_true rfl⟩ rfl [0, 5] [1, 2, 3, 4] [4, 0, 1, 2, 3, 5] rfl (by decide) rfl (by decide) (by decide) (by decide) (fun _ => rfl) 0 rfl rfl rfl rfl (Nat.le_of_ble_eq_true rfl) ⟨by decide, by decide⟩ dX6_nothing_24 (fun r24 _ e24 => ?_)
    subst e24
    exact g_retIW (pc := 27) C rfl rfl () (rfl) (by have e9 : rcNo τ q p = (-1) := (by first | (simp [rcNo, *]; done) | (grind [rcNo])); rw [if_neg (by rw [e9] <;> (first | done | decide)), e9]) (by have e9 : rcNo τ q p = (-1) := (by first | (simp [rcNo, *]; done) | (grind [rcNo])); rw [e9] <;> (first | done | rfl | (rw [if_neg (by decide)] <;> (first | done | rfl)))) dX6_nothing_27
  · obtain ⟨q8, hq8, rfl⟩ := isQ_nI hT h8
    have eq8 : nx (nI q8) = q8 := nx_nI (by omega)
    refine g_aload_n (pc := 11) C dX6_nothing_11 0 rfl ?_
    refine g_get (pc := 12) (T := TX6) (N := 9) (v := .ref t) C ib_X6 0 rfl rfl 0 (by decide) mf_X6_10 rfl rfl rfl dX6_nothing_12 ?_
    refine g_iload_n (pc := 15) C dX6_nothing_15 2 rfl ?_
    refine g_rdVI (pc := 16) (val := bI (0 ≤ p ∧ p ≤ nI (tQ τ) - 1)) (rest := []) C k_X3_hasQuestion (c_X3_hasQuestion l G t ta tb tc τ p (by first | assumption | omega)) ml_X6_93 rfl ⟨Nat.le_of_ble_eq_true rfl, Nat.le_of_ble_eq_true rfl⟩ rfl [1, 2, 3, 4] rfl 1 rfl rfl rfl rfl (Nat.le_of_ble_eq_true rfl) ⟨by decide, by decide⟩ dX6_nothing_16 ?_
    refine g_ifb_ne (pc := 19) (tgt := 28) C dX6_nothing_19 (by decide) (fun h19 => ?_) (fun h19 => ?_)
    · obtain ⟨p8, hp8, rfl⟩ := isQ_nI hT h19
      have ep8 : nx (nI p8) = p8 := nx_nI (by omega)
      refine g_sipush (pc := 28) (v := 1000) C dX6_nothing_28 (by decide) ?_
      refine g_aload_n (pc := 31) C dX6_nothing_31 0 rfl ?_
      refine g_get (pc := 32) (T := TX6) (N := 9) (v := .ref t) C ib_X6 0 rfl rfl 0 (by decide) mf_X6_10 rfl rfl rfl dX6_nothing_32 ?_
      refine g_iload_n (pc := 35) C dX6_nothing_35 1 rfl ?_
      refine g_sipush (pc := 36) (v := 1023) C dX6_nothing_36 (by decide) ?_
      refine g_rdVI (pc := 39) (val := share τ q8) (rest := [.int 1000]) C k_X3_shareOf (c_X3_shareOf_all l G t ta tb tc τ q8 (by first | assumption | omega) (by first | assumption | omega)) ml_X6_113 rfl ⟨Nat.le_of_ble_eq_true rfl, Nat.le_of_ble_eq_true rfl⟩ rfl [1, 2, 3, 4] rfl 1 rfl rfl rfl rfl (Nat.le_of_ble_eq_true rfl) ⟨by decide, by decide⟩ dX6_nothing_39 ?_
      refine g_isub (pc := 42) C dX6_nothing_42 ?_
      refine g_aload_n (pc := 43) C dX6_nothing_43 0 rfl ?_
      refine g_get (pc := 44) (T := TX6) (N := 9) (v := .ref t) C ib_X6 0 rfl rfl 0 (by decide) mf_X6_10 rfl rfl rfl dX6_nothing_44 ?_
      refine g_iload_n (pc := 47) C dX6_nothing_47 2 rfl ?_
      refine g_sipush (pc := 48) (v := 1023) C dX6_nothing_48 (by decide) ?_
      refine g_rdVI (pc := 51) (val := share τ p8) (rest := [.int (1000 - (share τ q8))]) C k_X3_shareOf (c_X3_shareOf_all l G t ta tb tc τ p8 (by first | assumption | omega) (by first | assumption | omega)) ml_X6_113 rfl ⟨Nat.le_of_ble_eq_true rfl, Nat.le_of_ble_eq_true rfl⟩ rfl [1, 2, 3, 4] rfl 1 rfl rfl rfl rfl (Nat.le_of_ble_eq_true rfl) ⟨by decide, by decide⟩ dX6_nothing_51 ?_
      refine g_isub (pc := 54) C dX6_nothing_54 ?_
      exact g_retIW (pc := 55) C rfl rfl () (rfl) (by have e9 : rcNo τ (nI q8) (nI p8) = 0 := (by first | (simp [rcNo, *]; done) | (grind [rcNo])); rw [if_pos e9] <;> (rw [eq8, ep8])) (by have e9 : rcNo τ (nI q8) (nI p8) = 0 := (by first | (simp [rcNo, *]; done) | (grind [rcNo])); rw [e9, rfI_0] <;> (rfl)) dX6_nothing_55
    · refine g_aload_n (pc := 22) C dX6_nothing_22 0 rfl ?_
      refine g_iconst (pc := 23) (v := (-1)) C dX6_nothing_23 (by decide) ?_
      refine g_wrVI (pc := 24) (rest := []) (wr := [oC t 3 [.ref ta, .ref tb, .ref tc, .int (τ 8 0), .int (τ 8 1), .int (τ 8 2), .int (τ 8 3), .int (τ 8 4), .int (τ 8 5), .int (τ 8 6)], iC G ta 16 (fq τ), iC G tb 64 (τ 2), iC G tc 50 (fg τ)]) C (fun _ => [wX x t im it o sv tx ac rf lf] ++ (wT G t ta tb tc τ ++ ([iC G rf 8 (rfI rr (-1))]))) rfl k_X6_refuseFarBelow (c_X6_refuseFarBelow l G x t im it o sv tx ac rf lf rr (-1)) ml_X6_134 rfl ⟨Nat.le_of_ble_eq_true rfl, Nat.le_of_ble_eq_true rfl⟩ rfl [0, 5] [1, 2, 3, 4] [4, 0, 1, 2, 3, 5] rfl (by decide) rfl (by decide) (by decide) (by decide) (fun _ => rfl) 0 rfl rfl rfl rfl (Nat.le_of_ble_eq_true rfl) ⟨by decide, by decide⟩ dX6_nothing_24 (fun r24 _ e24 => ?_)
      subst e24
      exact g_retIW (pc := 27) C rfl rfl () (rfl) (by have e9 : rcNo τ (nI q8) p = (-1) := (by first | (simp [rcNo, *]; done) | (grind [rcNo])); rw [if_neg (by rw [e9] <;> (first | done | decide)), e9]) (by have e9 : rcNo τ (nI q8) p = (-1) := (by first | (simp [rcNo, *]; done) | (grind [rcNo])); rw [e9] <;> (first | done | rfl | (rw [if_neg (by decide)] <;> (first | done | rfl)))) dX6_nothing_27
set_option maxRecDepth 20000 in
set_option maxHeartbeats 4000000 in
theorem c_X6_enough (l : Launch) (G : gT) (x : Nat) (t : Nat) (im : Nat) (it : Int32) (o : Nat) (sv : Nat) (tx : Nat) (ac : Nat) (rf : Nat) (lf : Int32) (ta : Nat) (tb : Nat) (tc : Nat) (τ : tT) (q : Int32) (v : Int32) (rr : Nat → Int32) (hT : TI τ) : WI l yX6_enough cX6_enough 3 (some .int) 10 0 0 G [.ref x, .int q, .int v] ([wX x t im it o sv tx ac rf lf] ++ (wT G t ta tb tc τ ++ ([iC G rf 8 rr]))) (S := Unit) (fun r _ => r = if rcEn τ q v = 0 then enF τ (nx q) v 10 0 else -10 + (rcEn τ q v)) (fun _ => [wX x t im it o sv tx ac rf lf] ++ (wT G t ta tb tc τ ++ ([iC G rf 8 (rfI rr (rcEn τ q v))]))) := by
  have hg10 := hT.g10
  have hq8 := hT.q8
  intro sz9
  refine start_W (by decide) (Nat.le_of_ble_eq_true rfl) (fun p9 e9 s9 m9 a9 b9 t9 c9 C => ?_)
  refine g_lv (lv' := [(0, .ref x), (1, .int q), (2, .int v)]) rfl ?_
  refine g_aload_n (pc := 0) C dX6_enough_0 0 rfl ?_
  refine g_get (pc := 1) (T := TX6) (N := 9) (v := .ref t) C ib_X6 0 rfl rfl 0 (by decide) mf_X6_10 rfl rfl rfl dX6_enough_1 ?_
  refine g_iload_n (pc := 4) C dX6_enough_4 1 rfl ?_
  refine g_rdVI (pc := 5) (val := bI (0 ≤ q ∧ q ≤ nI (tQ τ) - 1)) (rest := []) C k_X3_hasQuestion (c_X3_hasQuestion l G t ta tb tc τ q (by first | assumption | omega)) ml_X6_93 rfl ⟨Nat.le_of_ble_eq_true rfl, Nat.le_of_ble_eq_true rfl⟩ rfl [1, 2, 3, 4] rfl 1 rfl rfl rfl rfl (Nat.le_of_ble_eq_true rfl) ⟨by decide, by decide⟩ dX6_enough_5 ?_
  refine g_ifb_ne (pc := 8) (tgt := 17) C dX6_enough_8 (by decide) (fun h8 => ?_) (fun h8 => ?_)
  · obtain ⟨q8, hq8, rfl⟩ := isQ_nI hT h8
    have eq8 : nx (nI q8) = q8 := nx_nI (by omega)
    refine g_iload_n (pc := 17) C dX6_enough_17 2 rfl ?_
    refine g_iconst (pc := 18) (v := 0) C dX6_enough_18 (by decide) ?_
    refine g_sipush (pc := 19) (v := 1000) C dX6_enough_19 (by decide) ?_
    refine g_rdSI (pc := 22) (val := bI (0 ≤ v ∧ v ≤ 1000)) (rest := []) C k_X6_isWithin (c_X6_isWithin l G v 0 1000) ml_X6_63 rfl ⟨Nat.le_of_ble_eq_true rfl, Nat.le_of_ble_eq_true rfl⟩ rfl [] rfl rfl (Nat.le_of_ble_eq_true rfl) ⟨by decide, by decide⟩ dX6_enough_22 ?_
    refine g_ifb_ne (pc := 25) (tgt := 35) C dX6_enough_25 (by decide) (fun h25 => ?_) (fun h25 => ?_)
    · refine g_aload_n (pc := 35) C dX6_enough_35 0 rfl ?_
      refine g_get (pc := 36) (T := TX6) (N := 9) (v := .ref t) C ib_X6 0 rfl rfl 0 (by decide) mf_X6_10 rfl rfl rfl dX6_enough_36 ?_
      refine g_iload_n (pc := 39) C dX6_enough_39 1 rfl ?_
      refine g_iload_n (pc := 40) C dX6_enough_40 2 rfl ?_
      refine g_rdSI (pc := 41) (val := enF τ q8 v 10 0) (rest := []) C k_X5_enoughFor (c_X5_enoughFor l G t ta tb tc τ q8 v (by first | assumption | omega) (by first | assumption | omega)) ml_X6_250 rfl ⟨Nat.le_of_ble_eq_true rfl, Nat.le_of_ble_eq_true rfl⟩ rfl [1, 2, 3, 4] rfl rfl (Nat.le_of_ble_eq_true rfl) ⟨by decide, by decide⟩ dX6_enough_41 ?_
      exact g_retIW (pc := 44) C rfl rfl () (rfl) (by have e9 : rcEn τ (nI q8) v = 0 := (by first | (simp [rcEn, *]; done) | (grind [rcEn])); rw [if_pos e9] <;> (rw [eq8])) (by have e9 : rcEn τ (nI q8) v = 0 := (by first | (simp [rcEn, *]; done) | (grind [rcEn])); rw [e9, rfI_0] <;> (rfl)) dX6_enough_44
    · refine g_aload_n (pc := 28) C dX6_enough_28 0 rfl ?_
      refine g_bipush (pc := 29) (v := (-6)) C dX6_enough_29 (by decide) ?_
      refine g_wrVI (pc := 31) (rest := []) (wr := [oC t 3 [.ref ta, .ref tb, .ref tc, .int (τ 8 0), .int (τ 8 1), .int (τ 8 2), .int (τ 8 3), .int (τ 8 4), .int (τ 8 5), .int (τ 8 6)], iC G ta 16 (fq τ), iC G tb 64 (τ 2), iC G tc 50 (fg τ)]) C (fun _ => [wX x t im it o sv tx ac rf lf] ++ (wT G t ta tb tc τ ++ ([iC G rf 8 (rfI rr (-6))]))) rfl k_X6_refuseBelowNone (c_X6_refuseBelowNone l G x t im it o sv tx ac rf lf rr (-6)) ml_X6_247 rfl ⟨Nat.le_of_ble_eq_true rfl, Nat.le_of_ble_eq_true rfl⟩ rfl [0, 5] [1, 2, 3, 4] [4, 0, 1, 2, 3, 5] rfl (by decide) rfl (by decide) (by decide) (by decide) (fun _ => rfl) 0 rfl rfl rfl rfl (Nat.le_of_ble_eq_true rfl) ⟨by decide, by decide⟩ dX6_enough_31 (fun r31 _ e31 => ?_)
      subst e31
      exact g_retIW (pc := 34) C rfl rfl () (rfl) (by have e9 : rcEn τ (nI q8) v = (-6) := (by first | (simp [rcEn, *]; done) | (grind [rcEn])); rw [if_neg (by rw [e9] <;> (first | done | decide)), e9]) (by have e9 : rcEn τ (nI q8) v = (-6) := (by first | (simp [rcEn, *]; done) | (grind [rcEn])); rw [e9] <;> (first | done | rfl | (rw [if_neg (by decide)] <;> (first | done | rfl)))) dX6_enough_34
  · refine g_aload_n (pc := 11) C dX6_enough_11 0 rfl ?_
    refine g_iconst (pc := 12) (v := (-1)) C dX6_enough_12 (by decide) ?_
    refine g_wrVI (pc := 13) (rest := []) (wr := [oC t 3 [.ref ta, .ref tb, .ref tc, .int (τ 8 0), .int (τ 8 1), .int (τ 8 2), .int (τ 8 3), .int (τ 8 4), .int (τ 8 5), .int (τ 8 6)], iC G ta 16 (fq τ), iC G tb 64 (τ 2), iC G tc 50 (fg τ)]) C (fun _ => [wX x t im it o sv tx ac rf lf] ++ (wT G t ta tb tc τ ++ ([iC G rf 8 (rfI rr (-1))]))) rfl k_X6_refuseBelowNone (c_X6_refuseBelowNone l G x t im it o sv tx ac rf lf rr (-1)) ml_X6_247 rfl ⟨Nat.le_of_ble_eq_true rfl, Nat.le_of_ble_eq_true rfl⟩ rfl [0, 5] [1, 2, 3, 4] [4, 0, 1, 2, 3, 5] rfl (by decide) rfl (by decide) (by decide) (by decide) (fun _ => rfl) 0 rfl rfl rfl rfl (Nat.le_of_ble_eq_true rfl) ⟨by decide, by decide⟩ dX6_enough_13 (fun r13 _ e13 => ?_)
    subst e13
    exact g_retIW (pc := 16) C rfl rfl () (rfl) (by have e9 : rcEn τ q v = (-1) := (by first | (simp [rcEn, *]; done) | (grind [rcEn])); rw [if_neg (by rw [e9] <;> (first | done | decide)), e9]) (by have e9 : rcEn τ q v = (-1) := (by first | (simp [rcEn, *]; done) | (grind [rcEn])); rw [e9] <;> (first | done | rfl | (rw [if_neg (by decide)] <;> (first | done | rfl)))) dX6_enough_16
set_option maxRecDepth 20000 in
set_option maxHeartbeats 4000000 in
theorem c_X6_cost (l : Launch) (G : gT) (x : Nat) (t : Nat) (im : Nat) (it : Int32) (o : Nat) (sv : Nat) (tx : Nat) (ac : Nat) (rf : Nat) (lf : Int32) (ta : Nat) (tb : Nat) (tc : Nat) (τ : tT) (u : Int32) (rr : Nat → Int32) (hT : TI τ) : WI l yX6_cost cX6_cost 2 (some .int) 10 0 0 G [.ref x, .int u] ([wX x t im it o sv tx ac rf lf] ++ (wT G t ta tb tc τ ++ ([iC G rf 8 rr]))) (S := Unit) (fun r _ => r = if rcCo u = 0 then cost τ (nx u) else (rcCo u)) (fun _ => [wX x t im it o sv tx ac rf lf] ++ (wT G t ta tb tc τ ++ ([iC G rf 8 (rfI rr (rcCo u))]))) := by
  have hg10 := hT.g10
  have hq8 := hT.q8
  intro sz9
  refine start_W (by decide) (Nat.le_of_ble_eq_true rfl) (fun p9 e9 s9 m9 a9 b9 t9 c9 C => ?_)
  refine g_lv (lv' := [(0, .ref x), (1, .int u)]) rfl ?_
  refine g_iload_n (pc := 0) C dX6_cost_0 1 rfl ?_
  refine g_iconst (pc := 1) (v := 0) C dX6_cost_1 (by decide) ?_
  refine g_bipush (pc := 2) (v := 9) C dX6_cost_2 (by decide) ?_
  refine g_rdSI (pc := 4) (val := bI (0 ≤ u ∧ u ≤ 9)) (rest := []) C k_X6_isWithin (c_X6_isWithin l G u 0 9) ml_X6_63 rfl ⟨Nat.le_of_ble_eq_true rfl, Nat.le_of_ble_eq_true rfl⟩ rfl [] rfl rfl (Nat.le_of_ble_eq_true rfl) ⟨by decide, by decide⟩ dX6_cost_4 ?_
  refine g_ifb_ne (pc := 7) (tgt := 17) C dX6_cost_7 (by decide) (fun h7 => ?_) (fun h7 => ?_)
  · obtain ⟨u8, hu8, rfl⟩ := (lt_Q (n := 10) (by decide)).mp h7
    have eu8 : nx (nI u8) = u8 := nx_nI (by omega)
    refine g_aload_n (pc := 17) C dX6_cost_17 0 rfl ?_
    refine g_get (pc := 18) (T := TX6) (N := 9) (v := .ref t) C ib_X6 0 rfl rfl 0 (by decide) mf_X6_10 rfl rfl rfl dX6_cost_18 ?_
    refine g_iload_n (pc := 21) C dX6_cost_21 1 rfl ?_
    refine g_rdSI (pc := 22) (val := cost τ u8) (rest := []) C k_X5_costOf (c_X5_costOf l G t ta tb tc τ u8 (by first | assumption | omega) (by first | assumption | omega)) ml_X6_253 rfl ⟨Nat.le_of_ble_eq_true rfl, Nat.le_of_ble_eq_true rfl⟩ rfl [1, 2, 3, 4] rfl rfl (Nat.le_of_ble_eq_true rfl) ⟨by decide, by decide⟩ dX6_cost_22 ?_
    exact g_retIW (pc := 25) C rfl rfl () (rfl) (by have e9 : rcCo (nI u8) = 0 := (by first | (simp [rcCo, *]; done) | (grind [rcCo])); rw [if_pos e9] <;> (rw [eu8])) (by have e9 : rcCo (nI u8) = 0 := (by first | (simp [rcCo, *]; done) | (grind [rcCo])); rw [e9, rfI_0] <;> (rfl)) dX6_cost_25
  · refine g_aload_n (pc := 10) C dX6_cost_10 0 rfl ?_
    refine g_bipush (pc := 11) (v := (-6)) C dX6_cost_11 (by decide) ?_
    refine g_wrVI (pc := 13) (rest := []) (wr := [oC t 3 [.ref ta, .ref tb, .ref tc, .int (τ 8 0), .int (τ 8 1), .int (τ 8 2), .int (τ 8 3), .int (τ 8 4), .int (τ 8 5), .int (τ 8 6)], iC G ta 16 (fq τ), iC G tb 64 (τ 2), iC G tc 50 (fg τ)]) C (fun _ => [wX x t im it o sv tx ac rf lf] ++ (wT G t ta tb tc τ ++ ([iC G rf 8 (rfI rr (-6))]))) rfl k_X6_refuse (c_X6_refuse l G x t im it o sv tx ac rf lf rr (-6)) ml_X6_59 rfl ⟨Nat.le_of_ble_eq_true rfl, Nat.le_of_ble_eq_true rfl⟩ rfl [0, 5] [1, 2, 3, 4] [4, 0, 1, 2, 3, 5] rfl (by decide) rfl (by decide) (by decide) (by decide) (fun _ => rfl) 0 rfl rfl rfl rfl (Nat.le_of_ble_eq_true rfl) ⟨by decide, by decide⟩ dX6_cost_13 (fun r13 _ e13 => ?_)
    subst e13
    exact g_retIW (pc := 16) C rfl rfl () (rfl) (by have e9 : rcCo u = (-6) := (by first | (simp [rcCo, *]; done) | (grind [rcCo])); rw [if_neg (by rw [e9] <;> (first | done | decide)), e9]) (by have e9 : rcCo u = (-6) := (by first | (simp [rcCo, *]; done) | (grind [rcCo])); rw [e9] <;> (first | done | rfl | (rw [if_neg (by decide)] <;> (first | done | rfl)))) dX6_cost_16
set_option maxRecDepth 20000 in
set_option maxHeartbeats 4000000 in
theorem c_X6_never (l : Launch) (G : gT) (x : Nat) (t : Nat) (im : Nat) (it : Int32) (o : Nat) (sv : Nat) (tx : Nat) (ac : Nat) (rf : Nat) (lf : Int32) (ta : Nat) (tb : Nat) (tc : Nat) (τ : tT) (hT : TI τ) : RI l yX6_never cX6_never 1 (some .int) 9 G [.ref x] ([wX x t im it o sv tx ac rf lf] ++ (wT G t ta tb tc τ)) (nvN τ (tG τ)) := by
  refine start_R (by decide) (Nat.le_of_ble_eq_true rfl) (fun p9 e9 s9 m9 a9 b9 t9 c9 C => ?_)
  refine g_lv (lv' := [(0, .ref x)]) rfl ?_
  refine g_aload_n (pc := 0) C dX6_never_0 0 rfl ?_
  refine g_get (pc := 1) (T := TX6) (N := 9) (v := .ref t) C ib_X6 0 rfl rfl 0 (by decide) mf_X6_10 rfl rfl rfl dX6_never_1 ?_
  refine g_rdSI (pc := 4) (val := nvN τ (tG τ)) (rest := []) C k_X5_groupsThatNeverAnswer (c_X5_groupsThatNeverAnswer l G t ta tb tc τ (by first | assumption | omega)) ml_X6_259 rfl ⟨Nat.le_of_ble_eq_true rfl, Nat.le_of_ble_eq_true rfl⟩ rfl [1, 2, 3, 4] rfl rfl (Nat.le_of_ble_eq_true rfl) ⟨by decide, by decide⟩ dX6_never_4 ?_
  exact g_retIR (pc := 7) C (rfl) (by rfl) dX6_never_7
set_option maxRecDepth 20000 in
set_option maxHeartbeats 4000000 in
theorem c_X6_late (l : Launch) (G : gT) (x : Nat) (t : Nat) (im : Nat) (it : Int32) (o : Nat) (sv : Nat) (tx : Nat) (ac : Nat) (rf : Nat) (lf : Int32) (ta : Nat) (tb : Nat) (tc : Nat) (τ : tT) (q : Int32) (u : Int32) (rr : Nat → Int32) (hT : TI τ) : WI l yX6_late cX6_late 3 (some .int) 10 0 0 G [.ref x, .int q, .int u] ([wX x t im it o sv tx ac rf lf] ++ (wT G t ta tb tc τ ++ ([iC G rf 8 rr]))) (S := Unit) (fun r _ => r = if rcLa τ q u = 0 then laV τ q u else (rcLa τ q u)) (fun _ => [wX x t im it o sv tx ac rf lf] ++ (wT G t ta tb tc τ ++ ([iC G rf 8 (rfI rr (rcLa τ q u))]))) := by
  have hg10 := hT.g10
  have hq8 := hT.q8
  intro sz9
  refine start_W (by decide) (Nat.le_of_ble_eq_true rfl) (fun p9 e9 s9 m9 a9 b9 t9 c9 C => ?_)
  refine g_lv (lv' := [(0, .ref x), (1, .int q), (2, .int u)]) rfl ?_
  refine g_iload_n (pc := 0) C dX6_late_0 1 rfl ?_
  refine g_iconst (pc := 1) (v := (-1)) C dX6_late_1 (by decide) ?_
  refine g_icmp_eq (pc := 2) (tgt := 22) C dX6_late_2 (by decide) (fun h2 => ?_) (fun h2 => ?_)
  · refine g_iload_n (pc := 22) C dX6_late_22 2 rfl ?_
    refine g_iconst (pc := 23) (v := 1) C dX6_late_23 (by decide) ?_
    refine g_bipush (pc := 24) (v := 9) C dX6_late_24 (by decide) ?_
    refine g_rdSI (pc := 26) (val := bI (1 ≤ u ∧ u ≤ 9)) (rest := []) C k_X6_isWithin (c_X6_isWithin l G u 1 9) ml_X6_63 rfl ⟨Nat.le_of_ble_eq_true rfl, Nat.le_of_ble_eq_true rfl⟩ rfl [] rfl rfl (Nat.le_of_ble_eq_true rfl) ⟨by decide, by decide⟩ dX6_late_26 ?_
    refine g_ifb_ne (pc := 29) (tgt := 39) C dX6_late_29 (by decide) (fun h29 => ?_) (fun h29 => ?_)
    · obtain ⟨u8, hu8, rfl⟩ := in19_nI h29
      have eu8 : nx (nI u8) = u8 := nx_nI (by omega)
      refine g_iload_n (pc := 39) C dX6_late_39 1 rfl ?_
      refine g_iconst (pc := 40) (v := (-1)) C dX6_late_40 (by decide) ?_
      refine g_icmp_ne (pc := 41) (tgt := 56) C dX6_late_41 (by decide) (fun h41 => ?_) (fun h41 => ?_)
      · exact absurd h2 h41
      · refine g_aload_n (pc := 44) C dX6_late_44 0 rfl ?_
        refine g_get (pc := 45) (T := TX6) (N := 9) (v := .ref t) C ib_X6 0 rfl rfl 0 (by decide) mf_X6_10 rfl rfl rfl dX6_late_45 ?_
        refine g_iload_n (pc := 48) C dX6_late_48 2 rfl ?_
        refine g_iconst (pc := 49) (v := 1) C dX6_late_49 (by decide) ?_
        refine g_isub (pc := 50) C dX6_late_50 ?_
        refine g_top (z := nI (u8 - 1)) (pk_sub (a := u8) (b := 1) hu8.1) ?_
        refine g_iload_n (pc := 51) C dX6_late_51 2 rfl ?_
        refine g_rdSI (pc := 52) (val := anB τ (u8 - 1) u8) (rest := []) C k_X5_answersBetween (c_X5_answersBetween l G t ta tb tc τ (u8 - 1) u8 (by first | assumption | omega) (by first | assumption | omega) (by first | assumption | omega)) ml_X6_204 rfl ⟨Nat.le_of_ble_eq_true rfl, Nat.le_of_ble_eq_true rfl⟩ rfl [1, 2, 3, 4] rfl rfl (Nat.le_of_ble_eq_true rfl) ⟨by decide, by decide⟩ dX6_late_52 ?_
        exact g_retIW (pc := 55) C rfl rfl () (rfl) (by have e9 : rcLa τ q (nI u8) = 0 := (by first | (simp [rcLa, *]; done) | (grind [rcLa])); rw [if_pos e9] <;> (simp [laV, eu8, *])) (by have e9 : rcLa τ q (nI u8) = 0 := (by first | (simp [rcLa, *]; done) | (grind [rcLa])); rw [e9, rfI_0] <;> (rfl)) dX6_late_55
    · refine g_aload_n (pc := 32) C dX6_late_32 0 rfl ?_
      refine g_bipush (pc := 33) (v := (-6)) C dX6_late_33 (by decide) ?_
      refine g_wrVI (pc := 35) (rest := []) (wr := [oC t 3 [.ref ta, .ref tb, .ref tc, .int (τ 8 0), .int (τ 8 1), .int (τ 8 2), .int (τ 8 3), .int (τ 8 4), .int (τ 8 5), .int (τ 8 6)], iC G ta 16 (fq τ), iC G tb 64 (τ 2), iC G tc 50 (fg τ)]) C (fun _ => [wX x t im it o sv tx ac rf lf] ++ (wT G t ta tb tc τ ++ ([iC G rf 8 (rfI rr (-6))]))) rfl k_X6_refuse (c_X6_refuse l G x t im it o sv tx ac rf lf rr (-6)) ml_X6_59 rfl ⟨Nat.le_of_ble_eq_true rfl, Nat.le_of_ble_eq_true rfl⟩ rfl [0, 5] [1, 2, 3, 4] [4, 0, 1, 2, 3, 5] rfl (by decide) rfl (by decide) (by decide) (by decide) (fun _ => rfl) 0 rfl rfl rfl rfl (Nat.le_of_ble_eq_true rfl) ⟨by decide, by decide⟩ dX6_late_35 (fun r35 _ e35 => ?_)
      subst e35
      exact g_retIW (pc := 38) C rfl rfl () (rfl) (by have e9 : rcLa τ q u = (-6) := (by first | (simp [rcLa, *]; done) | (grind [rcLa])); rw [if_neg (by rw [e9] <;> (first | done | decide)), e9]) (by have e9 : rcLa τ q u = (-6) := (by first | (simp [rcLa, *]; done) | (grind [rcLa])); rw [e9] <;> (first | done | rfl | (rw [if_neg (by decide)] <;> (first | done | rfl)))) dX6_late_38
  · refine g_aload_n (pc := 5) C dX6_late_5 0 rfl ?_
    refine g_get (pc := 6) (T := TX6) (N := 9) (v := .ref t) C ib_X6 0 rfl rfl 0 (by decide) mf_X6_10 rfl rfl rfl dX6_late_6 ?_
    refine g_iload_n (pc := 9) C dX6_late_9 1 rfl ?_
    refine g_rdVI (pc := 10) (val := bI (0 ≤ q ∧ q ≤ nI (tQ τ) - 1)) (rest := []) C k_X3_hasQuestion (c_X3_hasQuestion l G t ta tb tc τ q (by first | assumption | omega)) ml_X6_93 rfl ⟨Nat.le_of_ble_eq_true rfl, Nat.le_of_ble_eq_true rfl⟩ rfl [1, 2, 3, 4] rfl 1 rfl rfl rfl rfl (Nat.le_of_ble_eq_true rfl) ⟨by decide, by decide⟩ dX6_late_10 ?_
    refine g_ifb_ne (pc := 13) (tgt := 22) C dX6_late_13 (by decide) (fun h13 => ?_) (fun h13 => ?_)
    · obtain ⟨q8, hq8, rfl⟩ := isQ_nI hT h13
      have eq8 : nx (nI q8) = q8 := nx_nI (by omega)
      refine g_iload_n (pc := 22) C dX6_late_22 2 rfl ?_
      refine g_iconst (pc := 23) (v := 1) C dX6_late_23 (by decide) ?_
      refine g_bipush (pc := 24) (v := 9) C dX6_late_24 (by decide) ?_
      refine g_rdSI (pc := 26) (val := bI (1 ≤ u ∧ u ≤ 9)) (rest := []) C k_X6_isWithin (c_X6_isWithin l G u 1 9) ml_X6_63 rfl ⟨Nat.le_of_ble_eq_true rfl, Nat.le_of_ble_eq_true rfl⟩ rfl [] rfl rfl (Nat.le_of_ble_eq_true rfl) ⟨by decide, by decide⟩ dX6_late_26 ?_
      refine g_ifb_ne (pc := 29) (tgt := 39) C dX6_late_29 (by decide) (fun h29 => ?_) (fun h29 => ?_)
      · obtain ⟨u8, hu8, rfl⟩ := in19_nI h29
        have eu8 : nx (nI u8) = u8 := nx_nI (by omega)
        refine g_iload_n (pc := 39) C dX6_late_39 1 rfl ?_
        refine g_iconst (pc := 40) (v := (-1)) C dX6_late_40 (by decide) ?_
        refine g_icmp_ne (pc := 41) (tgt := 56) C dX6_late_41 (by decide) (fun h41 => ?_) (fun h41 => ?_)
        · refine g_aload_n (pc := 56) C dX6_late_56 0 rfl ?_
          refine g_get (pc := 57) (T := TX6) (N := 9) (v := .ref t) C ib_X6 0 rfl rfl 0 (by decide) mf_X6_10 rfl rfl rfl dX6_late_57 ?_
          refine g_iload_n (pc := 60) C dX6_late_60 1 rfl ?_
          refine g_iload_n (pc := 61) C dX6_late_61 2 rfl ?_
          refine g_iconst (pc := 62) (v := 1) C dX6_late_62 (by decide) ?_
          refine g_isub (pc := 63) C dX6_late_63 ?_
          refine g_top (z := nI (u8 - 1)) (pk_sub (a := u8) (b := 1) hu8.1) ?_
          refine g_iload_n (pc := 64) C dX6_late_64 2 rfl ?_
          refine g_rdSI (pc := 65) (val := shA τ q8 (u8 - 1) u8) (rest := []) C k_X5_shareBetween (c_X5_shareBetween l G t ta tb tc τ q8 (u8 - 1) u8 (by first | assumption | omega) (by first | assumption | omega) (by first | assumption | omega) (by first | assumption | omega)) ml_X6_214 rfl ⟨Nat.le_of_ble_eq_true rfl, Nat.le_of_ble_eq_true rfl⟩ rfl [1, 2, 3, 4] rfl rfl (Nat.le_of_ble_eq_true rfl) ⟨by decide, by decide⟩ dX6_late_65 ?_
          exact g_retIW (pc := 68) C rfl rfl () (rfl) (by have e9 : rcLa τ (nI q8) (nI u8) = 0 := (by first | (simp [rcLa, *]; done) | (grind [rcLa])); rw [if_pos e9] <;> (simp [laV, eu8, *])) (by have e9 : rcLa τ (nI q8) (nI u8) = 0 := (by first | (simp [rcLa, *]; done) | (grind [rcLa])); rw [e9, rfI_0] <;> (rfl)) dX6_late_68
        · refine g_aload_n (pc := 44) C dX6_late_44 0 rfl ?_
          refine g_get (pc := 45) (T := TX6) (N := 9) (v := .ref t) C ib_X6 0 rfl rfl 0 (by decide) mf_X6_10 rfl rfl rfl dX6_late_45 ?_
          refine g_iload_n (pc := 48) C dX6_late_48 2 rfl ?_
          refine g_iconst (pc := 49) (v := 1) C dX6_late_49 (by decide) ?_
          refine g_isub (pc := 50) C dX6_late_50 ?_
          refine g_top (z := nI (u8 - 1)) (pk_sub (a := u8) (b := 1) hu8.1) ?_
          refine g_iload_n (pc := 51) C dX6_late_51 2 rfl ?_
          refine g_rdSI (pc := 52) (val := anB τ (u8 - 1) u8) (rest := []) C k_X5_answersBetween (c_X5_answersBetween l G t ta tb tc τ (u8 - 1) u8 (by first | assumption | omega) (by first | assumption | omega) (by first | assumption | omega)) ml_X6_204 rfl ⟨Nat.le_of_ble_eq_true rfl, Nat.le_of_ble_eq_true rfl⟩ rfl [1, 2, 3, 4] rfl rfl (Nat.le_of_ble_eq_true rfl) ⟨by decide, by decide⟩ dX6_late_52 ?_
          exact g_retIW (pc := 55) C rfl rfl () (rfl) (by have e9 : rcLa τ (nI q8) (nI u8) = 0 := (by first | (simp [rcLa, *]; done) | (grind [rcLa])); rw [if_pos e9] <;> (simp [laV, eu8, *])) (by have e9 : rcLa τ (nI q8) (nI u8) = 0 := (by first | (simp [rcLa, *]; done) | (grind [rcLa])); rw [e9, rfI_0] <;> (rfl)) dX6_late_55
      · refine g_aload_n (pc := 32) C dX6_late_32 0 rfl ?_
        refine g_bipush (pc := 33) (v := (-6)) C dX6_late_33 (by decide) ?_
        refine g_wrVI (pc := 35) (rest := []) (wr := [oC t 3 [.ref ta, .ref tb, .ref tc, .int (τ 8 0), .int (τ 8 1), .int (τ 8 2), .int (τ 8 3), .int (τ 8 4), .int (τ 8 5), .int (τ 8 6)], iC G ta 16 (fq τ), iC G tb 64 (τ 2), iC G tc 50 (fg τ)]) C (fun _ => [wX x t im it o sv tx ac rf lf] ++ (wT G t ta tb tc τ ++ ([iC G rf 8 (rfI rr (-6))]))) rfl k_X6_refuse (c_X6_refuse l G x t im it o sv tx ac rf lf rr (-6)) ml_X6_59 rfl ⟨Nat.le_of_ble_eq_true rfl, Nat.le_of_ble_eq_true rfl⟩ rfl [0, 5] [1, 2, 3, 4] [4, 0, 1, 2, 3, 5] rfl (by decide) rfl (by decide) (by decide) (by decide) (fun _ => rfl) 0 rfl rfl rfl rfl (Nat.le_of_ble_eq_true rfl) ⟨by decide, by decide⟩ dX6_late_35 (fun r35 _ e35 => ?_)
        subst e35
        exact g_retIW (pc := 38) C rfl rfl () (rfl) (by have e9 : rcLa τ (nI q8) u = (-6) := (by first | (simp [rcLa, *]; done) | (grind [rcLa])); rw [if_neg (by rw [e9] <;> (first | done | decide)), e9]) (by have e9 : rcLa τ (nI q8) u = (-6) := (by first | (simp [rcLa, *]; done) | (grind [rcLa])); rw [e9] <;> (first | done | rfl | (rw [if_neg (by decide)] <;> (first | done | rfl)))) dX6_late_38
    · refine g_aload_n (pc := 16) C dX6_late_16 0 rfl ?_
      refine g_iconst (pc := 17) (v := (-1)) C dX6_late_17 (by decide) ?_
      refine g_wrVI (pc := 18) (rest := []) (wr := [oC t 3 [.ref ta, .ref tb, .ref tc, .int (τ 8 0), .int (τ 8 1), .int (τ 8 2), .int (τ 8 3), .int (τ 8 4), .int (τ 8 5), .int (τ 8 6)], iC G ta 16 (fq τ), iC G tb 64 (τ 2), iC G tc 50 (fg τ)]) C (fun _ => [wX x t im it o sv tx ac rf lf] ++ (wT G t ta tb tc τ ++ ([iC G rf 8 (rfI rr (-1))]))) rfl k_X6_refuse (c_X6_refuse l G x t im it o sv tx ac rf lf rr (-1)) ml_X6_59 rfl ⟨Nat.le_of_ble_eq_true rfl, Nat.le_of_ble_eq_true rfl⟩ rfl [0, 5] [1, 2, 3, 4] [4, 0, 1, 2, 3, 5] rfl (by decide) rfl (by decide) (by decide) (by decide) (fun _ => rfl) 0 rfl rfl rfl rfl (Nat.le_of_ble_eq_true rfl) ⟨by decide, by decide⟩ dX6_late_18 (fun r18 _ e18 => ?_)
      subst e18
      exact g_retIW (pc := 21) C rfl rfl () (rfl) (by have e9 : rcLa τ q u = (-1) := (by first | (simp [rcLa, *]; done) | (grind [rcLa])); rw [if_neg (by rw [e9] <;> (first | done | decide)), e9]) (by have e9 : rcLa τ q u = (-1) := (by first | (simp [rcLa, *]; done) | (grind [rcLa])); rw [e9] <;> (first | done | rfl | (rw [if_neg (by decide)] <;> (first | done | rfl)))) dX6_late_21
set_option maxRecDepth 20000 in
set_option maxHeartbeats 4000000 in
theorem c_X6_fits (l : Launch) (G : gT) (x : Nat) (t : Nat) (im : Nat) (it : Int32) (o : Nat) (sv : Nat) (tx : Nat) (ac : Nat) (rf : Nat) (lf : Int32) (ta : Nat) (tb : Nat) (tc : Nat) (τ : tT) (v : Int32) (w : Int32) (rr : Nat → Int32) (hT : TI τ) : WI l yX6_fits cX6_fits 5 (some .int) 10 0 0 G [.ref x, .int v, .int w] ([wX x t im it o sv tx ac rf lf] ++ (wT G t ta tb tc τ ++ ([iC G rf 8 rr]))) (S := Unit) (fun r _ => r = if rcFt v w = 0 then ftN τ v w (tQ τ) else (rcFt v w)) (fun _ => [wX x t im it o sv tx ac rf lf] ++ (wT G t ta tb tc τ ++ ([iC G rf 8 (rfI rr (rcFt v w))]))) := by
  have hg10 := hT.g10
  have hq8 := hT.q8
  intro sz9
  refine start_W (by decide) (Nat.le_of_ble_eq_true rfl) (fun p9 e9 s9 m9 a9 b9 t9 c9 C => ?_)
  refine g_lv (lv' := [(0, .ref x), (1, .int v), (2, .int w)]) rfl ?_
  refine g_iload_n (pc := 0) C dX6_fits_0 1 rfl ?_
  refine g_iconst (pc := 1) (v := 0) C dX6_fits_1 (by decide) ?_
  refine g_sipush (pc := 2) (v := 1000) C dX6_fits_2 (by decide) ?_
  refine g_rdSI (pc := 5) (val := bI (0 ≤ v ∧ v ≤ 1000)) (rest := []) C k_X6_isWithin (c_X6_isWithin l G v 0 1000) ml_X6_63 rfl ⟨Nat.le_of_ble_eq_true rfl, Nat.le_of_ble_eq_true rfl⟩ rfl [] rfl rfl (Nat.le_of_ble_eq_true rfl) ⟨by decide, by decide⟩ dX6_fits_5 ?_
  refine g_ifb_eq (pc := 8) (tgt := 22) C dX6_fits_8 (by decide) (fun h8 => ?_) (fun h8 => ?_)
  · refine g_aload_n (pc := 22) C dX6_fits_22 0 rfl ?_
    refine g_bipush (pc := 23) (v := (-6)) C dX6_fits_23 (by decide) ?_
    refine g_wrVI (pc := 25) (rest := []) (wr := [oC t 3 [.ref ta, .ref tb, .ref tc, .int (τ 8 0), .int (τ 8 1), .int (τ 8 2), .int (τ 8 3), .int (τ 8 4), .int (τ 8 5), .int (τ 8 6)], iC G ta 16 (fq τ), iC G tb 64 (τ 2), iC G tc 50 (fg τ)]) C (fun _ => [wX x t im it o sv tx ac rf lf] ++ (wT G t ta tb tc τ ++ ([iC G rf 8 (rfI rr (-6))]))) rfl k_X6_refuse (c_X6_refuse l G x t im it o sv tx ac rf lf rr (-6)) ml_X6_59 rfl ⟨Nat.le_of_ble_eq_true rfl, Nat.le_of_ble_eq_true rfl⟩ rfl [0, 5] [1, 2, 3, 4] [4, 0, 1, 2, 3, 5] rfl (by decide) rfl (by decide) (by decide) (by decide) (fun _ => rfl) 0 rfl rfl rfl rfl (Nat.le_of_ble_eq_true rfl) ⟨by decide, by decide⟩ dX6_fits_25 (fun r25 _ e25 => ?_)
    subst e25
    exact g_retIW (pc := 28) C rfl rfl () (rfl) (by have e9 : rcFt v w = (-6) := (by first | (simp [rcFt, *]; done) | (grind [rcFt])); rw [if_neg (by rw [e9] <;> (first | done | decide)), e9]) (by have e9 : rcFt v w = (-6) := (by first | (simp [rcFt, *]; done) | (grind [rcFt])); rw [e9] <;> (first | done | rfl | (rw [if_neg (by decide)] <;> (first | done | rfl)))) dX6_fits_28
  · refine g_iload_n (pc := 11) C dX6_fits_11 2 rfl ?_
    refine g_iconst (pc := 12) (v := 0) C dX6_fits_12 (by decide) ?_
    refine g_sipush (pc := 13) (v := 1000) C dX6_fits_13 (by decide) ?_
    refine g_rdSI (pc := 16) (val := bI (0 ≤ w ∧ w ≤ 1000)) (rest := []) C k_X6_isWithin (c_X6_isWithin l G w 0 1000) ml_X6_63 rfl ⟨Nat.le_of_ble_eq_true rfl, Nat.le_of_ble_eq_true rfl⟩ rfl [] rfl rfl (Nat.le_of_ble_eq_true rfl) ⟨by decide, by decide⟩ dX6_fits_16 ?_
    refine g_ifb_ne (pc := 19) (tgt := 29) C dX6_fits_19 (by decide) (fun h19 => ?_) (fun h19 => ?_)
    · refine g_iconst (pc := 29) (v := 0) C dX6_fits_29 (by decide) ?_
      refine g_istore_n (pc := 30) (lv' := [(3, .int 0), (0, .ref x), (1, .int v), (2, .int w)]) C dX6_fits_30 rfl (by decide) rfl ?_
      refine g_iconst (pc := 31) (v := 0) C dX6_fits_31 (by decide) ?_
      refine g_istore (pc := 32) (lv' := [(4, .int 0), (3, .int 0), (0, .ref x), (1, .int v), (2, .int w)]) C dX6_fits_32 (by decide) rfl ?_
      have key_34 : ∀ (n34 : Nat) (i : Nat) (hi : i ≤ tQ τ), tQ τ - i < n34 → GW p9 l e9 (rmh 10 0 0) s9 m9 a9 b9 t9 c9 (MQ b9 (va_Qi (fun r (_ : Unit) => r = if rcFt v w = 0 then ftN τ v w (tQ τ) else (rcFt v w)) (BW G ([wX x t im it o sv tx ac rf lf] ++ (wT G t ta tb tc τ ++ ([iC G rf 8 rr]))) sz9 (fun _ => [wX x t im it o sv tx ac rf lf] ++ (wT G t ta tb tc τ ++ ([iC G rf 8 (rfI rr (rcFt v w))])))) (va_A ([wX x t im it o sv tx ac rf lf] ++ (wT G t ta tb tc τ ++ ([iC G rf 8 rr]))) sz9)) a9 s9 0 0 (va_A ([wX x t im it o sv tx ac rf lf] ++ (wT G t ta tb tc τ ++ ([iC G rf 8 rr]))) sz9)) G (va_A ([wX x t im it o sv tx ac rf lf] ++ (wT G t ta tb tc τ ++ ([iC G rf 8 rr]))) sz9) true 5 0 0 ([wX x t im it o sv tx ac rf lf] ++ (wT G t ta tb tc τ ++ ([iC G rf 8 rr]))) [(0, .ref x), (1, .int v), (2, .int w), (3, .int (ftN τ v w i)), (4, .int (nI i))] 34 [] := by
        intro n34
        induction n34 with
        | zero => intro i hi hn34; exact absurd hn34 (Nat.not_lt_zero _)
        | succ n34 ih34 =>
          intro i hi hn34
          refine g_iload (pc := 34) C dX6_fits_34 4 rfl ?_
          refine g_aload_n (pc := 36) C dX6_fits_36 0 rfl ?_
          refine g_get (pc := 37) (T := TX6) (N := 9) (v := .ref t) C ib_X6 0 rfl rfl 0 (by decide) mf_X6_10 rfl rfl rfl dX6_fits_37 ?_
          refine g_get (pc := 40) (T := TX3) (N := 10) (v := .int (τ 8 0)) C ib_X3 1 rfl rfl 3 (by decide) mf_X6_239 rfl rfl rfl dX6_fits_40 ?_
          refine g_top (z := nI (tQ τ)) (hT.q) ?_
          refine g_icmpN_ge (pc := 43) (i := i) (j := tQ τ) (tgt := 80) C dX6_fits_43 (by decide) ⟨by omega, by omega⟩ (fun h43 => ?_) (fun h43 => ?_)
          · refine g_iload_n (pc := 80) C dX6_fits_80 3 rfl ?_
            exact g_retIW (pc := 81) C rfl rfl () (rfl) (by have e9 : rcFt v w = 0 := (by first | (simp [rcFt, *]; done) | (grind [rcFt])); rw [if_pos e9] <;> (rw [show i = tQ τ from by omega])) (by have e9 : rcFt v w = 0 := (by first | (simp [rcFt, *]; done) | (grind [rcFt])); rw [e9, rfI_0] <;> (rfl)) dX6_fits_81
          · refine g_aload_n (pc := 46) C dX6_fits_46 0 rfl ?_
            refine g_get (pc := 47) (T := TX6) (N := 9) (v := .ref t) C ib_X6 0 rfl rfl 0 (by decide) mf_X6_10 rfl rfl rfl dX6_fits_47 ?_
            refine g_iload (pc := 50) C dX6_fits_50 4 rfl ?_
            refine g_sipush (pc := 52) (v := 1023) C dX6_fits_52 (by decide) ?_
            refine g_rdVI (pc := 55) (val := share τ i) (rest := []) C k_X3_shareOf (c_X3_shareOf_all l G t ta tb tc τ i (by first | assumption | omega) (by first | assumption | omega)) ml_X6_113 rfl ⟨Nat.le_of_ble_eq_true rfl, Nat.le_of_ble_eq_true rfl⟩ rfl [1, 2, 3, 4] rfl 1 rfl rfl rfl rfl (Nat.le_of_ble_eq_true rfl) ⟨by decide, by decide⟩ dX6_fits_55 ?_
            refine g_iload_n (pc := 58) C dX6_fits_58 1 rfl ?_
            refine g_isub (pc := 59) C dX6_fits_59 ?_
            refine g_mabs (pc := 60) (v := mAbs ((share τ i) - v)) C ml_X6_242 rfl ⟨Nat.le_of_ble_eq_true rfl, Nat.le_of_ble_eq_true rfl⟩ ⟨by decide, by decide⟩ rfl dX6_fits_60 ?_
            refine g_iload_n (pc := 63) C dX6_fits_63 2 rfl ?_
            refine g_icmp_gt (pc := 64) (tgt := 74) C dX6_fits_64 (by decide) (fun h64 => ?_) (fun h64 => ?_)
            · refine g_iinc (pc := 74) (v := nI (i + 1)) (lv' := [(4, .int (nI (i + 1))), (0, .ref x), (1, .int v), (2, .int w), (3, .int (ftN τ v w i))]) C dX6_fits_74 4 rfl (nI_1 i) (by decide) rfl ?_
              refine g_goto (pc := 77) (tgt := 34) C dX6_fits_77 (by decide) ?_
              refine g_sub (lv' := [(0, .ref x), (1, .int v), (2, .int w), (3, .int (ftN τ v w i)), (4, .int (nI (i + 1)))]) [1, 2, 3, 4, 0] rfl ?_
              refine g_lv (lv' := [(0, .ref x), (1, .int v), (2, .int w), (3, .int (ftN τ v w (i + 1))), (4, .int (nI (i + 1)))]) (by rw [ftN, if_neg (Int32.not_le.mpr h64)]) ?_
              exact ih34 (i + 1) (by first | assumption | omega) (by omega)
            · refine g_iload_n (pc := 67) C dX6_fits_67 3 rfl ?_
              refine g_iconst (pc := 68) (v := 1) C dX6_fits_68 (by decide) ?_
              refine g_iload (pc := 69) C dX6_fits_69 4 rfl ?_
              refine g_ishl (pc := 71) C dX6_fits_71 ?_
              refine g_ior (pc := 72) C dX6_fits_72 ?_
              refine g_istore_n (pc := 73) (lv' := [(3, .int ((ftN τ v w i) ||| (1 <<< ((nI i) &&& 31)))), (0, .ref x), (1, .int v), (2, .int w), (4, .int (nI i))]) C dX6_fits_73 rfl (by decide) rfl ?_
              refine g_iinc (pc := 74) (v := nI (i + 1)) (lv' := [(4, .int (nI (i + 1))), (3, .int ((ftN τ v w i) ||| (1 <<< ((nI i) &&& 31)))), (0, .ref x), (1, .int v), (2, .int w)]) C dX6_fits_74 4 rfl (nI_1 i) (by decide) rfl ?_
              refine g_goto (pc := 77) (tgt := 34) C dX6_fits_77 (by decide) ?_
              refine g_sub (lv' := [(0, .ref x), (1, .int v), (2, .int w), (3, .int ((ftN τ v w i) ||| (1 <<< ((nI i) &&& 31)))), (4, .int (nI (i + 1)))]) [2, 3, 4, 1, 0] rfl ?_
              refine g_lv (lv' := [(0, .ref x), (1, .int v), (2, .int w), (3, .int (ftN τ v w (i + 1))), (4, .int (nI (i + 1)))]) (by rw [ftN, if_pos (Int32.not_lt.mp h64)]) ?_
              exact ih34 (i + 1) (by first | assumption | omega) (by omega)
      refine g_sub (lv' := [(0, .ref x), (1, .int v), (2, .int w), (3, .int (ftN τ v w 0)), (4, .int (nI 0))]) [2, 3, 4, 1, 0] rfl ?_
      exact key_34 _ 0 (by first | assumption | omega) (Nat.lt_succ_self _)
    · refine g_aload_n (pc := 22) C dX6_fits_22 0 rfl ?_
      refine g_bipush (pc := 23) (v := (-6)) C dX6_fits_23 (by decide) ?_
      refine g_wrVI (pc := 25) (rest := []) (wr := [oC t 3 [.ref ta, .ref tb, .ref tc, .int (τ 8 0), .int (τ 8 1), .int (τ 8 2), .int (τ 8 3), .int (τ 8 4), .int (τ 8 5), .int (τ 8 6)], iC G ta 16 (fq τ), iC G tb 64 (τ 2), iC G tc 50 (fg τ)]) C (fun _ => [wX x t im it o sv tx ac rf lf] ++ (wT G t ta tb tc τ ++ ([iC G rf 8 (rfI rr (-6))]))) rfl k_X6_refuse (c_X6_refuse l G x t im it o sv tx ac rf lf rr (-6)) ml_X6_59 rfl ⟨Nat.le_of_ble_eq_true rfl, Nat.le_of_ble_eq_true rfl⟩ rfl [0, 5] [1, 2, 3, 4] [4, 0, 1, 2, 3, 5] rfl (by decide) rfl (by decide) (by decide) (by decide) (fun _ => rfl) 0 rfl rfl rfl rfl (Nat.le_of_ble_eq_true rfl) ⟨by decide, by decide⟩ dX6_fits_25 (fun r25 _ e25 => ?_)
      subst e25
      exact g_retIW (pc := 28) C rfl rfl () (rfl) (by have e9 : rcFt v w = (-6) := (by first | (simp [rcFt, *]; done) | (grind [rcFt])); rw [if_neg (by rw [e9] <;> (first | done | decide)), e9]) (by have e9 : rcFt v w = (-6) := (by first | (simp [rcFt, *]; done) | (grind [rcFt])); rw [e9] <;> (first | done | rfl | (rw [if_neg (by decide)] <;> (first | done | rfl)))) dX6_fits_28
set_option maxRecDepth 20000 in
set_option maxHeartbeats 4000000 in
theorem c_X6_halves (l : Launch) (G : gT) (x : Nat) (t : Nat) (im : Nat) (it : Int32) (o : Nat) (sv : Nat) (tx : Nat) (ac : Nat) (rf : Nat) (lf : Int32) (ta : Nat) (tb : Nat) (tc : Nat) (τ : tT) (q : Int32) (rr : Nat → Int32) (hT : TI τ) : WI l yX6_halves cX6_halves 2 (some .int) 10 0 0 G [.ref x, .int q] ([wX x t im it o sv tx ac rf lf] ++ (wT G t ta tb tc τ ++ ([iC G rf 8 rr]))) (S := Unit) (fun r _ => r = if rcHa τ q = 0 then haV τ (nx q) else -10000 + (rcHa τ q)) (fun _ => [wX x t im it o sv tx ac rf lf] ++ (wT G t ta tb tc τ ++ ([iC G rf 8 (rfI rr (rcHa τ q))]))) := by
  have hg10 := hT.g10
  have hq8 := hT.q8
  have hh7 := hT.h.2
  intro sz9
  refine start_W (by decide) (Nat.le_of_ble_eq_true rfl) (fun p9 e9 s9 m9 a9 b9 t9 c9 C => ?_)
  refine g_lv (lv' := [(0, .ref x), (1, .int q)]) rfl ?_
  refine g_aload_n (pc := 0) C dX6_halves_0 0 rfl ?_
  refine g_get (pc := 1) (T := TX6) (N := 9) (v := .ref t) C ib_X6 0 rfl rfl 0 (by decide) mf_X6_10 rfl rfl rfl dX6_halves_1 ?_
  refine g_iload_n (pc := 4) C dX6_halves_4 1 rfl ?_
  refine g_rdVI (pc := 5) (val := bI (0 ≤ q ∧ q ≤ nI (tQ τ) - 1)) (rest := []) C k_X3_hasQuestion (c_X3_hasQuestion l G t ta tb tc τ q (by first | assumption | omega)) ml_X6_93 rfl ⟨Nat.le_of_ble_eq_true rfl, Nat.le_of_ble_eq_true rfl⟩ rfl [1, 2, 3, 4] rfl 1 rfl rfl rfl rfl (Nat.le_of_ble_eq_true rfl) ⟨by decide, by decide⟩ dX6_halves_5 ?_
  refine g_ifb_eq (pc := 8) (tgt := 28) C dX6_halves_8 (by decide) (fun h8 => ?_) (fun h8 => ?_)
  · refine g_aload_n (pc := 28) C dX6_halves_28 0 rfl ?_
    refine g_iconst (pc := 29) (v := (-1)) C dX6_halves_29 (by decide) ?_
    refine g_wrVI (pc := 30) (rest := []) (wr := [oC t 3 [.ref ta, .ref tb, .ref tc, .int (τ 8 0), .int (τ 8 1), .int (τ 8 2), .int (τ 8 3), .int (τ 8 4), .int (τ 8 5), .int (τ 8 6)], iC G ta 16 (fq τ), iC G tb 64 (τ 2), iC G tc 50 (fg τ)]) C (fun _ => [wX x t im it o sv tx ac rf lf] ++ (wT G t ta tb tc τ ++ ([iC G rf 8 (rfI rr (-1))]))) rfl k_X6_refuseFarBelow (c_X6_refuseFarBelow l G x t im it o sv tx ac rf lf rr (-1)) ml_X6_134 rfl ⟨Nat.le_of_ble_eq_true rfl, Nat.le_of_ble_eq_true rfl⟩ rfl [0, 5] [1, 2, 3, 4] [4, 0, 1, 2, 3, 5] rfl (by decide) rfl (by decide) (by decide) (by decide) (fun _ => rfl) 0 rfl rfl rfl rfl (Nat.le_of_ble_eq_true rfl) ⟨by decide, by decide⟩ dX6_halves_30 (fun r30 _ e30 => ?_)
    subst e30
    exact g_retIW (pc := 33) C rfl rfl () (rfl) (by have e9 : rcHa τ q = (-1) := (by first | (simp [rcHa, *]; done) | (grind [rcHa])); rw [if_neg (by rw [e9] <;> (first | done | decide)), e9]) (by have e9 : rcHa τ q = (-1) := (by first | (simp [rcHa, *]; done) | (grind [rcHa])); rw [e9] <;> (first | done | rfl | (rw [if_neg (by decide)] <;> (first | done | rfl)))) dX6_halves_33
  · obtain ⟨q8, hq8, rfl⟩ := isQ_nI hT h8
    have eq8 : nx (nI q8) = q8 := nx_nI (by omega)
    refine g_aload_n (pc := 11) C dX6_halves_11 0 rfl ?_
    refine g_get (pc := 12) (T := TX6) (N := 9) (v := .ref t) C ib_X6 0 rfl rfl 0 (by decide) mf_X6_10 rfl rfl rfl dX6_halves_12 ?_
    refine g_aload_n (pc := 15) C dX6_halves_15 0 rfl ?_
    refine g_get (pc := 16) (T := TX6) (N := 9) (v := .ref t) C ib_X6 0 rfl rfl 0 (by decide) mf_X6_10 rfl rfl rfl dX6_halves_16 ?_
    refine g_get (pc := 19) (T := TX3) (N := 10) (v := .int (τ 8 3)) C ib_X3 1 rfl rfl 6 (by decide) mf_X6_173 rfl rfl rfl dX6_halves_19 ?_
    refine g_top (z := nI (tH τ)) (hT.h.1) ?_
    refine g_rdVI (pc := 22) (val := bI (0 ≤ (nI (tH τ)) ∧ (nI (tH τ)) ≤ nI (tQ τ) - 1)) (rest := []) C k_X3_hasQuestion (c_X3_hasQuestion l G t ta tb tc τ (nI (tH τ)) (by first | assumption | omega)) ml_X6_93 rfl ⟨Nat.le_of_ble_eq_true rfl, Nat.le_of_ble_eq_true rfl⟩ rfl [1, 2, 3, 4] rfl 1 rfl rfl rfl rfl (Nat.le_of_ble_eq_true rfl) ⟨by decide, by decide⟩ dX6_halves_22 ?_
    refine g_ifb_ne (pc := 25) (tgt := 34) C dX6_halves_25 (by decide) (fun h25 => ?_) (fun h25 => ?_)
    · refine g_aload_n (pc := 34) C dX6_halves_34 0 rfl ?_
      refine g_get (pc := 35) (T := TX6) (N := 9) (v := .ref t) C ib_X6 0 rfl rfl 0 (by decide) mf_X6_10 rfl rfl rfl dX6_halves_35 ?_
      refine g_iload_n (pc := 38) C dX6_halves_38 1 rfl ?_
      refine g_sipush (pc := 39) (v := 341) C dX6_halves_39 (by decide) ?_
      refine g_rdVI (pc := 42) (val := shS τ q8 341) (rest := []) C k_X3_shareOf (c_X3_shareOf l G t ta tb tc τ q8 341 (by first | assumption | omega) (by first | assumption | omega)) ml_X6_113 rfl ⟨Nat.le_of_ble_eq_true rfl, Nat.le_of_ble_eq_true rfl⟩ rfl [1, 2, 3, 4] rfl 1 rfl rfl rfl rfl (Nat.le_of_ble_eq_true rfl) ⟨by decide, by decide⟩ dX6_halves_42 ?_
      refine g_aload_n (pc := 45) C dX6_halves_45 0 rfl ?_
      refine g_get (pc := 46) (T := TX6) (N := 9) (v := .ref t) C ib_X6 0 rfl rfl 0 (by decide) mf_X6_10 rfl rfl rfl dX6_halves_46 ?_
      refine g_aload_n (pc := 49) C dX6_halves_49 0 rfl ?_
      refine g_get (pc := 50) (T := TX6) (N := 9) (v := .ref t) C ib_X6 0 rfl rfl 0 (by decide) mf_X6_10 rfl rfl rfl dX6_halves_50 ?_
      refine g_get (pc := 53) (T := TX3) (N := 10) (v := .int (τ 8 3)) C ib_X3 1 rfl rfl 6 (by decide) mf_X6_173 rfl rfl rfl dX6_halves_53 ?_
      refine g_top (z := nI (tH τ)) (hT.h.1) ?_
      refine g_sipush (pc := 56) (v := 682) C dX6_halves_56 (by decide) ?_
      refine g_rdVI (pc := 59) (val := shS τ (tH τ) 682) (rest := [.int (shS τ q8 341)]) C k_X3_shareOf (c_X3_shareOf l G t ta tb tc τ (tH τ) 682 (by first | assumption | omega) (by first | assumption | omega)) ml_X6_113 rfl ⟨Nat.le_of_ble_eq_true rfl, Nat.le_of_ble_eq_true rfl⟩ rfl [1, 2, 3, 4] rfl 1 rfl rfl rfl rfl (Nat.le_of_ble_eq_true rfl) ⟨by decide, by decide⟩ dX6_halves_59 ?_
      refine g_isub (pc := 62) C dX6_halves_62 ?_
      exact g_retIW (pc := 63) C rfl rfl () (rfl) (by have e9 : rcHa τ (nI q8) = 0 := (by first | (simp [rcHa, *]; done) | (grind [rcHa])); rw [if_pos e9] <;> (rw [haV, eq8])) (by have e9 : rcHa τ (nI q8) = 0 := (by first | (simp [rcHa, *]; done) | (grind [rcHa])); rw [e9, rfI_0] <;> (rfl)) dX6_halves_63
    · refine g_aload_n (pc := 28) C dX6_halves_28 0 rfl ?_
      refine g_iconst (pc := 29) (v := (-1)) C dX6_halves_29 (by decide) ?_
      refine g_wrVI (pc := 30) (rest := []) (wr := [oC t 3 [.ref ta, .ref tb, .ref tc, .int (τ 8 0), .int (τ 8 1), .int (τ 8 2), .int (τ 8 3), .int (τ 8 4), .int (τ 8 5), .int (τ 8 6)], iC G ta 16 (fq τ), iC G tb 64 (τ 2), iC G tc 50 (fg τ)]) C (fun _ => [wX x t im it o sv tx ac rf lf] ++ (wT G t ta tb tc τ ++ ([iC G rf 8 (rfI rr (-1))]))) rfl k_X6_refuseFarBelow (c_X6_refuseFarBelow l G x t im it o sv tx ac rf lf rr (-1)) ml_X6_134 rfl ⟨Nat.le_of_ble_eq_true rfl, Nat.le_of_ble_eq_true rfl⟩ rfl [0, 5] [1, 2, 3, 4] [4, 0, 1, 2, 3, 5] rfl (by decide) rfl (by decide) (by decide) (by decide) (fun _ => rfl) 0 rfl rfl rfl rfl (Nat.le_of_ble_eq_true rfl) ⟨by decide, by decide⟩ dX6_halves_30 (fun r30 _ e30 => ?_)
      subst e30
      exact g_retIW (pc := 33) C rfl rfl () (rfl) (by have e9 : rcHa τ (nI q8) = (-1) := (by first | (simp [rcHa, *]; done) | (grind [rcHa])); rw [if_neg (by rw [e9] <;> (first | done | decide)), e9]) (by have e9 : rcHa τ (nI q8) = (-1) := (by first | (simp [rcHa, *]; done) | (grind [rcHa])); rw [e9] <;> (first | done | rfl | (rw [if_neg (by decide)] <;> (first | done | rfl)))) dX6_halves_33
set_option maxRecDepth 20000 in
set_option maxHeartbeats 4000000 in
theorem c_X6_twin (l : Launch) (G : gT) (x : Nat) (t : Nat) (im : Nat) (it : Int32) (o : Nat) (sv : Nat) (tx : Nat) (ac : Nat) (rf : Nat) (lf : Int32) (ta : Nat) (tb : Nat) (tc : Nat) (τ : tT) (q : Int32) (rr : Nat → Int32) (hT : TI τ) : WI l yX6_twin cX6_twin 7 (some .int) 10 0 0 G [.ref x, .int q] ([wX x t im it o sv tx ac rf lf] ++ (wT G t ta tb tc τ ++ ([iC G rf 8 rr]))) (S := Unit) (fun r _ => r = if rcQ1 τ q = 0 then (twN τ (nx q) (tQ τ)).1 else -10 + (rcQ1 τ q)) (fun _ => [wX x t im it o sv tx ac rf lf] ++ (wT G t ta tb tc τ ++ ([iC G rf 8 (rfI rr (rcQ1 τ q))]))) := by
  have hg10 := hT.g10
  have hq8 := hT.q8
  intro sz9
  refine start_W (by decide) (Nat.le_of_ble_eq_true rfl) (fun p9 e9 s9 m9 a9 b9 t9 c9 C => ?_)
  refine g_lv (lv' := [(0, .ref x), (1, .int q)]) rfl ?_
  refine g_aload_n (pc := 0) C dX6_twin_0 0 rfl ?_
  refine g_get (pc := 1) (T := TX6) (N := 9) (v := .ref t) C ib_X6 0 rfl rfl 0 (by decide) mf_X6_10 rfl rfl rfl dX6_twin_1 ?_
  refine g_iload_n (pc := 4) C dX6_twin_4 1 rfl ?_
  refine g_rdVI (pc := 5) (val := bI (0 ≤ q ∧ q ≤ nI (tQ τ) - 1)) (rest := []) C k_X3_hasQuestion (c_X3_hasQuestion l G t ta tb tc τ q (by first | assumption | omega)) ml_X6_93 rfl ⟨Nat.le_of_ble_eq_true rfl, Nat.le_of_ble_eq_true rfl⟩ rfl [1, 2, 3, 4] rfl 1 rfl rfl rfl rfl (Nat.le_of_ble_eq_true rfl) ⟨by decide, by decide⟩ dX6_twin_5 ?_
  refine g_ifb_ne (pc := 8) (tgt := 17) C dX6_twin_8 (by decide) (fun h8 => ?_) (fun h8 => ?_)
  · obtain ⟨q8, hq8, rfl⟩ := isQ_nI hT h8
    have eq8 : nx (nI q8) = q8 := nx_nI (by omega)
    refine g_aload_n (pc := 17) C dX6_twin_17 0 rfl ?_
    refine g_get (pc := 18) (T := TX6) (N := 9) (v := .ref t) C ib_X6 0 rfl rfl 0 (by decide) mf_X6_10 rfl rfl rfl dX6_twin_18 ?_
    refine g_iload_n (pc := 21) C dX6_twin_21 1 rfl ?_
    refine g_sipush (pc := 22) (v := 1023) C dX6_twin_22 (by decide) ?_
    refine g_rdVI (pc := 25) (val := share τ q8) (rest := []) C k_X3_shareOf (c_X3_shareOf_all l G t ta tb tc τ q8 (by first | assumption | omega) (by first | assumption | omega)) ml_X6_113 rfl ⟨Nat.le_of_ble_eq_true rfl, Nat.le_of_ble_eq_true rfl⟩ rfl [1, 2, 3, 4] rfl 1 rfl rfl rfl rfl (Nat.le_of_ble_eq_true rfl) ⟨by decide, by decide⟩ dX6_twin_25 ?_
    refine g_istore_n (pc := 28) (lv' := [(2, .int (share τ q8)), (0, .ref x), (1, .int (nI q8))]) C dX6_twin_28 rfl (by decide) rfl ?_
    refine g_ldcw (pc := 29) (v := 1000000) C mk_X6_263 dX6_twin_29 ?_
    refine g_istore_n (pc := 32) (lv' := [(3, .int 1000000), (2, .int (share τ q8)), (0, .ref x), (1, .int (nI q8))]) C dX6_twin_32 rfl (by decide) rfl ?_
    refine g_iconst (pc := 33) (v := (-1)) C dX6_twin_33 (by decide) ?_
    refine g_istore (pc := 34) (lv' := [(4, .int (-1)), (3, .int 1000000), (2, .int (share τ q8)), (0, .ref x), (1, .int (nI q8))]) C dX6_twin_34 (by decide) rfl ?_
    refine g_iconst (pc := 36) (v := 0) C dX6_twin_36 (by decide) ?_
    refine g_istore (pc := 37) (lv' := [(5, .int 0), (4, .int (-1)), (3, .int 1000000), (2, .int (share τ q8)), (0, .ref x), (1, .int (nI q8))]) C dX6_twin_37 (by decide) rfl ?_
    have key_39 : ∀ (n39 : Nat) (i : Nat) (hi : i ≤ tQ τ), tQ τ - i < n39 → GW p9 l e9 (rmh 10 0 0) s9 m9 a9 b9 t9 c9 (MQ b9 (va_Qi (fun r (_ : Unit) => r = if rcQ1 τ (nI q8) = 0 then (twN τ (nx (nI q8)) (tQ τ)).1 else -10 + (rcQ1 τ (nI q8))) (BW G ([wX x t im it o sv tx ac rf lf] ++ (wT G t ta tb tc τ ++ ([iC G rf 8 rr]))) sz9 (fun _ => [wX x t im it o sv tx ac rf lf] ++ (wT G t ta tb tc τ ++ ([iC G rf 8 (rfI rr (rcQ1 τ (nI q8)))])))) (va_A ([wX x t im it o sv tx ac rf lf] ++ (wT G t ta tb tc τ ++ ([iC G rf 8 rr]))) sz9)) a9 s9 0 0 (va_A ([wX x t im it o sv tx ac rf lf] ++ (wT G t ta tb tc τ ++ ([iC G rf 8 rr]))) sz9)) G (va_A ([wX x t im it o sv tx ac rf lf] ++ (wT G t ta tb tc τ ++ ([iC G rf 8 rr]))) sz9) true 7 0 0 ([wX x t im it o sv tx ac rf lf] ++ (wT G t ta tb tc τ ++ ([iC G rf 8 rr]))) [(0, .ref x), (1, .int (nI q8)), (2, .int (share τ q8)), (3, .int ((twN τ q8 i).2)), (4, .int ((twN τ q8 i).1)), (5, .int (nI i))] 39 [] := by
      intro n39
      induction n39 with
      | zero => intro i hi hn39; exact absurd hn39 (Nat.not_lt_zero _)
      | succ n39 ih39 =>
        intro i hi hn39
        refine g_iload (pc := 39) C dX6_twin_39 5 rfl ?_
        refine g_aload_n (pc := 41) C dX6_twin_41 0 rfl ?_
        refine g_get (pc := 42) (T := TX6) (N := 9) (v := .ref t) C ib_X6 0 rfl rfl 0 (by decide) mf_X6_10 rfl rfl rfl dX6_twin_42 ?_
        refine g_get (pc := 45) (T := TX3) (N := 10) (v := .int (τ 8 0)) C ib_X3 1 rfl rfl 3 (by decide) mf_X6_239 rfl rfl rfl dX6_twin_45 ?_
        refine g_top (z := nI (tQ τ)) (hT.q) ?_
        refine g_icmpN_ge (pc := 48) (i := i) (j := tQ τ) (tgt := 99) C dX6_twin_48 (by decide) ⟨by omega, by omega⟩ (fun h48 => ?_) (fun h48 => ?_)
        · refine g_iload (pc := 99) C dX6_twin_99 4 rfl ?_
          exact g_retIW (pc := 101) C rfl rfl () (rfl) (by have e9 : rcQ1 τ (nI q8) = 0 := (by first | (simp [rcQ1, *]; done) | (grind [rcQ1])); rw [if_pos e9] <;> (rw [eq8, show i = tQ τ from by omega])) (by have e9 : rcQ1 τ (nI q8) = 0 := (by first | (simp [rcQ1, *]; done) | (grind [rcQ1])); rw [e9, rfI_0] <;> (rfl)) dX6_twin_101
        · refine g_iload_n (pc := 51) C dX6_twin_51 2 rfl ?_
          refine g_aload_n (pc := 52) C dX6_twin_52 0 rfl ?_
          refine g_get (pc := 53) (T := TX6) (N := 9) (v := .ref t) C ib_X6 0 rfl rfl 0 (by decide) mf_X6_10 rfl rfl rfl dX6_twin_53 ?_
          refine g_iload (pc := 56) C dX6_twin_56 5 rfl ?_
          refine g_sipush (pc := 58) (v := 1023) C dX6_twin_58 (by decide) ?_
          refine g_rdVI (pc := 61) (val := share τ i) (rest := [.int (share τ q8)]) C k_X3_shareOf (c_X3_shareOf_all l G t ta tb tc τ i (by first | assumption | omega) (by first | assumption | omega)) ml_X6_113 rfl ⟨Nat.le_of_ble_eq_true rfl, Nat.le_of_ble_eq_true rfl⟩ rfl [1, 2, 3, 4] rfl 1 rfl rfl rfl rfl (Nat.le_of_ble_eq_true rfl) ⟨by decide, by decide⟩ dX6_twin_61 ?_
          refine g_iadd (pc := 64) C dX6_twin_64 ?_
          refine g_sipush (pc := 65) (v := 1000) C dX6_twin_65 (by decide) ?_
          refine g_isub (pc := 68) C dX6_twin_68 ?_
          refine g_mabs (pc := 69) (v := mAbs (((share τ q8) + (share τ i)) - 1000)) C ml_X6_242 rfl ⟨Nat.le_of_ble_eq_true rfl, Nat.le_of_ble_eq_true rfl⟩ ⟨by decide, by decide⟩ rfl dX6_twin_69 ?_
          refine g_istore (pc := 72) (lv' := [(6, .int (mAbs (((share τ q8) + (share τ i)) - 1000))), (0, .ref x), (1, .int (nI q8)), (2, .int (share τ q8)), (3, .int ((twN τ q8 i).2)), (4, .int ((twN τ q8 i).1)), (5, .int (nI i))]) C dX6_twin_72 (by decide) rfl ?_
          refine g_iload (pc := 74) C dX6_twin_74 6 rfl ?_
          refine g_iload_n (pc := 76) C dX6_twin_76 2 rfl ?_
          refine g_icmpN_eq (pc := 77) (i := i) (j := q8) (tgt := 93) C dX6_twin_77 (by decide) ⟨by omega, by omega⟩ (fun h77 => ?_) (fun h77 => ?_)
          · refine g_iinc (pc := 93) (v := nI (i + 1)) (lv' := [(5, .int (nI (i + 1))), (6, .int (mAbs (((share τ q8) + (share τ i)) - 1000))), (0, .ref x), (1, .int (nI q8)), (2, .int (share τ q8)), (3, .int ((twN τ q8 i).2)), (4, .int ((twN τ q8 i).1))]) C dX6_twin_93 6 rfl (nI_1 i) (by decide) rfl ?_
            refine g_goto (pc := 96) (tgt := 39) C dX6_twin_96 (by decide) ?_
            refine g_sub (lv' := [(0, .ref x), (1, .int (nI q8)), (2, .int (share τ q8)), (3, .int ((twN τ q8 i).2)), (4, .int ((twN τ q8 i).1)), (5, .int (nI (i + 1)))]) [2, 3, 4, 5, 6, 0] rfl ?_
            refine g_lv (lv' := [(0, .ref x), (1, .int (nI q8)), (2, .int (share τ q8)), (3, .int ((twN τ q8 (i + 1)).2)), (4, .int ((twN τ q8 (i + 1)).1)), (5, .int (nI (i + 1)))]) (by rw [twN, if_neg (fun z => z.1 h77)]) ?_
            exact ih39 (i + 1) (by first | assumption | omega) (by omega)
          · refine g_iload (pc := 80) C dX6_twin_80 0 rfl ?_
            refine g_iload_n (pc := 82) C dX6_twin_82 4 rfl ?_
            refine g_icmp_ge (pc := 83) (tgt := 93) C dX6_twin_83 (by decide) (fun h83 => ?_) (fun h83 => ?_)
            · refine g_iinc (pc := 93) (v := nI (i + 1)) (lv' := [(5, .int (nI (i + 1))), (6, .int (mAbs (((share τ q8) + (share τ i)) - 1000))), (0, .ref x), (1, .int (nI q8)), (2, .int (share τ q8)), (3, .int ((twN τ q8 i).2)), (4, .int ((twN τ q8 i).1))]) C dX6_twin_93 6 rfl (nI_1 i) (by decide) rfl ?_
              refine g_goto (pc := 96) (tgt := 39) C dX6_twin_96 (by decide) ?_
              refine g_sub (lv' := [(0, .ref x), (1, .int (nI q8)), (2, .int (share τ q8)), (3, .int ((twN τ q8 i).2)), (4, .int ((twN τ q8 i).1)), (5, .int (nI (i + 1)))]) [2, 3, 4, 5, 6, 0] rfl ?_
              refine g_lv (lv' := [(0, .ref x), (1, .int (nI q8)), (2, .int (share τ q8)), (3, .int ((twN τ q8 (i + 1)).2)), (4, .int ((twN τ q8 (i + 1)).1)), (5, .int (nI (i + 1)))]) (by rw [twN, if_neg (fun z => Int32.not_le.mpr z.2 h83)]) ?_
              exact ih39 (i + 1) (by first | assumption | omega) (by omega)
            · refine g_iload (pc := 86) C dX6_twin_86 0 rfl ?_
              refine g_istore_n (pc := 88) (lv' := [(3, .int (mAbs (((share τ q8) + (share τ i)) - 1000))), (6, .int (mAbs (((share τ q8) + (share τ i)) - 1000))), (0, .ref x), (1, .int (nI q8)), (2, .int (share τ q8)), (4, .int ((twN τ q8 i).1)), (5, .int (nI i))]) C dX6_twin_88 rfl (by decide) rfl ?_
              refine g_iload (pc := 89) C dX6_twin_89 6 rfl ?_
              refine g_istore (pc := 91) (lv' := [(4, .int (nI i)), (3, .int (mAbs (((share τ q8) + (share τ i)) - 1000))), (6, .int (mAbs (((share τ q8) + (share τ i)) - 1000))), (0, .ref x), (1, .int (nI q8)), (2, .int (share τ q8)), (5, .int (nI i))]) C dX6_twin_91 (by decide) rfl ?_
              refine g_iinc (pc := 93) (v := nI (i + 1)) (lv' := [(5, .int (nI (i + 1))), (4, .int (nI i)), (3, .int (mAbs (((share τ q8) + (share τ i)) - 1000))), (6, .int (mAbs (((share τ q8) + (share τ i)) - 1000))), (0, .ref x), (1, .int (nI q8)), (2, .int (share τ q8))]) C dX6_twin_93 6 rfl (nI_1 i) (by decide) rfl ?_
              refine g_goto (pc := 96) (tgt := 39) C dX6_twin_96 (by decide) ?_
              refine g_sub (lv' := [(0, .ref x), (1, .int (nI q8)), (2, .int (share τ q8)), (3, .int (mAbs (((share τ q8) + (share τ i)) - 1000))), (4, .int (nI i)), (5, .int (nI (i + 1)))]) [4, 5, 6, 2, 1, 0] rfl ?_
              refine g_lv (lv' := [(0, .ref x), (1, .int (nI q8)), (2, .int (share τ q8)), (3, .int ((twN τ q8 (i + 1)).2)), (4, .int ((twN τ q8 (i + 1)).1)), (5, .int (nI (i + 1)))]) (by rw [twN, if_pos ⟨h77, Int32.not_le.mp h83⟩]) ?_
              exact ih39 (i + 1) (by first | assumption | omega) (by omega)
    refine g_sub (lv' := [(0, .ref x), (1, .int (nI q8)), (2, .int (share τ q8)), (3, .int ((twN τ q8 0).2)), (4, .int ((twN τ q8 0).1)), (5, .int (nI 0))]) [4, 5, 3, 2, 1, 0] rfl ?_
    exact key_39 _ 0 (by first | assumption | omega) (Nat.lt_succ_self _)
  · refine g_aload_n (pc := 11) C dX6_twin_11 0 rfl ?_
    refine g_iconst (pc := 12) (v := (-1)) C dX6_twin_12 (by decide) ?_
    refine g_wrVI (pc := 13) (rest := []) (wr := [oC t 3 [.ref ta, .ref tb, .ref tc, .int (τ 8 0), .int (τ 8 1), .int (τ 8 2), .int (τ 8 3), .int (τ 8 4), .int (τ 8 5), .int (τ 8 6)], iC G ta 16 (fq τ), iC G tb 64 (τ 2), iC G tc 50 (fg τ)]) C (fun _ => [wX x t im it o sv tx ac rf lf] ++ (wT G t ta tb tc τ ++ ([iC G rf 8 (rfI rr (-1))]))) rfl k_X6_refuseBelowNone (c_X6_refuseBelowNone l G x t im it o sv tx ac rf lf rr (-1)) ml_X6_247 rfl ⟨Nat.le_of_ble_eq_true rfl, Nat.le_of_ble_eq_true rfl⟩ rfl [0, 5] [1, 2, 3, 4] [4, 0, 1, 2, 3, 5] rfl (by decide) rfl (by decide) (by decide) (by decide) (fun _ => rfl) 0 rfl rfl rfl rfl (Nat.le_of_ble_eq_true rfl) ⟨by decide, by decide⟩ dX6_twin_13 (fun r13 _ e13 => ?_)
    subst e13
    exact g_retIW (pc := 16) C rfl rfl () (rfl) (by have e9 : rcQ1 τ q = (-1) := (by first | (simp [rcQ1, *]; done) | (grind [rcQ1])); rw [if_neg (by rw [e9] <;> (first | done | decide)), e9]) (by have e9 : rcQ1 τ q = (-1) := (by first | (simp [rcQ1, *]; done) | (grind [rcQ1])); rw [e9] <;> (first | done | rfl | (rw [if_neg (by decide)] <;> (first | done | rfl)))) dX6_twin_16
set_option maxRecDepth 20000 in
set_option maxHeartbeats 4000000 in
theorem c_X6_nearest (l : Launch) (G : gT) (x : Nat) (t : Nat) (im : Nat) (it : Int32) (o : Nat) (sv : Nat) (tx : Nat) (ac : Nat) (rf : Nat) (lf : Int32) (ta : Nat) (tb : Nat) (tc : Nat) (τ : tT) (rr : Nat → Int32) (hT : TI τ) : WI l yX6_nearest cX6_nearest 5 (some .int) 10 0 0 G [.ref x] ([wX x t im it o sv tx ac rf lf] ++ (wT G t ta tb tc τ ++ ([iC G rf 8 rr]))) (S := Unit) (fun r _ => r = if rcNe τ = 0 then (neN τ (tQ τ)).1 else (rcNe τ)) (fun _ => [wX x t im it o sv tx ac rf lf] ++ (wT G t ta tb tc τ ++ ([iC G rf 8 (rfI rr (rcNe τ))]))) := by
  have hg10 := hT.g10
  have hq8 := hT.q8
  have hz9 := nI_z (n := tQ τ) (by omega)
  intro sz9
  refine start_W (by decide) (Nat.le_of_ble_eq_true rfl) (fun p9 e9 s9 m9 a9 b9 t9 c9 C => ?_)
  refine g_lv (lv' := [(0, .ref x)]) rfl ?_
  refine g_aload_n (pc := 0) C dX6_nearest_0 0 rfl ?_
  refine g_get (pc := 1) (T := TX6) (N := 9) (v := .ref t) C ib_X6 0 rfl rfl 0 (by decide) mf_X6_10 rfl rfl rfl dX6_nearest_1 ?_
  refine g_get (pc := 4) (T := TX3) (N := 10) (v := .int (τ 8 0)) C ib_X3 1 rfl rfl 3 (by decide) mf_X6_239 rfl rfl rfl dX6_nearest_4 ?_
  refine g_top (z := nI (tQ τ)) (hT.q) ?_
  refine g_if_ne (pc := 7) (tgt := 17) C dX6_nearest_7 (by decide) (fun h7 => ?_) (fun h7 => ?_)
  · refine g_ldcw (pc := 17) (v := 1000000) C mk_X6_263 dX6_nearest_17 ?_
    refine g_istore_n (pc := 20) (lv' := [(1, .int 1000000), (0, .ref x)]) C dX6_nearest_20 rfl (by decide) rfl ?_
    refine g_iconst (pc := 21) (v := (-1)) C dX6_nearest_21 (by decide) ?_
    refine g_istore_n (pc := 22) (lv' := [(2, .int (-1)), (1, .int 1000000), (0, .ref x)]) C dX6_nearest_22 rfl (by decide) rfl ?_
    refine g_iconst (pc := 23) (v := 0) C dX6_nearest_23 (by decide) ?_
    refine g_istore_n (pc := 24) (lv' := [(3, .int 0), (2, .int (-1)), (1, .int 1000000), (0, .ref x)]) C dX6_nearest_24 rfl (by decide) rfl ?_
    have key_25 : ∀ (n25 : Nat) (i : Nat) (hi : i ≤ tQ τ), tQ τ - i < n25 → GW p9 l e9 (rmh 10 0 0) s9 m9 a9 b9 t9 c9 (MQ b9 (va_Qi (fun r (_ : Unit) => r = if rcNe τ = 0 then (neN τ (tQ τ)).1 else (rcNe τ)) (BW G ([wX x t im it o sv tx ac rf lf] ++ (wT G t ta tb tc τ ++ ([iC G rf 8 rr]))) sz9 (fun _ => [wX x t im it o sv tx ac rf lf] ++ (wT G t ta tb tc τ ++ ([iC G rf 8 (rfI rr (rcNe τ))])))) (va_A ([wX x t im it o sv tx ac rf lf] ++ (wT G t ta tb tc τ ++ ([iC G rf 8 rr]))) sz9)) a9 s9 0 0 (va_A ([wX x t im it o sv tx ac rf lf] ++ (wT G t ta tb tc τ ++ ([iC G rf 8 rr]))) sz9)) G (va_A ([wX x t im it o sv tx ac rf lf] ++ (wT G t ta tb tc τ ++ ([iC G rf 8 rr]))) sz9) true 5 0 0 ([wX x t im it o sv tx ac rf lf] ++ (wT G t ta tb tc τ ++ ([iC G rf 8 rr]))) [(0, .ref x), (1, .int ((neN τ i).2)), (2, .int ((neN τ i).1)), (3, .int (nI i))] 25 [] := by
      intro n25
      induction n25 with
      | zero => intro i hi hn25; exact absurd hn25 (Nat.not_lt_zero _)
      | succ n25 ih25 =>
        intro i hi hn25
        refine g_iload_n (pc := 25) C dX6_nearest_25 3 rfl ?_
        refine g_aload_n (pc := 26) C dX6_nearest_26 0 rfl ?_
        refine g_get (pc := 27) (T := TX6) (N := 9) (v := .ref t) C ib_X6 0 rfl rfl 0 (by decide) mf_X6_10 rfl rfl rfl dX6_nearest_27 ?_
        refine g_get (pc := 30) (T := TX3) (N := 10) (v := .int (τ 8 0)) C ib_X3 1 rfl rfl 3 (by decide) mf_X6_239 rfl rfl rfl dX6_nearest_30 ?_
        refine g_top (z := nI (tQ τ)) (hT.q) ?_
        refine g_icmpN_ge (pc := 33) (i := i) (j := tQ τ) (tgt := 66) C dX6_nearest_33 (by decide) ⟨by omega, by omega⟩ (fun h33 => ?_) (fun h33 => ?_)
        · refine g_iload_n (pc := 66) C dX6_nearest_66 2 rfl ?_
          exact g_retIW (pc := 67) C rfl rfl () (rfl) (by have e9 : rcNe τ = 0 := (by first | (simp [rcNe, *]; done) | (grind [rcNe])); rw [if_pos e9] <;> (rw [show i = tQ τ from by omega])) (by have e9 : rcNe τ = 0 := (by first | (simp [rcNe, *]; done) | (grind [rcNe])); rw [e9, rfI_0] <;> (rfl)) dX6_nearest_67
        · refine g_aload_n (pc := 36) C dX6_nearest_36 0 rfl ?_
          refine g_get (pc := 37) (T := TX6) (N := 9) (v := .ref t) C ib_X6 0 rfl rfl 0 (by decide) mf_X6_10 rfl rfl rfl dX6_nearest_37 ?_
          refine g_iload_n (pc := 40) C dX6_nearest_40 3 rfl ?_
          refine g_rdVI (pc := 41) (val := wrong τ i) (rest := []) C k_X3_wrongOf (c_X3_wrongOf l G t ta tb tc τ i (by first | assumption | omega) (by first | assumption | omega)) ml_X6_143 rfl ⟨Nat.le_of_ble_eq_true rfl, Nat.le_of_ble_eq_true rfl⟩ rfl [1, 2, 3, 4] rfl 1 rfl rfl rfl rfl (Nat.le_of_ble_eq_true rfl) ⟨by decide, by decide⟩ dX6_nearest_41 ?_
          refine g_mabs (pc := 44) (v := mAbs (wrong τ i)) C ml_X6_242 rfl ⟨Nat.le_of_ble_eq_true rfl, Nat.le_of_ble_eq_true rfl⟩ ⟨by decide, by decide⟩ rfl dX6_nearest_44 ?_
          refine g_istore (pc := 47) (lv' := [(4, .int (mAbs (wrong τ i))), (0, .ref x), (1, .int ((neN τ i).2)), (2, .int ((neN τ i).1)), (3, .int (nI i))]) C dX6_nearest_47 (by decide) rfl ?_
          refine g_iload (pc := 49) C dX6_nearest_49 0 rfl ?_
          refine g_iload_n (pc := 51) C dX6_nearest_51 2 rfl ?_
          refine g_icmp_ge (pc := 52) (tgt := 60) C dX6_nearest_52 (by decide) (fun h52 => ?_) (fun h52 => ?_)
          · refine g_iinc (pc := 60) (v := nI (i + 1)) (lv' := [(3, .int (nI (i + 1))), (4, .int (mAbs (wrong τ i))), (0, .ref x), (1, .int ((neN τ i).2)), (2, .int ((neN τ i).1))]) C dX6_nearest_60 4 rfl (nI_1 i) (by decide) rfl ?_
            refine g_goto (pc := 63) (tgt := 25) C dX6_nearest_63 (by decide) ?_
            refine g_sub (lv' := [(0, .ref x), (1, .int ((neN τ i).2)), (2, .int ((neN τ i).1)), (3, .int (nI (i + 1)))]) [2, 3, 4, 0] rfl ?_
            refine g_lv (lv' := [(0, .ref x), (1, .int ((neN τ (i + 1)).2)), (2, .int ((neN τ (i + 1)).1)), (3, .int (nI (i + 1)))]) (by rw [neN, if_neg (fun z => Int32.not_le.mpr z h52)]) ?_
            exact ih25 (i + 1) (by first | assumption | omega) (by omega)
          · refine g_iload (pc := 55) C dX6_nearest_55 0 rfl ?_
            refine g_istore_n (pc := 57) (lv' := [(1, .int (mAbs (wrong τ i))), (4, .int (mAbs (wrong τ i))), (0, .ref x), (2, .int ((neN τ i).1)), (3, .int (nI i))]) C dX6_nearest_57 rfl (by decide) rfl ?_
            refine g_iload_n (pc := 58) C dX6_nearest_58 4 rfl ?_
            refine g_istore_n (pc := 59) (lv' := [(2, .int (nI i)), (1, .int (mAbs (wrong τ i))), (4, .int (mAbs (wrong τ i))), (0, .ref x), (3, .int (nI i))]) C dX6_nearest_59 rfl (by decide) rfl ?_
            refine g_iinc (pc := 60) (v := nI (i + 1)) (lv' := [(3, .int (nI (i + 1))), (2, .int (nI i)), (1, .int (mAbs (wrong τ i))), (4, .int (mAbs (wrong τ i))), (0, .ref x)]) C dX6_nearest_60 4 rfl (nI_1 i) (by decide) rfl ?_
            refine g_goto (pc := 63) (tgt := 25) C dX6_nearest_63 (by decide) ?_
            refine g_sub (lv' := [(0, .ref x), (1, .int (mAbs (wrong τ i))), (2, .int (nI i)), (3, .int (nI (i + 1)))]) [4, 2, 1, 0] rfl ?_
            refine g_lv (lv' := [(0, .ref x), (1, .int ((neN τ (i + 1)).2)), (2, .int ((neN τ (i + 1)).1)), (3, .int (nI (i + 1)))]) (by rw [neN, if_pos (Int32.not_le.mp h52)]) ?_
            exact ih25 (i + 1) (by first | assumption | omega) (by omega)
    refine g_sub (lv' := [(0, .ref x), (1, .int ((neN τ 0).2)), (2, .int ((neN τ 0).1)), (3, .int (nI 0))]) [3, 2, 1, 0] rfl ?_
    exact key_25 _ 0 (by first | assumption | omega) (Nat.lt_succ_self _)
  · refine g_aload_n (pc := 10) C dX6_nearest_10 0 rfl ?_
    refine g_bipush (pc := 11) (v := (-5)) C dX6_nearest_11 (by decide) ?_
    refine g_wrVI (pc := 13) (rest := []) (wr := [oC t 3 [.ref ta, .ref tb, .ref tc, .int (τ 8 0), .int (τ 8 1), .int (τ 8 2), .int (τ 8 3), .int (τ 8 4), .int (τ 8 5), .int (τ 8 6)], iC G ta 16 (fq τ), iC G tb 64 (τ 2), iC G tc 50 (fg τ)]) C (fun _ => [wX x t im it o sv tx ac rf lf] ++ (wT G t ta tb tc τ ++ ([iC G rf 8 (rfI rr (-5))]))) rfl k_X6_refuse (c_X6_refuse l G x t im it o sv tx ac rf lf rr (-5)) ml_X6_59 rfl ⟨Nat.le_of_ble_eq_true rfl, Nat.le_of_ble_eq_true rfl⟩ rfl [0, 5] [1, 2, 3, 4] [4, 0, 1, 2, 3, 5] rfl (by decide) rfl (by decide) (by decide) (by decide) (fun _ => rfl) 0 rfl rfl rfl rfl (Nat.le_of_ble_eq_true rfl) ⟨by decide, by decide⟩ dX6_nearest_13 (fun r13 _ e13 => ?_)
    subst e13
    exact g_retIW (pc := 16) C rfl rfl () (rfl) (by have e9 : rcNe τ = (-5) := (by first | (simp [rcNe, *]; done) | (grind [rcNe])); rw [if_neg (by rw [e9] <;> (first | done | decide)), e9]) (by have e9 : rcNe τ = (-5) := (by first | (simp [rcNe, *]; done) | (grind [rcNe])); rw [e9] <;> (first | done | rfl | (rw [if_neg (by decide)] <;> (first | done | rfl)))) dX6_nearest_16
set_option maxRecDepth 20000 in
set_option maxHeartbeats 4000000 in
theorem c_X6_blame (l : Launch) (G : gT) (x : Nat) (t : Nat) (im : Nat) (it : Int32) (o : Nat) (sv : Nat) (tx : Nat) (ac : Nat) (rf : Nat) (lf : Int32) (ta : Nat) (tb : Nat) (tc : Nat) (τ : tT) (hT : TI τ) : RI l yX6_blame cX6_blame 6 (some .int) 9 G [.ref x] ([wX x t im it o sv tx ac rf lf] ++ (wT G t ta tb tc τ)) ((blN τ (tQ τ)).2) := by
  have hg10 := hT.g10
  have hq8 := hT.q8
  refine start_R (by decide) (Nat.le_of_ble_eq_true rfl) (fun p9 e9 s9 m9 a9 b9 t9 c9 C => ?_)
  refine g_lv (lv' := [(0, .ref x)]) rfl ?_
  refine g_iconst (pc := 0) (v := 0) C dX6_blame_0 (by decide) ?_
  refine g_istore_n (pc := 1) (lv' := [(1, .int 0), (0, .ref x)]) C dX6_blame_1 rfl (by decide) rfl ?_
  refine g_iconst (pc := 2) (v := (-1)) C dX6_blame_2 (by decide) ?_
  refine g_istore_n (pc := 3) (lv' := [(2, .int (-1)), (1, .int 0), (0, .ref x)]) C dX6_blame_3 rfl (by decide) rfl ?_
  refine g_iconst (pc := 4) (v := 0) C dX6_blame_4 (by decide) ?_
  refine g_istore_n (pc := 5) (lv' := [(3, .int 0), (2, .int (-1)), (1, .int 0), (0, .ref x)]) C dX6_blame_5 rfl (by decide) rfl ?_
  have key_6 : ∀ (n6 : Nat) (i : Nat) (hi : i ≤ tQ τ), tQ τ - i < n6 → GW p9 l e9 (rmh 9 0 0) s9 m9 a9 b9 t9 c9 (MQ b9 (QcI ((blN τ (tQ τ)).2)) a9 s9 0 0 NoA) G NoA false 6 0 0 ([wX x t im it o sv tx ac rf lf] ++ (wT G t ta tb tc τ)) [(0, .ref x), (1, .int ((blN τ i).1)), (2, .int ((blN τ i).2)), (3, .int (nI i))] 6 [] := by
    intro n6
    induction n6 with
    | zero => intro i hi hn6; exact absurd hn6 (Nat.not_lt_zero _)
    | succ n6 ih6 =>
      intro i hi hn6
      refine g_iload_n (pc := 6) C dX6_blame_6 3 rfl ?_
      refine g_aload_n (pc := 7) C dX6_blame_7 0 rfl ?_
      refine g_get (pc := 8) (T := TX6) (N := 9) (v := .ref t) C ib_X6 0 rfl rfl 0 (by decide) mf_X6_10 rfl rfl rfl dX6_blame_8 ?_
      refine g_get (pc := 11) (T := TX3) (N := 10) (v := .int (τ 8 0)) C ib_X3 1 rfl rfl 3 (by decide) mf_X6_239 rfl rfl rfl dX6_blame_11 ?_
      refine g_top (z := nI (tQ τ)) (hT.q) ?_
      refine g_icmpN_ge (pc := 14) (i := i) (j := tQ τ) (tgt := 76) C dX6_blame_14 (by decide) ⟨by omega, by omega⟩ (fun h14 => ?_) (fun h14 => ?_)
      · refine g_iload_n (pc := 76) C dX6_blame_76 2 rfl ?_
        exact g_retIR (pc := 77) C (rfl) (by rw [show i = tQ τ from by omega]) dX6_blame_77
      · refine g_iconst (pc := 17) (v := 0) C dX6_blame_17 (by decide) ?_
        refine g_istore (pc := 18) (lv' := [(4, .int 0), (0, .ref x), (1, .int ((blN τ i).1)), (2, .int ((blN τ i).2)), (3, .int (nI i))]) C dX6_blame_18 (by decide) rfl ?_
        have key_20 : ∀ (n20 : Nat) (j : Nat) (hj : j ≤ tQ τ), tQ τ - j < n20 → GW p9 l e9 (rmh 9 0 0) s9 m9 a9 b9 t9 c9 (MQ b9 (QcI ((blN τ (tQ τ)).2)) a9 s9 0 0 NoA) G NoA false 6 0 0 ([wX x t im it o sv tx ac rf lf] ++ (wT G t ta tb tc τ)) [(0, .ref x), (1, .int ((blI τ i (blN τ i) j).1)), (2, .int ((blI τ i (blN τ i) j).2)), (3, .int (nI i)), (4, .int (nI j))] 20 [] := by
          intro n20
          induction n20 with
          | zero => intro j hj hn20; exact absurd hn20 (Nat.not_lt_zero _)
          | succ n20 ih20 =>
            intro j hj hn20
            refine g_iload (pc := 20) C dX6_blame_20 4 rfl ?_
            refine g_aload_n (pc := 22) C dX6_blame_22 0 rfl ?_
            refine g_get (pc := 23) (T := TX6) (N := 9) (v := .ref t) C ib_X6 0 rfl rfl 0 (by decide) mf_X6_10 rfl rfl rfl dX6_blame_23 ?_
            refine g_get (pc := 26) (T := TX3) (N := 10) (v := .int (τ 8 0)) C ib_X3 1 rfl rfl 3 (by decide) mf_X6_239 rfl rfl rfl dX6_blame_26 ?_
            refine g_top (z := nI (tQ τ)) (hT.q) ?_
            refine g_icmpN_ge (pc := 29) (i := j) (j := tQ τ) (tgt := 70) C dX6_blame_29 (by decide) ⟨by omega, by omega⟩ (fun h29 => ?_) (fun h29 => ?_)
            · refine g_iinc (pc := 70) (v := nI (i + 1)) (lv' := [(3, .int (nI (i + 1))), (0, .ref x), (1, .int ((blI τ i (blN τ i) j).1)), (2, .int ((blI τ i (blN τ i) j).2)), (4, .int (nI j))]) C dX6_blame_70 3 rfl (nI_1 i) (by decide) rfl ?_
              refine g_goto (pc := 73) (tgt := 6) C dX6_blame_73 (by decide) ?_
              refine g_sub (lv' := [(0, .ref x), (1, .int ((blI τ i (blN τ i) j).1)), (2, .int ((blI τ i (blN τ i) j).2)), (3, .int (nI (i + 1)))]) [1, 2, 3, 0] rfl ?_
              refine g_lv (lv' := [(0, .ref x), (1, .int ((blN τ (i + 1)).1)), (2, .int ((blN τ (i + 1)).2)), (3, .int (nI (i + 1)))]) (by rw [show j = tQ τ from by omega]; rfl) ?_
              exact ih6 (i + 1) (by first | assumption | omega) (by omega)
            · refine g_aload_n (pc := 32) C dX6_blame_32 0 rfl ?_
              refine g_get (pc := 33) (T := TX6) (N := 9) (v := .ref t) C ib_X6 0 rfl rfl 0 (by decide) mf_X6_10 rfl rfl rfl dX6_blame_33 ?_
              refine g_iload_n (pc := 36) C dX6_blame_36 3 rfl ?_
              refine g_iload (pc := 37) C dX6_blame_37 4 rfl ?_
              refine g_rdVI (pc := 39) (val := τ 2 (i * 8 + j)) (rest := []) C k_X3_bearingOf (c_X3_bearingOf l G t ta tb tc τ i j (by first | assumption | omega) (by first | assumption | omega)) ml_X6_164 rfl ⟨Nat.le_of_ble_eq_true rfl, Nat.le_of_ble_eq_true rfl⟩ rfl [1, 2, 3, 4] rfl 1 rfl rfl rfl rfl (Nat.le_of_ble_eq_true rfl) ⟨by decide, by decide⟩ dX6_blame_39 ?_
              refine g_mabs (pc := 42) (v := mAbs (τ 2 (i * 8 + j))) C ml_X6_242 rfl ⟨Nat.le_of_ble_eq_true rfl, Nat.le_of_ble_eq_true rfl⟩ ⟨by decide, by decide⟩ rfl dX6_blame_42 ?_
              refine g_istore (pc := 45) (lv' := [(5, .int (mAbs (τ 2 (i * 8 + j)))), (0, .ref x), (1, .int ((blI τ i (blN τ i) j).1)), (2, .int ((blI τ i (blN τ i) j).2)), (3, .int (nI i)), (4, .int (nI j))]) C dX6_blame_45 (by decide) rfl ?_
              refine g_iload (pc := 47) C dX6_blame_47 0 rfl ?_
              refine g_iload_n (pc := 49) C dX6_blame_49 2 rfl ?_
              refine g_icmp_le (pc := 50) (tgt := 64) C dX6_blame_50 (by decide) (fun h50 => ?_) (fun h50 => ?_)
              · refine g_iinc (pc := 64) (v := nI (j + 1)) (lv' := [(4, .int (nI (j + 1))), (5, .int (mAbs (τ 2 (i * 8 + j)))), (0, .ref x), (1, .int ((blI τ i (blN τ i) j).1)), (2, .int ((blI τ i (blN τ i) j).2)), (3, .int (nI i))]) C dX6_blame_64 5 rfl (nI_1 j) (by decide) rfl ?_
                refine g_goto (pc := 67) (tgt := 20) C dX6_blame_67 (by decide) ?_
                refine g_sub (lv' := [(0, .ref x), (1, .int ((blI τ i (blN τ i) j).1)), (2, .int ((blI τ i (blN τ i) j).2)), (3, .int (nI i)), (4, .int (nI (j + 1)))]) [2, 3, 4, 5, 0] rfl ?_
                refine g_lv (lv' := [(0, .ref x), (1, .int ((blI τ i (blN τ i) (j + 1)).1)), (2, .int ((blI τ i (blN τ i) (j + 1)).2)), (3, .int (nI i)), (4, .int (nI (j + 1)))]) (by rw [blI, if_neg (Int32.not_lt.mpr h50)]) ?_
                exact ih20 (j + 1) (by first | assumption | omega) (by omega)
              · refine g_iload (pc := 53) C dX6_blame_53 0 rfl ?_
                refine g_istore_n (pc := 55) (lv' := [(1, .int (mAbs (τ 2 (i * 8 + j)))), (5, .int (mAbs (τ 2 (i * 8 + j)))), (0, .ref x), (2, .int ((blI τ i (blN τ i) j).2)), (3, .int (nI i)), (4, .int (nI j))]) C dX6_blame_55 rfl (by decide) rfl ?_
                refine g_bipush (pc := 56) (v := 100) C dX6_blame_56 (by decide) ?_
                refine g_iload_n (pc := 58) C dX6_blame_58 4 rfl ?_
                refine g_imulN (pc := 59) (i := 100) (j := i) C dX6_blame_59 ?_
                refine g_iload (pc := 60) C dX6_blame_60 5 rfl ?_
                refine g_iaddN (pc := 62) (i := 100 * i) (j := j) C dX6_blame_62 ?_
                refine g_istore_n (pc := 63) (lv' := [(2, .int (nI ((100 * i) + j))), (1, .int (mAbs (τ 2 (i * 8 + j)))), (5, .int (mAbs (τ 2 (i * 8 + j)))), (0, .ref x), (3, .int (nI i)), (4, .int (nI j))]) C dX6_blame_63 rfl (by decide) rfl ?_
                refine g_iinc (pc := 64) (v := nI (j + 1)) (lv' := [(4, .int (nI (j + 1))), (2, .int (nI ((100 * i) + j))), (1, .int (mAbs (τ 2 (i * 8 + j)))), (5, .int (mAbs (τ 2 (i * 8 + j)))), (0, .ref x), (3, .int (nI i))]) C dX6_blame_64 5 rfl (nI_1 j) (by decide) rfl ?_
                refine g_goto (pc := 67) (tgt := 20) C dX6_blame_67 (by decide) ?_
                refine g_sub (lv' := [(0, .ref x), (1, .int (mAbs (τ 2 (i * 8 + j)))), (2, .int (nI ((100 * i) + j))), (3, .int (nI i)), (4, .int (nI (j + 1)))]) [4, 2, 1, 5, 0] rfl ?_
                refine g_lv (lv' := [(0, .ref x), (1, .int ((blI τ i (blN τ i) (j + 1)).1)), (2, .int ((blI τ i (blN τ i) (j + 1)).2)), (3, .int (nI i)), (4, .int (nI (j + 1)))]) (by rw [blI, if_pos (Int32.not_le.mp h50)]) ?_
                exact ih20 (j + 1) (by first | assumption | omega) (by omega)
        refine g_sub (lv' := [(0, .ref x), (1, .int ((blI τ i (blN τ i) 0).1)), (2, .int ((blI τ i (blN τ i) 0).2)), (3, .int (nI i)), (4, .int (nI 0))]) [1, 2, 3, 4, 0] rfl ?_
        exact key_20 _ 0 (by first | assumption | omega) (Nat.lt_succ_self _)
  refine g_sub (lv' := [(0, .ref x), (1, .int ((blN τ 0).1)), (2, .int ((blN τ 0).2)), (3, .int (nI 0))]) [3, 2, 1, 0] rfl ?_
  exact key_6 _ 0 (by first | assumption | omega) (Nat.lt_succ_self _)
set_option maxRecDepth 20000 in
set_option maxHeartbeats 4000000 in
theorem c_X6_refusalOfRound (l : Launch) (G : gT) (x : Nat) (t : Nat) (im : Nat) (it : Int32) (o : Nat) (sv : Nat) (tx : Nat) (ac : Nat) (rf : Nat) (lf : Int32) (sa : Nat) (sb : Nat) (sc : Nat) (hd : Nat → Int32) (sz : Nat → Int32) (el : Nat → Int64) (s : Int32) (n : Int32) (i : Int32) : RI l yX6_refusalOfRound cX6_refusalOfRound 5 (some .int) 5 G [.ref x, .int s, .int n, .int i] ([wX x t im it o sv tx ac rf lf] ++ (wS G sv sa sb sc hd sz el)) (rcRd hd sz s n i) := by
  refine start_R (by decide) (Nat.le_of_ble_eq_true rfl) (fun p9 e9 s9 m9 a9 b9 t9 c9 C => ?_)
  refine g_lv (lv' := [(0, .ref x), (1, .int s), (2, .int n), (3, .int i)]) rfl ?_
  refine g_aload_n (pc := 0) C dX6_refusalOfRound_0 0 rfl ?_
  refine g_get (pc := 1) (T := TX6) (N := 9) (v := .ref sv) C ib_X6 0 rfl rfl 4 (by decide) mf_X6_29 rfl rfl rfl dX6_refusalOfRound_1 ?_
  refine g_iload_n (pc := 4) C dX6_refusalOfRound_4 1 rfl ?_
  refine g_rdVI (pc := 5) (val := rfRows hd s s) (rest := []) C k_X2_refusalOfRow (c_X2_refusalOfRow l G sv sa sb sc hd sz el s) ml_X6_71 rfl ⟨Nat.le_of_ble_eq_true rfl, Nat.le_of_ble_eq_true rfl⟩ rfl [1, 2, 3, 4] rfl 1 rfl rfl rfl rfl (Nat.le_of_ble_eq_true rfl) ⟨by decide, by decide⟩ dX6_refusalOfRound_5 ?_
  refine g_istore (pc := 8) (lv' := [(4, .int (rfRows hd s s)), (0, .ref x), (1, .int s), (2, .int n), (3, .int i)]) C dX6_refusalOfRound_8 (by decide) rfl ?_
  refine g_iload (pc := 10) C dX6_refusalOfRound_10 0 rfl ?_
  refine g_if_eq (pc := 12) (tgt := 18) C dX6_refusalOfRound_12 (by decide) (fun h12 => ?_) (fun h12 => ?_)
  · obtain ⟨s8, hs8, rfl⟩ := in8_nI (rf_in h12).1
    have es8 : nx (nI s8) = s8 := nx_nI (by omega)
    refine g_iload_n (pc := 18) C dX6_refusalOfRound_18 3 rfl ?_
    refine g_if_ge (pc := 19) (tgt := 25) C dX6_refusalOfRound_19 (by decide) (fun h19 => ?_) (fun h19 => ?_)
    · refine g_iload_n (pc := 25) C dX6_refusalOfRound_25 3 rfl ?_
      refine g_aload_n (pc := 26) C dX6_refusalOfRound_26 1 rfl ?_
      refine g_get (pc := 27) (T := TX6) (N := 9) (v := .ref sv) C ib_X6 0 rfl rfl 4 (by decide) mf_X6_29 rfl rfl rfl dX6_refusalOfRound_27 ?_
      refine g_iload_n (pc := 30) C dX6_refusalOfRound_30 2 rfl ?_
      refine g_rdVI (pc := 31) (val := sz s8) (rest := [.int n]) C k_X2_sizeOf (c_X2_sizeOf l G sv sa sb sc hd sz el s8 (by first | assumption | omega)) ml_X6_183 rfl ⟨Nat.le_of_ble_eq_true rfl, Nat.le_of_ble_eq_true rfl⟩ rfl [1, 2, 3, 4] rfl 1 rfl rfl rfl rfl (Nat.le_of_ble_eq_true rfl) ⟨by decide, by decide⟩ dX6_refusalOfRound_31 ?_
      refine g_icmp_gt (pc := 34) (tgt := 48) C dX6_refusalOfRound_34 (by decide) (fun h34 => ?_) (fun h34 => ?_)
      · refine g_bipush (pc := 48) (v := (-5)) C dX6_refusalOfRound_48 (by decide) ?_
        exact g_retIR (pc := 50) C (rfl) (by first | (simp [rcRd, *]; done) | (grind [rcRd])) dX6_refusalOfRound_50
      · refine g_iload_n (pc := 37) C dX6_refusalOfRound_37 4 rfl ?_
        refine g_iconst (pc := 38) (v := (-1)) C dX6_refusalOfRound_38 (by decide) ?_
        refine g_iload_n (pc := 39) C dX6_refusalOfRound_39 3 rfl ?_
        refine g_iconst (pc := 40) (v := 1) C dX6_refusalOfRound_40 (by decide) ?_
        refine g_isub (pc := 41) C dX6_refusalOfRound_41 ?_
        refine g_rdSI (pc := 42) (val := bI ((-1) ≤ i ∧ i ≤ (n - 1))) (rest := []) C k_X6_isWithin (c_X6_isWithin l G i (-1) (n - 1)) ml_X6_63 rfl ⟨Nat.le_of_ble_eq_true rfl, Nat.le_of_ble_eq_true rfl⟩ rfl [] rfl rfl (Nat.le_of_ble_eq_true rfl) ⟨by decide, by decide⟩ dX6_refusalOfRound_42 ?_
        refine g_ifb_ne (pc := 45) (tgt := 51) C dX6_refusalOfRound_45 (by decide) (fun h45 => ?_) (fun h45 => ?_)
        · refine g_iload_n (pc := 51) C dX6_refusalOfRound_51 3 rfl ?_
          refine g_bipush (pc := 52) (v := 20) C dX6_refusalOfRound_52 (by decide) ?_
          refine g_icmp_le (pc := 54) (tgt := 62) C dX6_refusalOfRound_54 (by decide) (fun h54 => ?_) (fun h54 => ?_)
          · refine g_iconst (pc := 62) (v := 0) C dX6_refusalOfRound_62 (by decide) ?_
            exact g_retIR (pc := 63) C (rfl) (by first | (simp [rcRd, *]; done) | (grind [rcRd])) dX6_refusalOfRound_63
          · refine g_bipush (pc := 57) (v := (-6)) C dX6_refusalOfRound_57 (by decide) ?_
            refine g_goto (pc := 59) (tgt := 63) C dX6_refusalOfRound_59 (by decide) ?_
            exact g_retIR (pc := 63) C (rfl) (by first | (simp [rcRd, *]; done) | (grind [rcRd])) dX6_refusalOfRound_63
        · refine g_bipush (pc := 48) (v := (-5)) C dX6_refusalOfRound_48 (by decide) ?_
          exact g_retIR (pc := 50) C (rfl) (by first | (simp [rcRd, *]; done) | (grind [rcRd])) dX6_refusalOfRound_50
    · refine g_bipush (pc := 22) (v := (-4)) C dX6_refusalOfRound_22 (by decide) ?_
      exact g_retIR (pc := 24) C (rfl) (by first | (simp [rcRd, *]; done) | (grind [rcRd])) dX6_refusalOfRound_24
  · refine g_iload (pc := 15) C dX6_refusalOfRound_15 0 rfl ?_
    exact g_retIR (pc := 17) C (rfl) (by first | (simp [rcRd, *]; done) | (grind [rcRd])) dX6_refusalOfRound_17
set_option maxRecDepth 20000 in
set_option maxHeartbeats 4000000 in
theorem c_X6_wrongOfRound (l : Launch) (G : gT) (x : Nat) (t : Nat) (im : Nat) (it : Int32) (o : Nat) (sv : Nat) (tx : Nat) (ac : Nat) (rf : Nat) (lf : Int32) (ta : Nat) (tb : Nat) (tc : Nat) (τ : tT) (sa : Nat) (sb : Nat) (sc : Nat) (hd : Nat → Int32) (sz : Nat → Int32) (el : Nat → Int64) (s : Nat) (n : Nat) (hT : TI τ) (hs : s < 8) (hn : n ≤ 20) : RI l yX6_wrongOfRound cX6_wrongOfRound 6 (some .int) 5 G [.ref x, .int (nI s), .int (nI n)] ([wX x t im it o sv tx ac rf lf] ++ (wT G t ta tb tc τ ++ (wS G sv sa sb sc hd sz el))) (wrF τ el s n 0) := by
  have hg10 := hT.g10
  have hq8 := hT.q8
  refine start_R (by decide) (Nat.le_of_ble_eq_true rfl) (fun p9 e9 s9 m9 a9 b9 t9 c9 C => ?_)
  refine g_lv (lv' := [(0, .ref x), (1, .int (nI s)), (2, .int (nI n))]) rfl ?_
  refine g_iconst (pc := 0) (v := 0) C dX6_wrongOfRound_0 (by decide) ?_
  refine g_istore_n (pc := 1) (lv' := [(3, .int 0), (0, .ref x), (1, .int (nI s)), (2, .int (nI n))]) C dX6_wrongOfRound_1 rfl (by decide) rfl ?_
  refine g_iconst (pc := 2) (v := 0) C dX6_wrongOfRound_2 (by decide) ?_
  refine g_istore (pc := 3) (lv' := [(4, .int 0), (3, .int 0), (0, .ref x), (1, .int (nI s)), (2, .int (nI n))]) C dX6_wrongOfRound_3 (by decide) rfl ?_
  have key_5 : ∀ (n5 : Nat) (i : Nat) (m : Nat) (hm : m + i = n) (hv : wrF τ el s n 0 = wrF τ el s m i), m < n5 → GW p9 l e9 (rmh 5 0 0) s9 m9 a9 b9 t9 c9 (MQ b9 (QcI (wrF τ el s n 0)) a9 s9 0 0 NoA) G NoA false 6 0 0 ([wX x t im it o sv tx ac rf lf] ++ (wT G t ta tb tc τ ++ (wS G sv sa sb sc hd sz el))) [(0, .ref x), (1, .int (nI s)), (2, .int (nI n)), (3, .int (thr el s i)), (4, .int (nI i))] 5 [] := by
    intro n5
    induction n5 with
    | zero => intro i m hm hv hn5; exact absurd hn5 (Nat.not_lt_zero _)
    | succ n5 ih5 =>
      intro i m hm hv hn5
      refine g_iload (pc := 5) C dX6_wrongOfRound_5 4 rfl ?_
      refine g_iload_n (pc := 7) C dX6_wrongOfRound_7 2 rfl ?_
      refine g_icmpN_ge (pc := 8) (i := i) (j := n) (tgt := 60) C dX6_wrongOfRound_8 (by decide) ⟨by omega, by omega⟩ (fun h8 => ?_) (fun h8 => ?_)
      · refine g_iconst (pc := 60) (v := (-1)) C dX6_wrongOfRound_60 (by decide) ?_
        exact g_retIR (pc := 61) C (rfl) (by rw [hv, show m = 0 from by omega]; rfl) dX6_wrongOfRound_61
      · refine g_aload_n (pc := 11) C dX6_wrongOfRound_11 0 rfl ?_
        refine g_get (pc := 12) (T := TX6) (N := 9) (v := .ref sv) C ib_X6 0 rfl rfl 4 (by decide) mf_X6_29 rfl rfl rfl dX6_wrongOfRound_12 ?_
        refine g_iload_n (pc := 15) C dX6_wrongOfRound_15 1 rfl ?_
        refine g_iload (pc := 16) C dX6_wrongOfRound_16 4 rfl ?_
        refine g_rdVI (pc := 18) (val := (el (s * 160 + i)).toInt32) (rest := []) C k_X2_intAt (c_X2_intAt l G sv sa sb sc hd sz el s i (by first | assumption | omega) (by first | assumption | omega)) ml_X6_323 rfl ⟨Nat.le_of_ble_eq_true rfl, Nat.le_of_ble_eq_true rfl⟩ rfl [5, 6, 7, 8] rfl 5 rfl rfl rfl rfl (Nat.le_of_ble_eq_true rfl) ⟨by decide, by decide⟩ dX6_wrongOfRound_18 ?_
        refine g_istore (pc := 21) (lv' := [(5, .int ((el (s * 160 + i)).toInt32)), (0, .ref x), (1, .int (nI s)), (2, .int (nI n)), (3, .int (thr el s i)), (4, .int (nI i))]) C dX6_wrongOfRound_21 (by decide) rfl ?_
        refine g_aload_n (pc := 23) C dX6_wrongOfRound_23 1 rfl ?_
        refine g_get (pc := 24) (T := TX6) (N := 9) (v := .ref t) C ib_X6 0 rfl rfl 0 (by decide) mf_X6_10 rfl rfl rfl dX6_wrongOfRound_24 ?_
        refine g_iload (pc := 27) C dX6_wrongOfRound_27 0 rfl ?_
        refine g_rdVI (pc := 29) (val := bI (0 ≤ ((el (s * 160 + i)).toInt32) ∧ ((el (s * 160 + i)).toInt32) ≤ nI (tQ τ) - 1)) (rest := []) C k_X3_hasQuestion (c_X3_hasQuestion l G t ta tb tc τ ((el (s * 160 + i)).toInt32) (by first | assumption | omega)) ml_X6_93 rfl ⟨Nat.le_of_ble_eq_true rfl, Nat.le_of_ble_eq_true rfl⟩ rfl [1, 2, 3, 4] rfl 1 rfl rfl rfl rfl (Nat.le_of_ble_eq_true rfl) ⟨by decide, by decide⟩ dX6_wrongOfRound_29 ?_
        refine g_ifb_eq (pc := 32) (tgt := 44) C dX6_wrongOfRound_32 (by decide) (fun h32 => ?_) (fun h32 => ?_)
        · refine g_iload (pc := 44) C dX6_wrongOfRound_44 5 rfl ?_
          exact g_retIR (pc := 46) C (rfl) (by rw [hv, show m = (m - 1) + 1 from by omega, wrF]; exact (if_pos (show bad τ el s i from Or.inl h32)).symm) dX6_wrongOfRound_46
        · refine g_iload_n (pc := 35) C dX6_wrongOfRound_35 4 rfl ?_
          refine g_iload (pc := 36) C dX6_wrongOfRound_36 0 rfl ?_
          refine g_rdSI (pc := 38) (val := bI (¬ (thr el s i) &&& (1 <<< (((el (s * 160 + i)).toInt32) &&& 31)) = 0)) (rest := []) C k_X6_contains (c_X6_contains l G (thr el s i) ((el (s * 160 + i)).toInt32)) ml_X6_326 rfl ⟨Nat.le_of_ble_eq_true rfl, Nat.le_of_ble_eq_true rfl⟩ rfl [] rfl rfl (Nat.le_of_ble_eq_true rfl) ⟨by decide, by decide⟩ dX6_wrongOfRound_38 ?_
          refine g_ifb_eq (pc := 41) (tgt := 47) C dX6_wrongOfRound_41 (by decide) (fun h41 => ?_) (fun h41 => ?_)
          · refine g_iload_n (pc := 47) C dX6_wrongOfRound_47 4 rfl ?_
            refine g_iconst (pc := 48) (v := 1) C dX6_wrongOfRound_48 (by decide) ?_
            refine g_iload (pc := 49) C dX6_wrongOfRound_49 0 rfl ?_
            refine g_ishl (pc := 51) C dX6_wrongOfRound_51 ?_
            refine g_ior (pc := 52) C dX6_wrongOfRound_52 ?_
            refine g_istore_n (pc := 53) (lv' := [(3, .int ((thr el s i) ||| (1 <<< (((el (s * 160 + i)).toInt32) &&& 31)))), (5, .int ((el (s * 160 + i)).toInt32)), (0, .ref x), (1, .int (nI s)), (2, .int (nI n)), (4, .int (nI i))]) C dX6_wrongOfRound_53 rfl (by decide) rfl ?_
            refine g_iinc (pc := 54) (v := nI (i + 1)) (lv' := [(4, .int (nI (i + 1))), (3, .int ((thr el s i) ||| (1 <<< (((el (s * 160 + i)).toInt32) &&& 31)))), (5, .int ((el (s * 160 + i)).toInt32)), (0, .ref x), (1, .int (nI s)), (2, .int (nI n))]) C dX6_wrongOfRound_54 5 rfl (nI_1 i) (by decide) rfl ?_
            refine g_goto (pc := 57) (tgt := 5) C dX6_wrongOfRound_57 (by decide) ?_
            refine g_sub (lv' := [(0, .ref x), (1, .int (nI s)), (2, .int (nI n)), (3, .int (thr el s (i + 1))), (4, .int (nI (i + 1)))]) [3, 4, 5, 1, 0] rfl ?_
            exact ih5 (i + 1) (m - 1) (by omega) (by rw [hv, show m = (m - 1) + 1 from by omega, wrF, if_neg (fun z => z.elim (fun z => z h32) h41)]; rfl) (by omega)
          · refine g_iload (pc := 44) C dX6_wrongOfRound_44 5 rfl ?_
            exact g_retIR (pc := 46) C (rfl) (by rw [hv, show m = (m - 1) + 1 from by omega, wrF]; exact (if_pos (show bad τ el s i from Or.inr h41)).symm) dX6_wrongOfRound_46
  refine g_sub (lv' := [(0, .ref x), (1, .int (nI s)), (2, .int (nI n)), (3, .int (thr el s 0)), (4, .int (nI 0))]) [2, 3, 4, 1, 0] rfl ?_
  exact key_5 _ 0 n (by omega) rfl (Nat.lt_succ_self _)
set_option maxRecDepth 20000 in
set_option maxHeartbeats 4000000 in
theorem c_X6_leansOfRound (l : Launch) (G : gT) (x : Nat) (t : Nat) (im : Nat) (it : Int32) (o : Nat) (sv : Nat) (tx : Nat) (ac : Nat) (rf : Nat) (lf : Int32) (ta : Nat) (tb : Nat) (tc : Nat) (τ : tT) (sa : Nat) (sb : Nat) (sc : Nat) (hd : Nat → Int32) (sz : Nat → Int32) (el : Nat → Int64) (s : Nat) (n : Nat) (hT : TI τ) (hs : s < 8) (hn : n ≤ 20) (hnb : ∀ k, k < n → ¬ bad τ el s k) : RI l yX6_leansOfRound cX6_leansOfRound 8 (some .int) 5 G [.ref x, .int (nI s), .int (nI n)] ([wX x t im it o sv tx ac rf lf] ++ (wT G t ta tb tc τ ++ (wS G sv sa sb sc hd sz el))) (lrN τ el s n) := by
  have hg10 := hT.g10
  have hq8 := hT.q8
  refine start_R (by decide) (Nat.le_of_ble_eq_true rfl) (fun p9 e9 s9 m9 a9 b9 t9 c9 C => ?_)
  refine g_lv (lv' := [(0, .ref x), (1, .int (nI s)), (2, .int (nI n))]) rfl ?_
  refine g_iconst (pc := 0) (v := 0) C dX6_leansOfRound_0 (by decide) ?_
  refine g_istore_n (pc := 1) (lv' := [(3, .int 0), (0, .ref x), (1, .int (nI s)), (2, .int (nI n))]) C dX6_leansOfRound_1 rfl (by decide) rfl ?_
  refine g_iconst (pc := 2) (v := 0) C dX6_leansOfRound_2 (by decide) ?_
  refine g_istore (pc := 3) (lv' := [(4, .int 0), (3, .int 0), (0, .ref x), (1, .int (nI s)), (2, .int (nI n))]) C dX6_leansOfRound_3 (by decide) rfl ?_
  refine g_iconst (pc := 5) (v := 0) C dX6_leansOfRound_5 (by decide) ?_
  refine g_istore (pc := 6) (lv' := [(5, .int 0), (4, .int 0), (3, .int 0), (0, .ref x), (1, .int (nI s)), (2, .int (nI n))]) C dX6_leansOfRound_6 (by decide) rfl ?_
  have key_8 : ∀ (n8 : Nat) (i : Nat) (hi : i ≤ n), n - i < n8 → GW p9 l e9 (rmh 5 0 0) s9 m9 a9 b9 t9 c9 (MQ b9 (QcI (lrN τ el s n)) a9 s9 0 0 NoA) G NoA false 8 0 0 ([wX x t im it o sv tx ac rf lf] ++ (wT G t ta tb tc τ ++ (wS G sv sa sb sc hd sz el))) [(0, .ref x), (1, .int (nI s)), (2, .int (nI n)), (3, .int (lrN τ el s i)), (4, .int (thr el s i)), (5, .int (nI i))] 8 [] := by
    intro n8
    induction n8 with
    | zero => intro i hi hn8; exact absurd hn8 (Nat.not_lt_zero _)
    | succ n8 ih8 =>
      intro i hi hn8
      refine g_iload (pc := 8) C dX6_leansOfRound_8 5 rfl ?_
      refine g_iload_n (pc := 10) C dX6_leansOfRound_10 2 rfl ?_
      refine g_icmpN_ge (pc := 11) (i := i) (j := n) (tgt := 77) C dX6_leansOfRound_11 (by decide) ⟨by omega, by omega⟩ (fun h11 => ?_) (fun h11 => ?_)
      · refine g_iload_n (pc := 77) C dX6_leansOfRound_77 3 rfl ?_
        exact g_retIR (pc := 78) C (rfl) (by rw [show i = n from by omega]) dX6_leansOfRound_78
      · have hb9 := not_bad hT (hnb i (by omega))
        refine g_aload_n (pc := 14) C dX6_leansOfRound_14 0 rfl ?_
        refine g_get (pc := 15) (T := TX6) (N := 9) (v := .ref sv) C ib_X6 0 rfl rfl 4 (by decide) mf_X6_29 rfl rfl rfl dX6_leansOfRound_15 ?_
        refine g_iload_n (pc := 18) C dX6_leansOfRound_18 1 rfl ?_
        refine g_iload (pc := 19) C dX6_leansOfRound_19 5 rfl ?_
        refine g_rdVI (pc := 21) (val := (el (s * 160 + i)).toInt32) (rest := []) C k_X2_intAt (c_X2_intAt l G sv sa sb sc hd sz el s i (by first | assumption | omega) (by first | assumption | omega)) ml_X6_323 rfl ⟨Nat.le_of_ble_eq_true rfl, Nat.le_of_ble_eq_true rfl⟩ rfl [5, 6, 7, 8] rfl 5 rfl rfl rfl rfl (Nat.le_of_ble_eq_true rfl) ⟨by decide, by decide⟩ dX6_leansOfRound_21 ?_
        refine g_top (z := nI (nx (tol el s i))) (hb9.1) ?_
        refine g_istore (pc := 24) (lv' := [(6, .int (nI (nx (tol el s i)))), (0, .ref x), (1, .int (nI s)), (2, .int (nI n)), (3, .int (lrN τ el s i)), (4, .int (thr el s i)), (5, .int (nI i))]) C dX6_leansOfRound_24 (by decide) rfl ?_
        refine g_aload_n (pc := 26) C dX6_leansOfRound_26 1 rfl ?_
        refine g_get (pc := 27) (T := TX6) (N := 9) (v := .ref t) C ib_X6 0 rfl rfl 0 (by decide) mf_X6_10 rfl rfl rfl dX6_leansOfRound_27 ?_
        refine g_iload (pc := 30) C dX6_leansOfRound_30 0 rfl ?_
        refine g_sipush (pc := 32) (v := 1023) C dX6_leansOfRound_32 (by decide) ?_
        refine g_rdVI (pc := 35) (val := share τ (nx (tol el s i))) (rest := []) C k_X3_shareOf (c_X3_shareOf_all l G t ta tb tc τ (nx (tol el s i)) (by first | assumption | omega) (by first | assumption | omega)) ml_X6_113 rfl ⟨Nat.le_of_ble_eq_true rfl, Nat.le_of_ble_eq_true rfl⟩ rfl [1, 2, 3, 4] rfl 1 rfl rfl rfl rfl (Nat.le_of_ble_eq_true rfl) ⟨by decide, by decide⟩ dX6_leansOfRound_35 ?_
        refine g_istore (pc := 38) (lv' := [(7, .int (share τ (nx (tol el s i)))), (6, .int (nI (nx (tol el s i)))), (0, .ref x), (1, .int (nI s)), (2, .int (nI n)), (3, .int (lrN τ el s i)), (4, .int (thr el s i)), (5, .int (nI i))]) C dX6_leansOfRound_38 (by decide) rfl ?_
        refine g_iload_n (pc := 40) C dX6_leansOfRound_40 5 rfl ?_
        refine g_aload_n (pc := 41) C dX6_leansOfRound_41 2 rfl ?_
        refine g_get (pc := 42) (T := TX6) (N := 9) (v := .ref t) C ib_X6 0 rfl rfl 0 (by decide) mf_X6_10 rfl rfl rfl dX6_leansOfRound_42 ?_
        refine g_iload (pc := 45) C dX6_leansOfRound_45 1 rfl ?_
        refine g_iload (pc := 47) C dX6_leansOfRound_47 0 rfl ?_
        refine g_iload (pc := 49) C dX6_leansOfRound_49 6 rfl ?_
        refine g_rdVI (pc := 51) (val := shB τ (nx (tol el s i)) (share τ (nx (tol el s i))) (thr el s i)) (rest := [.int (lrN τ el s i)]) C k_X3_shareBehind (c_X3_shareBehind l G t ta tb tc τ (nx (tol el s i)) (share τ (nx (tol el s i))) (thr el s i) (by first | assumption | omega) (by first | assumption | omega)) ml_X6_329 rfl ⟨Nat.le_of_ble_eq_true rfl, Nat.le_of_ble_eq_true rfl⟩ rfl [1, 2, 3, 4] rfl 1 rfl rfl rfl rfl (Nat.le_of_ble_eq_true rfl) ⟨by decide, by decide⟩ dX6_leansOfRound_51 ?_
        refine g_iload (pc := 54) C dX6_leansOfRound_54 0 rfl ?_
        refine g_isub (pc := 56) C dX6_leansOfRound_56 ?_
        refine g_mabs (pc := 57) (v := mAbs ((shB τ (nx (tol el s i)) (share τ (nx (tol el s i))) (thr el s i)) - (share τ (nx (tol el s i))))) C ml_X6_242 rfl ⟨Nat.le_of_ble_eq_true rfl, Nat.le_of_ble_eq_true rfl⟩ ⟨by decide, by decide⟩ rfl dX6_leansOfRound_57 ?_
        refine g_iadd (pc := 60) C dX6_leansOfRound_60 ?_
        refine g_istore_n (pc := 61) (lv' := [(3, .int ((lrN τ el s i) + (mAbs ((shB τ (nx (tol el s i)) (share τ (nx (tol el s i))) (thr el s i)) - (share τ (nx (tol el s i))))))), (7, .int (share τ (nx (tol el s i)))), (6, .int (nI (nx (tol el s i)))), (0, .ref x), (1, .int (nI s)), (2, .int (nI n)), (4, .int (thr el s i)), (5, .int (nI i))]) C dX6_leansOfRound_61 rfl (by decide) rfl ?_
        refine g_iload (pc := 62) C dX6_leansOfRound_62 6 rfl ?_
        refine g_iconst (pc := 64) (v := 1) C dX6_leansOfRound_64 (by decide) ?_
        refine g_iload (pc := 65) C dX6_leansOfRound_65 2 rfl ?_
        refine g_ishl (pc := 67) C dX6_leansOfRound_67 ?_
        refine g_ior (pc := 68) C dX6_leansOfRound_68 ?_
        refine g_istore (pc := 69) (lv' := [(4, .int ((thr el s i) ||| (1 <<< ((nI (nx (tol el s i))) &&& 31)))), (3, .int ((lrN τ el s i) + (mAbs ((shB τ (nx (tol el s i)) (share τ (nx (tol el s i))) (thr el s i)) - (share τ (nx (tol el s i))))))), (7, .int (share τ (nx (tol el s i)))), (6, .int (nI (nx (tol el s i)))), (0, .ref x), (1, .int (nI s)), (2, .int (nI n)), (5, .int (nI i))]) C dX6_leansOfRound_69 (by decide) rfl ?_
        refine g_iinc (pc := 71) (v := nI (i + 1)) (lv' := [(5, .int (nI (i + 1))), (4, .int ((thr el s i) ||| (1 <<< ((nI (nx (tol el s i))) &&& 31)))), (3, .int ((lrN τ el s i) + (mAbs ((shB τ (nx (tol el s i)) (share τ (nx (tol el s i))) (thr el s i)) - (share τ (nx (tol el s i))))))), (7, .int (share τ (nx (tol el s i)))), (6, .int (nI (nx (tol el s i)))), (0, .ref x), (1, .int (nI s)), (2, .int (nI n))]) C dX6_leansOfRound_71 7 rfl (nI_1 i) (by decide) rfl ?_
        refine g_goto (pc := 74) (tgt := 8) C dX6_leansOfRound_74 (by decide) ?_
        refine g_sub (lv' := [(0, .ref x), (1, .int (nI s)), (2, .int (nI n)), (3, .int ((lrN τ el s i) + (mAbs ((shB τ (nx (tol el s i)) (share τ (nx (tol el s i))) (thr el s i)) - (share τ (nx (tol el s i))))))), (4, .int ((thr el s i) ||| (1 <<< ((nI (nx (tol el s i))) &&& 31)))), (5, .int (nI (i + 1)))]) [5, 6, 7, 2, 1, 0] rfl ?_
        refine g_lv (lv' := [(0, .ref x), (1, .int (nI s)), (2, .int (nI n)), (3, .int (lrN τ el s (i + 1))), (4, .int (thr el s (i + 1))), (5, .int (nI (i + 1)))]) (by rw [lrN, thr, ← hb9.1]) ?_
        exact ih8 (i + 1) (by first | assumption | omega) (by omega)
  refine g_sub (lv' := [(0, .ref x), (1, .int (nI s)), (2, .int (nI n)), (3, .int (lrN τ el s 0)), (4, .int (thr el s 0)), (5, .int (nI 0))]) [3, 4, 5, 2, 1, 0] rfl ?_
  exact key_8 _ 0 (by first | assumption | omega) (Nat.lt_succ_self _)
set_option maxRecDepth 20000 in
set_option maxHeartbeats 4000000 in
theorem c_X6_shareInRound (l : Launch) (G : gT) (x : Nat) (t : Nat) (im : Nat) (it : Int32) (o : Nat) (sv : Nat) (tx : Nat) (ac : Nat) (rf : Nat) (lf : Int32) (ta : Nat) (tb : Nat) (tc : Nat) (τ : tT) (sa : Nat) (sb : Nat) (sc : Nat) (hd : Nat → Int32) (sz : Nat → Int32) (el : Nat → Int64) (s : Nat) (n : Nat) (hT : TI τ) (hs : s < 8) (hn : n ≤ 20) (hnb : ¬ bad τ el s n) : RI l yX6_shareInRound cX6_shareInRound 5 (some .int) 5 G [.ref x, .int (nI s), .int (nI n)] ([wX x t im it o sv tx ac rf lf] ++ (wT G t ta tb tc τ ++ (wS G sv sa sb sc hd sz el))) (srV τ el s n) := by
  have hg10 := hT.g10
  have hq8 := hT.q8
  have hb9 := not_bad hT hnb
  refine start_R (by decide) (Nat.le_of_ble_eq_true rfl) (fun p9 e9 s9 m9 a9 b9 t9 c9 C => ?_)
  refine g_lv (lv' := [(0, .ref x), (1, .int (nI s)), (2, .int (nI n))]) rfl ?_
  refine g_iconst (pc := 0) (v := 0) C dX6_shareInRound_0 (by decide) ?_
  refine g_istore_n (pc := 1) (lv' := [(3, .int 0), (0, .ref x), (1, .int (nI s)), (2, .int (nI n))]) C dX6_shareInRound_1 rfl (by decide) rfl ?_
  refine g_iconst (pc := 2) (v := 0) C dX6_shareInRound_2 (by decide) ?_
  refine g_istore (pc := 3) (lv' := [(4, .int 0), (3, .int 0), (0, .ref x), (1, .int (nI s)), (2, .int (nI n))]) C dX6_shareInRound_3 (by decide) rfl ?_
  have key_5 : ∀ (n5 : Nat) (i : Nat) (hi : i ≤ n), n - i < n5 → GW p9 l e9 (rmh 5 0 0) s9 m9 a9 b9 t9 c9 (MQ b9 (QcI (srV τ el s n)) a9 s9 0 0 NoA) G NoA false 5 0 0 ([wX x t im it o sv tx ac rf lf] ++ (wT G t ta tb tc τ ++ (wS G sv sa sb sc hd sz el))) [(0, .ref x), (1, .int (nI s)), (2, .int (nI n)), (3, .int (thr el s i)), (4, .int (nI i))] 5 [] := by
    intro n5
    induction n5 with
    | zero => intro i hi hn5; exact absurd hn5 (Nat.not_lt_zero _)
    | succ n5 ih5 =>
      intro i hi hn5
      refine g_iload (pc := 5) C dX6_shareInRound_5 4 rfl ?_
      refine g_iload_n (pc := 7) C dX6_shareInRound_7 2 rfl ?_
      refine g_icmpN_ge (pc := 8) (i := i) (j := n) (tgt := 32) C dX6_shareInRound_8 (by decide) ⟨by omega, by omega⟩ (fun h8 => ?_) (fun h8 => ?_)
      · refine g_aload_n (pc := 32) C dX6_shareInRound_32 0 rfl ?_
        refine g_get (pc := 33) (T := TX6) (N := 9) (v := .ref sv) C ib_X6 0 rfl rfl 4 (by decide) mf_X6_29 rfl rfl rfl dX6_shareInRound_33 ?_
        refine g_iload_n (pc := 36) C dX6_shareInRound_36 1 rfl ?_
        refine g_iload_n (pc := 37) C dX6_shareInRound_37 2 rfl ?_
        refine g_rdVI (pc := 38) (val := (el (s * 160 + n)).toInt32) (rest := []) C k_X2_intAt (c_X2_intAt l G sv sa sb sc hd sz el s n (by first | assumption | omega) (by first | assumption | omega)) ml_X6_323 rfl ⟨Nat.le_of_ble_eq_true rfl, Nat.le_of_ble_eq_true rfl⟩ rfl [5, 6, 7, 8] rfl 5 rfl rfl rfl rfl (Nat.le_of_ble_eq_true rfl) ⟨by decide, by decide⟩ dX6_shareInRound_38 ?_
        refine g_top (z := nI (nx (tol el s n))) (hb9.1) ?_
        refine g_istore (pc := 41) (lv' := [(4, .int (nI (nx (tol el s n)))), (0, .ref x), (1, .int (nI s)), (2, .int (nI n)), (3, .int (thr el s i))]) C dX6_shareInRound_41 (by decide) rfl ?_
        refine g_aload_n (pc := 43) C dX6_shareInRound_43 1 rfl ?_
        refine g_get (pc := 44) (T := TX6) (N := 9) (v := .ref t) C ib_X6 0 rfl rfl 0 (by decide) mf_X6_10 rfl rfl rfl dX6_shareInRound_44 ?_
        refine g_iload (pc := 47) C dX6_shareInRound_47 0 rfl ?_
        refine g_aload_n (pc := 49) C dX6_shareInRound_49 1 rfl ?_
        refine g_get (pc := 50) (T := TX6) (N := 9) (v := .ref t) C ib_X6 0 rfl rfl 0 (by decide) mf_X6_10 rfl rfl rfl dX6_shareInRound_50 ?_
        refine g_iload (pc := 53) C dX6_shareInRound_53 0 rfl ?_
        refine g_sipush (pc := 55) (v := 1023) C dX6_shareInRound_55 (by decide) ?_
        refine g_rdVI (pc := 58) (val := share τ (nx (tol el s n))) (rest := [.int (nI (nx (tol el s n))), .ref t]) C k_X3_shareOf (c_X3_shareOf_all l G t ta tb tc τ (nx (tol el s n)) (by first | assumption | omega) (by first | assumption | omega)) ml_X6_113 rfl ⟨Nat.le_of_ble_eq_true rfl, Nat.le_of_ble_eq_true rfl⟩ rfl [1, 2, 3, 4] rfl 1 rfl rfl rfl rfl (Nat.le_of_ble_eq_true rfl) ⟨by decide, by decide⟩ dX6_shareInRound_58 ?_
        refine g_iload_n (pc := 61) C dX6_shareInRound_61 4 rfl ?_
        refine g_rdVI (pc := 62) (val := shB τ (nx (tol el s n)) (share τ (nx (tol el s n))) (thr el s i)) (rest := []) C k_X3_shareBehind (c_X3_shareBehind l G t ta tb tc τ (nx (tol el s n)) (share τ (nx (tol el s n))) (thr el s i) (by first | assumption | omega) (by first | assumption | omega)) ml_X6_329 rfl ⟨Nat.le_of_ble_eq_true rfl, Nat.le_of_ble_eq_true rfl⟩ rfl [1, 2, 3, 4] rfl 1 rfl rfl rfl rfl (Nat.le_of_ble_eq_true rfl) ⟨by decide, by decide⟩ dX6_shareInRound_62 ?_
        exact g_retIR (pc := 65) C (rfl) (by rw [show i = n from by omega]; rfl) dX6_shareInRound_65
      · refine g_iload_n (pc := 11) C dX6_shareInRound_11 3 rfl ?_
        refine g_iconst (pc := 12) (v := 1) C dX6_shareInRound_12 (by decide) ?_
        refine g_aload_n (pc := 13) C dX6_shareInRound_13 0 rfl ?_
        refine g_get (pc := 14) (T := TX6) (N := 9) (v := .ref sv) C ib_X6 0 rfl rfl 4 (by decide) mf_X6_29 rfl rfl rfl dX6_shareInRound_14 ?_
        refine g_iload_n (pc := 17) C dX6_shareInRound_17 1 rfl ?_
        refine g_iload (pc := 18) C dX6_shareInRound_18 4 rfl ?_
        refine g_rdVI (pc := 20) (val := (el (s * 160 + i)).toInt32) (rest := [.int 1, .int (thr el s i)]) C k_X2_intAt (c_X2_intAt l G sv sa sb sc hd sz el s i (by first | assumption | omega) (by first | assumption | omega)) ml_X6_323 rfl ⟨Nat.le_of_ble_eq_true rfl, Nat.le_of_ble_eq_true rfl⟩ rfl [5, 6, 7, 8] rfl 5 rfl rfl rfl rfl (Nat.le_of_ble_eq_true rfl) ⟨by decide, by decide⟩ dX6_shareInRound_20 ?_
        refine g_ishl (pc := 23) C dX6_shareInRound_23 ?_
        refine g_ior (pc := 24) C dX6_shareInRound_24 ?_
        refine g_istore_n (pc := 25) (lv' := [(3, .int ((thr el s i) ||| (1 <<< (((el (s * 160 + i)).toInt32) &&& 31)))), (0, .ref x), (1, .int (nI s)), (2, .int (nI n)), (4, .int (nI i))]) C dX6_shareInRound_25 rfl (by decide) rfl ?_
        refine g_iinc (pc := 26) (v := nI (i + 1)) (lv' := [(4, .int (nI (i + 1))), (3, .int ((thr el s i) ||| (1 <<< (((el (s * 160 + i)).toInt32) &&& 31)))), (0, .ref x), (1, .int (nI s)), (2, .int (nI n))]) C dX6_shareInRound_26 4 rfl (nI_1 i) (by decide) rfl ?_
        refine g_goto (pc := 29) (tgt := 5) C dX6_shareInRound_29 (by decide) ?_
        refine g_sub (lv' := [(0, .ref x), (1, .int (nI s)), (2, .int (nI n)), (3, .int (thr el s (i + 1))), (4, .int (nI (i + 1)))]) [2, 3, 4, 1, 0] rfl ?_
        exact ih5 (i + 1) (by first | assumption | omega) (by omega)
  refine g_sub (lv' := [(0, .ref x), (1, .int (nI s)), (2, .int (nI n)), (3, .int (thr el s 0)), (4, .int (nI 0))]) [2, 3, 4, 1, 0] rfl ?_
  exact key_5 _ 0 (by first | assumption | omega) (Nat.lt_succ_self _)
