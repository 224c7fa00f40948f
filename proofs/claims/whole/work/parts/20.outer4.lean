def rcRo (τ : tT) (hd sz : Nat → Int32) (el : Nat → Int64) (s n i : Int32) : Int32 := if ¬ rcRd hd sz s n i = 0 then rcRd hd sz s n i else if ¬ wrF τ el (nx s) (nx n) 0 = -1 then -6 else 0
def roV (τ : tT) (el : Nat → Int64) (s n i : Int32) : Int32 := if i = -1 then lrN τ el (nx s) (nx n) else srV τ el (nx s) (nx i)
set_option maxRecDepth 20000 in
set_option maxHeartbeats 4000000 in
theorem c_X6_judge (l : Launch) (G : gT) (x : Nat) (t : Nat) (im : Nat) (it : Int32) (o : Nat) (sv : Nat) (tx : Nat) (ac : Nat) (rf : Nat) (lf : Int32) (ta : Nat) (tb : Nat) (tc : Nat) (τ : tT) (sa : Nat) (sb : Nat) (sc : Nat) (hd : Nat → Int32) (sz : Nat → Int32) (el : Nat → Int64) (s : Int32) (n : Int32) (rr : Nat → Int32) (hT : TI τ) (hS : SI hd sz) : WI l yX6_judge cX6_judge 4 (some .int) 10 0 0 G [.ref x, .int s, .int n] ([wX x t im it o sv tx ac rf lf] ++ (wT G t ta tb tc τ ++ (wS G sv sa sb sc hd sz el ++ ([iC G rf 8 rr])))) (S := Unit) (fun r _ => r = if rcRd hd sz s n (-1) = 0 then wrF τ el (nx s) (nx n) 0 else -10 + (rcRd hd sz s n (-1))) (fun _ => [wX x t im it o sv tx ac rf lf] ++ (wT G t ta tb tc τ ++ (wS G sv sa sb sc hd sz el ++ ([iC G rf 8 (rfI rr (rcRd hd sz s n (-1)))])))) := by
  have hg10 := hT.g10
  have hq8 := hT.q8
  intro sz9
  refine start_W (by decide) (Nat.le_of_ble_eq_true rfl) (fun p9 e9 s9 m9 a9 b9 t9 c9 C => ?_)
  refine g_lv (lv' := [(0, .ref x), (1, .int s), (2, .int n)]) rfl ?_
  refine g_aload_n (pc := 0) C dX6_judge_0 0 rfl ?_
  refine g_iload_n (pc := 1) C dX6_judge_1 1 rfl ?_
  refine g_iload_n (pc := 2) C dX6_judge_2 2 rfl ?_
  refine g_iconst (pc := 3) (v := (-1)) C dX6_judge_3 (by decide) ?_
  refine g_rdVI (pc := 4) (val := rcRd hd sz s n (-1)) (rest := []) C k_X6_refusalOfRound (c_X6_refusalOfRound l G x t im it o sv tx ac rf lf sa sb sc hd sz el s n (-1)) ml_X6_267 rfl ⟨Nat.le_of_ble_eq_true rfl, Nat.le_of_ble_eq_true rfl⟩ rfl [0, 5, 6, 7, 8] rfl 0 rfl rfl rfl rfl (Nat.le_of_ble_eq_true rfl) ⟨by decide, by decide⟩ dX6_judge_4 ?_
  refine g_istore_n (pc := 7) (lv' := [(3, .int (rcRd hd sz s n (-1))), (0, .ref x), (1, .int s), (2, .int n)]) C dX6_judge_7 rfl (by decide) rfl ?_
  refine g_iload_n (pc := 8) C dX6_judge_8 0 rfl ?_
  refine g_if_eq (pc := 9) (tgt := 18) C dX6_judge_9 (by decide) (fun h9 => ?_) (fun h9 => ?_)
  · obtain ⟨s8, n8, rfl, hs8, rfl, hn8, hn20, hi9, hrf9⟩ := rcRd_0 hS h9
    have es8 : nx (nI s8) = s8 := nx_nI (by omega)
    have en8 : nx (nI n8) = n8 := nx_nI (by omega)
    refine g_aload_n (pc := 18) C dX6_judge_18 1 rfl ?_
    refine g_iload_n (pc := 19) C dX6_judge_19 2 rfl ?_
    refine g_iload_n (pc := 20) C dX6_judge_20 3 rfl ?_
    refine g_rdVI (pc := 21) (val := wrF τ el s8 n8 0) (rest := []) C k_X6_wrongOfRound (c_X6_wrongOfRound l G x t im it o sv tx ac rf lf ta tb tc τ sa sb sc hd sz el s8 n8 (by first | assumption | omega) (by first | assumption | omega) (by first | assumption | omega)) ml_X6_270 rfl ⟨Nat.le_of_ble_eq_true rfl, Nat.le_of_ble_eq_true rfl⟩ rfl [0, 1, 2, 3, 4, 5, 6, 7, 8] rfl 0 rfl rfl rfl rfl (Nat.le_of_ble_eq_true rfl) ⟨by decide, by decide⟩ dX6_judge_21 ?_
    exact g_retIW (pc := 24) C rfl rfl () (rfl) (by have e9 : rcRd hd sz (nI s8) (nI n8) (-1) = 0 := (by first | (simp [rcRd, *]; done) | (grind [rcRd])); rw [if_pos e9] <;> (rw [es8, en8])) (by have e9 : rcRd hd sz (nI s8) (nI n8) (-1) = 0 := (by first | (simp [rcRd, *]; done) | (grind [rcRd])); rw [e9, rfI_0] <;> (rfl)) dX6_judge_24
  · refine g_aload_n (pc := 12) C dX6_judge_12 1 rfl ?_
    refine g_iload_n (pc := 13) C dX6_judge_13 0 rfl ?_
    refine g_wrVI (pc := 14) (rest := []) (wr := [oC t 3 [.ref ta, .ref tb, .ref tc, .int (τ 8 0), .int (τ 8 1), .int (τ 8 2), .int (τ 8 3), .int (τ 8 4), .int (τ 8 5), .int (τ 8 6)], iC G ta 16 (fq τ), iC G tb 64 (τ 2), iC G tc 50 (fg τ), oC sv 2 [.ref sa, .ref sb, .ref sc], iC G sa 8 hd, iC G sb 8 sz, jC G sc 1280 el]) C (fun _ => [wX x t im it o sv tx ac rf lf] ++ (wT G t ta tb tc τ ++ (wS G sv sa sb sc hd sz el ++ ([iC G rf 8 (rfI rr (rcRd hd sz s n (-1)))])))) rfl k_X6_refuseBelowNone (c_X6_refuseBelowNone l G x t im it o sv tx ac rf lf rr (rcRd hd sz s n (-1))) ml_X6_247 rfl ⟨Nat.le_of_ble_eq_true rfl, Nat.le_of_ble_eq_true rfl⟩ rfl [0, 9] [1, 2, 3, 4, 5, 6, 7, 8] [8, 0, 1, 2, 3, 4, 5, 6, 7, 9] rfl (by decide) rfl (by decide) (by decide) (by decide) (fun _ => rfl) 0 rfl rfl rfl rfl (Nat.le_of_ble_eq_true rfl) ⟨by decide, by decide⟩ dX6_judge_14 (fun r14 _ e14 => ?_)
    subst e14
    exact g_retIW (pc := 17) C rfl rfl () (rfl) (by have e9 : rcRd hd sz s n (-1) = (rcRd hd sz s n (-1)) := (by first | (simp [rcRd, *]; done) | (grind [rcRd])); rw [if_neg (by rw [e9] <;> (first | done | assumption)), e9]) (by have e9 : rcRd hd sz s n (-1) = (rcRd hd sz s n (-1)) := (by first | (simp [rcRd, *]; done) | (grind [rcRd])); rw [e9] <;> (first | done | rfl | (rw [if_neg (by assumption)] <;> (first | done | rfl)))) dX6_judge_17
set_option maxRecDepth 20000 in
set_option maxHeartbeats 4000000 in
theorem c_X6_round (l : Launch) (G : gT) (x : Nat) (t : Nat) (im : Nat) (it : Int32) (o : Nat) (sv : Nat) (tx : Nat) (ac : Nat) (rf : Nat) (lf : Int32) (ta : Nat) (tb : Nat) (tc : Nat) (τ : tT) (sa : Nat) (sb : Nat) (sc : Nat) (hd : Nat → Int32) (sz : Nat → Int32) (el : Nat → Int64) (s : Int32) (n : Int32) (i : Int32) (rr : Nat → Int32) (hT : TI τ) (hS : SI hd sz) : WI l yX6_round cX6_round 5 (some .int) 10 0 0 G [.ref x, .int s, .int n, .int i] ([wX x t im it o sv tx ac rf lf] ++ (wT G t ta tb tc τ ++ (wS G sv sa sb sc hd sz el ++ ([iC G rf 8 rr])))) (S := Unit) (fun r _ => r = if rcRo τ hd sz el s n i = 0 then roV τ el s n i else (rcRo τ hd sz el s n i)) (fun _ => [wX x t im it o sv tx ac rf lf] ++ (wT G t ta tb tc τ ++ (wS G sv sa sb sc hd sz el ++ ([iC G rf 8 (rfI rr (rcRo τ hd sz el s n i))])))) := by
  have hg10 := hT.g10
  have hq8 := hT.q8
  intro sz9
  refine start_W (by decide) (Nat.le_of_ble_eq_true rfl) (fun p9 e9 s9 m9 a9 b9 t9 c9 C => ?_)
  refine g_lv (lv' := [(0, .ref x), (1, .int s), (2, .int n), (3, .int i)]) rfl ?_
  refine g_aload_n (pc := 0) C dX6_round_0 0 rfl ?_
  refine g_iload_n (pc := 1) C dX6_round_1 1 rfl ?_
  refine g_iload_n (pc := 2) C dX6_round_2 2 rfl ?_
  refine g_iload_n (pc := 3) C dX6_round_3 3 rfl ?_
  refine g_rdVI (pc := 4) (val := rcRd hd sz s n i) (rest := []) C k_X6_refusalOfRound (c_X6_refusalOfRound l G x t im it o sv tx ac rf lf sa sb sc hd sz el s n i) ml_X6_267 rfl ⟨Nat.le_of_ble_eq_true rfl, Nat.le_of_ble_eq_true rfl⟩ rfl [0, 5, 6, 7, 8] rfl 0 rfl rfl rfl rfl (Nat.le_of_ble_eq_true rfl) ⟨by decide, by decide⟩ dX6_round_4 ?_
  refine g_istore (pc := 7) (lv' := [(4, .int (rcRd hd sz s n i)), (0, .ref x), (1, .int s), (2, .int n), (3, .int i)]) C dX6_round_7 (by decide) rfl ?_
  refine g_iload (pc := 9) C dX6_round_9 0 rfl ?_
  refine g_if_eq (pc := 11) (tgt := 21) C dX6_round_11 (by decide) (fun h11 => ?_) (fun h11 => ?_)
  · obtain ⟨s8, n8, rfl, hs8, rfl, hn8, hn20, hi9, hrf9⟩ := rcRd_0 hS h11
    have es8 : nx (nI s8) = s8 := nx_nI (by omega)
    have en8 : nx (nI n8) = n8 := nx_nI (by omega)
    refine g_aload_n (pc := 21) C dX6_round_21 1 rfl ?_
    refine g_iload_n (pc := 22) C dX6_round_22 2 rfl ?_
    refine g_iload_n (pc := 23) C dX6_round_23 3 rfl ?_
    refine g_rdVI (pc := 24) (val := wrF τ el s8 n8 0) (rest := []) C k_X6_wrongOfRound (c_X6_wrongOfRound l G x t im it o sv tx ac rf lf ta tb tc τ sa sb sc hd sz el s8 n8 (by first | assumption | omega) (by first | assumption | omega) (by first | assumption | omega)) ml_X6_270 rfl ⟨Nat.le_of_ble_eq_true rfl, Nat.le_of_ble_eq_true rfl⟩ rfl [0, 1, 2, 3, 4, 5, 6, 7, 8] rfl 0 rfl rfl rfl rfl (Nat.le_of_ble_eq_true rfl) ⟨by decide, by decide⟩ dX6_round_24 ?_
    refine g_iconst (pc := 27) (v := (-1)) C dX6_round_27 (by decide) ?_
    refine g_icmp_eq (pc := 28) (tgt := 38) C dX6_round_28 (by decide) (fun h28 => ?_) (fun h28 => ?_)
    · refine g_iload_n (pc := 38) C dX6_round_38 4 rfl ?_
      refine g_iconst (pc := 39) (v := (-1)) C dX6_round_39 (by decide) ?_
      refine g_icmp_ne (pc := 40) (tgt := 52) C dX6_round_40 (by decide) (fun h40 => ?_) (fun h40 => ?_)
      · obtain ⟨i8, hi8, rfl⟩ := hi9.resolve_left h40
        have ei8 : nx (nI i8) = i8 := nx_nI (by omega)
        have hnb := wrF_all n8 0 (by omega) h28 i8 (Nat.zero_le i8) (by omega)
        refine g_aload_n (pc := 52) C dX6_round_52 1 rfl ?_
        refine g_iload_n (pc := 53) C dX6_round_53 2 rfl ?_
        refine g_iload_n (pc := 54) C dX6_round_54 4 rfl ?_
        refine g_rdVI (pc := 55) (val := srV τ el s8 i8) (rest := []) C k_X6_shareInRound (c_X6_shareInRound l G x t im it o sv tx ac rf lf ta tb tc τ sa sb sc hd sz el s8 i8 (by first | assumption | omega) (by first | assumption | omega) (by first | assumption | omega) hnb) ml_X6_276 rfl ⟨Nat.le_of_ble_eq_true rfl, Nat.le_of_ble_eq_true rfl⟩ rfl [0, 1, 2, 3, 4, 5, 6, 7, 8] rfl 0 rfl rfl rfl rfl (Nat.le_of_ble_eq_true rfl) ⟨by decide, by decide⟩ dX6_round_55 ?_
        exact g_retIW (pc := 58) C rfl rfl () (rfl) (by have e9 : rcRo τ hd sz el (nI s8) (nI n8) (nI i8) = 0 := (by first | (simp [rcRo, *]; done) | (grind [rcRo])); rw [if_pos e9] <;> (rw [roV, if_neg h40, es8, ei8])) (by have e9 : rcRo τ hd sz el (nI s8) (nI n8) (nI i8) = 0 := (by first | (simp [rcRo, *]; done) | (grind [rcRo])); rw [e9, rfI_0] <;> (rfl)) dX6_round_58
      · have hnb : ∀ k, k < n8 → ¬ bad τ el s8 k := fun k hk => wrF_all n8 0 (by omega) h28 k (Nat.zero_le k) (by omega)
        refine g_aload_n (pc := 43) C dX6_round_43 1 rfl ?_
        refine g_iload_n (pc := 44) C dX6_round_44 2 rfl ?_
        refine g_iload_n (pc := 45) C dX6_round_45 3 rfl ?_
        refine g_rdVI (pc := 46) (val := lrN τ el s8 n8) (rest := []) C k_X6_leansOfRound (c_X6_leansOfRound l G x t im it o sv tx ac rf lf ta tb tc τ sa sb sc hd sz el s8 n8 (by first | assumption | omega) (by first | assumption | omega) (by first | assumption | omega) hnb) ml_X6_273 rfl ⟨Nat.le_of_ble_eq_true rfl, Nat.le_of_ble_eq_true rfl⟩ rfl [0, 1, 2, 3, 4, 5, 6, 7, 8] rfl 0 rfl rfl rfl rfl (Nat.le_of_ble_eq_true rfl) ⟨by decide, by decide⟩ dX6_round_46 ?_
        refine g_goto (pc := 49) (tgt := 58) C dX6_round_49 (by decide) ?_
        exact g_retIW (pc := 58) C rfl rfl () (rfl) (by have e9 : rcRo τ hd sz el (nI s8) (nI n8) i = 0 := (by first | (simp [rcRo, *]; done) | (grind [rcRo])); rw [if_pos e9] <;> (rw [roV, if_pos h40, es8, en8])) (by have e9 : rcRo τ hd sz el (nI s8) (nI n8) i = 0 := (by first | (simp [rcRo, *]; done) | (grind [rcRo])); rw [e9, rfI_0] <;> (rfl)) dX6_round_58
    · refine g_aload_n (pc := 31) C dX6_round_31 1 rfl ?_
      refine g_bipush (pc := 32) (v := (-6)) C dX6_round_32 (by decide) ?_
      refine g_wrVI (pc := 34) (rest := []) (wr := [oC t 3 [.ref ta, .ref tb, .ref tc, .int (τ 8 0), .int (τ 8 1), .int (τ 8 2), .int (τ 8 3), .int (τ 8 4), .int (τ 8 5), .int (τ 8 6)], iC G ta 16 (fq τ), iC G tb 64 (τ 2), iC G tc 50 (fg τ), oC sv 2 [.ref sa, .ref sb, .ref sc], iC G sa 8 hd, iC G sb 8 sz, jC G sc 1280 el]) C (fun _ => [wX x t im it o sv tx ac rf lf] ++ (wT G t ta tb tc τ ++ (wS G sv sa sb sc hd sz el ++ ([iC G rf 8 (rfI rr (-6))])))) rfl k_X6_refuse (c_X6_refuse l G x t im it o sv tx ac rf lf rr (-6)) ml_X6_59 rfl ⟨Nat.le_of_ble_eq_true rfl, Nat.le_of_ble_eq_true rfl⟩ rfl [0, 9] [1, 2, 3, 4, 5, 6, 7, 8] [8, 0, 1, 2, 3, 4, 5, 6, 7, 9] rfl (by decide) rfl (by decide) (by decide) (by decide) (fun _ => rfl) 0 rfl rfl rfl rfl (Nat.le_of_ble_eq_true rfl) ⟨by decide, by decide⟩ dX6_round_34 (fun r34 _ e34 => ?_)
      subst e34
      exact g_retIW (pc := 37) C rfl rfl () (rfl) (by have e9 : rcRo τ hd sz el (nI s8) (nI n8) i = (-6) := (by first | (simp [rcRo, *]; done) | (grind [rcRo])); rw [if_neg (by rw [e9] <;> (first | done | decide)), e9]) (by have e9 : rcRo τ hd sz el (nI s8) (nI n8) i = (-6) := (by first | (simp [rcRo, *]; done) | (grind [rcRo])); rw [e9] <;> (first | done | rfl | (rw [if_neg (by decide)] <;> (first | done | rfl)))) dX6_round_37
  · refine g_aload_n (pc := 14) C dX6_round_14 1 rfl ?_
    refine g_iload (pc := 15) C dX6_round_15 0 rfl ?_
    refine g_wrVI (pc := 17) (rest := []) (wr := [oC t 3 [.ref ta, .ref tb, .ref tc, .int (τ 8 0), .int (τ 8 1), .int (τ 8 2), .int (τ 8 3), .int (τ 8 4), .int (τ 8 5), .int (τ 8 6)], iC G ta 16 (fq τ), iC G tb 64 (τ 2), iC G tc 50 (fg τ), oC sv 2 [.ref sa, .ref sb, .ref sc], iC G sa 8 hd, iC G sb 8 sz, jC G sc 1280 el]) C (fun _ => [wX x t im it o sv tx ac rf lf] ++ (wT G t ta tb tc τ ++ (wS G sv sa sb sc hd sz el ++ ([iC G rf 8 (rfI rr (rcRd hd sz s n i))])))) rfl k_X6_refuse (c_X6_refuse l G x t im it o sv tx ac rf lf rr (rcRd hd sz s n i)) ml_X6_59 rfl ⟨Nat.le_of_ble_eq_true rfl, Nat.le_of_ble_eq_true rfl⟩ rfl [0, 9] [1, 2, 3, 4, 5, 6, 7, 8] [8, 0, 1, 2, 3, 4, 5, 6, 7, 9] rfl (by decide) rfl (by decide) (by decide) (by decide) (fun _ => rfl) 0 rfl rfl rfl rfl (Nat.le_of_ble_eq_true rfl) ⟨by decide, by decide⟩ dX6_round_17 (fun r17 _ e17 => ?_)
    subst e17
    exact g_retIW (pc := 20) C rfl rfl () (rfl) (by have e9 : rcRo τ hd sz el s n i = (rcRd hd sz s n i) := (by first | (simp [rcRo, *]; done) | (grind [rcRo])); rw [if_neg (by rw [e9] <;> (first | done | assumption)), e9]) (by have e9 : rcRo τ hd sz el s n i = (rcRd hd sz s n i) := (by first | (simp [rcRo, *]; done) | (grind [rcRo])); rw [e9] <;> (first | done | rfl | (rw [if_neg (by assumption)] <;> (first | done | rfl)))) dX6_round_20
set_option maxRecDepth 20000 in
set_option maxHeartbeats 4000000 in
theorem c_X6_change (l : Launch) (G : gT) (x : Nat) (t : Nat) (im : Nat) (it : Int32) (o : Nat) (sv : Nat) (tx : Nat) (ac : Nat) (rf : Nat) (lf : Int32) (ta : Nat) (tb : Nat) (tc : Nat) (τ : tT) (g : Int32) (v : Int32) (n : Int32) (rr : Nat → Int32) (hT : TI τ) : WI l yX6_change cX6_change 5 (some .int) 10 0 0 G [.ref x, .int g, .int v, .int n] ([wX x t im it o sv tx ac rf lf] ++ (wT G t ta tb tc τ ++ ([iC G rf 8 rr]))) (S := Unit) (fun r _ => r = if rcCh τ g v n = 0 then chV τ g v n else (rcCh τ g v n)) (fun _ => [wX x t im it o sv tx ac rf lf] ++ (wT G t ta tb tc (if rcCh τ g v n = 0 then chT τ g v n else τ) ++ ([iC G rf 8 (rfI rr (rcCh τ g v n))]))) := by
  have hg10 := hT.g10
  have hq8 := hT.q8
  intro sz9
  refine start_W (by decide) (Nat.le_of_ble_eq_true rfl) (fun p9 e9 s9 m9 a9 b9 t9 c9 C => ?_)
  refine g_lv (lv' := [(0, .ref x), (1, .int g), (2, .int v), (3, .int n)]) rfl ?_
  refine g_aload_n (pc := 0) C dX6_change_0 0 rfl ?_
  refine g_get (pc := 1) (T := TX6) (N := 9) (v := .ref t) C ib_X6 0 rfl rfl 0 (by decide) mf_X6_10 rfl rfl rfl dX6_change_1 ?_
  refine g_iload_n (pc := 4) C dX6_change_4 1 rfl ?_
  refine g_rdVI (pc := 5) (val := bI (0 ≤ g ∧ g ≤ nI (tG τ) - 1)) (rest := []) C k_X3_hasGroup (c_X3_hasGroup l G t ta tb tc τ g (by first | assumption | omega)) ml_X6_146 rfl ⟨Nat.le_of_ble_eq_true rfl, Nat.le_of_ble_eq_true rfl⟩ rfl [1, 2, 3, 4] rfl 1 rfl rfl rfl rfl (Nat.le_of_ble_eq_true rfl) ⟨by decide, by decide⟩ dX6_change_5 ?_
  refine g_ifb_ne (pc := 8) (tgt := 17) C dX6_change_8 (by decide) (fun h8 => ?_) (fun h8 => ?_)
  · obtain ⟨g8, hg8, rfl⟩ := isG_nI hT h8
    have eg8 : nx (nI g8) = g8 := nx_nI (by omega)
    refine g_iload_n (pc := 17) C dX6_change_17 2 rfl ?_
    refine g_iconst (pc := 18) (v := 0) C dX6_change_18 (by decide) ?_
    refine g_iconst (pc := 19) (v := 2) C dX6_change_19 (by decide) ?_
    refine g_rdSI (pc := 20) (val := bI (0 ≤ v ∧ v ≤ 2)) (rest := []) C k_X6_isWithin (c_X6_isWithin l G v 0 2) ml_X6_63 rfl ⟨Nat.le_of_ble_eq_true rfl, Nat.le_of_ble_eq_true rfl⟩ rfl [] rfl rfl (Nat.le_of_ble_eq_true rfl) ⟨by decide, by decide⟩ dX6_change_20 ?_
    refine g_ifb_eq (pc := 23) (tgt := 58) C dX6_change_23 (by decide) (fun h23 => ?_) (fun h23 => ?_)
    · refine g_iconst (pc := 58) (v := 0) C dX6_change_58 (by decide) ?_
      refine g_istore (pc := 59) (lv' := [(4, .int 0), (0, .ref x), (1, .int (nI g8)), (2, .int v), (3, .int n)]) C dX6_change_59 (by decide) rfl ?_
      refine g_iload (pc := 61) C dX6_change_61 0 rfl ?_
      refine g_if_ne (pc := 63) (tgt := 73) C dX6_change_63 (by decide) (fun h63 => absurd h63 (by decide)) (fun h63 => ?_)
      refine g_aload_n (pc := 66) C dX6_change_66 1 rfl ?_
      refine g_bipush (pc := 67) (v := (-6)) C dX6_change_67 (by decide) ?_
      refine g_wrVI (pc := 69) (rest := []) (wr := [oC t 3 [.ref ta, .ref tb, .ref tc, .int (τ 8 0), .int (τ 8 1), .int (τ 8 2), .int (τ 8 3), .int (τ 8 4), .int (τ 8 5), .int (τ 8 6)], iC G ta 16 (fq τ), iC G tb 64 (τ 2), iC G tc 50 (fg τ)]) C (fun _ => [wX x t im it o sv tx ac rf lf] ++ (wT G t ta tb tc τ ++ ([iC G rf 8 (rfI rr (-6))]))) rfl k_X6_refuse (c_X6_refuse l G x t im it o sv tx ac rf lf rr (-6)) ml_X6_59 rfl ⟨Nat.le_of_ble_eq_true rfl, Nat.le_of_ble_eq_true rfl⟩ rfl [0, 5] [1, 2, 3, 4] [4, 0, 1, 2, 3, 5] rfl (by decide) rfl (by decide) (by decide) (by decide) (fun _ => rfl) 0 rfl rfl rfl rfl (Nat.le_of_ble_eq_true rfl) ⟨by decide, by decide⟩ dX6_change_69 (fun r69 _ e69 => ?_)
      subst e69
      exact g_retIW (pc := 72) C rfl rfl () (rfl) (by have e9 : rcCh τ (nI g8) v n = (-6) := (by first | (simp [rcCh, *]; done) | (grind [rcCh])); rw [if_neg (by rw [e9] <;> (first | done | decide)), e9]) (by have e9 : rcCh τ (nI g8) v n = (-6) := (by first | (simp [rcCh, *]; done) | (grind [rcCh])); rw [e9] <;> (first | done | rfl | (rw [if_neg (by decide)] <;> (first | done | rfl)))) dX6_change_72
    · refine g_iload_n (pc := 26) C dX6_change_26 2 rfl ?_
      refine g_aload_n (pc := 27) C dX6_change_27 0 rfl ?_
      refine g_get (pc := 28) (T := TX6) (N := 9) (v := .ref t) C ib_X6 0 rfl rfl 0 (by decide) mf_X6_10 rfl rfl rfl dX6_change_28 ?_
      refine g_iload_n (pc := 31) C dX6_change_31 1 rfl ?_
      refine g_rdVI (pc := 32) (val := τ 4 g8) (rest := [.int v]) C k_X3_viewOf (c_X3_viewOf l G t ta tb tc τ g8 (by first | assumption | omega)) ml_X6_152 rfl ⟨Nat.le_of_ble_eq_true rfl, Nat.le_of_ble_eq_true rfl⟩ rfl [1, 2, 3, 4] rfl 1 rfl rfl rfl rfl (Nat.le_of_ble_eq_true rfl) ⟨by decide, by decide⟩ dX6_change_32 ?_
      refine g_icmp_eq (pc := 35) (tgt := 58) C dX6_change_35 (by decide) (fun h35 => ?_) (fun h35 => ?_)
      · refine g_iconst (pc := 58) (v := 0) C dX6_change_58 (by decide) ?_
        refine g_istore (pc := 59) (lv' := [(4, .int 0), (0, .ref x), (1, .int (nI g8)), (2, .int v), (3, .int n)]) C dX6_change_59 (by decide) rfl ?_
        refine g_iload (pc := 61) C dX6_change_61 0 rfl ?_
        refine g_if_ne (pc := 63) (tgt := 73) C dX6_change_63 (by decide) (fun h63 => absurd h63 (by decide)) (fun h63 => ?_)
        refine g_aload_n (pc := 66) C dX6_change_66 1 rfl ?_
        refine g_bipush (pc := 67) (v := (-6)) C dX6_change_67 (by decide) ?_
        refine g_wrVI (pc := 69) (rest := []) (wr := [oC t 3 [.ref ta, .ref tb, .ref tc, .int (τ 8 0), .int (τ 8 1), .int (τ 8 2), .int (τ 8 3), .int (τ 8 4), .int (τ 8 5), .int (τ 8 6)], iC G ta 16 (fq τ), iC G tb 64 (τ 2), iC G tc 50 (fg τ)]) C (fun _ => [wX x t im it o sv tx ac rf lf] ++ (wT G t ta tb tc τ ++ ([iC G rf 8 (rfI rr (-6))]))) rfl k_X6_refuse (c_X6_refuse l G x t im it o sv tx ac rf lf rr (-6)) ml_X6_59 rfl ⟨Nat.le_of_ble_eq_true rfl, Nat.le_of_ble_eq_true rfl⟩ rfl [0, 5] [1, 2, 3, 4] [4, 0, 1, 2, 3, 5] rfl (by decide) rfl (by decide) (by decide) (by decide) (fun _ => rfl) 0 rfl rfl rfl rfl (Nat.le_of_ble_eq_true rfl) ⟨by decide, by decide⟩ dX6_change_69 (fun r69 _ e69 => ?_)
        subst e69
        exact g_retIW (pc := 72) C rfl rfl () (rfl) (by have e9 : rcCh τ (nI g8) v n = (-6) := (by first | (simp [rcCh, *]; done) | (grind [rcCh])); rw [if_neg (by rw [e9] <;> (first | done | decide)), e9]) (by have e9 : rcCh τ (nI g8) v n = (-6) := (by first | (simp [rcCh, *]; done) | (grind [rcCh])); rw [e9] <;> (first | done | rfl | (rw [if_neg (by decide)] <;> (first | done | rfl)))) dX6_change_72
      · refine g_iload_n (pc := 38) C dX6_change_38 3 rfl ?_
        refine g_iconst (pc := 39) (v := 1) C dX6_change_39 (by decide) ?_
        refine g_aload_n (pc := 40) C dX6_change_40 0 rfl ?_
        refine g_get (pc := 41) (T := TX6) (N := 9) (v := .ref t) C ib_X6 0 rfl rfl 0 (by decide) mf_X6_10 rfl rfl rfl dX6_change_41 ?_
        refine g_iload_n (pc := 44) C dX6_change_44 1 rfl ?_
        refine g_rdVI (pc := 45) (val := τ 3 g8) (rest := [.int 1, .int n]) C k_X3_countOf (c_X3_countOf l G t ta tb tc τ g8 (by first | assumption | omega)) ml_X6_149 rfl ⟨Nat.le_of_ble_eq_true rfl, Nat.le_of_ble_eq_true rfl⟩ rfl [1, 2, 3, 4] rfl 1 rfl rfl rfl rfl (Nat.le_of_ble_eq_true rfl) ⟨by decide, by decide⟩ dX6_change_45 ?_
        refine g_rdSI (pc := 48) (val := bI (1 ≤ n ∧ n ≤ (τ 3 g8))) (rest := []) C k_X6_isWithin (c_X6_isWithin l G n 1 (τ 3 g8)) ml_X6_63 rfl ⟨Nat.le_of_ble_eq_true rfl, Nat.le_of_ble_eq_true rfl⟩ rfl [] rfl rfl (Nat.le_of_ble_eq_true rfl) ⟨by decide, by decide⟩ dX6_change_48 ?_
        refine g_ifb_eq (pc := 51) (tgt := 58) C dX6_change_51 (by decide) (fun h51 => ?_) (fun h51 => ?_)
        · refine g_iconst (pc := 58) (v := 0) C dX6_change_58 (by decide) ?_
          refine g_istore (pc := 59) (lv' := [(4, .int 0), (0, .ref x), (1, .int (nI g8)), (2, .int v), (3, .int n)]) C dX6_change_59 (by decide) rfl ?_
          refine g_iload (pc := 61) C dX6_change_61 0 rfl ?_
          refine g_if_ne (pc := 63) (tgt := 73) C dX6_change_63 (by decide) (fun h63 => absurd h63 (by decide)) (fun h63 => ?_)
          refine g_aload_n (pc := 66) C dX6_change_66 1 rfl ?_
          refine g_bipush (pc := 67) (v := (-6)) C dX6_change_67 (by decide) ?_
          refine g_wrVI (pc := 69) (rest := []) (wr := [oC t 3 [.ref ta, .ref tb, .ref tc, .int (τ 8 0), .int (τ 8 1), .int (τ 8 2), .int (τ 8 3), .int (τ 8 4), .int (τ 8 5), .int (τ 8 6)], iC G ta 16 (fq τ), iC G tb 64 (τ 2), iC G tc 50 (fg τ)]) C (fun _ => [wX x t im it o sv tx ac rf lf] ++ (wT G t ta tb tc τ ++ ([iC G rf 8 (rfI rr (-6))]))) rfl k_X6_refuse (c_X6_refuse l G x t im it o sv tx ac rf lf rr (-6)) ml_X6_59 rfl ⟨Nat.le_of_ble_eq_true rfl, Nat.le_of_ble_eq_true rfl⟩ rfl [0, 5] [1, 2, 3, 4] [4, 0, 1, 2, 3, 5] rfl (by decide) rfl (by decide) (by decide) (by decide) (fun _ => rfl) 0 rfl rfl rfl rfl (Nat.le_of_ble_eq_true rfl) ⟨by decide, by decide⟩ dX6_change_69 (fun r69 _ e69 => ?_)
          subst e69
          exact g_retIW (pc := 72) C rfl rfl () (rfl) (by have e9 : rcCh τ (nI g8) v n = (-6) := (by first | (simp [rcCh, *]; done) | (grind [rcCh])); rw [if_neg (by rw [e9] <;> (first | done | decide)), e9]) (by have e9 : rcCh τ (nI g8) v n = (-6) := (by first | (simp [rcCh, *]; done) | (grind [rcCh])); rw [e9] <;> (first | done | rfl | (rw [if_neg (by decide)] <;> (first | done | rfl)))) dX6_change_72
        · refine g_iconst (pc := 54) (v := 1) C dX6_change_54 (by decide) ?_
          refine g_goto (pc := 55) (tgt := 59) C dX6_change_55 (by decide) ?_
          refine g_istore (pc := 59) (lv' := [(4, .int 1), (0, .ref x), (1, .int (nI g8)), (2, .int v), (3, .int n)]) C dX6_change_59 (by decide) rfl ?_
          refine g_iload (pc := 61) C dX6_change_61 0 rfl ?_
          refine g_if_ne (pc := 63) (tgt := 73) C dX6_change_63 (by decide) (fun h63 => ?_) (fun h63 => absurd h63 (by decide))
          refine g_iload_n (pc := 73) C dX6_change_73 4 rfl ?_
          refine g_aload_n (pc := 74) C dX6_change_74 1 rfl ?_
          refine g_get (pc := 75) (T := TX6) (N := 9) (v := .ref t) C ib_X6 0 rfl rfl 0 (by decide) mf_X6_10 rfl rfl rfl dX6_change_75 ?_
          refine g_iload_n (pc := 78) C dX6_change_78 2 rfl ?_
          refine g_rdVI (pc := 79) (val := τ 3 g8) (rest := [.int n]) C k_X3_countOf (c_X3_countOf l G t ta tb tc τ g8 (by first | assumption | omega)) ml_X6_149 rfl ⟨Nat.le_of_ble_eq_true rfl, Nat.le_of_ble_eq_true rfl⟩ rfl [1, 2, 3, 4] rfl 1 rfl rfl rfl rfl (Nat.le_of_ble_eq_true rfl) ⟨by decide, by decide⟩ dX6_change_79 ?_
          refine g_icmp_ne (pc := 82) (tgt := 96) C dX6_change_82 (by decide) (fun h82 => ?_) (fun h82 => ?_)
          · refine g_aload_n (pc := 96) C dX6_change_96 1 rfl ?_
            refine g_get (pc := 97) (T := TX6) (N := 9) (v := .ref t) C ib_X6 0 rfl rfl 0 (by decide) mf_X6_10 rfl rfl rfl dX6_change_97 ?_
            refine g_rdVI (pc := 100) (val := bI (tG τ < 10)) (rest := []) C k_X3_hasRoomForGroup (c_X3_hasRoomForGroup l G t ta tb tc τ (by first | assumption | omega)) ml_X6_127 rfl ⟨Nat.le_of_ble_eq_true rfl, Nat.le_of_ble_eq_true rfl⟩ rfl [1, 2, 3, 4] rfl 1 rfl rfl rfl rfl (Nat.le_of_ble_eq_true rfl) ⟨by decide, by decide⟩ dX6_change_100 ?_
            refine g_ifb_ne (pc := 103) (tgt := 113) C dX6_change_103 (by decide) (fun h103 => ?_) (fun h103 => ?_)
            · refine g_aload_n (pc := 113) C dX6_change_113 1 rfl ?_
              refine g_get (pc := 114) (T := TX6) (N := 9) (v := .ref t) C ib_X6 0 rfl rfl 0 (by decide) mf_X6_10 rfl rfl rfl dX6_change_114 ?_
              refine g_iload_n (pc := 117) C dX6_change_117 2 rfl ?_
              refine g_iload_n (pc := 118) C dX6_change_118 3 rfl ?_
              refine g_iload_n (pc := 119) C dX6_change_119 4 rfl ?_
              refine g_wrVI (pc := 120) (rest := []) (wr := [wX x t im it o sv tx ac rf lf, iC G rf 8 rr]) C (fun _ => [wX x t im it o sv tx ac rf lf] ++ (wT G t ta tb tc (aSp τ g8 v n) ++ ([iC G rf 8 rr]))) rfl k_X3_splitGroup (c_X3_splitGroup l G t ta tb tc τ g8 v n (by first | assumption | omega) (by first | assumption | omega) (by first | assumption | omega) (TI_cut hT hg8 h51 h82)) ml_X6_282 rfl ⟨Nat.le_of_ble_eq_true rfl, Nat.le_of_ble_eq_true rfl⟩ rfl [1, 2, 3, 4] [0, 5] [0, 2, 3, 4, 5, 1] rfl (by decide) rfl (by decide) (by decide) (by decide) (fun _ => rfl) 1 rfl rfl rfl rfl (Nat.le_of_ble_eq_true rfl) ⟨by decide, by decide⟩ dX6_change_120 (fun r120 _ e120 => ?_)
              subst e120
              exact g_retIW (pc := 123) C rfl rfl () (rfl) (by have e9 : rcCh τ (nI g8) v n = 0 := (by first | (simp [rcCh, *]; done) | (grind [rcCh])); rw [if_pos e9] <;> (simp [chV, eg8, h82])) (by have e9 : rcCh τ (nI g8) v n = 0 := (by first | (simp [rcCh, *]; done) | (grind [rcCh])); rw [e9, rfI_0] <;> (rw [chT, eg8, if_neg h82] <;> rfl)) dX6_change_123
            · refine g_aload_n (pc := 106) C dX6_change_106 1 rfl ?_
              refine g_bipush (pc := 107) (v := (-7)) C dX6_change_107 (by decide) ?_
              refine g_wrVI (pc := 109) (rest := []) (wr := [oC t 3 [.ref ta, .ref tb, .ref tc, .int (τ 8 0), .int (τ 8 1), .int (τ 8 2), .int (τ 8 3), .int (τ 8 4), .int (τ 8 5), .int (τ 8 6)], iC G ta 16 (fq τ), iC G tb 64 (τ 2), iC G tc 50 (fg τ)]) C (fun _ => [wX x t im it o sv tx ac rf lf] ++ (wT G t ta tb tc τ ++ ([iC G rf 8 (rfI rr (-7))]))) rfl k_X6_refuse (c_X6_refuse l G x t im it o sv tx ac rf lf rr (-7)) ml_X6_59 rfl ⟨Nat.le_of_ble_eq_true rfl, Nat.le_of_ble_eq_true rfl⟩ rfl [0, 5] [1, 2, 3, 4] [4, 0, 1, 2, 3, 5] rfl (by decide) rfl (by decide) (by decide) (by decide) (fun _ => rfl) 0 rfl rfl rfl rfl (Nat.le_of_ble_eq_true rfl) ⟨by decide, by decide⟩ dX6_change_109 (fun r109 _ e109 => ?_)
              subst e109
              exact g_retIW (pc := 112) C rfl rfl () (rfl) (by have e9 : rcCh τ (nI g8) v n = (-7) := (by first | (simp [rcCh, *]; done) | (grind [rcCh])); rw [if_neg (by rw [e9] <;> (first | done | decide)), e9]) (by have e9 : rcCh τ (nI g8) v n = (-7) := (by first | (simp [rcCh, *]; done) | (grind [rcCh])); rw [e9] <;> (first | done | rfl | (rw [if_neg (by decide)] <;> (first | done | rfl)))) dX6_change_112
          · refine g_aload_n (pc := 85) C dX6_change_85 1 rfl ?_
            refine g_get (pc := 86) (T := TX6) (N := 9) (v := .ref t) C ib_X6 0 rfl rfl 0 (by decide) mf_X6_10 rfl rfl rfl dX6_change_86 ?_
            refine g_iload_n (pc := 89) C dX6_change_89 2 rfl ?_
            refine g_iload_n (pc := 90) C dX6_change_90 3 rfl ?_
            refine g_wrVV (pc := 91) (rest := []) (wr := [wX x t im it o sv tx ac rf lf, iC G rf 8 rr]) C (fun _ => [wX x t im it o sv tx ac rf lf] ++ (wT G t ta tb tc (aVi τ g8 v) ++ ([iC G rf 8 rr]))) rfl k_X3_putView (c_X3_putView l G t ta tb tc τ g8 v (by first | assumption | omega)) ml_X6_279 rfl ⟨Nat.le_of_ble_eq_true rfl, Nat.le_of_ble_eq_true rfl⟩ rfl [1, 2, 3, 4] [0, 5] [0, 2, 3, 4, 5, 1] rfl (by decide) rfl (by decide) (by decide) (by decide) (fun _ => rfl) 1 rfl rfl rfl rfl (Nat.le_of_ble_eq_true rfl) ⟨by decide, by decide⟩ dX6_change_91 (fun _ _ => ?_)
            refine g_iload_n (pc := 94) C dX6_change_94 2 rfl ?_
            exact g_retIW (pc := 95) C rfl rfl () (rfl) (by have e9 : rcCh τ (nI g8) v n = 0 := (by first | (simp [rcCh, *]; done) | (grind [rcCh])); rw [if_pos e9] <;> (simp [chV, eg8, h82])) (by have e9 : rcCh τ (nI g8) v n = 0 := (by first | (simp [rcCh, *]; done) | (grind [rcCh])); rw [e9, rfI_0] <;> (rw [chT, eg8, if_pos h82] <;> rfl)) dX6_change_95
  · refine g_aload_n (pc := 11) C dX6_change_11 0 rfl ?_
    refine g_iconst (pc := 12) (v := (-1)) C dX6_change_12 (by decide) ?_
    refine g_wrVI (pc := 13) (rest := []) (wr := [oC t 3 [.ref ta, .ref tb, .ref tc, .int (τ 8 0), .int (τ 8 1), .int (τ 8 2), .int (τ 8 3), .int (τ 8 4), .int (τ 8 5), .int (τ 8 6)], iC G ta 16 (fq τ), iC G tb 64 (τ 2), iC G tc 50 (fg τ)]) C (fun _ => [wX x t im it o sv tx ac rf lf] ++ (wT G t ta tb tc τ ++ ([iC G rf 8 (rfI rr (-1))]))) rfl k_X6_refuse (c_X6_refuse l G x t im it o sv tx ac rf lf rr (-1)) ml_X6_59 rfl ⟨Nat.le_of_ble_eq_true rfl, Nat.le_of_ble_eq_true rfl⟩ rfl [0, 5] [1, 2, 3, 4] [4, 0, 1, 2, 3, 5] rfl (by decide) rfl (by decide) (by decide) (by decide) (fun _ => rfl) 0 rfl rfl rfl rfl (Nat.le_of_ble_eq_true rfl) ⟨by decide, by decide⟩ dX6_change_13 (fun r13 _ e13 => ?_)
    subst e13
    exact g_retIW (pc := 16) C rfl rfl () (rfl) (by have e9 : rcCh τ g v n = (-1) := (by first | (simp [rcCh, *]; done) | (grind [rcCh])); rw [if_neg (by rw [e9] <;> (first | done | decide)), e9]) (by have e9 : rcCh τ g v n = (-1) := (by first | (simp [rcCh, *]; done) | (grind [rcCh])); rw [e9] <;> (first | done | rfl | (rw [if_neg (by decide)] <;> (first | done | rfl)))) dX6_change_16
set_option maxRecDepth 20000 in
set_option maxHeartbeats 4000000 in
theorem c_X6_doors (l : Launch) (G : gT) (x : Nat) (t : Nat) (im : Nat) (it : Int32) (o : Nat) (sv : Nat) (tx : Nat) (ac : Nat) (rf : Nat) (lf : Int32) (ta : Nat) (tb : Nat) (tc : Nat) (τ : tT) (n : Int32) (rr : Nat → Int32) (hT : TI τ) : WI l yX6_doors cX6_doors 4 (some .int) 10 0 0 G [.ref x, .int n] ([wX x t im it o sv tx ac rf lf] ++ (wT G t ta tb tc τ ++ ([iC G rf 8 rr]))) (S := Unit) (fun r _ => r = if rcDo τ n = 0 then knN τ (nx n) 8 6 - τ 8 6 else (rcDo τ n)) (fun _ => [wX x t im it o sv tx ac rf lf] ++ (wT G t ta tb tc (if rcDo τ n = 0 then knN τ (nx n) else τ) ++ ([iC G rf 8 (rfI rr (rcDo τ n))]))) := by
  have hg10 := hT.g10
  have hq8 := hT.q8
  have hzq := nI_z (n := tQ τ) (by omega)
  have hzg := nI_z (n := tG τ) (by omega)
  intro sz9
  refine start_W (by decide) (Nat.le_of_ble_eq_true rfl) (fun p9 e9 s9 m9 a9 b9 t9 c9 C => ?_)
  refine g_lv (lv' := [(0, .ref x), (1, .int n)]) rfl ?_
  refine g_aload_n (pc := 0) C dX6_doors_0 0 rfl ?_
  refine g_get (pc := 1) (T := TX6) (N := 9) (v := .ref t) C ib_X6 0 rfl rfl 0 (by decide) mf_X6_10 rfl rfl rfl dX6_doors_1 ?_
  refine g_get (pc := 4) (T := TX3) (N := 10) (v := .int (τ 8 1)) C ib_X3 1 rfl rfl 4 (by decide) mf_X6_285 rfl rfl rfl dX6_doors_4 ?_
  refine g_top (z := nI (tG τ)) (hT.g) ?_
  refine g_if_eq (pc := 7) (tgt := 20) C dX6_doors_7 (by decide) (fun h7 => ?_) (fun h7 => ?_)
  · refine g_aload_n (pc := 20) C dX6_doors_20 0 rfl ?_
    refine g_bipush (pc := 21) (v := (-5)) C dX6_doors_21 (by decide) ?_
    refine g_wrVI (pc := 23) (rest := []) (wr := [oC t 3 [.ref ta, .ref tb, .ref tc, .int (τ 8 0), .int (τ 8 1), .int (τ 8 2), .int (τ 8 3), .int (τ 8 4), .int (τ 8 5), .int (τ 8 6)], iC G ta 16 (fq τ), iC G tb 64 (τ 2), iC G tc 50 (fg τ)]) C (fun _ => [wX x t im it o sv tx ac rf lf] ++ (wT G t ta tb tc τ ++ ([iC G rf 8 (rfI rr (-5))]))) rfl k_X6_refuse (c_X6_refuse l G x t im it o sv tx ac rf lf rr (-5)) ml_X6_59 rfl ⟨Nat.le_of_ble_eq_true rfl, Nat.le_of_ble_eq_true rfl⟩ rfl [0, 5] [1, 2, 3, 4] [4, 0, 1, 2, 3, 5] rfl (by decide) rfl (by decide) (by decide) (by decide) (fun _ => rfl) 0 rfl rfl rfl rfl (Nat.le_of_ble_eq_true rfl) ⟨by decide, by decide⟩ dX6_doors_23 (fun r23 _ e23 => ?_)
    subst e23
    exact g_retIW (pc := 26) C rfl rfl () (rfl) (by have e9 : rcDo τ n = (-5) := (by first | (simp [rcDo, *]; done) | (grind [rcDo])); rw [if_neg (by rw [e9] <;> (first | done | decide)), e9]) (by have e9 : rcDo τ n = (-5) := (by first | (simp [rcDo, *]; done) | (grind [rcDo])); rw [e9] <;> (first | done | rfl | (rw [if_neg (by decide)] <;> (first | done | rfl)))) dX6_doors_26
  · refine g_aload_n (pc := 10) C dX6_doors_10 0 rfl ?_
    refine g_get (pc := 11) (T := TX6) (N := 9) (v := .ref t) C ib_X6 0 rfl rfl 0 (by decide) mf_X6_10 rfl rfl rfl dX6_doors_11 ?_
    refine g_get (pc := 14) (T := TX3) (N := 10) (v := .int (τ 8 0)) C ib_X3 1 rfl rfl 3 (by decide) mf_X6_239 rfl rfl rfl dX6_doors_14 ?_
    refine g_top (z := nI (tQ τ)) (hT.q) ?_
    refine g_if_ne (pc := 17) (tgt := 27) C dX6_doors_17 (by decide) (fun h17 => ?_) (fun h17 => ?_)
    · refine g_iload_n (pc := 27) C dX6_doors_27 1 rfl ?_
      refine g_iconst (pc := 28) (v := 1) C dX6_doors_28 (by decide) ?_
      refine g_sipush (pc := 29) (v := 200) C dX6_doors_29 (by decide) ?_
      refine g_rdSI (pc := 32) (val := bI (1 ≤ n ∧ n ≤ 200)) (rest := []) C k_X6_isWithin (c_X6_isWithin l G n 1 200) ml_X6_63 rfl ⟨Nat.le_of_ble_eq_true rfl, Nat.le_of_ble_eq_true rfl⟩ rfl [] rfl rfl (Nat.le_of_ble_eq_true rfl) ⟨by decide, by decide⟩ dX6_doors_32 ?_
      refine g_ifb_ne (pc := 35) (tgt := 45) C dX6_doors_35 (by decide) (fun h35 => ?_) (fun h35 => ?_)
      · refine g_aload_n (pc := 45) C dX6_doors_45 0 rfl ?_
        refine g_get (pc := 46) (T := TX6) (N := 9) (v := .ref t) C ib_X6 0 rfl rfl 0 (by decide) mf_X6_10 rfl rfl rfl dX6_doors_46 ?_
        refine g_get (pc := 49) (T := TX3) (N := 10) (v := .int (τ 8 6)) C ib_X3 1 rfl rfl 9 (by decide) mf_X6_288 rfl rfl rfl dX6_doors_49 ?_
        refine g_istore_n (pc := 52) (lv' := [(2, .int (τ 8 6)), (0, .ref x), (1, .int n)]) C dX6_doors_52 rfl (by decide) rfl ?_
        have hg0 : 0 < tG τ := Nat.pos_of_ne_zero (fun q => h7 (hzg.mpr q))
        have hq0 : 0 < tQ τ := Nat.pos_of_ne_zero (fun q => h17 (hzq.mpr q))
        obtain ⟨n8, hn8, rfl⟩ := nI_of2 (M := 200) (n := 200) rfl (Int32.not_lt.mpr (Int32.le_trans (by decide) h35.1)) h35.2
        have en8 : nx (nI n8) = n8 := nx_nI (by omega)
        refine g_iconst (pc := 53) (v := 0) C dX6_doors_53 (by decide) ?_
        refine g_istore_n (pc := 54) (lv' := [(3, .int 0), (2, .int (τ 8 6)), (0, .ref x), (1, .int (nI n8))]) C dX6_doors_54 rfl (by decide) rfl ?_
        have key_55 : ∀ (n55 : Nat) (i : Nat) (hi : i ≤ n8), n8 - i < n55 → GW p9 l e9 (rmh 10 0 0) s9 m9 a9 b9 t9 c9 (MQ b9 (va_Qi (fun r (_ : Unit) => r = if rcDo τ (nI n8) = 0 then knN τ (nx (nI n8)) 8 6 - τ 8 6 else (rcDo τ (nI n8))) (BW G ([wX x t im it o sv tx ac rf lf] ++ (wT G t ta tb tc τ ++ ([iC G rf 8 rr]))) sz9 (fun _ => [wX x t im it o sv tx ac rf lf] ++ (wT G t ta tb tc (if rcDo τ (nI n8) = 0 then knN τ (nx (nI n8)) else τ) ++ ([iC G rf 8 (rfI rr (rcDo τ (nI n8)))])))) (va_A ([wX x t im it o sv tx ac rf lf] ++ (wT G t ta tb tc τ ++ ([iC G rf 8 rr]))) sz9)) a9 s9 0 0 (va_A ([wX x t im it o sv tx ac rf lf] ++ (wT G t ta tb tc τ ++ ([iC G rf 8 rr]))) sz9)) G (va_A ([wX x t im it o sv tx ac rf lf] ++ (wT G t ta tb tc τ ++ ([iC G rf 8 rr]))) sz9) true 4 0 0 ([wX x t im it o sv tx ac rf lf] ++ (wT G t ta tb tc (knN τ i) ++ ([iC G rf 8 rr]))) [(0, .ref x), (1, .int (nI n8)), (2, .int (τ 8 6)), (3, .int (nI i))] 55 [] := by
          intro n55
          induction n55 with
          | zero => intro i hi hn55; exact absurd hn55 (Nat.not_lt_zero _)
          | succ n55 ih55 =>
            intro i hi hn55
            have hk9 := hT.kN i
            refine g_iload_n (pc := 55) C dX6_doors_55 3 rfl ?_
            refine g_iload_n (pc := 56) C dX6_doors_56 1 rfl ?_
            refine g_icmpN_ge (pc := 57) (i := i) (j := n8) (tgt := 73) C dX6_doors_57 (by decide) ⟨by omega, by omega⟩ (fun h57 => ?_) (fun h57 => ?_)
            · refine g_aload_n (pc := 73) C dX6_doors_73 0 rfl ?_
              refine g_get (pc := 74) (T := TX6) (N := 9) (v := .ref t) C ib_X6 0 rfl rfl 0 (by decide) mf_X6_10 rfl rfl rfl dX6_doors_74 ?_
              refine g_get (pc := 77) (T := TX3) (N := 10) (v := .int ((knN τ i) 8 6)) C ib_X3 1 rfl rfl 9 (by decide) mf_X6_288 rfl rfl rfl dX6_doors_77 ?_
              refine g_iload_n (pc := 80) C dX6_doors_80 2 rfl ?_
              refine g_isub (pc := 81) C dX6_doors_81 ?_
              exact g_retIW (pc := 82) C rfl rfl () (rfl) (by have e9 : rcDo τ (nI n8) = 0 := (by first | (simp [rcDo, *]; done) | (grind [rcDo])); rw [if_pos e9] <;> (rw [en8, show i = n8 from by omega])) (by have e9 : rcDo τ (nI n8) = 0 := (by first | (simp [rcDo, *]; done) | (grind [rcDo])); rw [e9, rfI_0] <;> (rw [en8, show i = n8 from by omega] <;> rfl)) dX6_doors_82
            · refine g_aload_n (pc := 60) C dX6_doors_60 0 rfl ?_
              refine g_get (pc := 61) (T := TX6) (N := 9) (v := .ref t) C ib_X6 0 rfl rfl 0 (by decide) mf_X6_10 rfl rfl rfl dX6_doors_61 ?_
              refine g_wrVV (pc := 64) (rest := []) (wr := [wX x t im it o sv tx ac rf lf, iC G rf 8 rr]) C (fun _ => [wX x t im it o sv tx ac rf lf] ++ (wT G t ta tb tc (knk (knN τ i)) ++ ([iC G rf 8 rr]))) rfl k_X3_knock (c_X3_knock l G t ta tb tc (knN τ i) hk9.1 (by rw [hk9.2.1]; exact hq0) (by rw [hk9.2.2]; exact hg0)) ml_X6_291 rfl ⟨Nat.le_of_ble_eq_true rfl, Nat.le_of_ble_eq_true rfl⟩ rfl [1, 2, 3, 4] [0, 5] [0, 2, 3, 4, 5, 1] rfl (by decide) rfl (by decide) (by decide) (by decide) (fun _ => rfl) 1 rfl rfl rfl rfl (Nat.le_of_ble_eq_true rfl) ⟨by decide, by decide⟩ dX6_doors_64 (fun _ _ => ?_)
              refine g_iinc (pc := 67) (v := nI (i + 1)) (lv' := [(3, .int (nI (i + 1))), (0, .ref x), (1, .int (nI n8)), (2, .int (τ 8 6))]) C dX6_doors_67 3 rfl (nI_1 i) (by decide) rfl ?_
              refine g_goto (pc := 70) (tgt := 55) C dX6_doors_70 (by decide) ?_
              refine g_ws (ws' := [wX x t im it o sv tx ac rf lf] ++ (wT G t ta tb tc (knN τ (i + 1)) ++ ([iC G rf 8 rr]))) (rfl) ?_
              refine g_sub (lv' := [(0, .ref x), (1, .int (nI n8)), (2, .int (τ 8 6)), (3, .int (nI (i + 1)))]) [1, 2, 3, 0] rfl ?_
              exact ih55 (i + 1) (by first | assumption | omega) (by omega)
        refine g_ws (ws' := [wX x t im it o sv tx ac rf lf] ++ (wT G t ta tb tc (knN τ 0) ++ ([iC G rf 8 rr]))) (rfl) ?_
        refine g_sub (lv' := [(0, .ref x), (1, .int (nI n8)), (2, .int (τ 8 6)), (3, .int (nI 0))]) [2, 3, 1, 0] rfl ?_
        exact key_55 _ 0 (by first | assumption | omega) (Nat.lt_succ_self _)
      · refine g_aload_n (pc := 38) C dX6_doors_38 0 rfl ?_
        refine g_bipush (pc := 39) (v := (-6)) C dX6_doors_39 (by decide) ?_
        refine g_wrVI (pc := 41) (rest := []) (wr := [oC t 3 [.ref ta, .ref tb, .ref tc, .int (τ 8 0), .int (τ 8 1), .int (τ 8 2), .int (τ 8 3), .int (τ 8 4), .int (τ 8 5), .int (τ 8 6)], iC G ta 16 (fq τ), iC G tb 64 (τ 2), iC G tc 50 (fg τ)]) C (fun _ => [wX x t im it o sv tx ac rf lf] ++ (wT G t ta tb tc τ ++ ([iC G rf 8 (rfI rr (-6))]))) rfl k_X6_refuse (c_X6_refuse l G x t im it o sv tx ac rf lf rr (-6)) ml_X6_59 rfl ⟨Nat.le_of_ble_eq_true rfl, Nat.le_of_ble_eq_true rfl⟩ rfl [0, 5] [1, 2, 3, 4] [4, 0, 1, 2, 3, 5] rfl (by decide) rfl (by decide) (by decide) (by decide) (fun _ => rfl) 0 rfl rfl rfl rfl (Nat.le_of_ble_eq_true rfl) ⟨by decide, by decide⟩ dX6_doors_41 (fun r41 _ e41 => ?_)
        subst e41
        exact g_retIW (pc := 44) C rfl rfl () (rfl) (by have e9 : rcDo τ n = (-6) := (by first | (simp [rcDo, *]; done) | (grind [rcDo])); rw [if_neg (by rw [e9] <;> (first | done | decide)), e9]) (by have e9 : rcDo τ n = (-6) := (by first | (simp [rcDo, *]; done) | (grind [rcDo])); rw [e9] <;> (first | done | rfl | (rw [if_neg (by decide)] <;> (first | done | rfl)))) dX6_doors_44
    · refine g_aload_n (pc := 20) C dX6_doors_20 0 rfl ?_
      refine g_bipush (pc := 21) (v := (-5)) C dX6_doors_21 (by decide) ?_
      refine g_wrVI (pc := 23) (rest := []) (wr := [oC t 3 [.ref ta, .ref tb, .ref tc, .int (τ 8 0), .int (τ 8 1), .int (τ 8 2), .int (τ 8 3), .int (τ 8 4), .int (τ 8 5), .int (τ 8 6)], iC G ta 16 (fq τ), iC G tb 64 (τ 2), iC G tc 50 (fg τ)]) C (fun _ => [wX x t im it o sv tx ac rf lf] ++ (wT G t ta tb tc τ ++ ([iC G rf 8 (rfI rr (-5))]))) rfl k_X6_refuse (c_X6_refuse l G x t im it o sv tx ac rf lf rr (-5)) ml_X6_59 rfl ⟨Nat.le_of_ble_eq_true rfl, Nat.le_of_ble_eq_true rfl⟩ rfl [0, 5] [1, 2, 3, 4] [4, 0, 1, 2, 3, 5] rfl (by decide) rfl (by decide) (by decide) (by decide) (fun _ => rfl) 0 rfl rfl rfl rfl (Nat.le_of_ble_eq_true rfl) ⟨by decide, by decide⟩ dX6_doors_23 (fun r23 _ e23 => ?_)
      subst e23
      exact g_retIW (pc := 26) C rfl rfl () (rfl) (by have e9 : rcDo τ n = (-5) := (by first | (simp [rcDo, *]; done) | (grind [rcDo])); rw [if_neg (by rw [e9] <;> (first | done | decide)), e9]) (by have e9 : rcDo τ n = (-5) := (by first | (simp [rcDo, *]; done) | (grind [rcDo])); rw [e9] <;> (first | done | rfl | (rw [if_neg (by decide)] <;> (first | done | rfl)))) dX6_doors_26
set_option maxRecDepth 20000 in
set_option maxHeartbeats 4000000 in
theorem c_X6_seed (l : Launch) (G : gT) (x : Nat) (t : Nat) (im : Nat) (it : Int32) (o : Nat) (sv : Nat) (tx : Nat) (ac : Nat) (rf : Nat) (lf : Int32) (ta : Nat) (tb : Nat) (tc : Nat) (τ : tT) (v : Int32) : WI l yX6_seed cX6_seed 3 (some .int) 10 0 0 G [.ref x, .int v] ([wX x t im it o sv tx ac rf lf] ++ (wT G t ta tb tc τ)) (S := Unit) (fun r _ => r = τ 8 4) (fun _ => [wX x t im it o sv tx ac rf lf] ++ (wT G t ta tb tc (aSc τ 4 v))) := by
  intro sz9
  refine start_W (by decide) (Nat.le_of_ble_eq_true rfl) (fun p9 e9 s9 m9 a9 b9 t9 c9 C => ?_)
  refine g_lv (lv' := [(0, .ref x), (1, .int v)]) rfl ?_
  refine g_aload_n (pc := 0) C dX6_seed_0 0 rfl ?_
  refine g_get (pc := 1) (T := TX6) (N := 9) (v := .ref t) C ib_X6 0 rfl rfl 0 (by decide) mf_X6_10 rfl rfl rfl dX6_seed_1 ?_
  refine g_get (pc := 4) (T := TX3) (N := 10) (v := .int (τ 8 4)) C ib_X3 1 rfl rfl 7 (by decide) mf_X6_294 rfl rfl rfl dX6_seed_4 ?_
  refine g_istore_n (pc := 7) (lv' := [(2, .int (τ 8 4)), (0, .ref x), (1, .int v)]) C dX6_seed_7 rfl (by decide) rfl ?_
  refine g_aload_n (pc := 8) C dX6_seed_8 1 rfl ?_
  refine g_get (pc := 9) (T := TX6) (N := 9) (v := .ref t) C ib_X6 0 rfl rfl 0 (by decide) mf_X6_10 rfl rfl rfl dX6_seed_9 ?_
  refine g_iload_n (pc := 12) C dX6_seed_12 2 rfl ?_
  refine g_put (pc := 13) (T := TX3) (N := 10) (ty := .int) (ws' := [wX x t im it o sv tx ac rf lf, oC t 3 [.ref ta, .ref tb, .ref tc, .int (τ 8 0), .int (τ 8 1), .int (τ 8 2), .int (τ 8 3), .int v, .int (τ 8 5), .int (τ 8 6)], iC G ta 16 (fq τ), iC G tb 64 (τ 2), iC G tc 50 (fg τ)]) C rfl ib_X3 tyX3 tyX3_ok nmX3 1 rfl rfl 7 (by decide) mf_X6_294 rfl rfl rfl (by decide +kernel) rfl rfl (Nat.le_of_ble_eq_true rfl) dX6_seed_13 rfl ?_
  refine g_iload_n (pc := 16) C dX6_seed_16 0 rfl ?_
  exact g_retIW (pc := 17) C rfl rfl () (rfl) (by rfl) (by simp [wT, aSc, aVi, fq_upn, fg_upn, up2_n, up2]) dX6_seed_17
set_option maxRecDepth 20000 in
set_option maxHeartbeats 4000000 in
theorem c_X6_act (l : Launch) (G : gT) (x : Nat) (t : Nat) (im : Nat) (it : Int32) (o : Nat) (sv : Nat) (tx : Nat) (ac : Nat) (rf : Nat) (lf : Int32) (ta : Nat) (tb : Nat) (tc : Nat) (τ : tT) (ak : Nat) (kp : Nat → Int32) (b : Nat) (nm : Int32) (kd : Int32) (aa : Int32) (q : Int32) (act : Int32) (y : Int32) (hT : TI τ) : WI l yX6_act cX6_act 4 (some .int) 10 0 0 G [.ref x, .int q, .int act, .int y] ([wX x t im it o sv tx ac rf lf] ++ (wT G t ta tb tc τ ++ (wA G ac ak kp (nI b) nm kd aa))) (S := Unit) (fun r _ => r = if isQ τ q then acV (tK τ (nx q)) act q (τ 1 (nx q)) y else 0) (fun _ => [wX x t im it o sv tx ac rf lf] ++ (wT G t ta tb tc τ ++ (wA G ac ak (if isQ τ q then rnK kp 0 (acL (tK τ (nx q)) act) else kp) (nI (if isQ τ q then (acL (tK τ (nx q)) act).length else 0)) (if isQ τ q then q else nm) (if isQ τ q then nI (tK τ (nx q)) else kd) (if isQ τ q then τ 1 (nx q) else aa)))) := by
  have hg10 := hT.g10
  have hq8 := hT.q8
  intro sz9
  refine start_W (by decide) (Nat.le_of_ble_eq_true rfl) (fun p9 e9 s9 m9 a9 b9 t9 c9 C => ?_)
  refine g_lv (lv' := [(0, .ref x), (1, .int q), (2, .int act), (3, .int y)]) rfl ?_
  refine g_aload_n (pc := 0) C dX6_act_0 0 rfl ?_
  refine g_get (pc := 1) (T := TX6) (N := 9) (v := .ref ac) C ib_X6 0 rfl rfl 6 (by decide) mf_X6_43 rfl rfl rfl dX6_act_1 ?_
  refine g_wrVV (pc := 4) (rest := []) (wr := [wX x t im it o sv tx ac rf lf, oC t 3 [.ref ta, .ref tb, .ref tc, .int (τ 8 0), .int (τ 8 1), .int (τ 8 2), .int (τ 8 3), .int (τ 8 4), .int (τ 8 5), .int (τ 8 6)], iC G ta 16 (fq τ), iC G tb 64 (τ 2), iC G tc 50 (fg τ)]) C (fun _ => [wX x t im it o sv tx ac rf lf] ++ (wT G t ta tb tc τ ++ (wA G ac ak kp 0 nm kd aa))) rfl k_X0_forget (c_X0_forget l G ac ak kp b nm kd aa) ml_X6_297 rfl ⟨Nat.le_of_ble_eq_true rfl, Nat.le_of_ble_eq_true rfl⟩ rfl [5, 6] [0, 1, 2, 3, 4] [0, 1, 2, 3, 4, 5, 6] rfl (by decide) rfl (by decide) (by decide) (by decide) (fun _ => rfl) 5 rfl rfl rfl rfl (Nat.le_of_ble_eq_true rfl) ⟨by decide, by decide⟩ dX6_act_4 (fun _ _ => ?_)
  refine g_aload_n (pc := 7) C dX6_act_7 0 rfl ?_
  refine g_get (pc := 8) (T := TX6) (N := 9) (v := .ref t) C ib_X6 0 rfl rfl 0 (by decide) mf_X6_10 rfl rfl rfl dX6_act_8 ?_
  refine g_iload_n (pc := 11) C dX6_act_11 1 rfl ?_
  refine g_rdVI (pc := 12) (val := bI (0 ≤ q ∧ q ≤ nI (tQ τ) - 1)) (rest := []) C k_X3_hasQuestion (c_X3_hasQuestion l G t ta tb tc τ q (by first | assumption | omega)) ml_X6_93 rfl ⟨Nat.le_of_ble_eq_true rfl, Nat.le_of_ble_eq_true rfl⟩ rfl [1, 2, 3, 4] rfl 1 rfl rfl rfl rfl (Nat.le_of_ble_eq_true rfl) ⟨by decide, by decide⟩ dX6_act_12 ?_
  refine g_ifb_ne (pc := 15) (tgt := 20) C dX6_act_15 (by decide) (fun h15 => ?_) (fun h15 => ?_)
  · obtain ⟨q8, hq8, rfl⟩ := isQ_nI hT h15
    have eq8 : nx (nI q8) = q8 := nx_nI (by omega)
    have hk6 := (hT.k (show q8 < 8 from by omega)).2
    refine g_aload_n (pc := 20) C dX6_act_20 0 rfl ?_
    refine g_get (pc := 21) (T := TX6) (N := 9) (v := .ref ac) C ib_X6 0 rfl rfl 6 (by decide) mf_X6_43 rfl rfl rfl dX6_act_21 ?_
    refine g_iload_n (pc := 24) C dX6_act_24 1 rfl ?_
    refine g_aload_n (pc := 25) C dX6_act_25 0 rfl ?_
    refine g_get (pc := 26) (T := TX6) (N := 9) (v := .ref t) C ib_X6 0 rfl rfl 0 (by decide) mf_X6_10 rfl rfl rfl dX6_act_26 ?_
    refine g_iload_n (pc := 29) C dX6_act_29 1 rfl ?_
    refine g_rdVI (pc := 30) (val := τ 0 q8) (rest := [.int (nI q8), .ref ac]) C k_X3_kindOf (c_X3_kindOf l G t ta tb tc τ q8 (by first | assumption | omega)) ml_X6_106 rfl ⟨Nat.le_of_ble_eq_true rfl, Nat.le_of_ble_eq_true rfl⟩ rfl [1, 2, 3, 4] rfl 1 rfl rfl rfl rfl (Nat.le_of_ble_eq_true rfl) ⟨by decide, by decide⟩ dX6_act_30 ?_
    refine g_top (z := nI (tK τ q8)) ((hT.k (show q8 < 8 from by omega)).1) ?_
    refine g_aload_n (pc := 33) C dX6_act_33 0 rfl ?_
    refine g_get (pc := 34) (T := TX6) (N := 9) (v := .ref t) C ib_X6 0 rfl rfl 0 (by decide) mf_X6_10 rfl rfl rfl dX6_act_34 ?_
    refine g_iload_n (pc := 37) C dX6_act_37 1 rfl ?_
    refine g_rdVI (pc := 38) (val := τ 1 q8) (rest := [.int (nI (tK τ q8)), .int (nI q8), .ref ac]) C k_X3_aOf (c_X3_aOf l G t ta tb tc τ q8 (by first | assumption | omega)) ml_X6_137 rfl ⟨Nat.le_of_ble_eq_true rfl, Nat.le_of_ble_eq_true rfl⟩ rfl [1, 2, 3, 4] rfl 1 rfl rfl rfl rfl (Nat.le_of_ble_eq_true rfl) ⟨by decide, by decide⟩ dX6_act_38 ?_
    refine g_iload_n (pc := 41) C dX6_act_41 2 rfl ?_
    refine g_iload_n (pc := 42) C dX6_act_42 3 rfl ?_
    refine g_wrVI (pc := 43) (rest := []) (wr := [wX x t im it o sv tx ac rf lf, oC t 3 [.ref ta, .ref tb, .ref tc, .int (τ 8 0), .int (τ 8 1), .int (τ 8 2), .int (τ 8 3), .int (τ 8 4), .int (τ 8 5), .int (τ 8 6)], iC G ta 16 (fq τ), iC G tb 64 (τ 2), iC G tc 50 (fg τ)]) C (fun _ => [wX x t im it o sv tx ac rf lf] ++ (wT G t ta tb tc τ ++ (wA G ac ak (rnK kp 0 (acL (tK τ q8) act)) (nI (acL (tK τ q8) act).length) (nI q8) (nI (tK τ q8)) (τ 1 q8)))) rfl k_X0_run (c_X0_run l G ac ak kp nm kd aa (nI q8) (tK τ q8) (τ 1 q8) act y (by first | assumption | omega)) ml_X6_300 rfl ⟨Nat.le_of_ble_eq_true rfl, Nat.le_of_ble_eq_true rfl⟩ rfl [5, 6] [0, 1, 2, 3, 4] [0, 1, 2, 3, 4, 5, 6] rfl (by decide) rfl (by decide) (by decide) (by decide) (fun _ => rfl) 5 rfl rfl rfl rfl (Nat.le_of_ble_eq_true rfl) ⟨by decide, by decide⟩ dX6_act_43 (fun r43 _ e43 => ?_)
    subst e43
    exact g_retIW (pc := 46) C rfl rfl () (rfl) (by rw [if_pos h15, eq8]) (by simp only [if_pos h15, eq8]) dX6_act_46
  · refine g_iconst (pc := 18) (v := 0) C dX6_act_18 (by decide) ?_
    exact g_retIW (pc := 19) C rfl rfl () (rfl) (by rw [if_neg h15]) (by simp only [if_neg h15]; rfl) dX6_act_19
set_option maxRecDepth 20000 in
set_option maxHeartbeats 4000000 in
theorem c_X6_trace (l : Launch) (G : gT) (x : Nat) (t : Nat) (im : Nat) (it : Int32) (o : Nat) (sv : Nat) (tx : Nat) (ac : Nat) (rf : Nat) (lf : Int32) (ak : Nat) (kp : Nat → Int32) (b : Nat) (nm : Int32) (kd : Int32) (aa : Int32) (i : Int32) (hb : b < 1000) : RI l yX6_trace cX6_trace 2 (some .int) 10 G [.ref x, .int i] ([wX x t im it o sv tx ac rf lf] ++ (wA G ac ak kp (nI b) nm kd aa)) (trV kp b i) := by
  refine start_R (by decide) (Nat.le_of_ble_eq_true rfl) (fun p9 e9 s9 m9 a9 b9 t9 c9 C => ?_)
  refine g_lv (lv' := [(0, .ref x), (1, .int i)]) rfl ?_
  refine g_aload_n (pc := 0) C dX6_trace_0 0 rfl ?_
  refine g_get (pc := 1) (T := TX6) (N := 9) (v := .ref ac) C ib_X6 0 rfl rfl 6 (by decide) mf_X6_43 rfl rfl rfl dX6_trace_1 ?_
  refine g_iload_n (pc := 4) C dX6_trace_4 1 rfl ?_
  refine g_rdVI (pc := 5) (val := trV kp b i) (rest := []) C k_X0_traceAt (c_X0_traceAt l G ac ak kp b nm kd aa i (by first | assumption | omega)) ml_X6_303 rfl ⟨Nat.le_of_ble_eq_true rfl, Nat.le_of_ble_eq_true rfl⟩ rfl [1, 2] rfl 1 rfl rfl rfl rfl (Nat.le_of_ble_eq_true rfl) ⟨by decide, by decide⟩ dX6_trace_5 ?_
  exact g_retIR (pc := 8) C (rfl) (by rfl) dX6_trace_8
set_option maxRecDepth 20000 in
set_option maxHeartbeats 4000000 in
theorem c_X6_image (l : Launch) (G : gT) (x : Nat) (t : Nat) (im : Nat) (it : Int32) (o : Nat) (sv : Nat) (tx : Nat) (ac : Nat) (rf : Nat) (lf : Int32) (ta : Nat) (tb : Nat) (tc : Nat) (τ : tT) (na : Nat) (nb : Nat) (nc : Nat) (σ : tT) (hT : TI τ) : WI l yX6_image cX6_image 1 (some .int) 10 0 0 G [.ref x] ([wX x t im it o sv tx ac rf lf] ++ (wT G t ta tb tc τ ++ (wT G im na nb nc σ))) (S := Unit) (fun r _ => r = nI (tQ τ)) (fun _ => [wX x t im 1 o sv tx ac rf lf] ++ (wT G t ta tb tc τ ++ (wT G im na nb nc τ))) := by
  intro sz9
  refine start_W (by decide) (Nat.le_of_ble_eq_true rfl) (fun p9 e9 s9 m9 a9 b9 t9 c9 C => ?_)
  refine g_lv (lv' := [(0, .ref x)]) rfl ?_
  refine g_aload_n (pc := 0) C dX6_image_0 0 rfl ?_
  refine g_get (pc := 1) (T := TX6) (N := 9) (v := .ref im) C ib_X6 0 rfl rfl 1 (by decide) mf_X6_16 rfl rfl rfl dX6_image_1 ?_
  refine g_aload_n (pc := 4) C dX6_image_4 0 rfl ?_
  refine g_get (pc := 5) (T := TX6) (N := 9) (v := .ref t) C ib_X6 0 rfl rfl 0 (by decide) mf_X6_10 rfl rfl rfl dX6_image_5 ?_
  refine g_wrVV (pc := 8) (rest := []) (wr := [wX x t im it o sv tx ac rf lf]) C (fun _ => [wX x t im it o sv tx ac rf lf] ++ (wT G t ta tb tc τ ++ (wT G im na nb nc τ))) rfl k_X3_become (c_X3_become l G im na nb nc σ t ta tb tc τ) ml_X6_196 rfl ⟨Nat.le_of_ble_eq_true rfl, Nat.le_of_ble_eq_true rfl⟩ rfl [5, 6, 7, 8, 1, 2, 3, 4] [0] [0, 5, 6, 7, 8, 1, 2, 3, 4] rfl (by decide) rfl (by decide) (by decide) (by decide) (fun _ => rfl) 5 rfl rfl rfl rfl (Nat.le_of_ble_eq_true rfl) ⟨by decide, by decide⟩ dX6_image_8 (fun _ _ => ?_)
  refine g_aload_n (pc := 11) C dX6_image_11 0 rfl ?_
  refine g_iconst (pc := 12) (v := 1) C dX6_image_12 (by decide) ?_
  refine g_put (pc := 13) (T := TX6) (N := 9) (ty := .boolean) (ws' := [oC x 5 [.ref t, .ref im, .int 1, .ref o, .ref sv, .ref tx, .ref ac, .ref rf, .int lf]] ++ (wT G t ta tb tc τ ++ (wT G im na nb nc τ))) C rfl ib_X6 tyX6 tyX6_ok nmX6 0 rfl rfl 2 (by decide) mf_X6_306 rfl rfl rfl (by decide +kernel) rfl rfl (Nat.le_of_ble_eq_true rfl) dX6_image_13 rfl ?_
  refine g_aload_n (pc := 16) C dX6_image_16 0 rfl ?_
  refine g_get (pc := 17) (T := TX6) (N := 9) (v := .ref t) C ib_X6 0 rfl rfl 0 (by decide) mf_X6_10 rfl rfl rfl dX6_image_17 ?_
  refine g_get (pc := 20) (T := TX3) (N := 10) (v := .int (τ 8 0)) C ib_X3 1 rfl rfl 3 (by decide) mf_X6_239 rfl rfl rfl dX6_image_20 ?_
  refine g_top (z := nI (tQ τ)) (hT.q) ?_
  exact g_retIW (pc := 23) C rfl rfl () (rfl) (by rfl) (by rfl) dX6_image_23
set_option maxRecDepth 20000 in
set_option maxHeartbeats 4000000 in
theorem c_X6_restore (l : Launch) (G : gT) (x : Nat) (t : Nat) (im : Nat) (it : Int32) (o : Nat) (sv : Nat) (tx : Nat) (ac : Nat) (rf : Nat) (lf : Int32) (ta : Nat) (tb : Nat) (tc : Nat) (τ : tT) (sa : Nat) (sb : Nat) (sc : Nat) (hd : Nat → Int32) (sz : Nat → Int32) (el : Nat → Int64) (na : Nat) (nb : Nat) (nc : Nat) (σ : tT) (rr : Nat → Int32) (hT : TI σ) : WI l yX6_restore cX6_restore 1 (some .int) 10 0 0 G [.ref x] ([wX x t im it o sv tx ac rf lf] ++ (wT G t ta tb tc τ ++ (wS G sv sa sb sc hd sz el ++ (wT G im na nb nc σ ++ ([iC G rf 8 rr]))))) (S := Unit) (fun r _ => r = if rcRe it = 0 then nI (tQ σ) else (rcRe it)) (fun _ => [wX x t im it o sv tx ac rf lf] ++ (wT G t ta tb tc (if rcRe it = 0 then σ else τ) ++ (wS G sv sa sb sc (if rcRe it = 0 then drp hd (nI (tQ σ)) 8 else hd) sz el ++ (wT G im na nb nc σ ++ ([iC G rf 8 (rfI rr (rcRe it))]))))) := by
  intro sz9
  refine start_W (by decide) (Nat.le_of_ble_eq_true rfl) (fun p9 e9 s9 m9 a9 b9 t9 c9 C => ?_)
  refine g_lv (lv' := [(0, .ref x)]) rfl ?_
  refine g_aload_n (pc := 0) C dX6_restore_0 0 rfl ?_
  refine g_get (pc := 1) (T := TX6) (N := 9) (v := .int it) C ib_X6 0 rfl rfl 2 (by decide) mf_X6_306 rfl rfl rfl dX6_restore_1 ?_
  refine g_if_ne (pc := 4) (tgt := 14) C dX6_restore_4 (by decide) (fun h4 => ?_) (fun h4 => ?_)
  · refine g_aload_n (pc := 14) C dX6_restore_14 0 rfl ?_
    refine g_get (pc := 15) (T := TX6) (N := 9) (v := .ref t) C ib_X6 0 rfl rfl 0 (by decide) mf_X6_10 rfl rfl rfl dX6_restore_15 ?_
    refine g_aload_n (pc := 18) C dX6_restore_18 0 rfl ?_
    refine g_get (pc := 19) (T := TX6) (N := 9) (v := .ref im) C ib_X6 0 rfl rfl 1 (by decide) mf_X6_16 rfl rfl rfl dX6_restore_19 ?_
    refine g_wrVV (pc := 22) (rest := []) (wr := [wX x t im it o sv tx ac rf lf, oC sv 2 [.ref sa, .ref sb, .ref sc], iC G sa 8 hd, iC G sb 8 sz, jC G sc 1280 el, iC G rf 8 rr]) C (fun _ => [wX x t im it o sv tx ac rf lf] ++ (wT G t ta tb tc σ ++ (wS G sv sa sb sc hd sz el ++ (wT G im na nb nc σ ++ ([iC G rf 8 rr]))))) rfl k_X3_become (c_X3_become l G t ta tb tc τ im na nb nc σ) ml_X6_196 rfl ⟨Nat.le_of_ble_eq_true rfl, Nat.le_of_ble_eq_true rfl⟩ rfl [1, 2, 3, 4, 9, 10, 11, 12] [0, 5, 6, 7, 8, 13] [0, 6, 7, 8, 9, 1, 2, 3, 4, 10, 11, 12, 13, 5] rfl (by decide) rfl (by decide) (by decide) (by decide) (fun _ => rfl) 1 rfl rfl rfl rfl (Nat.le_of_ble_eq_true rfl) ⟨by decide, by decide⟩ dX6_restore_22 (fun _ _ => ?_)
    refine g_aload_n (pc := 25) C dX6_restore_25 0 rfl ?_
    refine g_get (pc := 26) (T := TX6) (N := 9) (v := .ref sv) C ib_X6 0 rfl rfl 4 (by decide) mf_X6_29 rfl rfl rfl dX6_restore_26 ?_
    refine g_aload_n (pc := 29) C dX6_restore_29 0 rfl ?_
    refine g_get (pc := 30) (T := TX6) (N := 9) (v := .ref t) C ib_X6 0 rfl rfl 0 (by decide) mf_X6_10 rfl rfl rfl dX6_restore_30 ?_
    refine g_get (pc := 33) (T := TX3) (N := 10) (v := .int (σ 8 0)) C ib_X3 1 rfl rfl 3 (by decide) mf_X6_239 rfl rfl rfl dX6_restore_33 ?_
    refine g_top (z := nI (tQ σ)) (hT.q) ?_
    refine g_wrVV (pc := 36) (rest := []) (wr := [wX x t im it o sv tx ac rf lf, oC t 3 [.ref ta, .ref tb, .ref tc, .int (σ 8 0), .int (σ 8 1), .int (σ 8 2), .int (σ 8 3), .int (σ 8 4), .int (σ 8 5), .int (σ 8 6)], iC G ta 16 (fq σ), iC G tb 64 (σ 2), iC G tc 50 (fg σ), oC im 3 [.ref na, .ref nb, .ref nc, .int (σ 8 0), .int (σ 8 1), .int (σ 8 2), .int (σ 8 3), .int (σ 8 4), .int (σ 8 5), .int (σ 8 6)], iC G na 16 (fq σ), iC G nb 64 (σ 2), iC G nc 50 (fg σ), iC G rf 8 rr]) C (fun _ => [wX x t im it o sv tx ac rf lf] ++ (wT G t ta tb tc σ ++ (wS G sv sa sb sc (drp hd (nI (tQ σ)) 8) sz el ++ (wT G im na nb nc σ ++ ([iC G rf 8 rr]))))) rfl k_X2_dropQuestionsFrom (c_X2_dropQuestionsFrom l G sv sa sb sc hd sz el (nI (tQ σ))) ml_X6_310 rfl ⟨Nat.le_of_ble_eq_true rfl, Nat.le_of_ble_eq_true rfl⟩ rfl [5, 6, 7, 8] [0, 1, 2, 3, 4, 9, 10, 11, 12, 13] [0, 1, 2, 3, 4, 10, 11, 12, 13, 5, 6, 7, 8, 9] rfl (by decide) rfl (by decide) (by decide) (by decide) (fun _ => rfl) 5 rfl rfl rfl rfl (Nat.le_of_ble_eq_true rfl) ⟨by decide, by decide⟩ dX6_restore_36 (fun _ _ => ?_)
    refine g_aload_n (pc := 39) C dX6_restore_39 0 rfl ?_
    refine g_get (pc := 40) (T := TX6) (N := 9) (v := .ref t) C ib_X6 0 rfl rfl 0 (by decide) mf_X6_10 rfl rfl rfl dX6_restore_40 ?_
    refine g_get (pc := 43) (T := TX3) (N := 10) (v := .int (σ 8 0)) C ib_X3 1 rfl rfl 3 (by decide) mf_X6_239 rfl rfl rfl dX6_restore_43 ?_
    refine g_top (z := nI (tQ σ)) (hT.q) ?_
    exact g_retIW (pc := 46) C rfl rfl () (rfl) (by have e9 : rcRe it = 0 := (by first | (simp [rcRe, *]; done) | (grind [rcRe])); rw [if_pos e9] <;> (rfl)) (by have e9 : rcRe it = 0 := (by first | (simp [rcRe, *]; done) | (grind [rcRe])); rw [e9, rfI_0] <;> (rfl)) dX6_restore_46
  · refine g_aload_n (pc := 7) C dX6_restore_7 0 rfl ?_
    refine g_bipush (pc := 8) (v := (-6)) C dX6_restore_8 (by decide) ?_
    refine g_wrVI (pc := 10) (rest := []) (wr := [oC t 3 [.ref ta, .ref tb, .ref tc, .int (τ 8 0), .int (τ 8 1), .int (τ 8 2), .int (τ 8 3), .int (τ 8 4), .int (τ 8 5), .int (τ 8 6)], iC G ta 16 (fq τ), iC G tb 64 (τ 2), iC G tc 50 (fg τ), oC sv 2 [.ref sa, .ref sb, .ref sc], iC G sa 8 hd, iC G sb 8 sz, jC G sc 1280 el, oC im 3 [.ref na, .ref nb, .ref nc, .int (σ 8 0), .int (σ 8 1), .int (σ 8 2), .int (σ 8 3), .int (σ 8 4), .int (σ 8 5), .int (σ 8 6)], iC G na 16 (fq σ), iC G nb 64 (σ 2), iC G nc 50 (fg σ)]) C (fun _ => [wX x t im it o sv tx ac rf lf] ++ (wT G t ta tb tc τ ++ (wS G sv sa sb sc hd sz el ++ (wT G im na nb nc σ ++ ([iC G rf 8 (rfI rr (-6))]))))) rfl k_X6_refuse (c_X6_refuse l G x t im it o sv tx ac rf lf rr (-6)) ml_X6_59 rfl ⟨Nat.le_of_ble_eq_true rfl, Nat.le_of_ble_eq_true rfl⟩ rfl [0, 13] [1, 2, 3, 4, 5, 6, 7, 8, 9, 10, 11, 12] [12, 0, 1, 2, 3, 4, 5, 6, 7, 8, 9, 10, 11, 13] rfl (by decide) rfl (by decide) (by decide) (by decide) (fun _ => rfl) 0 rfl rfl rfl rfl (Nat.le_of_ble_eq_true rfl) ⟨by decide, by decide⟩ dX6_restore_10 (fun r10 _ e10 => ?_)
    subst e10
    exact g_retIW (pc := 13) C rfl rfl () (rfl) (by have e9 : rcRe it = (-6) := (by first | (simp [rcRe, *]; done) | (grind [rcRe])); rw [if_neg (by rw [e9] <;> (first | done | decide)), e9]) (by have e9 : rcRe it = (-6) := (by first | (simp [rcRe, *]; done) | (grind [rcRe])); rw [e9] <;> (first | done | rfl | (rw [if_neg (by decide)] <;> (first | done | rfl)))) dX6_restore_13
set_option maxRecDepth 20000 in
set_option maxHeartbeats 4000000 in
theorem c_X6_status (l : Launch) (G : gT) (x : Nat) (t : Nat) (im : Nat) (it : Int32) (o : Nat) (sv : Nat) (tx : Nat) (ac : Nat) (rf : Nat) (lf : Int32) (ta : Nat) (tb : Nat) (tc : Nat) (τ : tT) (ak : Nat) (kp : Nat → Int32) (b : Nat) (nm : Int32) (kd : Int32) (aa : Int32) (rr : Nat → Int32) (k : Int32) (hT : TI τ) : RI l yX6_status cX6_status 2 (some .int) 10 G [.ref x, .int k] ([wX x t im it o sv tx ac rf lf] ++ (wT G t ta tb tc τ ++ (wA G ac ak kp (nI b) nm kd aa ++ ([iC G rf 8 rr])))) (stV τ rr b k) := by
  refine start_R (by decide) (Nat.le_of_ble_eq_true rfl) (fun p9 e9 s9 m9 a9 b9 t9 c9 C => ?_)
  refine g_lv (lv' := [(0, .ref x), (1, .int k)]) rfl ?_
  refine g_iload_n (pc := 0) C dX6_status_0 1 rfl ?_
  by_cases h1_0 : k = 0
  · refine g_top (z := 0) h1_0 ?_
    refine g_tsIn (pc := 1) (off := 51) (tgt := 52) C dX6_status_1 (by decide) (by decide) (by decide) (by decide) ?_
    refine g_aload_n (pc := 52) C dX6_status_52 0 rfl ?_
    refine g_get (pc := 53) (T := TX6) (N := 9) (v := .ref t) C ib_X6 0 rfl rfl 0 (by decide) mf_X6_10 rfl rfl rfl dX6_status_53 ?_
    refine g_get (pc := 56) (T := TX3) (N := 10) (v := .int (τ 8 0)) C ib_X3 1 rfl rfl 3 (by decide) mf_X6_239 rfl rfl rfl dX6_status_56 ?_
    refine g_top (z := nI (tQ τ)) (hT.q) ?_
    exact g_retIR (pc := 59) C (rfl) (by simp [stV, *]) dX6_status_59
  by_cases h1_1 : k = 1
  · refine g_top (z := 1) h1_1 ?_
    refine g_tsIn (pc := 1) (off := 59) (tgt := 60) C dX6_status_1 (by decide) (by decide) (by decide) (by decide) ?_
    refine g_aload_n (pc := 60) C dX6_status_60 0 rfl ?_
    refine g_get (pc := 61) (T := TX6) (N := 9) (v := .ref t) C ib_X6 0 rfl rfl 0 (by decide) mf_X6_10 rfl rfl rfl dX6_status_61 ?_
    refine g_get (pc := 64) (T := TX3) (N := 10) (v := .int (τ 8 1)) C ib_X3 1 rfl rfl 4 (by decide) mf_X6_285 rfl rfl rfl dX6_status_64 ?_
    refine g_top (z := nI (tG τ)) (hT.g) ?_
    exact g_retIR (pc := 67) C (rfl) (by simp [stV, *]) dX6_status_67
  by_cases h1_2 : k = 2
  · refine g_top (z := 2) h1_2 ?_
    refine g_tsIn (pc := 1) (off := 67) (tgt := 68) C dX6_status_1 (by decide) (by decide) (by decide) (by decide) ?_
    refine g_aload_n (pc := 68) C dX6_status_68 0 rfl ?_
    refine g_get (pc := 69) (T := TX6) (N := 9) (v := .ref t) C ib_X6 0 rfl rfl 0 (by decide) mf_X6_10 rfl rfl rfl dX6_status_69 ?_
    refine g_sipush (pc := 72) (v := 1023) C dX6_status_72 (by decide) ?_
    refine g_rdVI (pc := 75) (val := ppl τ) (rest := []) C k_X3_peopleOf (c_X3_peopleOf_all l G t ta tb tc τ (by first | assumption | omega)) ml_X6_314 rfl ⟨Nat.le_of_ble_eq_true rfl, Nat.le_of_ble_eq_true rfl⟩ rfl [1, 2, 3, 4] rfl 1 rfl rfl rfl rfl (Nat.le_of_ble_eq_true rfl) ⟨by decide, by decide⟩ dX6_status_75 ?_
    exact g_retIR (pc := 78) C (rfl) (by simp [stV, *]) dX6_status_78
  by_cases h1_3 : k = 3
  · refine g_top (z := 3) h1_3 ?_
    refine g_tsIn (pc := 1) (off := 78) (tgt := 79) C dX6_status_1 (by decide) (by decide) (by decide) (by decide) ?_
    refine g_aload_n (pc := 79) C dX6_status_79 0 rfl ?_
    refine g_get (pc := 80) (T := TX6) (N := 9) (v := .ref t) C ib_X6 0 rfl rfl 0 (by decide) mf_X6_10 rfl rfl rfl dX6_status_80 ?_
    refine g_get (pc := 83) (T := TX3) (N := 10) (v := .int (τ 8 2)) C ib_X3 1 rfl rfl 5 (by decide) mf_X6_170 rfl rfl rfl dX6_status_83 ?_
    exact g_retIR (pc := 86) C (rfl) (by simp [stV, *]) dX6_status_86
  by_cases h1_4 : k = 4
  · refine g_top (z := 4) h1_4 ?_
    refine g_tsIn (pc := 1) (off := 86) (tgt := 87) C dX6_status_1 (by decide) (by decide) (by decide) (by decide) ?_
    refine g_aload_n (pc := 87) C dX6_status_87 0 rfl ?_
    refine g_get (pc := 88) (T := TX6) (N := 9) (v := .ref t) C ib_X6 0 rfl rfl 0 (by decide) mf_X6_10 rfl rfl rfl dX6_status_88 ?_
    refine g_get (pc := 91) (T := TX3) (N := 10) (v := .int (τ 8 3)) C ib_X3 1 rfl rfl 6 (by decide) mf_X6_173 rfl rfl rfl dX6_status_91 ?_
    exact g_retIR (pc := 94) C (rfl) (by simp [stV, *]) dX6_status_94
  by_cases h1_5 : k = 5
  · refine g_top (z := 5) h1_5 ?_
    refine g_tsIn (pc := 1) (off := 94) (tgt := 95) C dX6_status_1 (by decide) (by decide) (by decide) (by decide) ?_
    refine g_aload_n (pc := 95) C dX6_status_95 0 rfl ?_
    refine g_get (pc := 96) (T := TX6) (N := 9) (v := .ref t) C ib_X6 0 rfl rfl 0 (by decide) mf_X6_10 rfl rfl rfl dX6_status_96 ?_
    refine g_get (pc := 99) (T := TX3) (N := 10) (v := .int (τ 8 5)) C ib_X3 1 rfl rfl 8 (by decide) mf_X6_317 rfl rfl rfl dX6_status_99 ?_
    exact g_retIR (pc := 102) C (rfl) (by simp [stV, *]) dX6_status_102
  by_cases h1_6 : k = 6
  · refine g_top (z := 6) h1_6 ?_
    refine g_tsIn (pc := 1) (off := 102) (tgt := 103) C dX6_status_1 (by decide) (by decide) (by decide) (by decide) ?_
    refine g_aload_n (pc := 103) C dX6_status_103 0 rfl ?_
    refine g_get (pc := 104) (T := TX6) (N := 9) (v := .ref t) C ib_X6 0 rfl rfl 0 (by decide) mf_X6_10 rfl rfl rfl dX6_status_104 ?_
    refine g_get (pc := 107) (T := TX3) (N := 10) (v := .int (τ 8 6)) C ib_X3 1 rfl rfl 9 (by decide) mf_X6_288 rfl rfl rfl dX6_status_107 ?_
    exact g_retIR (pc := 110) C (rfl) (by simp [stV, *]) dX6_status_110
  by_cases h1_7 : k = 7
  · refine g_top (z := 7) h1_7 ?_
    refine g_tsIn (pc := 1) (off := 110) (tgt := 111) C dX6_status_1 (by decide) (by decide) (by decide) (by decide) ?_
    refine g_aload_n (pc := 111) C dX6_status_111 0 rfl ?_
    refine g_get (pc := 112) (T := TX6) (N := 9) (v := .ref t) C ib_X6 0 rfl rfl 0 (by decide) mf_X6_10 rfl rfl rfl dX6_status_112 ?_
    refine g_get (pc := 115) (T := TX3) (N := 10) (v := .int (τ 8 4)) C ib_X3 1 rfl rfl 7 (by decide) mf_X6_294 rfl rfl rfl dX6_status_115 ?_
    exact g_retIR (pc := 118) C (rfl) (by simp [stV, *]) dX6_status_118
  by_cases h1_8 : k = 8
  · refine g_top (z := 8) h1_8 ?_
    refine g_tsIn (pc := 1) (off := 118) (tgt := 119) C dX6_status_1 (by decide) (by decide) (by decide) (by decide) ?_
    refine g_aload_n (pc := 119) C dX6_status_119 0 rfl ?_
    refine g_get (pc := 120) (T := TX6) (N := 9) (v := .ref ac) C ib_X6 0 rfl rfl 6 (by decide) mf_X6_43 rfl rfl rfl dX6_status_120 ?_
    refine g_get (pc := 123) (T := TX0) (N := 5) (v := .int (nI b)) C ib_X0 5 rfl rfl 1 (by decide) mf_X6_320 rfl rfl rfl dX6_status_123 ?_
    exact g_retIR (pc := 126) C (rfl) (by simp [stV, *]) dX6_status_126
  refine g_tsOut (pc := 1) (tgt := 127) C dX6_status_1 (by have a0 := lv_neT h1_0 (a := 0) rfl; have a1 := lv_neT h1_1 (a := 1) rfl; have a2 := lv_neT h1_2 (a := 2) rfl; have a3 := lv_neT h1_3 (a := 3) rfl; have a4 := lv_neT h1_4 (a := 4) rfl; have a5 := lv_neT h1_5 (a := 5) rfl; have a6 := lv_neT h1_6 (a := 6) rfl; have a7 := lv_neT h1_7 (a := 7) rfl; have a8 := lv_neT h1_8 (a := 8) rfl; omega) (by decide) ?_
  refine g_iload_n (pc := 127) C dX6_status_127 1 rfl ?_
  refine g_bipush (pc := 128) (v := 11) C dX6_status_128 (by decide) ?_
  refine g_bipush (pc := 130) (v := 17) C dX6_status_130 (by decide) ?_
  refine g_rdSI (pc := 132) (val := bI (11 ≤ k ∧ k ≤ 17)) (rest := []) C k_X6_isWithin (c_X6_isWithin l G k 11 17) ml_X6_63 rfl ⟨Nat.le_of_ble_eq_true rfl, Nat.le_of_ble_eq_true rfl⟩ rfl [] rfl rfl (Nat.le_of_ble_eq_true rfl) ⟨by decide, by decide⟩ dX6_status_132 ?_
  refine g_ifb_eq (pc := 135) (tgt := 150) C dX6_status_135 (by decide) (fun h135 => ?_) (fun h135 => ?_)
  · refine g_iconst (pc := 150) (v := (-1)) C dX6_status_150 (by decide) ?_
    exact g_retIR (pc := 151) C (rfl) (by simp [stV, *]) dX6_status_151
  · refine g_aload_n (pc := 138) C dX6_status_138 0 rfl ?_
    refine g_get (pc := 139) (T := TX6) (N := 9) (v := .ref rf) C ib_X6 0 rfl rfl 7 (by decide) mf_X6_47 rfl rfl rfl dX6_status_139 ?_
    refine g_iload_n (pc := 142) C dX6_status_142 1 rfl ?_
    refine g_bipush (pc := 143) (v := 10) C dX6_status_143 (by decide) ?_
    refine g_isub (pc := 145) C dX6_status_145 ?_
    refine g_iald (pc := 146) (v := rr (nx (k - 10))) C 7 rfl (nx (k - 10)) ((st_ix h135).1) ⟨by exact (st_ix h135).2, by decide⟩ (rfl) dX6_status_146 ?_
    refine g_goto (pc := 147) (tgt := 151) C dX6_status_147 (by decide) ?_
    exact g_retIR (pc := 151) C (rfl) (by simp [stV, *]) dX6_status_151
set_option maxRecDepth 20000 in
set_option maxHeartbeats 4000000 in
theorem c_X6_says (l : Launch) (G : gT) (x : Nat) (t : Nat) (im : Nat) (it : Int32) (o : Nat) (sv : Nat) (tx : Nat) (ac : Nat) (rf : Nat) (lf : Int32) (ta : Nat) (tb : Nat) (tc : Nat) (τ : tT) (sa : Nat) (sb : Nat) (sc : Nat) (hd : Nat → Int32) (sz : Nat → Int32) (el : Nat → Int64) (s : Int32) (k : Int32) (rr : Nat → Int32) (hT : TI τ) : WI l yX6_says cX6_says 4 (some .int) 10 0 0 G [.ref x, .int s, .int k] ([wX x t im it o sv tx ac rf lf] ++ (wT G t ta tb tc τ ++ (wS G sv sa sb sc hd sz el ++ ([iC G rf 8 rr])))) (S := Unit) (fun r _ => r = if rcSays τ hd s k = 0 then saV τ (nx (hd (nx s))) k else (rcSays τ hd s k)) (fun _ => [wX x t im it o sv tx ac rf lf] ++ (wT G t ta tb tc τ ++ (wS G sv sa sb sc hd sz el ++ ([iC G rf 8 (rfI rr (rcSays τ hd s k))])))) := by
  have hg10 := hT.g10
  have hq8 := hT.q8
  intro sz9
  refine start_W (by decide) (Nat.le_of_ble_eq_true rfl) (fun p9 e9 s9 m9 a9 b9 t9 c9 C => ?_)
  refine g_lv (lv' := [(0, .ref x), (1, .int s), (2, .int k)]) rfl ?_
  refine g_iload_n (pc := 0) C dX6_says_0 1 rfl ?_
  refine g_rdSI (pc := 1) (val := bI (0 ≤ s ∧ s ≤ 7)) (rest := []) C k_X6_isShelf (c_X6_isShelf l G s) ml_X6_55 rfl ⟨Nat.le_of_ble_eq_true rfl, Nat.le_of_ble_eq_true rfl⟩ rfl [] rfl rfl (Nat.le_of_ble_eq_true rfl) ⟨by decide, by decide⟩ dX6_says_1 ?_
  refine g_ifb_eq (pc := 4) (tgt := 14) C dX6_says_4 (by decide) (fun h4 => ?_) (fun h4 => ?_)
  · refine g_aload_n (pc := 14) C dX6_says_14 0 rfl ?_
    refine g_iconst (pc := 15) (v := (-1)) C dX6_says_15 (by decide) ?_
    refine g_wrVI (pc := 16) (rest := []) (wr := [oC t 3 [.ref ta, .ref tb, .ref tc, .int (τ 8 0), .int (τ 8 1), .int (τ 8 2), .int (τ 8 3), .int (τ 8 4), .int (τ 8 5), .int (τ 8 6)], iC G ta 16 (fq τ), iC G tb 64 (τ 2), iC G tc 50 (fg τ), oC sv 2 [.ref sa, .ref sb, .ref sc], iC G sa 8 hd, iC G sb 8 sz, jC G sc 1280 el]) C (fun _ => [wX x t im it o sv tx ac rf lf] ++ (wT G t ta tb tc τ ++ (wS G sv sa sb sc hd sz el ++ ([iC G rf 8 (rfI rr (-1))])))) rfl k_X6_refuse (c_X6_refuse l G x t im it o sv tx ac rf lf rr (-1)) ml_X6_59 rfl ⟨Nat.le_of_ble_eq_true rfl, Nat.le_of_ble_eq_true rfl⟩ rfl [0, 9] [1, 2, 3, 4, 5, 6, 7, 8] [8, 0, 1, 2, 3, 4, 5, 6, 7, 9] rfl (by decide) rfl (by decide) (by decide) (by decide) (fun _ => rfl) 0 rfl rfl rfl rfl (Nat.le_of_ble_eq_true rfl) ⟨by decide, by decide⟩ dX6_says_16 (fun r16 _ e16 => ?_)
    subst e16
    exact g_retIW (pc := 19) C rfl rfl () (rfl) (by have e9 : rcSays τ hd s k = (-1) := (by first | (simp [rcSays, *]; done) | (grind [rcSays])); rw [if_neg (by rw [e9] <;> (first | done | decide)), e9]) (by have e9 : rcSays τ hd s k = (-1) := (by first | (simp [rcSays, *]; done) | (grind [rcSays])); rw [e9] <;> (first | done | rfl | (rw [if_neg (by decide)] <;> (first | done | rfl)))) dX6_says_19
  · obtain ⟨s8, hs8, rfl⟩ := in8_nI h4
    have es8 : nx (nI s8) = s8 := nx_nI (by omega)
    refine g_iload_n (pc := 7) C dX6_says_7 2 rfl ?_
    refine g_rdSI (pc := 8) (val := bI (0 ≤ k ∧ k ≤ 6)) (rest := []) C k_X6_isKind (c_X6_isKind l G k) ml_X6_103 rfl ⟨Nat.le_of_ble_eq_true rfl, Nat.le_of_ble_eq_true rfl⟩ rfl [] rfl rfl (Nat.le_of_ble_eq_true rfl) ⟨by decide, by decide⟩ dX6_says_8 ?_
    refine g_ifb_ne (pc := 11) (tgt := 20) C dX6_says_11 (by decide) (fun h11 => ?_) (fun h11 => ?_)
    · refine g_aload_n (pc := 20) C dX6_says_20 0 rfl ?_
      refine g_get (pc := 21) (T := TX6) (N := 9) (v := .ref sv) C ib_X6 0 rfl rfl 4 (by decide) mf_X6_29 rfl rfl rfl dX6_says_21 ?_
      refine g_iload_n (pc := 24) C dX6_says_24 1 rfl ?_
      refine g_rdVI (pc := 25) (val := hd s8) (rest := []) C k_X2_heldBy (c_X2_heldBy l G sv sa sb sc hd sz el s8 (by first | assumption | omega)) ml_X6_100 rfl ⟨Nat.le_of_ble_eq_true rfl, Nat.le_of_ble_eq_true rfl⟩ rfl [5, 6, 7, 8] rfl 5 rfl rfl rfl rfl (Nat.le_of_ble_eq_true rfl) ⟨by decide, by decide⟩ dX6_says_25 ?_
      refine g_istore_n (pc := 28) (lv' := [(3, .int (hd s8)), (0, .ref x), (1, .int (nI s8)), (2, .int k)]) C dX6_says_28 rfl (by decide) rfl ?_
      refine g_iload_n (pc := 29) C dX6_says_29 0 rfl ?_
      refine g_iconst (pc := 30) (v := (-1)) C dX6_says_30 (by decide) ?_
      refine g_icmp_ne (pc := 31) (tgt := 41) C dX6_says_31 (by decide) (fun h31 => ?_) (fun h31 => ?_)
      · refine g_aload_n (pc := 41) C dX6_says_41 1 rfl ?_
        refine g_get (pc := 42) (T := TX6) (N := 9) (v := .ref t) C ib_X6 0 rfl rfl 0 (by decide) mf_X6_10 rfl rfl rfl dX6_says_42 ?_
        refine g_iload_n (pc := 45) C dX6_says_45 0 rfl ?_
        refine g_rdVI (pc := 46) (val := bI (0 ≤ (hd s8) ∧ (hd s8) ≤ nI (tQ τ) - 1)) (rest := []) C k_X3_hasQuestion (c_X3_hasQuestion l G t ta tb tc τ (hd s8) (by first | assumption | omega)) ml_X6_93 rfl ⟨Nat.le_of_ble_eq_true rfl, Nat.le_of_ble_eq_true rfl⟩ rfl [1, 2, 3, 4] rfl 1 rfl rfl rfl rfl (Nat.le_of_ble_eq_true rfl) ⟨by decide, by decide⟩ dX6_says_46 ?_
        refine g_ifb_eq (pc := 49) (tgt := 67) C dX6_says_49 (by decide) (fun h49 => ?_) (fun h49 => ?_)
        · refine g_aload_n (pc := 67) C dX6_says_67 1 rfl ?_
          refine g_bipush (pc := 68) (v := (-2)) C dX6_says_68 (by decide) ?_
          refine g_wrVI (pc := 70) (rest := []) (wr := [oC t 3 [.ref ta, .ref tb, .ref tc, .int (τ 8 0), .int (τ 8 1), .int (τ 8 2), .int (τ 8 3), .int (τ 8 4), .int (τ 8 5), .int (τ 8 6)], iC G ta 16 (fq τ), iC G tb 64 (τ 2), iC G tc 50 (fg τ), oC sv 2 [.ref sa, .ref sb, .ref sc], iC G sa 8 hd, iC G sb 8 sz, jC G sc 1280 el]) C (fun _ => [wX x t im it o sv tx ac rf lf] ++ (wT G t ta tb tc τ ++ (wS G sv sa sb sc hd sz el ++ ([iC G rf 8 (rfI rr (-2))])))) rfl k_X6_refuse (c_X6_refuse l G x t im it o sv tx ac rf lf rr (-2)) ml_X6_59 rfl ⟨Nat.le_of_ble_eq_true rfl, Nat.le_of_ble_eq_true rfl⟩ rfl [0, 9] [1, 2, 3, 4, 5, 6, 7, 8] [8, 0, 1, 2, 3, 4, 5, 6, 7, 9] rfl (by decide) rfl (by decide) (by decide) (by decide) (fun _ => rfl) 0 rfl rfl rfl rfl (Nat.le_of_ble_eq_true rfl) ⟨by decide, by decide⟩ dX6_says_70 (fun r70 _ e70 => ?_)
          subst e70
          exact g_retIW (pc := 73) C rfl rfl () (rfl) (by have e9 : rcSays τ hd (nI s8) k = (-2) := (by first | (simp [rcSays, *]; done) | (grind [rcSays])); rw [if_neg (by rw [e9] <;> (first | done | decide)), e9]) (by have e9 : rcSays τ hd (nI s8) k = (-2) := (by first | (simp [rcSays, *]; done) | (grind [rcSays])); rw [e9] <;> (first | done | rfl | (rw [if_neg (by decide)] <;> (first | done | rfl)))) dX6_says_73
        · obtain ⟨q9, hq9, eq9⟩ := isQ_nI hT h49
          have eq9b : hd s8 = nI (nx (hd s8)) ∧ nx (hd s8) < tQ τ := (by rw [eq9, nx_nI (by omega)]; exact ⟨rfl, hq9⟩)
          have hk6 := (hT.k (show nx (hd s8) < 8 from by omega)).2
          refine g_lv (lv' := [(3, .int (nI (nx (hd s8)))), (0, .ref x), (1, .int (nI s8)), (2, .int k)]) (congrArg (fun z9 : Int32 => ([(3, .int z9), (0, .ref x), (1, .int (nI s8)), (2, .int k)] : List (Nat × Value))) (eq9b.1)) ?_
          refine g_aload_n (pc := 52) C dX6_says_52 1 rfl ?_
          refine g_get (pc := 53) (T := TX6) (N := 9) (v := .ref t) C ib_X6 0 rfl rfl 0 (by decide) mf_X6_10 rfl rfl rfl dX6_says_53 ?_
          refine g_iload_n (pc := 56) C dX6_says_56 0 rfl ?_
          refine g_rdVI (pc := 57) (val := τ 0 (nx (hd s8))) (rest := []) C k_X3_kindOf (c_X3_kindOf l G t ta tb tc τ (nx (hd s8)) (by first | assumption | omega)) ml_X6_106 rfl ⟨Nat.le_of_ble_eq_true rfl, Nat.le_of_ble_eq_true rfl⟩ rfl [1, 2, 3, 4] rfl 1 rfl rfl rfl rfl (Nat.le_of_ble_eq_true rfl) ⟨by decide, by decide⟩ dX6_says_57 ?_
          refine g_top (z := nI (tK τ (nx (hd s8)))) ((hT.k (show nx (hd s8) < 8 from by omega)).1) ?_
          refine g_iload_n (pc := 60) C dX6_says_60 3 rfl ?_
          refine g_rdSI (pc := 61) (val := bI (undr (tK τ (nx (hd s8))) k)) (rest := []) C k_X6_isOrUnder (c_X6_isOrUnder l G (tK τ (nx (hd s8))) k (by first | assumption | omega)) ml_X6_109 rfl ⟨Nat.le_of_ble_eq_true rfl, Nat.le_of_ble_eq_true rfl⟩ rfl [] rfl rfl (Nat.le_of_ble_eq_true rfl) ⟨by decide, by decide⟩ dX6_says_61 ?_
          refine g_ifb_ne (pc := 64) (tgt := 74) C dX6_says_64 (by decide) (fun h64 => ?_) (fun h64 => ?_)
          · refine g_iload_n (pc := 74) C dX6_says_74 3 rfl ?_
            by_cases h75_0 : k = 0
            · refine g_top (z := 0) h75_0 ?_
              refine g_lookup (pc := 75) (off := 33) (tgt := 108) C dX6_says_75 (by decide) (by decide) (by decide) ?_
              refine g_aload_n (pc := 108) C dX6_says_108 1 rfl ?_
              refine g_get (pc := 109) (T := TX6) (N := 9) (v := .ref t) C ib_X6 0 rfl rfl 0 (by decide) mf_X6_10 rfl rfl rfl dX6_says_109 ?_
              refine g_iload_n (pc := 112) C dX6_says_112 0 rfl ?_
              refine g_sipush (pc := 113) (v := 1023) C dX6_says_113 (by decide) ?_
              refine g_rdVI (pc := 116) (val := share τ (nx (hd s8))) (rest := []) C k_X3_shareOf (c_X3_shareOf_all l G t ta tb tc τ (nx (hd s8)) (by first | assumption | omega) (by first | assumption | omega)) ml_X6_113 rfl ⟨Nat.le_of_ble_eq_true rfl, Nat.le_of_ble_eq_true rfl⟩ rfl [1, 2, 3, 4] rfl 1 rfl rfl rfl rfl (Nat.le_of_ble_eq_true rfl) ⟨by decide, by decide⟩ dX6_says_116 ?_
              exact g_retIW (pc := 119) C rfl rfl () (rfl) (by have e9 : rcSays τ hd (nI s8) k = 0 := (by first | (simp [rcSays, *]; done) | (grind [rcSays])); rw [if_pos e9] <;> (simp [saV, es8, *])) (by have e9 : rcSays τ hd (nI s8) k = 0 := (by first | (simp [rcSays, *]; done) | (grind [rcSays])); rw [e9, rfI_0] <;> (rfl)) dX6_says_119
            by_cases h75_4 : k = 4
            · refine g_top (z := 4) h75_4 ?_
              refine g_lookup (pc := 75) (off := 45) (tgt := 120) C dX6_says_75 (by decide) (by decide) (by decide) ?_
              refine g_aload_n (pc := 120) C dX6_says_120 1 rfl ?_
              refine g_get (pc := 121) (T := TX6) (N := 9) (v := .ref t) C ib_X6 0 rfl rfl 0 (by decide) mf_X6_10 rfl rfl rfl dX6_says_121 ?_
              refine g_iload_n (pc := 124) C dX6_says_124 0 rfl ?_
              refine g_iconst (pc := 125) (v := 0) C dX6_says_125 (by decide) ?_
              refine g_iconst (pc := 126) (v := 0) C dX6_says_126 (by decide) ?_
              refine g_bipush (pc := 127) (v := 100) C dX6_says_127 (by decide) ?_
              refine g_rdVI (pc := 129) (val := yQ τ (nx (hd s8)) 0 0 100) (rest := []) C k_X3_yesAs (c_X3_yesAs l G t ta tb tc τ (nx (hd s8)) 0 0 100 (by first | assumption | omega)) ml_X6_116 rfl ⟨Nat.le_of_ble_eq_true rfl, Nat.le_of_ble_eq_true rfl⟩ rfl [1, 2, 3, 4] rfl 1 rfl rfl rfl rfl (Nat.le_of_ble_eq_true rfl) ⟨by decide, by decide⟩ dX6_says_129 ?_
              exact g_retIW (pc := 132) C rfl rfl () (rfl) (by have e9 : rcSays τ hd (nI s8) k = 0 := (by first | (simp [rcSays, *]; done) | (grind [rcSays])); rw [if_pos e9] <;> (simp [saV, es8, *])) (by have e9 : rcSays τ hd (nI s8) k = 0 := (by first | (simp [rcSays, *]; done) | (grind [rcSays])); rw [e9, rfI_0] <;> (rfl)) dX6_says_132
            by_cases h75_6 : k = 6
            · refine g_top (z := 6) h75_6 ?_
              refine g_lookup (pc := 75) (off := 45) (tgt := 120) C dX6_says_75 (by decide) (by decide) (by decide) ?_
              refine g_aload_n (pc := 120) C dX6_says_120 1 rfl ?_
              refine g_get (pc := 121) (T := TX6) (N := 9) (v := .ref t) C ib_X6 0 rfl rfl 0 (by decide) mf_X6_10 rfl rfl rfl dX6_says_121 ?_
              refine g_iload_n (pc := 124) C dX6_says_124 0 rfl ?_
              refine g_iconst (pc := 125) (v := 0) C dX6_says_125 (by decide) ?_
              refine g_iconst (pc := 126) (v := 0) C dX6_says_126 (by decide) ?_
              refine g_bipush (pc := 127) (v := 100) C dX6_says_127 (by decide) ?_
              refine g_rdVI (pc := 129) (val := yQ τ (nx (hd s8)) 0 0 100) (rest := []) C k_X3_yesAs (c_X3_yesAs l G t ta tb tc τ (nx (hd s8)) 0 0 100 (by first | assumption | omega)) ml_X6_116 rfl ⟨Nat.le_of_ble_eq_true rfl, Nat.le_of_ble_eq_true rfl⟩ rfl [1, 2, 3, 4] rfl 1 rfl rfl rfl rfl (Nat.le_of_ble_eq_true rfl) ⟨by decide, by decide⟩ dX6_says_129 ?_
              exact g_retIW (pc := 132) C rfl rfl () (rfl) (by have e9 : rcSays τ hd (nI s8) k = 0 := (by first | (simp [rcSays, *]; done) | (grind [rcSays])); rw [if_pos e9] <;> (simp [saV, es8, *])) (by have e9 : rcSays τ hd (nI s8) k = 0 := (by first | (simp [rcSays, *]; done) | (grind [rcSays])); rw [e9, rfI_0] <;> (rfl)) dX6_says_132
            refine g_lookup (pc := 75) (off := 58) (tgt := 133) C dX6_says_75 (by decide) ((lv_osw h75_0 rfl).trans ((lv_osw h75_4 rfl).trans ((lv_osw h75_6 rfl).trans (rfl)))) (by decide) ?_
            refine g_aload_n (pc := 133) C dX6_says_133 1 rfl ?_
            refine g_get (pc := 134) (T := TX6) (N := 9) (v := .ref t) C ib_X6 0 rfl rfl 0 (by decide) mf_X6_10 rfl rfl rfl dX6_says_134 ?_
            refine g_iload_n (pc := 137) C dX6_says_137 0 rfl ?_
            refine g_iconst (pc := 138) (v := 1) C dX6_says_138 (by decide) ?_
            refine g_iconst (pc := 139) (v := 5) C dX6_says_139 (by decide) ?_
            refine g_bipush (pc := 140) (v := 100) C dX6_says_140 (by decide) ?_
            refine g_rdVI (pc := 142) (val := yQ τ (nx (hd s8)) 1 5 100) (rest := []) C k_X3_yesAs (c_X3_yesAs l G t ta tb tc τ (nx (hd s8)) 1 5 100 (by first | assumption | omega)) ml_X6_116 rfl ⟨Nat.le_of_ble_eq_true rfl, Nat.le_of_ble_eq_true rfl⟩ rfl [1, 2, 3, 4] rfl 1 rfl rfl rfl rfl (Nat.le_of_ble_eq_true rfl) ⟨by decide, by decide⟩ dX6_says_142 ?_
            exact g_retIW (pc := 145) C rfl rfl () (rfl) (by have e9 : rcSays τ hd (nI s8) k = 0 := (by first | (simp [rcSays, *]; done) | (grind [rcSays])); rw [if_pos e9] <;> (simp [saV, es8, *])) (by have e9 : rcSays τ hd (nI s8) k = 0 := (by first | (simp [rcSays, *]; done) | (grind [rcSays])); rw [e9, rfI_0] <;> (rfl)) dX6_says_145
          · refine g_aload_n (pc := 67) C dX6_says_67 1 rfl ?_
            refine g_bipush (pc := 68) (v := (-2)) C dX6_says_68 (by decide) ?_
            refine g_wrVI (pc := 70) (rest := []) (wr := [oC t 3 [.ref ta, .ref tb, .ref tc, .int (τ 8 0), .int (τ 8 1), .int (τ 8 2), .int (τ 8 3), .int (τ 8 4), .int (τ 8 5), .int (τ 8 6)], iC G ta 16 (fq τ), iC G tb 64 (τ 2), iC G tc 50 (fg τ), oC sv 2 [.ref sa, .ref sb, .ref sc], iC G sa 8 hd, iC G sb 8 sz, jC G sc 1280 el]) C (fun _ => [wX x t im it o sv tx ac rf lf] ++ (wT G t ta tb tc τ ++ (wS G sv sa sb sc hd sz el ++ ([iC G rf 8 (rfI rr (-2))])))) rfl k_X6_refuse (c_X6_refuse l G x t im it o sv tx ac rf lf rr (-2)) ml_X6_59 rfl ⟨Nat.le_of_ble_eq_true rfl, Nat.le_of_ble_eq_true rfl⟩ rfl [0, 9] [1, 2, 3, 4, 5, 6, 7, 8] [8, 0, 1, 2, 3, 4, 5, 6, 7, 9] rfl (by decide) rfl (by decide) (by decide) (by decide) (fun _ => rfl) 0 rfl rfl rfl rfl (Nat.le_of_ble_eq_true rfl) ⟨by decide, by decide⟩ dX6_says_70 (fun r70 _ e70 => ?_)
            subst e70
            exact g_retIW (pc := 73) C rfl rfl () (rfl) (by have e9 : rcSays τ hd (nI s8) k = (-2) := (by first | (simp [rcSays, *]; done) | (grind [rcSays])); rw [if_neg (by rw [e9] <;> (first | done | decide)), e9]) (by have e9 : rcSays τ hd (nI s8) k = (-2) := (by first | (simp [rcSays, *]; done) | (grind [rcSays])); rw [e9] <;> (first | done | rfl | (rw [if_neg (by decide)] <;> (first | done | rfl)))) dX6_says_73
      · refine g_aload_n (pc := 34) C dX6_says_34 1 rfl ?_
        refine g_bipush (pc := 35) (v := (-3)) C dX6_says_35 (by decide) ?_
        refine g_wrVI (pc := 37) (rest := []) (wr := [oC t 3 [.ref ta, .ref tb, .ref tc, .int (τ 8 0), .int (τ 8 1), .int (τ 8 2), .int (τ 8 3), .int (τ 8 4), .int (τ 8 5), .int (τ 8 6)], iC G ta 16 (fq τ), iC G tb 64 (τ 2), iC G tc 50 (fg τ), oC sv 2 [.ref sa, .ref sb, .ref sc], iC G sa 8 hd, iC G sb 8 sz, jC G sc 1280 el]) C (fun _ => [wX x t im it o sv tx ac rf lf] ++ (wT G t ta tb tc τ ++ (wS G sv sa sb sc hd sz el ++ ([iC G rf 8 (rfI rr (-3))])))) rfl k_X6_refuse (c_X6_refuse l G x t im it o sv tx ac rf lf rr (-3)) ml_X6_59 rfl ⟨Nat.le_of_ble_eq_true rfl, Nat.le_of_ble_eq_true rfl⟩ rfl [0, 9] [1, 2, 3, 4, 5, 6, 7, 8] [8, 0, 1, 2, 3, 4, 5, 6, 7, 9] rfl (by decide) rfl (by decide) (by decide) (by decide) (fun _ => rfl) 0 rfl rfl rfl rfl (Nat.le_of_ble_eq_true rfl) ⟨by decide, by decide⟩ dX6_says_37 (fun r37 _ e37 => ?_)
        subst e37
        exact g_retIW (pc := 40) C rfl rfl () (rfl) (by have e9 : rcSays τ hd (nI s8) k = (-3) := (by first | (simp [rcSays, *]; done) | (grind [rcSays])); rw [if_neg (by rw [e9] <;> (first | done | decide)), e9]) (by have e9 : rcSays τ hd (nI s8) k = (-3) := (by first | (simp [rcSays, *]; done) | (grind [rcSays])); rw [e9] <;> (first | done | rfl | (rw [if_neg (by decide)] <;> (first | done | rfl)))) dX6_says_40
    · refine g_aload_n (pc := 14) C dX6_says_14 0 rfl ?_
      refine g_iconst (pc := 15) (v := (-1)) C dX6_says_15 (by decide) ?_
      refine g_wrVI (pc := 16) (rest := []) (wr := [oC t 3 [.ref ta, .ref tb, .ref tc, .int (τ 8 0), .int (τ 8 1), .int (τ 8 2), .int (τ 8 3), .int (τ 8 4), .int (τ 8 5), .int (τ 8 6)], iC G ta 16 (fq τ), iC G tb 64 (τ 2), iC G tc 50 (fg τ), oC sv 2 [.ref sa, .ref sb, .ref sc], iC G sa 8 hd, iC G sb 8 sz, jC G sc 1280 el]) C (fun _ => [wX x t im it o sv tx ac rf lf] ++ (wT G t ta tb tc τ ++ (wS G sv sa sb sc hd sz el ++ ([iC G rf 8 (rfI rr (-1))])))) rfl k_X6_refuse (c_X6_refuse l G x t im it o sv tx ac rf lf rr (-1)) ml_X6_59 rfl ⟨Nat.le_of_ble_eq_true rfl, Nat.le_of_ble_eq_true rfl⟩ rfl [0, 9] [1, 2, 3, 4, 5, 6, 7, 8] [8, 0, 1, 2, 3, 4, 5, 6, 7, 9] rfl (by decide) rfl (by decide) (by decide) (by decide) (fun _ => rfl) 0 rfl rfl rfl rfl (Nat.le_of_ble_eq_true rfl) ⟨by decide, by decide⟩ dX6_says_16 (fun r16 _ e16 => ?_)
      subst e16
      exact g_retIW (pc := 19) C rfl rfl () (rfl) (by have e9 : rcSays τ hd (nI s8) k = (-1) := (by first | (simp [rcSays, *]; done) | (grind [rcSays])); rw [if_neg (by rw [e9] <;> (first | done | decide)), e9]) (by have e9 : rcSays τ hd (nI s8) k = (-1) := (by first | (simp [rcSays, *]; done) | (grind [rcSays])); rw [e9] <;> (first | done | rfl | (rw [if_neg (by decide)] <;> (first | done | rfl)))) dX6_says_19
