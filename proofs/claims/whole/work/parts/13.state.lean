set_option maxRecDepth 20000 in
set_option maxHeartbeats 4000000 in
theorem c_X5_leftOf (l : Launch) (G : gT) (h : Nat) (a : Nat) (b : Nat) (c : Nat) (τ : tT) (g : Nat) (t : Nat) (hg : g < 10) (ht : t ≤ 9) : RI l yX5_leftOf cX5_leftOf 5 (some .int) 1 G [.ref h, .int (nI g), .int (nI t)] (wT G h a b c τ) (lfN τ g t) := by
  refine start_R (by decide) (Nat.le_of_ble_eq_true rfl) (fun p9 e9 s9 m9 a9 b9 t9 c9 C => ?_)
  refine g_lv (lv' := [(0, .ref h), (1, .int (nI g)), (2, .int (nI t))]) rfl ?_
  refine g_aload_n (pc := 0) C dX5_leftOf_0 0 rfl ?_
  refine g_iload_n (pc := 1) C dX5_leftOf_1 1 rfl ?_
  refine g_rdVI (pc := 2) (val := τ 3 g) (rest := []) C k_X3_countOf (c_X3_countOf l G h a b c τ g (by first | assumption | omega)) ml_X5_9 rfl ⟨Nat.le_of_ble_eq_true rfl, Nat.le_of_ble_eq_true rfl⟩ rfl [0, 1, 2, 3] rfl 0 rfl rfl rfl rfl (Nat.le_of_ble_eq_true rfl) ⟨by decide, by decide⟩ dX5_leftOf_2 ?_
  refine g_istore_n (pc := 5) (lv' := [(3, .int (τ 3 g)), (0, .ref h), (1, .int (nI g)), (2, .int (nI t))]) C dX5_leftOf_5 rfl (by decide) rfl ?_
  refine g_iconst (pc := 6) (v := 0) C dX5_leftOf_6 (by decide) ?_
  refine g_istore (pc := 7) (lv' := [(4, .int 0), (3, .int (τ 3 g)), (0, .ref h), (1, .int (nI g)), (2, .int (nI t))]) C dX5_leftOf_7 (by decide) rfl ?_
  have key_9 : ∀ (n9 : Nat) (i : Nat) (hi : i ≤ t), t - i < n9 → GW p9 l e9 (rmh 1 0 0) s9 m9 a9 b9 t9 c9 (MQ b9 (QcI (lfN τ g t)) a9 s9 0 0 NoA) G NoA false 5 0 0 (wT G h a b c τ) [(0, .ref h), (1, .int (nI g)), (2, .int (nI t)), (3, .int (lfN τ g i)), (4, .int (nI i))] 9 [] := by
    intro n9
    induction n9 with
    | zero => intro i hi hn9; exact absurd hn9 (Nat.not_lt_zero _)
    | succ n9 ih9 =>
      intro i hi hn9
      refine g_iload (pc := 9) C dX5_leftOf_9 4 rfl ?_
      refine g_iload_n (pc := 11) C dX5_leftOf_11 2 rfl ?_
      refine g_icmpN_ge (pc := 12) (i := i) (j := t) (tgt := 34) C dX5_leftOf_12 (by decide) ⟨by omega, by omega⟩ (fun h12 => ?_) (fun h12 => ?_)
      · refine g_iload_n (pc := 34) C dX5_leftOf_34 3 rfl ?_
        exact g_retIR (pc := 35) C (rfl) (by rw [show i = t from by omega]) dX5_leftOf_35
      · refine g_iload_n (pc := 15) C dX5_leftOf_15 3 rfl ?_
        refine g_iload_n (pc := 16) C dX5_leftOf_16 3 rfl ?_
        refine g_aload_n (pc := 17) C dX5_leftOf_17 0 rfl ?_
        refine g_iload_n (pc := 18) C dX5_leftOf_18 1 rfl ?_
        refine g_rdVI (pc := 19) (val := τ 6 g) (rest := [.int (lfN τ g i), .int (lfN τ g i)]) C k_X3_homeOf (c_X3_homeOf l G h a b c τ g (by first | assumption | omega)) ml_X5_15 rfl ⟨Nat.le_of_ble_eq_true rfl, Nat.le_of_ble_eq_true rfl⟩ rfl [0, 1, 2, 3] rfl 0 rfl rfl rfl rfl (Nat.le_of_ble_eq_true rfl) ⟨by decide, by decide⟩ dX5_leftOf_19 ?_
        refine g_imul (pc := 22) C dX5_leftOf_22 ?_
        refine g_bipush (pc := 23) (v := 10) C dX5_leftOf_23 (by decide) ?_
        refine g_idiv (pc := 25) C dX5_leftOf_25 (by decide) ?_
        refine g_isub (pc := 26) C dX5_leftOf_26 ?_
        refine g_istore_n (pc := 27) (lv' := [(3, .int ((lfN τ g i) - (((lfN τ g i) * (τ 6 g)) / 10))), (0, .ref h), (1, .int (nI g)), (2, .int (nI t)), (4, .int (nI i))]) C dX5_leftOf_27 rfl (by decide) rfl ?_
        refine g_iinc (pc := 28) (v := nI (i + 1)) (lv' := [(4, .int (nI (i + 1))), (3, .int ((lfN τ g i) - (((lfN τ g i) * (τ 6 g)) / 10))), (0, .ref h), (1, .int (nI g)), (2, .int (nI t))]) C dX5_leftOf_28 4 rfl (nI_1 i) (by decide) rfl ?_
        refine g_goto (pc := 31) (tgt := 9) C dX5_leftOf_31 (by decide) ?_
        refine g_sub (lv' := [(0, .ref h), (1, .int (nI g)), (2, .int (nI t)), (3, .int (lfN τ g (i + 1))), (4, .int (nI (i + 1)))]) [2, 3, 4, 1, 0] rfl ?_
        exact ih9 (i + 1) (by first | assumption | omega) (by omega)
  refine g_sub (lv' := [(0, .ref h), (1, .int (nI g)), (2, .int (nI t)), (3, .int (lfN τ g 0)), (4, .int (nI 0))]) [2, 3, 4, 1, 0] rfl ?_
  exact key_9 _ 0 (by first | assumption | omega) (Nat.lt_succ_self _)
set_option maxRecDepth 20000 in
set_option maxHeartbeats 4000000 in
theorem c_X5_answersOf (l : Launch) (G : gT) (h : Nat) (a : Nat) (b : Nat) (c : Nat) (τ : tT) (g : Nat) (t : Nat) (hg : g < 10) (ht : t ≤ 9) : RI l yX5_answersOf cX5_answersOf 7 (some .int) 1 G [.ref h, .int (nI g), .int (nI t)] (wT G h a b c τ) (anN τ g t) := by
  refine start_R (by decide) (Nat.le_of_ble_eq_true rfl) (fun p9 e9 s9 m9 a9 b9 t9 c9 C => ?_)
  refine g_lv (lv' := [(0, .ref h), (1, .int (nI g)), (2, .int (nI t))]) rfl ?_
  refine g_aload_n (pc := 0) C dX5_answersOf_0 0 rfl ?_
  refine g_iload_n (pc := 1) C dX5_answersOf_1 1 rfl ?_
  refine g_rdVI (pc := 2) (val := τ 3 g) (rest := []) C k_X3_countOf (c_X3_countOf l G h a b c τ g (by first | assumption | omega)) ml_X5_9 rfl ⟨Nat.le_of_ble_eq_true rfl, Nat.le_of_ble_eq_true rfl⟩ rfl [0, 1, 2, 3] rfl 0 rfl rfl rfl rfl (Nat.le_of_ble_eq_true rfl) ⟨by decide, by decide⟩ dX5_answersOf_2 ?_
  refine g_istore_n (pc := 5) (lv' := [(3, .int (τ 3 g)), (0, .ref h), (1, .int (nI g)), (2, .int (nI t))]) C dX5_answersOf_5 rfl (by decide) rfl ?_
  refine g_iconst (pc := 6) (v := 0) C dX5_answersOf_6 (by decide) ?_
  refine g_istore (pc := 7) (lv' := [(4, .int 0), (3, .int (τ 3 g)), (0, .ref h), (1, .int (nI g)), (2, .int (nI t))]) C dX5_answersOf_7 (by decide) rfl ?_
  refine g_iconst (pc := 9) (v := 0) C dX5_answersOf_9 (by decide) ?_
  refine g_istore (pc := 10) (lv' := [(5, .int 0), (4, .int 0), (3, .int (τ 3 g)), (0, .ref h), (1, .int (nI g)), (2, .int (nI t))]) C dX5_answersOf_10 (by decide) rfl ?_
  have key_12 : ∀ (n12 : Nat) (i : Nat) (hi : i ≤ t), t - i < n12 → GW p9 l e9 (rmh 1 0 0) s9 m9 a9 b9 t9 c9 (MQ b9 (QcI (anN τ g t)) a9 s9 0 0 NoA) G NoA false 7 0 0 (wT G h a b c τ) [(0, .ref h), (1, .int (nI g)), (2, .int (nI t)), (3, .int (lfN τ g i)), (4, .int (anN τ g i)), (5, .int (nI i))] 12 [] := by
    intro n12
    induction n12 with
    | zero => intro i hi hn12; exact absurd hn12 (Nat.not_lt_zero _)
    | succ n12 ih12 =>
      intro i hi hn12
      refine g_iload (pc := 12) C dX5_answersOf_12 5 rfl ?_
      refine g_iload_n (pc := 14) C dX5_answersOf_14 2 rfl ?_
      refine g_icmpN_ge (pc := 15) (i := i) (j := t) (tgt := 57) C dX5_answersOf_15 (by decide) ⟨by omega, by omega⟩ (fun h15 => ?_) (fun h15 => ?_)
      · refine g_iload (pc := 57) C dX5_answersOf_57 4 rfl ?_
        exact g_retIR (pc := 59) C (rfl) (by rw [show i = t from by omega]) dX5_answersOf_59
      · refine g_iload_n (pc := 18) C dX5_answersOf_18 3 rfl ?_
        refine g_aload_n (pc := 19) C dX5_answersOf_19 0 rfl ?_
        refine g_iload_n (pc := 20) C dX5_answersOf_20 1 rfl ?_
        refine g_rdVI (pc := 21) (val := τ 6 g) (rest := [.int (lfN τ g i)]) C k_X3_homeOf (c_X3_homeOf l G h a b c τ g (by first | assumption | omega)) ml_X5_15 rfl ⟨Nat.le_of_ble_eq_true rfl, Nat.le_of_ble_eq_true rfl⟩ rfl [0, 1, 2, 3] rfl 0 rfl rfl rfl rfl (Nat.le_of_ble_eq_true rfl) ⟨by decide, by decide⟩ dX5_answersOf_21 ?_
        refine g_imul (pc := 24) C dX5_answersOf_24 ?_
        refine g_bipush (pc := 25) (v := 10) C dX5_answersOf_25 (by decide) ?_
        refine g_idiv (pc := 27) C dX5_answersOf_27 (by decide) ?_
        refine g_istore (pc := 28) (lv' := [(6, .int (((lfN τ g i) * (τ 6 g)) / 10)), (0, .ref h), (1, .int (nI g)), (2, .int (nI t)), (3, .int (lfN τ g i)), (4, .int (anN τ g i)), (5, .int (nI i))]) C dX5_answersOf_28 (by decide) rfl ?_
        refine g_iload_n (pc := 30) C dX5_answersOf_30 4 rfl ?_
        refine g_iload (pc := 31) C dX5_answersOf_31 0 rfl ?_
        refine g_isub (pc := 33) C dX5_answersOf_33 ?_
        refine g_istore_n (pc := 34) (lv' := [(3, .int ((lfN τ g i) - (((lfN τ g i) * (τ 6 g)) / 10))), (6, .int (((lfN τ g i) * (τ 6 g)) / 10)), (0, .ref h), (1, .int (nI g)), (2, .int (nI t)), (4, .int (anN τ g i)), (5, .int (nI i))]) C dX5_answersOf_34 rfl (by decide) rfl ?_
        refine g_iload (pc := 35) C dX5_answersOf_35 5 rfl ?_
        refine g_iload (pc := 37) C dX5_answersOf_37 1 rfl ?_
        refine g_aload_n (pc := 39) C dX5_answersOf_39 2 rfl ?_
        refine g_iload_n (pc := 40) C dX5_answersOf_40 3 rfl ?_
        refine g_rdVI (pc := 41) (val := τ 7 g) (rest := [.int (((lfN τ g i) * (τ 6 g)) / 10), .int (anN τ g i)]) C k_X3_willOf (c_X3_willOf l G h a b c τ g (by first | assumption | omega)) ml_X5_18 rfl ⟨Nat.le_of_ble_eq_true rfl, Nat.le_of_ble_eq_true rfl⟩ rfl [0, 1, 2, 3] rfl 0 rfl rfl rfl rfl (Nat.le_of_ble_eq_true rfl) ⟨by decide, by decide⟩ dX5_answersOf_41 ?_
        refine g_imul (pc := 44) C dX5_answersOf_44 ?_
        refine g_bipush (pc := 45) (v := 10) C dX5_answersOf_45 (by decide) ?_
        refine g_idiv (pc := 47) C dX5_answersOf_47 (by decide) ?_
        refine g_iadd (pc := 48) C dX5_answersOf_48 ?_
        refine g_istore (pc := 49) (lv' := [(4, .int ((anN τ g i) + (((((lfN τ g i) * (τ 6 g)) / 10) * (τ 7 g)) / 10))), (3, .int ((lfN τ g i) - (((lfN τ g i) * (τ 6 g)) / 10))), (6, .int (((lfN τ g i) * (τ 6 g)) / 10)), (0, .ref h), (1, .int (nI g)), (2, .int (nI t)), (5, .int (nI i))]) C dX5_answersOf_49 (by decide) rfl ?_
        refine g_iinc (pc := 51) (v := nI (i + 1)) (lv' := [(5, .int (nI (i + 1))), (4, .int ((anN τ g i) + (((((lfN τ g i) * (τ 6 g)) / 10) * (τ 7 g)) / 10))), (3, .int ((lfN τ g i) - (((lfN τ g i) * (τ 6 g)) / 10))), (6, .int (((lfN τ g i) * (τ 6 g)) / 10)), (0, .ref h), (1, .int (nI g)), (2, .int (nI t))]) C dX5_answersOf_51 6 rfl (nI_1 i) (by decide) rfl ?_
        refine g_goto (pc := 54) (tgt := 12) C dX5_answersOf_54 (by decide) ?_
        refine g_sub (lv' := [(0, .ref h), (1, .int (nI g)), (2, .int (nI t)), (3, .int (lfN τ g (i + 1))), (4, .int (anN τ g (i + 1))), (5, .int (nI (i + 1)))]) [4, 5, 6, 2, 1, 0] rfl ?_
        exact ih12 (i + 1) (by first | assumption | omega) (by omega)
  refine g_sub (lv' := [(0, .ref h), (1, .int (nI g)), (2, .int (nI t)), (3, .int (lfN τ g 0)), (4, .int (anN τ g 0)), (5, .int (nI 0))]) [3, 4, 5, 2, 1, 0] rfl ?_
  exact key_12 _ 0 (by first | assumption | omega) (Nat.lt_succ_self _)
set_option maxRecDepth 20000 in
set_option maxHeartbeats 4000000 in
theorem c_X5_leftBy (l : Launch) (G : gT) (h : Nat) (a : Nat) (b : Nat) (c : Nat) (τ : tT) (t : Nat) (hT : TI τ) (ht : t ≤ 9) : RI l yX5_leftBy cX5_leftBy 4 (some .int) 2 G [.ref h, .int (nI t)] (wT G h a b c τ) (lfB τ t) := by
  have hg10 := hT.g10
  have hq8 := hT.q8
  refine start_R (by decide) (Nat.le_of_ble_eq_true rfl) (fun p9 e9 s9 m9 a9 b9 t9 c9 C => ?_)
  refine g_lv (lv' := [(0, .ref h), (1, .int (nI t))]) rfl ?_
  refine g_iconst (pc := 0) (v := 0) C dX5_leftBy_0 (by decide) ?_
  refine g_istore_n (pc := 1) (lv' := [(2, .int 0), (0, .ref h), (1, .int (nI t))]) C dX5_leftBy_1 rfl (by decide) rfl ?_
  refine g_iconst (pc := 2) (v := 0) C dX5_leftBy_2 (by decide) ?_
  refine g_istore_n (pc := 3) (lv' := [(3, .int 0), (2, .int 0), (0, .ref h), (1, .int (nI t))]) C dX5_leftBy_3 rfl (by decide) rfl ?_
  have key_4 : ∀ (n4 : Nat) (i : Nat) (hi : i ≤ tG τ), tG τ - i < n4 → GW p9 l e9 (rmh 2 0 0) s9 m9 a9 b9 t9 c9 (MQ b9 (QcI (lfB τ t)) a9 s9 0 0 NoA) G NoA false 4 0 0 (wT G h a b c τ) [(0, .ref h), (1, .int (nI t)), (2, .int (sumN (fun g => lfN τ g t) i)), (3, .int (nI i))] 4 [] := by
    intro n4
    induction n4 with
    | zero => intro i hi hn4; exact absurd hn4 (Nat.not_lt_zero _)
    | succ n4 ih4 =>
      intro i hi hn4
      refine g_iload_n (pc := 4) C dX5_leftBy_4 3 rfl ?_
      refine g_aload_n (pc := 5) C dX5_leftBy_5 0 rfl ?_
      refine g_get (pc := 6) (T := TX3) (N := 10) (v := .int (τ 8 1)) C ib_X3 0 rfl rfl 4 (by decide) mf_X5_21 rfl rfl rfl dX5_leftBy_6 ?_
      refine g_top (z := nI (tG τ)) (hT.g) ?_
      refine g_icmpN_ge (pc := 9) (i := i) (j := tG τ) (tgt := 27) C dX5_leftBy_9 (by decide) ⟨by omega, by omega⟩ (fun h9 => ?_) (fun h9 => ?_)
      · refine g_iload_n (pc := 27) C dX5_leftBy_27 2 rfl ?_
        exact g_retIR (pc := 28) C (rfl) (by rw [show i = tG τ from by omega]; rfl) dX5_leftBy_28
      · refine g_iload_n (pc := 12) C dX5_leftBy_12 2 rfl ?_
        refine g_aload_n (pc := 13) C dX5_leftBy_13 0 rfl ?_
        refine g_iload_n (pc := 14) C dX5_leftBy_14 3 rfl ?_
        refine g_iload_n (pc := 15) C dX5_leftBy_15 1 rfl ?_
        refine g_rdSI (pc := 16) (val := lfN τ i t) (rest := [.int (sumN (fun g => lfN τ g t) i)]) C k_X5_leftOf (c_X5_leftOf l G h a b c τ i t (by first | assumption | omega) (by first | assumption | omega)) ml_X5_25 rfl ⟨Nat.le_of_ble_eq_true rfl, Nat.le_of_ble_eq_true rfl⟩ rfl [0, 1, 2, 3] rfl rfl (Nat.le_of_ble_eq_true rfl) ⟨by decide, by decide⟩ dX5_leftBy_16 ?_
        refine g_iadd (pc := 19) C dX5_leftBy_19 ?_
        refine g_istore_n (pc := 20) (lv' := [(2, .int ((sumN (fun g => lfN τ g t) i) + (lfN τ i t))), (0, .ref h), (1, .int (nI t)), (3, .int (nI i))]) C dX5_leftBy_20 rfl (by decide) rfl ?_
        refine g_iinc (pc := 21) (v := nI (i + 1)) (lv' := [(3, .int (nI (i + 1))), (2, .int ((sumN (fun g => lfN τ g t) i) + (lfN τ i t))), (0, .ref h), (1, .int (nI t))]) C dX5_leftBy_21 3 rfl (nI_1 i) (by decide) rfl ?_
        refine g_goto (pc := 24) (tgt := 4) C dX5_leftBy_24 (by decide) ?_
        refine g_sub (lv' := [(0, .ref h), (1, .int (nI t)), (2, .int (sumN (fun g => lfN τ g t) (i + 1))), (3, .int (nI (i + 1)))]) [2, 3, 1, 0] rfl ?_
        exact ih4 (i + 1) (by first | assumption | omega) (by omega)
  refine g_sub (lv' := [(0, .ref h), (1, .int (nI t)), (2, .int (sumN (fun g => lfN τ g t) 0)), (3, .int (nI 0))]) [2, 3, 1, 0] rfl ?_
  exact key_4 _ 0 (by first | assumption | omega) (Nat.lt_succ_self _)
set_option maxRecDepth 20000 in
set_option maxHeartbeats 4000000 in
theorem c_X5_answersBetween (l : Launch) (G : gT) (h : Nat) (a : Nat) (b : Nat) (c : Nat) (τ : tT) (t : Nat) (u : Nat) (hT : TI τ) (ht : t ≤ 9) (hu : u ≤ 9) : RI l yX5_answersBetween cX5_answersBetween 5 (some .int) 2 G [.ref h, .int (nI t), .int (nI u)] (wT G h a b c τ) (anB τ t u) := by
  have hg10 := hT.g10
  have hq8 := hT.q8
  refine start_R (by decide) (Nat.le_of_ble_eq_true rfl) (fun p9 e9 s9 m9 a9 b9 t9 c9 C => ?_)
  refine g_lv (lv' := [(0, .ref h), (1, .int (nI t)), (2, .int (nI u))]) rfl ?_
  refine g_iconst (pc := 0) (v := 0) C dX5_answersBetween_0 (by decide) ?_
  refine g_istore_n (pc := 1) (lv' := [(3, .int 0), (0, .ref h), (1, .int (nI t)), (2, .int (nI u))]) C dX5_answersBetween_1 rfl (by decide) rfl ?_
  refine g_iconst (pc := 2) (v := 0) C dX5_answersBetween_2 (by decide) ?_
  refine g_istore (pc := 3) (lv' := [(4, .int 0), (3, .int 0), (0, .ref h), (1, .int (nI t)), (2, .int (nI u))]) C dX5_answersBetween_3 (by decide) rfl ?_
  have key_5 : ∀ (n5 : Nat) (i : Nat) (hi : i ≤ tG τ), tG τ - i < n5 → GW p9 l e9 (rmh 2 0 0) s9 m9 a9 b9 t9 c9 (MQ b9 (QcI (anB τ t u)) a9 s9 0 0 NoA) G NoA false 5 0 0 (wT G h a b c τ) [(0, .ref h), (1, .int (nI t)), (2, .int (nI u)), (3, .int (sumN (fun g => anN τ g u - anN τ g t) i)), (4, .int (nI i))] 5 [] := by
    intro n5
    induction n5 with
    | zero => intro i hi hn5; exact absurd hn5 (Nat.not_lt_zero _)
    | succ n5 ih5 =>
      intro i hi hn5
      refine g_iload (pc := 5) C dX5_answersBetween_5 4 rfl ?_
      refine g_aload_n (pc := 7) C dX5_answersBetween_7 0 rfl ?_
      refine g_get (pc := 8) (T := TX3) (N := 10) (v := .int (τ 8 1)) C ib_X3 0 rfl rfl 4 (by decide) mf_X5_21 rfl rfl rfl dX5_answersBetween_8 ?_
      refine g_top (z := nI (tG τ)) (hT.g) ?_
      refine g_icmpN_ge (pc := 11) (i := i) (j := tG τ) (tgt := 38) C dX5_answersBetween_11 (by decide) ⟨by omega, by omega⟩ (fun h11 => ?_) (fun h11 => ?_)
      · refine g_iload_n (pc := 38) C dX5_answersBetween_38 3 rfl ?_
        exact g_retIR (pc := 39) C (rfl) (by rw [show i = tG τ from by omega]; rfl) dX5_answersBetween_39
      · refine g_iload_n (pc := 14) C dX5_answersBetween_14 3 rfl ?_
        refine g_aload_n (pc := 15) C dX5_answersBetween_15 0 rfl ?_
        refine g_iload (pc := 16) C dX5_answersBetween_16 4 rfl ?_
        refine g_iload_n (pc := 18) C dX5_answersBetween_18 2 rfl ?_
        refine g_rdSI (pc := 19) (val := anN τ i u) (rest := [.int (sumN (fun g => anN τ g u - anN τ g t) i)]) C k_X5_answersOf (c_X5_answersOf l G h a b c τ i u (by first | assumption | omega) (by first | assumption | omega)) ml_X5_31 rfl ⟨Nat.le_of_ble_eq_true rfl, Nat.le_of_ble_eq_true rfl⟩ rfl [0, 1, 2, 3] rfl rfl (Nat.le_of_ble_eq_true rfl) ⟨by decide, by decide⟩ dX5_answersBetween_19 ?_
        refine g_aload_n (pc := 22) C dX5_answersBetween_22 0 rfl ?_
        refine g_iload (pc := 23) C dX5_answersBetween_23 4 rfl ?_
        refine g_iload_n (pc := 25) C dX5_answersBetween_25 1 rfl ?_
        refine g_rdSI (pc := 26) (val := anN τ i t) (rest := [.int (anN τ i u), .int (sumN (fun g => anN τ g u - anN τ g t) i)]) C k_X5_answersOf (c_X5_answersOf l G h a b c τ i t (by first | assumption | omega) (by first | assumption | omega)) ml_X5_31 rfl ⟨Nat.le_of_ble_eq_true rfl, Nat.le_of_ble_eq_true rfl⟩ rfl [0, 1, 2, 3] rfl rfl (Nat.le_of_ble_eq_true rfl) ⟨by decide, by decide⟩ dX5_answersBetween_26 ?_
        refine g_isub (pc := 29) C dX5_answersBetween_29 ?_
        refine g_iadd (pc := 30) C dX5_answersBetween_30 ?_
        refine g_istore_n (pc := 31) (lv' := [(3, .int ((sumN (fun g => anN τ g u - anN τ g t) i) + ((anN τ i u) - (anN τ i t)))), (0, .ref h), (1, .int (nI t)), (2, .int (nI u)), (4, .int (nI i))]) C dX5_answersBetween_31 rfl (by decide) rfl ?_
        refine g_iinc (pc := 32) (v := nI (i + 1)) (lv' := [(4, .int (nI (i + 1))), (3, .int ((sumN (fun g => anN τ g u - anN τ g t) i) + ((anN τ i u) - (anN τ i t)))), (0, .ref h), (1, .int (nI t)), (2, .int (nI u))]) C dX5_answersBetween_32 4 rfl (nI_1 i) (by decide) rfl ?_
        refine g_goto (pc := 35) (tgt := 5) C dX5_answersBetween_35 (by decide) ?_
        refine g_sub (lv' := [(0, .ref h), (1, .int (nI t)), (2, .int (nI u)), (3, .int (sumN (fun g => anN τ g u - anN τ g t) (i + 1))), (4, .int (nI (i + 1)))]) [2, 3, 4, 1, 0] rfl ?_
        exact ih5 (i + 1) (by first | assumption | omega) (by omega)
  refine g_sub (lv' := [(0, .ref h), (1, .int (nI t)), (2, .int (nI u)), (3, .int (sumN (fun g => anN τ g u - anN τ g t) 0)), (4, .int (nI 0))]) [2, 3, 4, 1, 0] rfl ?_
  exact key_5 _ 0 (by first | assumption | omega) (Nat.lt_succ_self _)
set_option maxRecDepth 20000 in
set_option maxHeartbeats 4000000 in
theorem c_X5_shareBetween (l : Launch) (G : gT) (h : Nat) (a : Nat) (b : Nat) (c : Nat) (τ : tT) (q : Nat) (t : Nat) (u : Nat) (hT : TI τ) (hq : q < 8) (ht : t ≤ 9) (hu : u ≤ 9) : RI l yX5_shareBetween cX5_shareBetween 6 (some .int) 3 G [.ref h, .int (nI q), .int (nI t), .int (nI u)] (wT G h a b c τ) (shA τ q t u) := by
  have hg10 := hT.g10
  have hq8 := hT.q8
  refine start_R (by decide) (Nat.le_of_ble_eq_true rfl) (fun p9 e9 s9 m9 a9 b9 t9 c9 C => ?_)
  refine g_lv (lv' := [(0, .ref h), (1, .int (nI q)), (2, .int (nI t)), (3, .int (nI u))]) rfl ?_
  refine g_iconst (pc := 0) (v := 0) C dX5_shareBetween_0 (by decide) ?_
  refine g_istore (pc := 1) (lv' := [(4, .int 0), (0, .ref h), (1, .int (nI q)), (2, .int (nI t)), (3, .int (nI u))]) C dX5_shareBetween_1 (by decide) rfl ?_
  refine g_iconst (pc := 3) (v := 0) C dX5_shareBetween_3 (by decide) ?_
  refine g_istore (pc := 4) (lv' := [(5, .int 0), (4, .int 0), (0, .ref h), (1, .int (nI q)), (2, .int (nI t)), (3, .int (nI u))]) C dX5_shareBetween_4 (by decide) rfl ?_
  have key_6 : ∀ (n6 : Nat) (i : Nat) (hi : i ≤ tG τ), tG τ - i < n6 → GW p9 l e9 (rmh 3 0 0) s9 m9 a9 b9 t9 c9 (MQ b9 (QcI (shA τ q t u)) a9 s9 0 0 NoA) G NoA false 6 0 0 (wT G h a b c τ) [(0, .ref h), (1, .int (nI q)), (2, .int (nI t)), (3, .int (nI u)), (4, .int (sumN (fun g => yG τ q g (anN τ g u - anN τ g t)) i)), (5, .int (nI i))] 6 [] := by
    intro n6
    induction n6 with
    | zero => intro i hi hn6; exact absurd hn6 (Nat.not_lt_zero _)
    | succ n6 ih6 =>
      intro i hi hn6
      refine g_iload (pc := 6) C dX5_shareBetween_6 5 rfl ?_
      refine g_aload_n (pc := 8) C dX5_shareBetween_8 0 rfl ?_
      refine g_get (pc := 9) (T := TX3) (N := 10) (v := .int (τ 8 1)) C ib_X3 0 rfl rfl 4 (by decide) mf_X5_21 rfl rfl rfl dX5_shareBetween_9 ?_
      refine g_top (z := nI (tG τ)) (hT.g) ?_
      refine g_icmpN_ge (pc := 12) (i := i) (j := tG τ) (tgt := 48) C dX5_shareBetween_12 (by decide) ⟨by omega, by omega⟩ (fun h12 => ?_) (fun h12 => ?_)
      · refine g_iload (pc := 48) C dX5_shareBetween_48 4 rfl ?_
        refine g_aload_n (pc := 50) C dX5_shareBetween_50 0 rfl ?_
        refine g_iload_n (pc := 51) C dX5_shareBetween_51 2 rfl ?_
        refine g_iload_n (pc := 52) C dX5_shareBetween_52 3 rfl ?_
        refine g_rdSI (pc := 53) (val := anB τ t u) (rest := [.int (sumN (fun g => yG τ q g (anN τ g u - anN τ g t)) i)]) C k_X5_answersBetween (c_X5_answersBetween l G h a b c τ t u (by first | assumption | omega) (by first | assumption | omega) (by first | assumption | omega)) ml_X5_38 rfl ⟨Nat.le_of_ble_eq_true rfl, Nat.le_of_ble_eq_true rfl⟩ rfl [0, 1, 2, 3] rfl rfl (Nat.le_of_ble_eq_true rfl) ⟨by decide, by decide⟩ dX5_shareBetween_53 ?_
        refine g_rdSNI (pc := 56) (val := sTh (sumN (fun g => yG τ q g (anN τ g u - anN τ g t)) i) (anB τ t u)) (rest := []) C k_X6_thousandths (c_X6_thousandths l G (sumN (fun g => yG τ q g (anN τ g u - anN τ g t)) i) (anB τ t u)) (List.mem_of_getElem? (i := 12) rfl) rfl ⟨Nat.le_of_ble_eq_true rfl, Nat.le_of_ble_eq_true rfl⟩ rfl [] rfl rfl (Nat.le_of_ble_eq_true rfl) ⟨by decide, by decide⟩ dX5_shareBetween_56 ?_
        exact g_retIR (pc := 59) C (rfl) (by rw [show i = tG τ from by omega]; rfl) dX5_shareBetween_59
      · refine g_iload (pc := 15) C dX5_shareBetween_15 4 rfl ?_
        refine g_aload_n (pc := 17) C dX5_shareBetween_17 0 rfl ?_
        refine g_iload_n (pc := 18) C dX5_shareBetween_18 1 rfl ?_
        refine g_iload (pc := 19) C dX5_shareBetween_19 5 rfl ?_
        refine g_aload_n (pc := 21) C dX5_shareBetween_21 0 rfl ?_
        refine g_iload (pc := 22) C dX5_shareBetween_22 5 rfl ?_
        refine g_iload_n (pc := 24) C dX5_shareBetween_24 3 rfl ?_
        refine g_rdSI (pc := 25) (val := anN τ i u) (rest := [.int (nI i), .int (nI q), .ref h, .int (sumN (fun g => yG τ q g (anN τ g u - anN τ g t)) i)]) C k_X5_answersOf (c_X5_answersOf l G h a b c τ i u (by first | assumption | omega) (by first | assumption | omega)) ml_X5_31 rfl ⟨Nat.le_of_ble_eq_true rfl, Nat.le_of_ble_eq_true rfl⟩ rfl [0, 1, 2, 3] rfl rfl (Nat.le_of_ble_eq_true rfl) ⟨by decide, by decide⟩ dX5_shareBetween_25 ?_
        refine g_aload_n (pc := 28) C dX5_shareBetween_28 0 rfl ?_
        refine g_iload (pc := 29) C dX5_shareBetween_29 5 rfl ?_
        refine g_iload_n (pc := 31) C dX5_shareBetween_31 2 rfl ?_
        refine g_rdSI (pc := 32) (val := anN τ i t) (rest := [.int (anN τ i u), .int (nI i), .int (nI q), .ref h, .int (sumN (fun g => yG τ q g (anN τ g u - anN τ g t)) i)]) C k_X5_answersOf (c_X5_answersOf l G h a b c τ i t (by first | assumption | omega) (by first | assumption | omega)) ml_X5_31 rfl ⟨Nat.le_of_ble_eq_true rfl, Nat.le_of_ble_eq_true rfl⟩ rfl [0, 1, 2, 3] rfl rfl (Nat.le_of_ble_eq_true rfl) ⟨by decide, by decide⟩ dX5_shareBetween_32 ?_
        refine g_isub (pc := 35) C dX5_shareBetween_35 ?_
        refine g_rdVI (pc := 36) (val := yG τ q i ((anN τ i u) - (anN τ i t))) (rest := [.int (sumN (fun g => yG τ q g (anN τ g u - anN τ g t)) i)]) C k_X3_yesOf (c_X3_yesOf l G h a b c τ q i ((anN τ i u) - (anN τ i t)) (by first | assumption | omega) (by first | assumption | omega)) ml_X5_34 rfl ⟨Nat.le_of_ble_eq_true rfl, Nat.le_of_ble_eq_true rfl⟩ rfl [0, 1, 2, 3] rfl 0 rfl rfl rfl rfl (Nat.le_of_ble_eq_true rfl) ⟨by decide, by decide⟩ dX5_shareBetween_36 ?_
        refine g_iadd (pc := 39) C dX5_shareBetween_39 ?_
        refine g_istore (pc := 40) (lv' := [(4, .int ((sumN (fun g => yG τ q g (anN τ g u - anN τ g t)) i) + (yG τ q i ((anN τ i u) - (anN τ i t))))), (0, .ref h), (1, .int (nI q)), (2, .int (nI t)), (3, .int (nI u)), (5, .int (nI i))]) C dX5_shareBetween_40 (by decide) rfl ?_
        refine g_iinc (pc := 42) (v := nI (i + 1)) (lv' := [(5, .int (nI (i + 1))), (4, .int ((sumN (fun g => yG τ q g (anN τ g u - anN τ g t)) i) + (yG τ q i ((anN τ i u) - (anN τ i t))))), (0, .ref h), (1, .int (nI q)), (2, .int (nI t)), (3, .int (nI u))]) C dX5_shareBetween_42 5 rfl (nI_1 i) (by decide) rfl ?_
        refine g_goto (pc := 45) (tgt := 6) C dX5_shareBetween_45 (by decide) ?_
        refine g_sub (lv' := [(0, .ref h), (1, .int (nI q)), (2, .int (nI t)), (3, .int (nI u)), (4, .int (sumN (fun g => yG τ q g (anN τ g u - anN τ g t)) (i + 1))), (5, .int (nI (i + 1)))]) [2, 3, 4, 5, 1, 0] rfl ?_
        exact ih6 (i + 1) (by first | assumption | omega) (by omega)
  refine g_sub (lv' := [(0, .ref h), (1, .int (nI q)), (2, .int (nI t)), (3, .int (nI u)), (4, .int (sumN (fun g => yG τ q g (anN τ g u - anN τ g t)) 0)), (5, .int (nI 0))]) [2, 3, 4, 5, 1, 0] rfl ?_
  exact key_6 _ 0 (by first | assumption | omega) (Nat.lt_succ_self _)
set_option maxRecDepth 20000 in
set_option maxHeartbeats 4000000 in
theorem c_X5_offBy (l : Launch) (G : gT) (h : Nat) (a : Nat) (b : Nat) (c : Nat) (τ : tT) (q : Nat) (t : Nat) (hT : TI τ) (hq : q < 8) (ht : t ≤ 9) : RI l yX5_offBy cX5_offBy 3 (some .int) 4 G [.ref h, .int (nI q), .int (nI t)] (wT G h a b c τ) (off τ q t) := by
  refine start_R (by decide) (Nat.le_of_ble_eq_true rfl) (fun p9 e9 s9 m9 a9 b9 t9 c9 C => ?_)
  refine g_lv (lv' := [(0, .ref h), (1, .int (nI q)), (2, .int (nI t))]) rfl ?_
  refine g_aload_n (pc := 0) C dX5_offBy_0 0 rfl ?_
  refine g_iload_n (pc := 1) C dX5_offBy_1 1 rfl ?_
  refine g_iconst (pc := 2) (v := 0) C dX5_offBy_2 (by decide) ?_
  refine g_iload_n (pc := 3) C dX5_offBy_3 2 rfl ?_
  refine g_rdSI (pc := 4) (val := shA τ q 0 t) (rest := []) C k_X5_shareBetween (c_X5_shareBetween l G h a b c τ q 0 t (by first | assumption | omega) (by first | assumption | omega) (by first | assumption | omega) (by first | assumption | omega)) ml_X5_45 rfl ⟨Nat.le_of_ble_eq_true rfl, Nat.le_of_ble_eq_true rfl⟩ rfl [0, 1, 2, 3] rfl rfl (Nat.le_of_ble_eq_true rfl) ⟨by decide, by decide⟩ dX5_offBy_4 ?_
  refine g_aload_n (pc := 7) C dX5_offBy_7 0 rfl ?_
  refine g_iload_n (pc := 8) C dX5_offBy_8 1 rfl ?_
  refine g_sipush (pc := 9) (v := 1023) C dX5_offBy_9 (by decide) ?_
  refine g_rdVI (pc := 12) (val := share τ q) (rest := [.int (shA τ q 0 t)]) C k_X3_shareOf (c_X3_shareOf_all l G h a b c τ q (by first | assumption | omega) (by first | assumption | omega)) ml_X5_49 rfl ⟨Nat.le_of_ble_eq_true rfl, Nat.le_of_ble_eq_true rfl⟩ rfl [0, 1, 2, 3] rfl 0 rfl rfl rfl rfl (Nat.le_of_ble_eq_true rfl) ⟨by decide, by decide⟩ dX5_offBy_12 ?_
  refine g_isub (pc := 15) C dX5_offBy_15 ?_
  exact g_retIR (pc := 16) C (rfl) (by rfl) dX5_offBy_16
set_option maxRecDepth 20000 in
set_option maxHeartbeats 4000000 in
theorem c_X5_costOf (l : Launch) (G : gT) (h : Nat) (a : Nat) (b : Nat) (c : Nat) (τ : tT) (t : Nat) (hT : TI τ) (ht : t ≤ 9) : RI l yX5_costOf cX5_costOf 4 (some .int) 3 G [.ref h, .int (nI t)] (wT G h a b c τ) (cost τ t) := by
  refine start_R (by decide) (Nat.le_of_ble_eq_true rfl) (fun p9 e9 s9 m9 a9 b9 t9 c9 C => ?_)
  refine g_lv (lv' := [(0, .ref h), (1, .int (nI t))]) rfl ?_
  refine g_iconst (pc := 0) (v := 0) C dX5_costOf_0 (by decide) ?_
  refine g_istore_n (pc := 1) (lv' := [(2, .int 0), (0, .ref h), (1, .int (nI t))]) C dX5_costOf_1 rfl (by decide) rfl ?_
  refine g_iconst (pc := 2) (v := 0) C dX5_costOf_2 (by decide) ?_
  refine g_istore_n (pc := 3) (lv' := [(3, .int 0), (2, .int 0), (0, .ref h), (1, .int (nI t))]) C dX5_costOf_3 rfl (by decide) rfl ?_
  have key_4 : ∀ (n4 : Nat) (i : Nat) (hi : i ≤ t), t - i < n4 → GW p9 l e9 (rmh 3 0 0) s9 m9 a9 b9 t9 c9 (MQ b9 (QcI (cost τ t)) a9 s9 0 0 NoA) G NoA false 4 0 0 (wT G h a b c τ) [(0, .ref h), (1, .int (nI t)), (2, .int (sumN (lfB τ) i)), (3, .int (nI i))] 4 [] := by
    intro n4
    induction n4 with
    | zero => intro i hi hn4; exact absurd hn4 (Nat.not_lt_zero _)
    | succ n4 ih4 =>
      intro i hi hn4
      refine g_iload_n (pc := 4) C dX5_costOf_4 3 rfl ?_
      refine g_iload_n (pc := 5) C dX5_costOf_5 1 rfl ?_
      refine g_icmpN_ge (pc := 6) (i := i) (j := t) (tgt := 23) C dX5_costOf_6 (by decide) ⟨by omega, by omega⟩ (fun h6 => ?_) (fun h6 => ?_)
      · refine g_aload_n (pc := 23) C dX5_costOf_23 0 rfl ?_
        refine g_get (pc := 24) (T := TX3) (N := 10) (v := .int (τ 8 2)) C ib_X3 0 rfl rfl 5 (by decide) mf_X5_56 rfl rfl rfl dX5_costOf_24 ?_
        refine g_iload_n (pc := 27) C dX5_costOf_27 2 rfl ?_
        refine g_imul (pc := 28) C dX5_costOf_28 ?_
        exact g_retIR (pc := 29) C (rfl) (by rw [show i = t from by omega]; rfl) dX5_costOf_29
      · refine g_iload_n (pc := 9) C dX5_costOf_9 2 rfl ?_
        refine g_aload_n (pc := 10) C dX5_costOf_10 0 rfl ?_
        refine g_iload_n (pc := 11) C dX5_costOf_11 3 rfl ?_
        refine g_rdSI (pc := 12) (val := lfB τ i) (rest := [.int (sumN (lfB τ) i)]) C k_X5_leftBy (c_X5_leftBy l G h a b c τ i (by first | assumption | omega) (by first | assumption | omega)) ml_X5_52 rfl ⟨Nat.le_of_ble_eq_true rfl, Nat.le_of_ble_eq_true rfl⟩ rfl [0, 1, 2, 3] rfl rfl (Nat.le_of_ble_eq_true rfl) ⟨by decide, by decide⟩ dX5_costOf_12 ?_
        refine g_iadd (pc := 15) C dX5_costOf_15 ?_
        refine g_istore_n (pc := 16) (lv' := [(2, .int ((sumN (lfB τ) i) + (lfB τ i))), (0, .ref h), (1, .int (nI t)), (3, .int (nI i))]) C dX5_costOf_16 rfl (by decide) rfl ?_
        refine g_iinc (pc := 17) (v := nI (i + 1)) (lv' := [(3, .int (nI (i + 1))), (2, .int ((sumN (lfB τ) i) + (lfB τ i))), (0, .ref h), (1, .int (nI t))]) C dX5_costOf_17 3 rfl (nI_1 i) (by decide) rfl ?_
        refine g_goto (pc := 20) (tgt := 4) C dX5_costOf_20 (by decide) ?_
        refine g_sub (lv' := [(0, .ref h), (1, .int (nI t)), (2, .int (sumN (lfB τ) (i + 1))), (3, .int (nI (i + 1)))]) [2, 3, 1, 0] rfl ?_
        exact ih4 (i + 1) (by first | assumption | omega) (by omega)
  refine g_sub (lv' := [(0, .ref h), (1, .int (nI t)), (2, .int (sumN (lfB τ) 0)), (3, .int (nI 0))]) [2, 3, 1, 0] rfl ?_
  exact key_4 _ 0 (by first | assumption | omega) (Nat.lt_succ_self _)
set_option maxRecDepth 20000 in
set_option maxHeartbeats 4000000 in
theorem c_X5_enoughFor (l : Launch) (G : gT) (h : Nat) (a : Nat) (b : Nat) (c : Nat) (τ : tT) (q : Nat) (v : Int32) (hT : TI τ) (hq : q < 8) : RI l yX5_enoughFor cX5_enoughFor 4 (some .int) 5 G [.ref h, .int (nI q), .int v] (wT G h a b c τ) (enF τ q v 10 0) := by
  refine start_R (by decide) (Nat.le_of_ble_eq_true rfl) (fun p9 e9 s9 m9 a9 b9 t9 c9 C => ?_)
  refine g_lv (lv' := [(0, .ref h), (1, .int (nI q)), (2, .int v)]) rfl ?_
  refine g_iconst (pc := 0) (v := 0) C dX5_enoughFor_0 (by decide) ?_
  refine g_istore_n (pc := 1) (lv' := [(3, .int 0), (0, .ref h), (1, .int (nI q)), (2, .int v)]) C dX5_enoughFor_1 rfl (by decide) rfl ?_
  have key_2 : ∀ (n2 : Nat) (i : Nat) (n : Nat) (hn : n + i = 10) (hv : enF τ q v 10 0 = enF τ q v n i), n < n2 → GW p9 l e9 (rmh 5 0 0) s9 m9 a9 b9 t9 c9 (MQ b9 (QcI (enF τ q v 10 0)) a9 s9 0 0 NoA) G NoA false 4 0 0 (wT G h a b c τ) [(0, .ref h), (1, .int (nI q)), (2, .int v), (3, .int (nI i))] 2 [] := by
    intro n2
    induction n2 with
    | zero => intro i n hn hv hn2; exact absurd hn2 (Nat.not_lt_zero _)
    | succ n2 ih2 =>
      intro i n hn hv hn2
      refine g_iload_n (pc := 2) C dX5_enoughFor_2 3 rfl ?_
      refine g_bipush (pc := 3) (v := 9) C dX5_enoughFor_3 (by decide) ?_
      refine g_icmpN_gt (pc := 5) (i := i) (j := 9) (tgt := 29) C dX5_enoughFor_5 (by decide) ⟨by omega, by omega⟩ (fun h5 => ?_) (fun h5 => ?_)
      · refine g_iconst (pc := 29) (v := (-1)) C dX5_enoughFor_29 (by decide) ?_
        exact g_retIR (pc := 30) C (rfl) (by rw [hv, show n = 0 from by omega]; rfl) dX5_enoughFor_30
      · refine g_aload_n (pc := 8) C dX5_enoughFor_8 0 rfl ?_
        refine g_iload_n (pc := 9) C dX5_enoughFor_9 1 rfl ?_
        refine g_iload_n (pc := 10) C dX5_enoughFor_10 3 rfl ?_
        refine g_rdSI (pc := 11) (val := off τ q i) (rest := []) C k_X5_offBy (c_X5_offBy l G h a b c τ q i (by first | assumption | omega) (by first | assumption | omega) (by first | assumption | omega)) ml_X5_59 rfl ⟨Nat.le_of_ble_eq_true rfl, Nat.le_of_ble_eq_true rfl⟩ rfl [0, 1, 2, 3] rfl rfl (Nat.le_of_ble_eq_true rfl) ⟨by decide, by decide⟩ dX5_enoughFor_11 ?_
        refine g_mabs (pc := 14) (v := mAbs (off τ q i)) C ml_X5_62 rfl ⟨Nat.le_of_ble_eq_true rfl, Nat.le_of_ble_eq_true rfl⟩ ⟨by decide, by decide⟩ rfl dX5_enoughFor_14 ?_
        refine g_iload_n (pc := 17) C dX5_enoughFor_17 2 rfl ?_
        refine g_icmp_gt (pc := 18) (tgt := 23) C dX5_enoughFor_18 (by decide) (fun h18 => ?_) (fun h18 => ?_)
        · refine g_iinc (pc := 23) (v := nI (i + 1)) (lv' := [(3, .int (nI (i + 1))), (0, .ref h), (1, .int (nI q)), (2, .int v)]) C dX5_enoughFor_23 3 rfl (nI_1 i) (by decide) rfl ?_
          refine g_goto (pc := 26) (tgt := 2) C dX5_enoughFor_26 (by decide) ?_
          refine g_sub (lv' := [(0, .ref h), (1, .int (nI q)), (2, .int v), (3, .int (nI (i + 1)))]) [1, 2, 3, 0] rfl ?_
          exact ih2 (i + 1) (n - 1) (by omega) (by rw [hv, show n = (n - 1) + 1 from by omega, enF, if_neg (Int32.not_le.mpr h18)]; rfl) (by omega)
        · refine g_iload_n (pc := 21) C dX5_enoughFor_21 3 rfl ?_
          exact g_retIR (pc := 22) C (rfl) (by rw [hv, show n = (n - 1) + 1 from by omega, enF, if_pos (Int32.not_lt.mp h18)]) dX5_enoughFor_22
  refine g_sub (lv' := [(0, .ref h), (1, .int (nI q)), (2, .int v), (3, .int (nI 0))]) [1, 2, 3, 0] rfl ?_
  exact key_2 _ 0 10 (by first | assumption | omega) rfl (Nat.lt_succ_self _)
set_option maxRecDepth 20000 in
set_option maxHeartbeats 4000000 in
theorem c_X5_groupsThatNeverAnswer (l : Launch) (G : gT) (h : Nat) (a : Nat) (b : Nat) (c : Nat) (τ : tT) (hT : TI τ) : RI l yX5_groupsThatNeverAnswer cX5_groupsThatNeverAnswer 3 (some .int) 2 G [.ref h] (wT G h a b c τ) (nvN τ (tG τ)) := by
  have hg10 := hT.g10
  have hq8 := hT.q8
  refine start_R (by decide) (Nat.le_of_ble_eq_true rfl) (fun p9 e9 s9 m9 a9 b9 t9 c9 C => ?_)
  refine g_lv (lv' := [(0, .ref h)]) rfl ?_
  refine g_iconst (pc := 0) (v := 0) C dX5_groupsThatNeverAnswer_0 (by decide) ?_
  refine g_istore_n (pc := 1) (lv' := [(1, .int 0), (0, .ref h)]) C dX5_groupsThatNeverAnswer_1 rfl (by decide) rfl ?_
  refine g_iconst (pc := 2) (v := 0) C dX5_groupsThatNeverAnswer_2 (by decide) ?_
  refine g_istore_n (pc := 3) (lv' := [(2, .int 0), (1, .int 0), (0, .ref h)]) C dX5_groupsThatNeverAnswer_3 rfl (by decide) rfl ?_
  have key_4 : ∀ (n4 : Nat) (i : Nat) (hi : i ≤ tG τ), tG τ - i < n4 → GW p9 l e9 (rmh 2 0 0) s9 m9 a9 b9 t9 c9 (MQ b9 (QcI (nvN τ (tG τ))) a9 s9 0 0 NoA) G NoA false 3 0 0 (wT G h a b c τ) [(0, .ref h), (1, .int (nvN τ i)), (2, .int (nI i))] 4 [] := by
    intro n4
    induction n4 with
    | zero => intro i hi hn4; exact absurd hn4 (Nat.not_lt_zero _)
    | succ n4 ih4 =>
      intro i hi hn4
      refine g_iload_n (pc := 4) C dX5_groupsThatNeverAnswer_4 2 rfl ?_
      refine g_aload_n (pc := 5) C dX5_groupsThatNeverAnswer_5 0 rfl ?_
      refine g_get (pc := 6) (T := TX3) (N := 10) (v := .int (τ 8 1)) C ib_X3 0 rfl rfl 4 (by decide) mf_X5_21 rfl rfl rfl dX5_groupsThatNeverAnswer_6 ?_
      refine g_top (z := nI (tG τ)) (hT.g) ?_
      refine g_icmpN_ge (pc := 9) (i := i) (j := tG τ) (tgt := 34) C dX5_groupsThatNeverAnswer_9 (by decide) ⟨by omega, by omega⟩ (fun h9 => ?_) (fun h9 => ?_)
      · refine g_iload_n (pc := 34) C dX5_groupsThatNeverAnswer_34 1 rfl ?_
        exact g_retIR (pc := 35) C (rfl) (by rw [show i = tG τ from by omega]) dX5_groupsThatNeverAnswer_35
      · refine g_aload_n (pc := 12) C dX5_groupsThatNeverAnswer_12 0 rfl ?_
        refine g_iload_n (pc := 13) C dX5_groupsThatNeverAnswer_13 2 rfl ?_
        refine g_bipush (pc := 14) (v := 9) C dX5_groupsThatNeverAnswer_14 (by decide) ?_
        refine g_rdSI (pc := 16) (val := anN τ i 9) (rest := []) C k_X5_answersOf (c_X5_answersOf l G h a b c τ i 9 (by first | assumption | omega) (by first | assumption | omega)) ml_X5_31 rfl ⟨Nat.le_of_ble_eq_true rfl, Nat.le_of_ble_eq_true rfl⟩ rfl [0, 1, 2, 3] rfl rfl (Nat.le_of_ble_eq_true rfl) ⟨by decide, by decide⟩ dX5_groupsThatNeverAnswer_16 ?_
        refine g_if_ne (pc := 19) (tgt := 28) C dX5_groupsThatNeverAnswer_19 (by decide) (fun h19 => ?_) (fun h19 => ?_)
        · refine g_iinc (pc := 28) (v := nI (i + 1)) (lv' := [(2, .int (nI (i + 1))), (0, .ref h), (1, .int (nvN τ i))]) C dX5_groupsThatNeverAnswer_28 2 rfl (nI_1 i) (by decide) rfl ?_
          refine g_goto (pc := 31) (tgt := 4) C dX5_groupsThatNeverAnswer_31 (by decide) ?_
          refine g_sub (lv' := [(0, .ref h), (1, .int (nvN τ i)), (2, .int (nI (i + 1)))]) [1, 2, 0] rfl ?_
          refine g_lv (lv' := [(0, .ref h), (1, .int (nvN τ (i + 1))), (2, .int (nI (i + 1)))]) (by simp [nvN, h19]) ?_
          exact ih4 (i + 1) (by first | assumption | omega) (by omega)
        · refine g_iload_n (pc := 22) C dX5_groupsThatNeverAnswer_22 1 rfl ?_
          refine g_iconst (pc := 23) (v := 1) C dX5_groupsThatNeverAnswer_23 (by decide) ?_
          refine g_iload_n (pc := 24) C dX5_groupsThatNeverAnswer_24 2 rfl ?_
          refine g_ishl (pc := 25) C dX5_groupsThatNeverAnswer_25 ?_
          refine g_ior (pc := 26) C dX5_groupsThatNeverAnswer_26 ?_
          refine g_istore_n (pc := 27) (lv' := [(1, .int ((nvN τ i) ||| (1 <<< ((nI i) &&& 31)))), (0, .ref h), (2, .int (nI i))]) C dX5_groupsThatNeverAnswer_27 rfl (by decide) rfl ?_
          refine g_iinc (pc := 28) (v := nI (i + 1)) (lv' := [(2, .int (nI (i + 1))), (1, .int ((nvN τ i) ||| (1 <<< ((nI i) &&& 31)))), (0, .ref h)]) C dX5_groupsThatNeverAnswer_28 2 rfl (nI_1 i) (by decide) rfl ?_
          refine g_goto (pc := 31) (tgt := 4) C dX5_groupsThatNeverAnswer_31 (by decide) ?_
          refine g_sub (lv' := [(0, .ref h), (1, .int ((nvN τ i) ||| (1 <<< ((nI i) &&& 31)))), (2, .int (nI (i + 1)))]) [2, 1, 0] rfl ?_
          refine g_lv (lv' := [(0, .ref h), (1, .int (nvN τ (i + 1))), (2, .int (nI (i + 1)))]) (by simp [nvN, h19]) ?_
          exact ih4 (i + 1) (by first | assumption | omega) (by omega)
  refine g_sub (lv' := [(0, .ref h), (1, .int (nvN τ 0)), (2, .int (nI 0))]) [2, 1, 0] rfl ?_
  exact key_4 _ 0 (by first | assumption | omega) (Nat.lt_succ_self _)
set_option maxRecDepth 20000 in
set_option maxHeartbeats 4000000 in
theorem c_X3_putView (l : Launch) (G : gT) (h : Nat) (a : Nat) (b : Nat) (c : Nat) (τ : tT) (g : Nat) (x : Int32) (hg : g < 10) : WV l yX3_putView cX3_putView 3 (none) 0 0 0 G [.ref h, .int (nI g), .int x] (wT G h a b c τ) (S := Unit) (fun _ => True) (fun _ => wT G h a b c (aVi τ g x)) := by
  intro sz9
  refine start_W (by decide) (Nat.le_of_ble_eq_true rfl) (fun p9 e9 s9 m9 a9 b9 t9 c9 C => ?_)
  refine g_lv (lv' := [(0, .ref h), (1, .int (nI g)), (2, .int x)]) rfl ?_
  refine g_aload_n (pc := 0) C dX3_putView_0 0 rfl ?_
  refine g_get (pc := 1) (T := TX3) (N := 10) (v := .ref c) C ib_X3 0 rfl rfl 2 (by decide) mf_X3_18 rfl rfl rfl dX3_putView_1 ?_
  refine g_iload_n (pc := 4) C dX3_putView_4 1 rfl ?_
  refine g_iconst (pc := 5) (v := 5) C dX3_putView_5 (by decide) ?_
  refine g_imulN (pc := 6) (i := g) (j := 5) C dX3_putView_6 ?_
  refine g_iconst (pc := 7) (v := 1) C dX3_putView_7 (by decide) ?_
  refine g_iaddN (pc := 8) (i := g * 5) (j := 1) C dX3_putView_8 ?_
  refine g_iload_n (pc := 9) C dX3_putView_9 2 rfl ?_
  refine g_iast (pc := 10) (ws' := [oC h 3 [.ref a, .ref b, .ref c, .int (τ 8 0), .int (τ 8 1), .int (τ 8 2), .int (τ 8 3), .int (τ 8 4), .int (τ 8 5), .int (τ 8 6)], iC G a 16 (fq τ), iC G b 64 (τ 2), iC G c 50 (upd (fg τ) ((g * 5) + 1) x)]) C rfl 3 rfl ((g * 5) + 1) (rfl) ⟨by omega, by decide⟩ dX3_putView_10 rfl ?_
  exact g_retVW (pc := 11) C rfl rfl () trivial (by simp [wT, aSc, aQu, aGr, aBe, aVi, aSp, fq_up0, fq_up1, fq_upn, fg_up3, fg_up4, fg_up5, fg_up6, fg_up7, fg_upn, up2_r, up2_n, up2_s, up2]) dX3_putView_11
set_option maxRecDepth 20000 in
set_option maxHeartbeats 4000000 in
theorem c_X3_putBearing (l : Launch) (G : gT) (h : Nat) (a : Nat) (b : Nat) (c : Nat) (τ : tT) (q : Nat) (r : Nat) (x : Int32) (hq : q < 8) (hr : r < 8) : WV l yX3_putBearing cX3_putBearing 4 (none) 0 0 0 G [.ref h, .int (nI q), .int (nI r), .int x] (wT G h a b c τ) (S := Unit) (fun _ => True) (fun _ => wT G h a b c (aBe τ q r x)) := by
  intro sz9
  refine start_W (by decide) (Nat.le_of_ble_eq_true rfl) (fun p9 e9 s9 m9 a9 b9 t9 c9 C => ?_)
  refine g_lv (lv' := [(0, .ref h), (1, .int (nI q)), (2, .int (nI r)), (3, .int x)]) rfl ?_
  refine g_aload_n (pc := 0) C dX3_putBearing_0 0 rfl ?_
  refine g_get (pc := 1) (T := TX3) (N := 10) (v := .ref b) C ib_X3 0 rfl rfl 1 (by decide) mf_X3_15 rfl rfl rfl dX3_putBearing_1 ?_
  refine g_iload_n (pc := 4) C dX3_putBearing_4 1 rfl ?_
  refine g_bipush (pc := 5) (v := 8) C dX3_putBearing_5 (by decide) ?_
  refine g_imulN (pc := 7) (i := q) (j := 8) C dX3_putBearing_7 ?_
  refine g_iload_n (pc := 8) C dX3_putBearing_8 2 rfl ?_
  refine g_iaddN (pc := 9) (i := q * 8) (j := r) C dX3_putBearing_9 ?_
  refine g_iload_n (pc := 10) C dX3_putBearing_10 3 rfl ?_
  refine g_iast (pc := 11) (ws' := [oC h 3 [.ref a, .ref b, .ref c, .int (τ 8 0), .int (τ 8 1), .int (τ 8 2), .int (τ 8 3), .int (τ 8 4), .int (τ 8 5), .int (τ 8 6)], iC G a 16 (fq τ), iC G b 64 (upd (τ 2) ((q * 8) + r) x), iC G c 50 (fg τ)]) C rfl 2 rfl ((q * 8) + r) (rfl) ⟨by omega, by decide⟩ dX3_putBearing_11 rfl ?_
  exact g_retVW (pc := 12) C rfl rfl () trivial (by simp [wT, aSc, aQu, aGr, aBe, aVi, aSp, fq_up0, fq_up1, fq_upn, fg_up3, fg_up4, fg_up5, fg_up6, fg_up7, fg_upn, up2_r, up2_n, up2_s, up2]) dX3_putBearing_12
set_option maxRecDepth 20000 in
set_option maxHeartbeats 4000000 in
theorem c_X3_addQuestion (l : Launch) (G : gT) (h : Nat) (a : Nat) (b : Nat) (c : Nat) (τ : tT) (k : Int32) (x : Int32) (hT : TI τ) (hQ : tQ τ < 8) : WI l yX3_addQuestion cX3_addQuestion 4 (some .int) 0 0 0 G [.ref h, .int k, .int x] (wT G h a b c τ) (S := Unit) (fun r _ => r = nI (tQ τ)) (fun _ => wT G h a b c (aQu τ k x)) := by
  intro sz9
  refine start_W (by decide) (Nat.le_of_ble_eq_true rfl) (fun p9 e9 s9 m9 a9 b9 t9 c9 C => ?_)
  refine g_lv (lv' := [(0, .ref h), (1, .int k), (2, .int x)]) rfl ?_
  refine g_aload_n (pc := 0) C dX3_addQuestion_0 0 rfl ?_
  refine g_dup (pc := 1) C dX3_addQuestion_1 rfl ?_
  refine g_get (pc := 2) (T := TX3) (N := 10) (v := .int (τ 8 0)) C ib_X3 0 rfl rfl 3 (by decide) mf_X3_34 rfl rfl rfl dX3_addQuestion_2 ?_
  refine g_top (z := nI (tQ τ)) (hT.q) ?_
  refine g_dup_x1 (pc := 5) C dX3_addQuestion_5 rfl rfl ?_
  refine g_iconst (pc := 6) (v := 1) C dX3_addQuestion_6 (by decide) ?_
  refine g_iaddN (pc := 7) (i := tQ τ) (j := 1) C dX3_addQuestion_7 ?_
  refine g_put (pc := 8) (T := TX3) (N := 10) (ty := .int) (ws' := [oC h 3 [.ref a, .ref b, .ref c, .int (nI ((tQ τ) + 1)), .int (τ 8 1), .int (τ 8 2), .int (τ 8 3), .int (τ 8 4), .int (τ 8 5), .int (τ 8 6)], iC G a 16 (fq τ), iC G b 64 (τ 2), iC G c 50 (fg τ)]) C rfl ib_X3 tyX3 tyX3_ok nmX3 0 rfl rfl 3 (by decide) mf_X3_34 rfl rfl rfl (by decide +kernel) rfl rfl (Nat.le_of_ble_eq_true rfl) dX3_addQuestion_8 rfl ?_
  refine g_istore_n (pc := 11) (lv' := [(3, .int (nI (tQ τ))), (0, .ref h), (1, .int k), (2, .int x)]) C dX3_addQuestion_11 rfl (by decide) rfl ?_
  refine g_aload_n (pc := 12) C dX3_addQuestion_12 1 rfl ?_
  refine g_get (pc := 13) (T := TX3) (N := 10) (v := .ref a) C ib_X3 0 rfl rfl 0 (by decide) mf_X3_11 rfl rfl rfl dX3_addQuestion_13 ?_
  refine g_iload_n (pc := 16) C dX3_addQuestion_16 0 rfl ?_
  refine g_iconst (pc := 17) (v := 2) C dX3_addQuestion_17 (by decide) ?_
  refine g_imulN (pc := 18) (i := tQ τ) (j := 2) C dX3_addQuestion_18 ?_
  refine g_iload_n (pc := 19) C dX3_addQuestion_19 2 rfl ?_
  refine g_iast (pc := 20) (ws' := [oC h 3 [.ref a, .ref b, .ref c, .int (nI ((tQ τ) + 1)), .int (τ 8 1), .int (τ 8 2), .int (τ 8 3), .int (τ 8 4), .int (τ 8 5), .int (τ 8 6)], iC G a 16 (upd (fq τ) ((tQ τ) * 2) k), iC G b 64 (τ 2), iC G c 50 (fg τ)]) C rfl 1 rfl ((tQ τ) * 2) (rfl) ⟨by omega, by decide⟩ dX3_addQuestion_20 rfl ?_
  refine g_aload_n (pc := 21) C dX3_addQuestion_21 1 rfl ?_
  refine g_get (pc := 22) (T := TX3) (N := 10) (v := .ref a) C ib_X3 0 rfl rfl 0 (by decide) mf_X3_11 rfl rfl rfl dX3_addQuestion_22 ?_
  refine g_iload_n (pc := 25) C dX3_addQuestion_25 0 rfl ?_
  refine g_iconst (pc := 26) (v := 2) C dX3_addQuestion_26 (by decide) ?_
  refine g_imulN (pc := 27) (i := tQ τ) (j := 2) C dX3_addQuestion_27 ?_
  refine g_iconst (pc := 28) (v := 1) C dX3_addQuestion_28 (by decide) ?_
  refine g_iaddN (pc := 29) (i := (tQ τ) * 2) (j := 1) C dX3_addQuestion_29 ?_
  refine g_iload_n (pc := 30) C dX3_addQuestion_30 3 rfl ?_
  refine g_iast (pc := 31) (ws' := [oC h 3 [.ref a, .ref b, .ref c, .int (nI ((tQ τ) + 1)), .int (τ 8 1), .int (τ 8 2), .int (τ 8 3), .int (τ 8 4), .int (τ 8 5), .int (τ 8 6)], iC G a 16 (upd (upd (fq τ) ((tQ τ) * 2) k) (((tQ τ) * 2) + 1) x), iC G b 64 (τ 2), iC G c 50 (fg τ)]) C rfl 1 rfl (((tQ τ) * 2) + 1) (rfl) ⟨by omega, by decide⟩ dX3_addQuestion_31 rfl ?_
  refine g_iload_n (pc := 32) C dX3_addQuestion_32 0 rfl ?_
  exact g_retIW (pc := 33) C rfl rfl () (rfl) (by rfl) (by simp [wT, aSc, aQu, aGr, aBe, aVi, aSp, fq_up0, fq_up1, fq_upn, fg_up3, fg_up4, fg_up5, fg_up6, fg_up7, fg_upn, up2_r, up2_n, up2_s, up2]) dX3_addQuestion_33
set_option maxRecDepth 20000 in
set_option maxHeartbeats 4000000 in
theorem c_X3_addGroup (l : Launch) (G : gT) (h : Nat) (a : Nat) (b : Nat) (c : Nat) (τ : tT) (n : Int32) (v : Int32) (g : Int32) (hm : Int32) (w : Int32) (hT : TI τ) (hG : tG τ < 10) : WI l yX3_addGroup cX3_addGroup 8 (some .int) 0 0 0 G [.ref h, .int n, .int v, .int g, .int hm, .int w] (wT G h a b c τ) (S := Unit) (fun r _ => r = nI (tG τ)) (fun _ => wT G h a b c (aGr τ n v g hm w)) := by
  intro sz9
  refine start_W (by decide) (Nat.le_of_ble_eq_true rfl) (fun p9 e9 s9 m9 a9 b9 t9 c9 C => ?_)
  refine g_lv (lv' := [(0, .ref h), (1, .int n), (2, .int v), (3, .int g), (4, .int hm), (5, .int w)]) rfl ?_
  refine g_aload_n (pc := 0) C dX3_addGroup_0 0 rfl ?_
  refine g_dup (pc := 1) C dX3_addGroup_1 rfl ?_
  refine g_get (pc := 2) (T := TX3) (N := 10) (v := .int (τ 8 1)) C ib_X3 0 rfl rfl 4 (by decide) mf_X3_37 rfl rfl rfl dX3_addGroup_2 ?_
  refine g_top (z := nI (tG τ)) (hT.g) ?_
  refine g_dup_x1 (pc := 5) C dX3_addGroup_5 rfl rfl ?_
  refine g_iconst (pc := 6) (v := 1) C dX3_addGroup_6 (by decide) ?_
  refine g_iaddN (pc := 7) (i := tG τ) (j := 1) C dX3_addGroup_7 ?_
  refine g_put (pc := 8) (T := TX3) (N := 10) (ty := .int) (ws' := [oC h 3 [.ref a, .ref b, .ref c, .int (τ 8 0), .int (nI ((tG τ) + 1)), .int (τ 8 2), .int (τ 8 3), .int (τ 8 4), .int (τ 8 5), .int (τ 8 6)], iC G a 16 (fq τ), iC G b 64 (τ 2), iC G c 50 (fg τ)]) C rfl ib_X3 tyX3 tyX3_ok nmX3 0 rfl rfl 4 (by decide) mf_X3_37 rfl rfl rfl (by decide +kernel) rfl rfl (Nat.le_of_ble_eq_true rfl) dX3_addGroup_8 rfl ?_
  refine g_istore (pc := 11) (lv' := [(6, .int (nI (tG τ))), (0, .ref h), (1, .int n), (2, .int v), (3, .int g), (4, .int hm), (5, .int w)]) C dX3_addGroup_11 (by decide) rfl ?_
  refine g_iload (pc := 13) C dX3_addGroup_13 0 rfl ?_
  refine g_iconst (pc := 15) (v := 5) C dX3_addGroup_15 (by decide) ?_
  refine g_imulN (pc := 16) (i := tG τ) (j := 5) C dX3_addGroup_16 ?_
  refine g_istore (pc := 17) (lv' := [(7, .int (nI ((tG τ) * 5))), (6, .int (nI (tG τ))), (0, .ref h), (1, .int n), (2, .int v), (3, .int g), (4, .int hm), (5, .int w)]) C dX3_addGroup_17 (by decide) rfl ?_
  refine g_aload_n (pc := 19) C dX3_addGroup_19 2 rfl ?_
  refine g_get (pc := 20) (T := TX3) (N := 10) (v := .ref c) C ib_X3 0 rfl rfl 2 (by decide) mf_X3_18 rfl rfl rfl dX3_addGroup_20 ?_
  refine g_iload (pc := 23) C dX3_addGroup_23 0 rfl ?_
  refine g_iload_n (pc := 25) C dX3_addGroup_25 3 rfl ?_
  refine g_iast (pc := 26) (ws' := [oC h 3 [.ref a, .ref b, .ref c, .int (τ 8 0), .int (nI ((tG τ) + 1)), .int (τ 8 2), .int (τ 8 3), .int (τ 8 4), .int (τ 8 5), .int (τ 8 6)], iC G a 16 (fq τ), iC G b 64 (τ 2), iC G c 50 (upd (fg τ) ((tG τ) * 5) n)]) C rfl 3 rfl ((tG τ) * 5) (rfl) ⟨by omega, by decide⟩ dX3_addGroup_26 rfl ?_
  refine g_aload_n (pc := 27) C dX3_addGroup_27 2 rfl ?_
  refine g_get (pc := 28) (T := TX3) (N := 10) (v := .ref c) C ib_X3 0 rfl rfl 2 (by decide) mf_X3_18 rfl rfl rfl dX3_addGroup_28 ?_
  refine g_iload (pc := 31) C dX3_addGroup_31 0 rfl ?_
  refine g_iconst (pc := 33) (v := 1) C dX3_addGroup_33 (by decide) ?_
  refine g_iaddN (pc := 34) (i := (tG τ) * 5) (j := 1) C dX3_addGroup_34 ?_
  refine g_iload_n (pc := 35) C dX3_addGroup_35 4 rfl ?_
  refine g_iast (pc := 36) (ws' := [oC h 3 [.ref a, .ref b, .ref c, .int (τ 8 0), .int (nI ((tG τ) + 1)), .int (τ 8 2), .int (τ 8 3), .int (τ 8 4), .int (τ 8 5), .int (τ 8 6)], iC G a 16 (fq τ), iC G b 64 (τ 2), iC G c 50 (upd (upd (fg τ) ((tG τ) * 5) n) (((tG τ) * 5) + 1) v)]) C rfl 3 rfl (((tG τ) * 5) + 1) (rfl) ⟨by omega, by decide⟩ dX3_addGroup_36 rfl ?_
  refine g_aload_n (pc := 37) C dX3_addGroup_37 2 rfl ?_
  refine g_get (pc := 38) (T := TX3) (N := 10) (v := .ref c) C ib_X3 0 rfl rfl 2 (by decide) mf_X3_18 rfl rfl rfl dX3_addGroup_38 ?_
  refine g_iload (pc := 41) C dX3_addGroup_41 0 rfl ?_
  refine g_iconst (pc := 43) (v := 2) C dX3_addGroup_43 (by decide) ?_
  refine g_iaddN (pc := 44) (i := (tG τ) * 5) (j := 2) C dX3_addGroup_44 ?_
  refine g_iload_n (pc := 45) C dX3_addGroup_45 5 rfl ?_
  refine g_iast (pc := 46) (ws' := [oC h 3 [.ref a, .ref b, .ref c, .int (τ 8 0), .int (nI ((tG τ) + 1)), .int (τ 8 2), .int (τ 8 3), .int (τ 8 4), .int (τ 8 5), .int (τ 8 6)], iC G a 16 (fq τ), iC G b 64 (τ 2), iC G c 50 (upd (upd (upd (fg τ) ((tG τ) * 5) n) (((tG τ) * 5) + 1) v) (((tG τ) * 5) + 2) g)]) C rfl 3 rfl (((tG τ) * 5) + 2) (rfl) ⟨by omega, by decide⟩ dX3_addGroup_46 rfl ?_
  refine g_aload_n (pc := 47) C dX3_addGroup_47 2 rfl ?_
  refine g_get (pc := 48) (T := TX3) (N := 10) (v := .ref c) C ib_X3 0 rfl rfl 2 (by decide) mf_X3_18 rfl rfl rfl dX3_addGroup_48 ?_
  refine g_iload (pc := 51) C dX3_addGroup_51 0 rfl ?_
  refine g_iconst (pc := 53) (v := 3) C dX3_addGroup_53 (by decide) ?_
  refine g_iaddN (pc := 54) (i := (tG τ) * 5) (j := 3) C dX3_addGroup_54 ?_
  refine g_iload (pc := 55) C dX3_addGroup_55 6 rfl ?_
  refine g_iast (pc := 57) (ws' := [oC h 3 [.ref a, .ref b, .ref c, .int (τ 8 0), .int (nI ((tG τ) + 1)), .int (τ 8 2), .int (τ 8 3), .int (τ 8 4), .int (τ 8 5), .int (τ 8 6)], iC G a 16 (fq τ), iC G b 64 (τ 2), iC G c 50 (upd (upd (upd (upd (fg τ) ((tG τ) * 5) n) (((tG τ) * 5) + 1) v) (((tG τ) * 5) + 2) g) (((tG τ) * 5) + 3) hm)]) C rfl 3 rfl (((tG τ) * 5) + 3) (rfl) ⟨by omega, by decide⟩ dX3_addGroup_57 rfl ?_
  refine g_aload_n (pc := 58) C dX3_addGroup_58 2 rfl ?_
  refine g_get (pc := 59) (T := TX3) (N := 10) (v := .ref c) C ib_X3 0 rfl rfl 2 (by decide) mf_X3_18 rfl rfl rfl dX3_addGroup_59 ?_
  refine g_iload (pc := 62) C dX3_addGroup_62 0 rfl ?_
  refine g_iconst (pc := 64) (v := 4) C dX3_addGroup_64 (by decide) ?_
  refine g_iaddN (pc := 65) (i := (tG τ) * 5) (j := 4) C dX3_addGroup_65 ?_
  refine g_iload (pc := 66) C dX3_addGroup_66 7 rfl ?_
  refine g_iast (pc := 68) (ws' := [oC h 3 [.ref a, .ref b, .ref c, .int (τ 8 0), .int (nI ((tG τ) + 1)), .int (τ 8 2), .int (τ 8 3), .int (τ 8 4), .int (τ 8 5), .int (τ 8 6)], iC G a 16 (fq τ), iC G b 64 (τ 2), iC G c 50 (upd (upd (upd (upd (upd (fg τ) ((tG τ) * 5) n) (((tG τ) * 5) + 1) v) (((tG τ) * 5) + 2) g) (((tG τ) * 5) + 3) hm) (((tG τ) * 5) + 4) w)]) C rfl 3 rfl (((tG τ) * 5) + 4) (rfl) ⟨by omega, by decide⟩ dX3_addGroup_68 rfl ?_
  refine g_iload (pc := 69) C dX3_addGroup_69 1 rfl ?_
  exact g_retIW (pc := 71) C rfl rfl () (rfl) (by rfl) (by simp [wT, aSc, aQu, aGr, aBe, aVi, aSp, fq_up0, fq_up1, fq_upn, fg_up3, fg_up4, fg_up5, fg_up6, fg_up7, fg_upn, up2_r, up2_n, up2_s, up2]) dX3_addGroup_71
set_option maxRecDepth 20000 in
set_option maxHeartbeats 4000000 in
theorem c_X3_draw (l : Launch) (G : gT) (h : Nat) (a : Nat) (b : Nat) (c : Nat) (τ : tT) (n : Int32) : WI l yX3_draw cX3_draw 2 (some .int) 0 0 0 G [.ref h, .int n] (wT G h a b c τ) (S := Unit) (fun r _ => r = drV (τ 8 4) n) (fun _ => wT G h a b c (kn1 τ)) := by
  intro sz9
  refine start_W (by decide) (Nat.le_of_ble_eq_true rfl) (fun p9 e9 s9 m9 a9 b9 t9 c9 C => ?_)
  refine g_lv (lv' := [(0, .ref h), (1, .int n)]) rfl ?_
  refine g_aload_n (pc := 0) C dX3_draw_0 0 rfl ?_
  refine g_aload_n (pc := 1) C dX3_draw_1 0 rfl ?_
  refine g_get (pc := 2) (T := TX3) (N := 10) (v := .int (τ 8 4)) C ib_X3 0 rfl rfl 7 (by decide) mf_X3_25 rfl rfl rfl dX3_draw_2 ?_
  refine g_ldc (pc := 5) (v := 1103515245) C mk_X3_128 dX3_draw_5 ?_
  refine g_imul (pc := 7) C dX3_draw_7 ?_
  refine g_sipush (pc := 8) (v := 12345) C dX3_draw_8 (by decide) ?_
  refine g_iadd (pc := 11) C dX3_draw_11 ?_
  refine g_put (pc := 12) (T := TX3) (N := 10) (ty := .int) (ws' := [oC h 3 [.ref a, .ref b, .ref c, .int (τ 8 0), .int (τ 8 1), .int (τ 8 2), .int (τ 8 3), .int (((τ 8 4) * 1103515245) + 12345), .int (τ 8 5), .int (τ 8 6)], iC G a 16 (fq τ), iC G b 64 (τ 2), iC G c 50 (fg τ)]) C rfl ib_X3 tyX3 tyX3_ok nmX3 0 rfl rfl 7 (by decide) mf_X3_25 rfl rfl rfl (by decide +kernel) rfl rfl (Nat.le_of_ble_eq_true rfl) dX3_draw_12 rfl ?_
  refine g_iload_n (pc := 15) C dX3_draw_15 1 rfl ?_
  refine g_iconst (pc := 16) (v := 1) C dX3_draw_16 (by decide) ?_
  refine g_icmp_ge (pc := 17) (tgt := 24) C dX3_draw_17 (by decide) (fun h17 => ?_) (fun h17 => ?_)
  · refine g_aload_n (pc := 24) C dX3_draw_24 0 rfl ?_
    refine g_get (pc := 25) (T := TX3) (N := 10) (v := .int (((τ 8 4) * 1103515245) + 12345)) C ib_X3 0 rfl rfl 7 (by decide) mf_X3_25 rfl rfl rfl dX3_draw_25 ?_
    refine g_bipush (pc := 28) (v := 16) C dX3_draw_28 (by decide) ?_
    refine g_iushr (pc := 30) (v := ((((τ 8 4) * 1103515245) + 12345).toUInt32 >>> (Int32.toUInt32 16 &&& Int32.toUInt32 31)).toInt32) C dX3_draw_30 rfl ?_
    refine g_iload_n (pc := 31) C dX3_draw_31 1 rfl ?_
    refine g_irem (pc := 32) (v := (((((τ 8 4) * 1103515245) + 12345).toUInt32 >>> (Int32.toUInt32 16 &&& Int32.toUInt32 31)).toInt32) - (((((τ 8 4) * 1103515245) + 12345).toUInt32 >>> (Int32.toUInt32 16 &&& Int32.toUInt32 31)).toInt32) / n * n) C dX3_draw_32 (by rintro rfl; exact absurd h17 (by decide)) (rfl) ?_
    exact g_retIW (pc := 33) C rfl rfl () (rfl) (by rw [drV, if_neg (Int32.not_lt.mpr h17)]; rfl) (by simp [kn1, sdN, wT, aSc, aQu, aGr, aBe, aVi, aSp, fq_up0, fq_up1, fq_upn, fg_up3, fg_up4, fg_up5, fg_up6, fg_up7, fg_upn, up2_r, up2_n, up2_s, up2]) dX3_draw_33
  · refine g_iconst (pc := 20) (v := 0) C dX3_draw_20 (by decide) ?_
    refine g_goto (pc := 21) (tgt := 33) C dX3_draw_21 (by decide) ?_
    exact g_retIW (pc := 33) C rfl rfl () (rfl) (by rw [drV, if_pos (Int32.not_le.mp h17)]) (by simp [kn1, sdN, wT, aSc, aQu, aGr, aBe, aVi, aSp, fq_up0, fq_up1, fq_upn, fg_up3, fg_up4, fg_up5, fg_up6, fg_up7, fg_upn, up2_r, up2_n, up2_s, up2]) dX3_draw_33
set_option maxRecDepth 20000 in
set_option maxHeartbeats 4000000 in
theorem c_X2_holdsRow (l : Launch) (G : gT) (h : Nat) (a : Nat) (b : Nat) (c : Nat) (hd : Nat → Int32) (sz : Nat → Int32) (el : Nat → Int64) (s : Nat) (hs : s < 8) : RI l yX2_holdsRow cX2_holdsRow 2 (some .boolean) 0 G [.ref h, .int (nI s)] (wS G h a b c hd sz el) (bI (isRw (hd s))) := by
  refine start_R (by decide) (Nat.le_of_ble_eq_true rfl) (fun p9 e9 s9 m9 a9 b9 t9 c9 C => ?_)
  refine g_lv (lv' := [(0, .ref h), (1, .int (nI s))]) rfl ?_
  refine g_aload_n (pc := 0) C dX2_holdsRow_0 0 rfl ?_
  refine g_get (pc := 1) (T := TX2) (N := 3) (v := .ref a) C ib_X2 0 rfl rfl 0 (by decide) mf_X2_9 rfl rfl rfl dX2_holdsRow_1 ?_
  refine g_iload_n (pc := 4) C dX2_holdsRow_4 1 rfl ?_
  refine g_iald (pc := 5) (v := hd s) C 1 rfl s (rfl) ⟨by omega, by decide⟩ (rfl) dX2_holdsRow_5 ?_
  refine g_bipush (pc := 6) (v := 100) C dX2_holdsRow_6 (by decide) ?_
  refine g_icmp_lt (pc := 8) (tgt := 15) C dX2_holdsRow_8 (by decide) (fun h8 => ?_) (fun h8 => ?_)
  · refine g_iconst (pc := 15) (v := 0) C dX2_holdsRow_15 (by decide) ?_
    exact g_retIR (pc := 16) C (rfl) (by simp [bI, *]) dX2_holdsRow_16
  · refine g_iconst (pc := 11) (v := 1) C dX2_holdsRow_11 (by decide) ?_
    refine g_goto (pc := 12) (tgt := 16) C dX2_holdsRow_12 (by decide) ?_
    exact g_retIR (pc := 16) C (rfl) (by simp [bI, *]) dX2_holdsRow_16
set_option maxRecDepth 20000 in
set_option maxHeartbeats 4000000 in
theorem c_X2_holdsQuestion (l : Launch) (G : gT) (h : Nat) (a : Nat) (b : Nat) (c : Nat) (hd : Nat → Int32) (sz : Nat → Int32) (el : Nat → Int64) (s : Nat) (hs : s < 8) : RI l yX2_holdsQuestion cX2_holdsQuestion 2 (some .boolean) 0 G [.ref h, .int (nI s)] (wS G h a b c hd sz el) (bI (isQn (hd s))) := by
  refine start_R (by decide) (Nat.le_of_ble_eq_true rfl) (fun p9 e9 s9 m9 a9 b9 t9 c9 C => ?_)
  refine g_lv (lv' := [(0, .ref h), (1, .int (nI s))]) rfl ?_
  refine g_aload_n (pc := 0) C dX2_holdsQuestion_0 0 rfl ?_
  refine g_get (pc := 1) (T := TX2) (N := 3) (v := .ref a) C ib_X2 0 rfl rfl 0 (by decide) mf_X2_9 rfl rfl rfl dX2_holdsQuestion_1 ?_
  refine g_iload_n (pc := 4) C dX2_holdsQuestion_4 1 rfl ?_
  refine g_iald (pc := 5) (v := hd s) C 1 rfl s (rfl) ⟨by omega, by decide⟩ (rfl) dX2_holdsQuestion_5 ?_
  refine g_iconst (pc := 6) (v := (-1)) C dX2_holdsQuestion_6 (by decide) ?_
  refine g_icmp_eq (pc := 7) (tgt := 25) C dX2_holdsQuestion_7 (by decide) (fun h7 => ?_) (fun h7 => ?_)
  · refine g_iconst (pc := 25) (v := 0) C dX2_holdsQuestion_25 (by decide) ?_
    exact g_retIR (pc := 26) C (rfl) (by simp_all [bI]) dX2_holdsQuestion_26
  · refine g_aload_n (pc := 10) C dX2_holdsQuestion_10 0 rfl ?_
    refine g_get (pc := 11) (T := TX2) (N := 3) (v := .ref a) C ib_X2 0 rfl rfl 0 (by decide) mf_X2_9 rfl rfl rfl dX2_holdsQuestion_11 ?_
    refine g_iload_n (pc := 14) C dX2_holdsQuestion_14 1 rfl ?_
    refine g_iald (pc := 15) (v := hd s) C 1 rfl s (rfl) ⟨by omega, by decide⟩ (rfl) dX2_holdsQuestion_15 ?_
    refine g_bipush (pc := 16) (v := 100) C dX2_holdsQuestion_16 (by decide) ?_
    refine g_icmp_ge (pc := 18) (tgt := 25) C dX2_holdsQuestion_18 (by decide) (fun h18 => ?_) (fun h18 => ?_)
    · refine g_iconst (pc := 25) (v := 0) C dX2_holdsQuestion_25 (by decide) ?_
      exact g_retIR (pc := 26) C (rfl) (by simp_all [bI]) dX2_holdsQuestion_26
    · refine g_iconst (pc := 21) (v := 1) C dX2_holdsQuestion_21 (by decide) ?_
      refine g_goto (pc := 22) (tgt := 26) C dX2_holdsQuestion_22 (by decide) ?_
      exact g_retIR (pc := 26) C (rfl) (by simp_all [bI]) dX2_holdsQuestion_26
set_option maxRecDepth 20000 in
set_option maxHeartbeats 4000000 in
theorem c_X2_heldBy (l : Launch) (G : gT) (h : Nat) (a : Nat) (b : Nat) (c : Nat) (hd : Nat → Int32) (sz : Nat → Int32) (el : Nat → Int64) (s : Nat) (hs : s < 8) : RI l yX2_heldBy cX2_heldBy 2 (some .int) 0 G [.ref h, .int (nI s)] (wS G h a b c hd sz el) (hd s) := by
  refine start_R (by decide) (Nat.le_of_ble_eq_true rfl) (fun p9 e9 s9 m9 a9 b9 t9 c9 C => ?_)
  refine g_lv (lv' := [(0, .ref h), (1, .int (nI s))]) rfl ?_
  refine g_aload_n (pc := 0) C dX2_heldBy_0 0 rfl ?_
  refine g_get (pc := 1) (T := TX2) (N := 3) (v := .ref a) C ib_X2 0 rfl rfl 0 (by decide) mf_X2_9 rfl rfl rfl dX2_heldBy_1 ?_
  refine g_iload_n (pc := 4) C dX2_heldBy_4 1 rfl ?_
  refine g_iald (pc := 5) (v := hd s) C 1 rfl s (rfl) ⟨by omega, by decide⟩ (rfl) dX2_heldBy_5 ?_
  exact g_retIR (pc := 6) C (rfl) (by rfl) dX2_heldBy_6
set_option maxRecDepth 20000 in
set_option maxHeartbeats 4000000 in
theorem c_X2_sizeOf (l : Launch) (G : gT) (h : Nat) (a : Nat) (b : Nat) (c : Nat) (hd : Nat → Int32) (sz : Nat → Int32) (el : Nat → Int64) (s : Nat) (hs : s < 8) : RI l yX2_sizeOf cX2_sizeOf 2 (some .int) 0 G [.ref h, .int (nI s)] (wS G h a b c hd sz el) (sz s) := by
  refine start_R (by decide) (Nat.le_of_ble_eq_true rfl) (fun p9 e9 s9 m9 a9 b9 t9 c9 C => ?_)
  refine g_lv (lv' := [(0, .ref h), (1, .int (nI s))]) rfl ?_
  refine g_aload_n (pc := 0) C dX2_sizeOf_0 0 rfl ?_
  refine g_get (pc := 1) (T := TX2) (N := 3) (v := .ref b) C ib_X2 0 rfl rfl 1 (by decide) mf_X2_15 rfl rfl rfl dX2_sizeOf_1 ?_
  refine g_iload_n (pc := 4) C dX2_sizeOf_4 1 rfl ?_
  refine g_iald (pc := 5) (v := sz s) C 2 rfl s (rfl) ⟨by omega, by decide⟩ (rfl) dX2_sizeOf_5 ?_
  exact g_retIR (pc := 6) C (rfl) (by rfl) dX2_sizeOf_6
set_option maxRecDepth 20000 in
set_option maxHeartbeats 4000000 in
theorem c_X2_refusalOfRows (l : Launch) (G : gT) (h : Nat) (a : Nat) (b : Nat) (c : Nat) (hd : Nat → Int32) (sz : Nat → Int32) (el : Nat → Int64) (p : Int32) (q : Int32) : RI l yX2_refusalOfRows cX2_refusalOfRows 3 (some .int) 2 G [.ref h, .int p, .int q] (wS G h a b c hd sz el) (rfRows hd p q) := by
  refine start_R (by decide) (Nat.le_of_ble_eq_true rfl) (fun p9 e9 s9 m9 a9 b9 t9 c9 C => ?_)
  refine g_lv (lv' := [(0, .ref h), (1, .int p), (2, .int q)]) rfl ?_
  refine g_iload_n (pc := 0) C dX2_refusalOfRows_0 1 rfl ?_
  refine g_rdSNI (pc := 1) (val := bI (0 ≤ p ∧ p ≤ 7)) (rest := []) C k_X6_isShelf (c_X6_isShelf l G p) (List.mem_of_getElem? (i := 5) rfl) rfl ⟨Nat.le_of_ble_eq_true rfl, Nat.le_of_ble_eq_true rfl⟩ rfl [] rfl rfl (Nat.le_of_ble_eq_true rfl) ⟨by decide, by decide⟩ dX2_refusalOfRows_1 ?_
  refine g_ifb_eq (pc := 4) (tgt := 14) C dX2_refusalOfRows_4 (by decide) (fun h4 => ?_) (fun h4 => ?_)
  · refine g_iconst (pc := 14) (v := (-1)) C dX2_refusalOfRows_14 (by decide) ?_
    exact g_retIR (pc := 15) C (rfl) (by first | (rw [rfRows, if_pos (Or.inl (by assumption))]; done) | (rw [rfRows, if_pos (Or.inr (by assumption))]; done) | (have e1 : nx (nI p8) = p8 := nx_nI (by omega); have e2 : nx (nI q8) = q8 := nx_nI (by omega); simp_all [rfRows]; done)) dX2_refusalOfRows_15
  · refine g_iload_n (pc := 7) C dX2_refusalOfRows_7 2 rfl ?_
    refine g_rdSNI (pc := 8) (val := bI (0 ≤ q ∧ q ≤ 7)) (rest := []) C k_X6_isShelf (c_X6_isShelf l G q) (List.mem_of_getElem? (i := 5) rfl) rfl ⟨Nat.le_of_ble_eq_true rfl, Nat.le_of_ble_eq_true rfl⟩ rfl [] rfl rfl (Nat.le_of_ble_eq_true rfl) ⟨by decide, by decide⟩ dX2_refusalOfRows_8 ?_
    refine g_ifb_ne (pc := 11) (tgt := 16) C dX2_refusalOfRows_11 (by decide) (fun h11 => ?_) (fun h11 => ?_)
    · obtain ⟨p8, hp8, rfl⟩ := in8_nI h4
      obtain ⟨q8, hq8, rfl⟩ := in8_nI h11
      refine g_aload_n (pc := 16) C dX2_refusalOfRows_16 0 rfl ?_
      refine g_iload_n (pc := 17) C dX2_refusalOfRows_17 1 rfl ?_
      refine g_rdVI (pc := 18) (val := bI (isQn (hd p8))) (rest := []) C k_X2_holdsQuestion (c_X2_holdsQuestion l G h a b c hd sz el p8 (by first | assumption | omega)) ml_X2_30 rfl ⟨Nat.le_of_ble_eq_true rfl, Nat.le_of_ble_eq_true rfl⟩ rfl [0, 1, 2, 3] rfl 0 rfl rfl rfl rfl (Nat.le_of_ble_eq_true rfl) ⟨by decide, by decide⟩ dX2_refusalOfRows_18 ?_
      refine g_ifb_ne (pc := 21) (tgt := 32) C dX2_refusalOfRows_21 (by decide) (fun h21 => ?_) (fun h21 => ?_)
      · refine g_bipush (pc := 32) (v := (-2)) C dX2_refusalOfRows_32 (by decide) ?_
        exact g_retIR (pc := 34) C (rfl) (by first | (rw [rfRows, if_pos (Or.inl (by assumption))]; done) | (rw [rfRows, if_pos (Or.inr (by assumption))]; done) | (have e1 : nx (nI p8) = p8 := nx_nI (by omega); have e2 : nx (nI q8) = q8 := nx_nI (by omega); simp_all [rfRows]; done)) dX2_refusalOfRows_34
      · refine g_aload_n (pc := 24) C dX2_refusalOfRows_24 0 rfl ?_
        refine g_iload_n (pc := 25) C dX2_refusalOfRows_25 2 rfl ?_
        refine g_rdVI (pc := 26) (val := bI (isQn (hd q8))) (rest := []) C k_X2_holdsQuestion (c_X2_holdsQuestion l G h a b c hd sz el q8 (by first | assumption | omega)) ml_X2_30 rfl ⟨Nat.le_of_ble_eq_true rfl, Nat.le_of_ble_eq_true rfl⟩ rfl [0, 1, 2, 3] rfl 0 rfl rfl rfl rfl (Nat.le_of_ble_eq_true rfl) ⟨by decide, by decide⟩ dX2_refusalOfRows_26 ?_
        refine g_ifb_eq (pc := 29) (tgt := 35) C dX2_refusalOfRows_29 (by decide) (fun h29 => ?_) (fun h29 => ?_)
        · refine g_aload_n (pc := 35) C dX2_refusalOfRows_35 0 rfl ?_
          refine g_iload_n (pc := 36) C dX2_refusalOfRows_36 1 rfl ?_
          refine g_rdVI (pc := 37) (val := bI (isRw (hd p8))) (rest := []) C k_X2_holdsRow (c_X2_holdsRow l G h a b c hd sz el p8 (by first | assumption | omega)) ml_X2_33 rfl ⟨Nat.le_of_ble_eq_true rfl, Nat.le_of_ble_eq_true rfl⟩ rfl [0, 1, 2, 3] rfl 0 rfl rfl rfl rfl (Nat.le_of_ble_eq_true rfl) ⟨by decide, by decide⟩ dX2_refusalOfRows_37 ?_
          refine g_ifb_eq (pc := 40) (tgt := 73) C dX2_refusalOfRows_40 (by decide) (fun h40 => ?_) (fun h40 => ?_)
          · refine g_bipush (pc := 73) (v := (-3)) C dX2_refusalOfRows_73 (by decide) ?_
            exact g_retIR (pc := 75) C (rfl) (by first | (rw [rfRows, if_pos (Or.inl (by assumption))]; done) | (rw [rfRows, if_pos (Or.inr (by assumption))]; done) | (have e1 : nx (nI p8) = p8 := nx_nI (by omega); have e2 : nx (nI q8) = q8 := nx_nI (by omega); simp_all [rfRows]; done)) dX2_refusalOfRows_75
          · refine g_aload_n (pc := 43) C dX2_refusalOfRows_43 0 rfl ?_
            refine g_iload_n (pc := 44) C dX2_refusalOfRows_44 2 rfl ?_
            refine g_rdVI (pc := 45) (val := bI (isRw (hd q8))) (rest := []) C k_X2_holdsRow (c_X2_holdsRow l G h a b c hd sz el q8 (by first | assumption | omega)) ml_X2_33 rfl ⟨Nat.le_of_ble_eq_true rfl, Nat.le_of_ble_eq_true rfl⟩ rfl [0, 1, 2, 3] rfl 0 rfl rfl rfl rfl (Nat.le_of_ble_eq_true rfl) ⟨by decide, by decide⟩ dX2_refusalOfRows_45 ?_
            refine g_ifb_eq (pc := 48) (tgt := 73) C dX2_refusalOfRows_48 (by decide) (fun h48 => ?_) (fun h48 => ?_)
            · refine g_bipush (pc := 73) (v := (-3)) C dX2_refusalOfRows_73 (by decide) ?_
              exact g_retIR (pc := 75) C (rfl) (by first | (rw [rfRows, if_pos (Or.inl (by assumption))]; done) | (rw [rfRows, if_pos (Or.inr (by assumption))]; done) | (have e1 : nx (nI p8) = p8 := nx_nI (by omega); have e2 : nx (nI q8) = q8 := nx_nI (by omega); simp_all [rfRows]; done)) dX2_refusalOfRows_75
            · refine g_aload_n (pc := 51) C dX2_refusalOfRows_51 0 rfl ?_
              refine g_get (pc := 52) (T := TX2) (N := 3) (v := .ref a) C ib_X2 0 rfl rfl 0 (by decide) mf_X2_9 rfl rfl rfl dX2_refusalOfRows_52 ?_
              refine g_iload_n (pc := 55) C dX2_refusalOfRows_55 1 rfl ?_
              refine g_iald (pc := 56) (v := hd p8) C 1 rfl p8 (rfl) ⟨by omega, by decide⟩ (rfl) dX2_refusalOfRows_56 ?_
              refine g_aload_n (pc := 57) C dX2_refusalOfRows_57 0 rfl ?_
              refine g_get (pc := 58) (T := TX2) (N := 3) (v := .ref a) C ib_X2 0 rfl rfl 0 (by decide) mf_X2_9 rfl rfl rfl dX2_refusalOfRows_58 ?_
              refine g_iload_n (pc := 61) C dX2_refusalOfRows_61 2 rfl ?_
              refine g_iald (pc := 62) (v := hd q8) C 1 rfl q8 (rfl) ⟨by omega, by decide⟩ (rfl) dX2_refusalOfRows_62 ?_
              refine g_icmp_ne (pc := 63) (tgt := 70) C dX2_refusalOfRows_63 (by decide) (fun h63 => ?_) (fun h63 => ?_)
              · refine g_bipush (pc := 70) (v := (-2)) C dX2_refusalOfRows_70 (by decide) ?_
                exact g_retIR (pc := 72) C (rfl) (by first | (rw [rfRows, if_pos (Or.inl (by assumption))]; done) | (rw [rfRows, if_pos (Or.inr (by assumption))]; done) | (have e1 : nx (nI p8) = p8 := nx_nI (by omega); have e2 : nx (nI q8) = q8 := nx_nI (by omega); simp_all [rfRows]; done)) dX2_refusalOfRows_72
              · refine g_iconst (pc := 66) (v := 0) C dX2_refusalOfRows_66 (by decide) ?_
                refine g_goto (pc := 67) (tgt := 72) C dX2_refusalOfRows_67 (by decide) ?_
                exact g_retIR (pc := 72) C (rfl) (by first | (rw [rfRows, if_pos (Or.inl (by assumption))]; done) | (rw [rfRows, if_pos (Or.inr (by assumption))]; done) | (have e1 : nx (nI p8) = p8 := nx_nI (by omega); have e2 : nx (nI q8) = q8 := nx_nI (by omega); simp_all [rfRows]; done)) dX2_refusalOfRows_72
        · refine g_bipush (pc := 32) (v := (-2)) C dX2_refusalOfRows_32 (by decide) ?_
          exact g_retIR (pc := 34) C (rfl) (by first | (rw [rfRows, if_pos (Or.inl (by assumption))]; done) | (rw [rfRows, if_pos (Or.inr (by assumption))]; done) | (have e1 : nx (nI p8) = p8 := nx_nI (by omega); have e2 : nx (nI q8) = q8 := nx_nI (by omega); simp_all [rfRows]; done)) dX2_refusalOfRows_34
    · refine g_iconst (pc := 14) (v := (-1)) C dX2_refusalOfRows_14 (by decide) ?_
      exact g_retIR (pc := 15) C (rfl) (by first | (rw [rfRows, if_pos (Or.inl (by assumption))]; done) | (rw [rfRows, if_pos (Or.inr (by assumption))]; done) | (have e1 : nx (nI p8) = p8 := nx_nI (by omega); have e2 : nx (nI q8) = q8 := nx_nI (by omega); simp_all [rfRows]; done)) dX2_refusalOfRows_15
set_option maxRecDepth 20000 in
set_option maxHeartbeats 4000000 in
theorem c_X2_refusalOfRow (l : Launch) (G : gT) (h : Nat) (a : Nat) (b : Nat) (c : Nat) (hd : Nat → Int32) (sz : Nat → Int32) (el : Nat → Int64) (x : Int32) : RI l yX2_refusalOfRow cX2_refusalOfRow 2 (some .int) 3 G [.ref h, .int x] (wS G h a b c hd sz el) (rfRows hd x x) := by
  refine start_R (by decide) (Nat.le_of_ble_eq_true rfl) (fun p9 e9 s9 m9 a9 b9 t9 c9 C => ?_)
  refine g_lv (lv' := [(0, .ref h), (1, .int x)]) rfl ?_
  refine g_aload_n (pc := 0) C dX2_refusalOfRow_0 0 rfl ?_
  refine g_iload_n (pc := 1) C dX2_refusalOfRow_1 1 rfl ?_
  refine g_iload_n (pc := 2) C dX2_refusalOfRow_2 1 rfl ?_
  refine g_rdVI (pc := 3) (val := rfRows hd x x) (rest := []) C k_X2_refusalOfRows (c_X2_refusalOfRows l G h a b c hd sz el x x) ml_X2_22 rfl ⟨Nat.le_of_ble_eq_true rfl, Nat.le_of_ble_eq_true rfl⟩ rfl [0, 1, 2, 3] rfl 0 rfl rfl rfl rfl (Nat.le_of_ble_eq_true rfl) ⟨by decide, by decide⟩ dX2_refusalOfRow_3 ?_
  exact g_retIR (pc := 6) C (rfl) (by rfl) dX2_refusalOfRow_6
set_option maxRecDepth 20000 in
set_option maxHeartbeats 4000000 in
theorem c_X2_has (l : Launch) (G : gT) (h : Nat) (a : Nat) (b : Nat) (c : Nat) (hd : Nat → Int32) (sz : Nat → Int32) (el : Nat → Int64) (s : Nat) (f : Int32) (n : Int32) (hs : s < 8) : RI l yX2_has cX2_has 4 (some .boolean) 0 G [.ref h, .int (nI s), .int f, .int n] (wS G h a b c hd sz el) (bI (¬ f < 0 ∧ ¬ sz s - n < f)) := by
  refine start_R (by decide) (Nat.le_of_ble_eq_true rfl) (fun p9 e9 s9 m9 a9 b9 t9 c9 C => ?_)
  refine g_lv (lv' := [(0, .ref h), (1, .int (nI s)), (2, .int f), (3, .int n)]) rfl ?_
  refine g_iload_n (pc := 0) C dX2_has_0 2 rfl ?_
  refine g_if_lt (pc := 1) (tgt := 20) C dX2_has_1 (by decide) (fun h1 => ?_) (fun h1 => ?_)
  · refine g_iconst (pc := 20) (v := 0) C dX2_has_20 (by decide) ?_
    exact g_retIR (pc := 21) C (rfl) (by simp_all [bI]) dX2_has_21
  · refine g_iload_n (pc := 4) C dX2_has_4 2 rfl ?_
    refine g_aload_n (pc := 5) C dX2_has_5 0 rfl ?_
    refine g_get (pc := 6) (T := TX2) (N := 3) (v := .ref b) C ib_X2 0 rfl rfl 1 (by decide) mf_X2_15 rfl rfl rfl dX2_has_6 ?_
    refine g_iload_n (pc := 9) C dX2_has_9 1 rfl ?_
    refine g_iald (pc := 10) (v := sz s) C 2 rfl s (rfl) ⟨by omega, by decide⟩ (rfl) dX2_has_10 ?_
    refine g_iload_n (pc := 11) C dX2_has_11 3 rfl ?_
    refine g_isub (pc := 12) C dX2_has_12 ?_
    refine g_icmp_gt (pc := 13) (tgt := 20) C dX2_has_13 (by decide) (fun h13 => ?_) (fun h13 => ?_)
    · refine g_iconst (pc := 20) (v := 0) C dX2_has_20 (by decide) ?_
      exact g_retIR (pc := 21) C (rfl) (by simp_all [bI]) dX2_has_21
    · refine g_iconst (pc := 16) (v := 1) C dX2_has_16 (by decide) ?_
      refine g_goto (pc := 17) (tgt := 21) C dX2_has_17 (by decide) ?_
      exact g_retIR (pc := 21) C (rfl) (by simp_all [bI]) dX2_has_21
set_option maxRecDepth 20000 in
set_option maxHeartbeats 4000000 in
theorem c_X2_putQuestion (l : Launch) (G : gT) (h : Nat) (a : Nat) (b : Nat) (c : Nat) (hd : Nat → Int32) (sz : Nat → Int32) (el : Nat → Int64) (s : Nat) (x : Int32) (hs : s < 8) : WV l yX2_putQuestion cX2_putQuestion 3 (none) 0 0 0 G [.ref h, .int (nI s), .int x] (wS G h a b c hd sz el) (S := Unit) (fun _ => True) (fun _ => wS G h a b c (upd hd s x) sz el) := by
  intro sz9
  refine start_W (by decide) (Nat.le_of_ble_eq_true rfl) (fun p9 e9 s9 m9 a9 b9 t9 c9 C => ?_)
  refine g_lv (lv' := [(0, .ref h), (1, .int (nI s)), (2, .int x)]) rfl ?_
  refine g_aload_n (pc := 0) C dX2_putQuestion_0 0 rfl ?_
  refine g_get (pc := 1) (T := TX2) (N := 3) (v := .ref a) C ib_X2 0 rfl rfl 0 (by decide) mf_X2_9 rfl rfl rfl dX2_putQuestion_1 ?_
  refine g_iload_n (pc := 4) C dX2_putQuestion_4 1 rfl ?_
  refine g_iload_n (pc := 5) C dX2_putQuestion_5 2 rfl ?_
  refine g_iast (pc := 6) (ws' := [oC h 2 [.ref a, .ref b, .ref c], iC G a 8 (upd hd s x), iC G b 8 sz, jC G c 1280 el]) C rfl 1 rfl s (rfl) ⟨by omega, by decide⟩ dX2_putQuestion_6 rfl ?_
  exact g_retVW (pc := 7) C rfl rfl () trivial (by rfl) dX2_putQuestion_7
set_option maxRecDepth 20000 in
set_option maxHeartbeats 4000000 in
theorem c_X2_putRow (l : Launch) (G : gT) (h : Nat) (a : Nat) (b : Nat) (c : Nat) (hd : Nat → Int32) (sz : Nat → Int32) (el : Nat → Int64) (s : Nat) (x : Int32) (n : Nat) (hs : s < 8) (hn : n ≤ 160) : WV l yX2_putRow cX2_putRow 5 (none) 0 0 0 G [.ref h, .int (nI s), .int x, .int (nI n)] (wS G h a b c hd sz el) (S := Unit) (fun _ => True) (fun _ => wS G h a b c (upd hd s (100 + x)) (upd sz s (nI n)) (clr el s n)) := by
  intro sz9
  refine start_W (by decide) (Nat.le_of_ble_eq_true rfl) (fun p9 e9 s9 m9 a9 b9 t9 c9 C => ?_)
  refine g_lv (lv' := [(0, .ref h), (1, .int (nI s)), (2, .int x), (3, .int (nI n))]) rfl ?_
  refine g_aload_n (pc := 0) C dX2_putRow_0 0 rfl ?_
  refine g_get (pc := 1) (T := TX2) (N := 3) (v := .ref a) C ib_X2 0 rfl rfl 0 (by decide) mf_X2_9 rfl rfl rfl dX2_putRow_1 ?_
  refine g_iload_n (pc := 4) C dX2_putRow_4 1 rfl ?_
  refine g_bipush (pc := 5) (v := 100) C dX2_putRow_5 (by decide) ?_
  refine g_iload_n (pc := 7) C dX2_putRow_7 2 rfl ?_
  refine g_iadd (pc := 8) C dX2_putRow_8 ?_
  refine g_iast (pc := 9) (ws' := [oC h 2 [.ref a, .ref b, .ref c], iC G a 8 (upd hd s (100 + x)), iC G b 8 sz, jC G c 1280 el]) C rfl 1 rfl s (rfl) ⟨by omega, by decide⟩ dX2_putRow_9 rfl ?_
  refine g_aload_n (pc := 10) C dX2_putRow_10 0 rfl ?_
  refine g_get (pc := 11) (T := TX2) (N := 3) (v := .ref b) C ib_X2 0 rfl rfl 1 (by decide) mf_X2_15 rfl rfl rfl dX2_putRow_11 ?_
  refine g_iload_n (pc := 14) C dX2_putRow_14 1 rfl ?_
  refine g_iload_n (pc := 15) C dX2_putRow_15 3 rfl ?_
  refine g_iast (pc := 16) (ws' := [oC h 2 [.ref a, .ref b, .ref c], iC G a 8 (upd hd s (100 + x)), iC G b 8 (upd sz s (nI n)), jC G c 1280 el]) C rfl 2 rfl s (rfl) ⟨by omega, by decide⟩ dX2_putRow_16 rfl ?_
  refine g_iconst (pc := 17) (v := 0) C dX2_putRow_17 (by decide) ?_
  refine g_istore (pc := 18) (lv' := [(4, .int 0), (0, .ref h), (1, .int (nI s)), (2, .int x), (3, .int (nI n))]) C dX2_putRow_18 (by decide) rfl ?_
  have key_20 : ∀ (n20 : Nat) (i : Nat) (hi : i ≤ n), n - i < n20 → GW p9 l e9 (rmh 0 0 0) s9 m9 a9 b9 t9 c9 (MQ b9 (va_Qv (fun (_ : Unit) => True) (BW G (wS G h a b c hd sz el) sz9 (fun _ => wS G h a b c (upd hd s (100 + x)) (upd sz s (nI n)) (clr el s n))) (va_A (wS G h a b c hd sz el) sz9)) a9 s9 0 0 (va_A (wS G h a b c hd sz el) sz9)) G (va_A (wS G h a b c hd sz el) sz9) true 5 0 0 (wS G h a b c (upd hd s (100 + x)) (upd sz s (nI n)) (clr el s i)) [(0, .ref h), (1, .int (nI s)), (2, .int x), (3, .int (nI n)), (4, .int (nI i))] 20 [] := by
    intro n20
    induction n20 with
    | zero => intro i hi hn20; exact absurd hn20 (Nat.not_lt_zero _)
    | succ n20 ih20 =>
      intro i hi hn20
      refine g_iload (pc := 20) C dX2_putRow_20 4 rfl ?_
      refine g_iload_n (pc := 22) C dX2_putRow_22 3 rfl ?_
      refine g_icmpN_ge (pc := 23) (i := i) (j := n) (tgt := 46) C dX2_putRow_23 (by decide) ⟨by omega, by omega⟩ (fun h23 => ?_) (fun h23 => ?_)
      · exact g_retVW (pc := 46) C rfl rfl () trivial (by rw [show i = n from by omega]) dX2_putRow_46
      · refine g_aload_n (pc := 26) C dX2_putRow_26 0 rfl ?_
        refine g_get (pc := 27) (T := TX2) (N := 3) (v := .ref c) C ib_X2 0 rfl rfl 2 (by decide) mf_X2_18 rfl rfl rfl dX2_putRow_27 ?_
        refine g_iload_n (pc := 30) C dX2_putRow_30 1 rfl ?_
        refine g_sipush (pc := 31) (v := 160) C dX2_putRow_31 (by decide) ?_
        refine g_imulN (pc := 34) (i := s) (j := 160) C dX2_putRow_34 ?_
        refine g_iload (pc := 35) C dX2_putRow_35 4 rfl ?_
        refine g_iaddN (pc := 37) (i := s * 160) (j := i) C dX2_putRow_37 ?_
        refine g_lconst (pc := 38) (v := 0) C dX2_putRow_38 rfl ?_
        refine g_last (pc := 39) (ws' := [oC h 2 [.ref a, .ref b, .ref c], iC G a 8 (upd hd s (100 + x)), iC G b 8 (upd sz s (nI n)), jC G c 1280 (vp_updL (clr el s i) ((s * 160) + i) 0)]) C rfl 3 rfl ((s * 160) + i) (rfl) ⟨by omega, by decide⟩ dX2_putRow_39 rfl ?_
        refine g_iinc (pc := 40) (v := nI (i + 1)) (lv' := [(4, .int (nI (i + 1))), (0, .ref h), (1, .int (nI s)), (2, .int x), (3, .int (nI n))]) C dX2_putRow_40 4 rfl (nI_1 i) (by decide) rfl ?_
        refine g_goto (pc := 43) (tgt := 20) C dX2_putRow_43 (by decide) ?_
        refine g_ws (ws' := wS G h a b c (upd hd s (100 + x)) (upd sz s (nI n)) (clr el s (i + 1))) (by rw [clr_s]; rfl) ?_
        refine g_sub (lv' := [(0, .ref h), (1, .int (nI s)), (2, .int x), (3, .int (nI n)), (4, .int (nI (i + 1)))]) [1, 2, 3, 4, 0] rfl ?_
        exact ih20 (i + 1) (by first | assumption | omega) (by omega)
  refine g_ws (ws' := wS G h a b c (upd hd s (100 + x)) (upd sz s (nI n)) (clr el s 0)) (by rw [clr_0]; rfl) ?_
  refine g_sub (lv' := [(0, .ref h), (1, .int (nI s)), (2, .int x), (3, .int (nI n)), (4, .int (nI 0))]) [1, 2, 3, 4, 0] rfl ?_
  exact key_20 _ 0 (by first | assumption | omega) (Nat.lt_succ_self _)
set_option maxRecDepth 20000 in
set_option maxHeartbeats 4000000 in
theorem c_X2_lowestBits (l : Launch) (G : gT) (x : Int32) (v : Int64) : RLg l yX2_lowestBits cX2_lowestBits 3 (some .long) 0 G [.int x, .long v] (([] : va_W)) (lowB x v) := by
  refine start_R (by decide) (Nat.le_of_ble_eq_true rfl) (fun p9 e9 s9 m9 a9 b9 t9 c9 C => ?_)
  refine g_lv (lv' := [(0, .int x), (1, .long v)]) rfl ?_
  refine g_iload_n (pc := 0) C dX2_lowestBits_0 0 rfl ?_
  by_cases h1_0 : x = 0
  · refine g_top (z := 0) h1_0 ?_
    refine g_tsIn (pc := 1) (off := 27) (tgt := 28) C dX2_lowestBits_1 (by decide) (by decide) (by decide) (by decide) ?_
    refine g_lload_n (pc := 28) C dX2_lowestBits_28 1 rfl ?_
    refine g_l2i (pc := 29) (v := v.toInt32) C dX2_lowestBits_29 rfl ?_
    refine g_i2b (pc := 30) (v := v.toInt32.toInt8.toInt32) C dX2_lowestBits_30 rfl ?_
    refine g_i2l (pc := 31) (v := v.toInt32.toInt8.toInt32.toInt64) C dX2_lowestBits_31 rfl ?_
    exact g_retLR (pc := 32) C (by simp [lowB, *]) dX2_lowestBits_32
  by_cases h1_1 : x = 1
  · refine g_top (z := 1) h1_1 ?_
    refine g_tsIn (pc := 1) (off := 32) (tgt := 33) C dX2_lowestBits_1 (by decide) (by decide) (by decide) (by decide) ?_
    refine g_lload_n (pc := 33) C dX2_lowestBits_33 1 rfl ?_
    refine g_l2i (pc := 34) (v := v.toInt32) C dX2_lowestBits_34 rfl ?_
    refine g_i2s (pc := 35) (v := v.toInt32.toInt16.toInt32) C dX2_lowestBits_35 rfl ?_
    refine g_i2l (pc := 36) (v := v.toInt32.toInt16.toInt32.toInt64) C dX2_lowestBits_36 rfl ?_
    exact g_retLR (pc := 37) C (by simp [lowB, *]) dX2_lowestBits_37
  by_cases h1_2 : x = 2
  · refine g_top (z := 2) h1_2 ?_
    refine g_tsIn (pc := 1) (off := 37) (tgt := 38) C dX2_lowestBits_1 (by decide) (by decide) (by decide) (by decide) ?_
    refine g_lload_n (pc := 38) C dX2_lowestBits_38 1 rfl ?_
    refine g_l2i (pc := 39) (v := v.toInt32) C dX2_lowestBits_39 rfl ?_
    refine g_i2l (pc := 40) (v := v.toInt32.toInt64) C dX2_lowestBits_40 rfl ?_
    exact g_retLR (pc := 41) C (by simp [lowB, *]) dX2_lowestBits_41
  refine g_tsOut (pc := 1) (tgt := 42) C dX2_lowestBits_1 (by have a0 := lv_neT h1_0 (a := 0) rfl; have a1 := lv_neT h1_1 (a := 1) rfl; have a2 := lv_neT h1_2 (a := 2) rfl; omega) (by decide) ?_
  refine g_lload_n (pc := 42) C dX2_lowestBits_42 1 rfl ?_
  exact g_retLR (pc := 43) C (by simp [lowB, *]) dX2_lowestBits_43
set_option maxRecDepth 20000 in
set_option maxHeartbeats 4000000 in
theorem c_X2_putElement (l : Launch) (G : gT) (h : Nat) (a : Nat) (b : Nat) (c : Nat) (hd : Nat → Int32) (sz : Nat → Int32) (el : Nat → Int64) (s : Nat) (i : Nat) (v : Int64) (hs : s < 8) (hi : i < 160) : WV l yX2_putElement cX2_putElement 5 (none) 1 0 0 G [.ref h, .int (nI s), .int (nI i), .long v] (wS G h a b c hd sz el) (S := Unit) (fun _ => True) (fun _ => wS G h a b c hd sz (vp_updL el (s * 160 + i) (lowB (hd s - 100) v))) := by
  intro sz9
  refine start_W (by decide) (Nat.le_of_ble_eq_true rfl) (fun p9 e9 s9 m9 a9 b9 t9 c9 C => ?_)
  refine g_lv (lv' := [(0, .ref h), (1, .int (nI s)), (2, .int (nI i)), (3, .long v)]) rfl ?_
  refine g_aload_n (pc := 0) C dX2_putElement_0 0 rfl ?_
  refine g_get (pc := 1) (T := TX2) (N := 3) (v := .ref c) C ib_X2 0 rfl rfl 2 (by decide) mf_X2_18 rfl rfl rfl dX2_putElement_1 ?_
  refine g_iload_n (pc := 4) C dX2_putElement_4 1 rfl ?_
  refine g_sipush (pc := 5) (v := 160) C dX2_putElement_5 (by decide) ?_
  refine g_imulN (pc := 8) (i := s) (j := 160) C dX2_putElement_8 ?_
  refine g_iload_n (pc := 9) C dX2_putElement_9 2 rfl ?_
  refine g_iaddN (pc := 10) (i := s * 160) (j := i) C dX2_putElement_10 ?_
  refine g_aload_n (pc := 11) C dX2_putElement_11 0 rfl ?_
  refine g_get (pc := 12) (T := TX2) (N := 3) (v := .ref a) C ib_X2 0 rfl rfl 0 (by decide) mf_X2_9 rfl rfl rfl dX2_putElement_12 ?_
  refine g_iload_n (pc := 15) C dX2_putElement_15 1 rfl ?_
  refine g_iald (pc := 16) (v := hd s) C 1 rfl s (rfl) ⟨by omega, by decide⟩ (rfl) dX2_putElement_16 ?_
  refine g_bipush (pc := 17) (v := 100) C dX2_putElement_17 (by decide) ?_
  refine g_isub (pc := 19) C dX2_putElement_19 ?_
  refine g_lload_n (pc := 20) C dX2_putElement_20 3 rfl ?_
  refine g_rdSL (pc := 21) (val := lowB ((hd s) - 100) v) (rest := [.int (nI ((s * 160) + i)), .ref c]) C k_X2_lowestBits (c_X2_lowestBits l G ((hd s) - 100) v) ml_X2_36 rfl ⟨Nat.le_of_ble_eq_true rfl, Nat.le_of_ble_eq_true rfl⟩ rfl [] rfl rfl (Nat.le_of_ble_eq_true rfl) ⟨by decide, by decide⟩ dX2_putElement_21 ?_
  refine g_last (pc := 24) (ws' := [oC h 2 [.ref a, .ref b, .ref c], iC G a 8 hd, iC G b 8 sz, jC G c 1280 (vp_updL el ((s * 160) + i) (lowB ((hd s) - 100) v))]) C rfl 3 rfl ((s * 160) + i) (rfl) ⟨by omega, by decide⟩ dX2_putElement_24 rfl ?_
  exact g_retVW (pc := 25) C rfl rfl () trivial (by rfl) dX2_putElement_25
set_option maxRecDepth 20000 in
set_option maxHeartbeats 4000000 in
theorem c_X2_copyElements (l : Launch) (G : gT) (h : Nat) (a : Nat) (b : Nat) (c : Nat) (hd : Nat → Int32) (sz : Nat → Int32) (el : Nat → Int64) (p : Nat) (q : Nat) (i : Nat) (j : Nat) (n : Nat) (hp : p < 8) (hq : q < 8) (hi : i + n ≤ 160) (hj : j + n ≤ 160) : WV l yX2_copyElements cX2_copyElements 6 (none) 1 0 0 G [.ref h, .int (nI p), .int (nI q), .int (nI i), .int (nI j), .int (nI n)] (wS G h a b c hd sz el) (S := Unit) (fun _ => True) (fun _ => wS G h a b c hd sz (va_cpy el el (p * 160 + i) (q * 160 + j) n)) := by
  intro sz9
  refine start_W (by decide) (Nat.le_of_ble_eq_true rfl) (fun p9 e9 s9 m9 a9 b9 t9 c9 C => ?_)
  refine g_lv (lv' := [(0, .ref h), (1, .int (nI p)), (2, .int (nI q)), (3, .int (nI i)), (4, .int (nI j)), (5, .int (nI n))]) rfl ?_
  refine g_aload_n (pc := 0) C dX2_copyElements_0 0 rfl ?_
  refine g_get (pc := 1) (T := TX2) (N := 3) (v := .ref c) C ib_X2 0 rfl rfl 2 (by decide) mf_X2_18 rfl rfl rfl dX2_copyElements_1 ?_
  refine g_iload_n (pc := 4) C dX2_copyElements_4 1 rfl ?_
  refine g_sipush (pc := 5) (v := 160) C dX2_copyElements_5 (by decide) ?_
  refine g_imulN (pc := 8) (i := p) (j := 160) C dX2_copyElements_8 ?_
  refine g_iload_n (pc := 9) C dX2_copyElements_9 3 rfl ?_
  refine g_iaddN (pc := 10) (i := p * 160) (j := i) C dX2_copyElements_10 ?_
  refine g_aload_n (pc := 11) C dX2_copyElements_11 0 rfl ?_
  refine g_get (pc := 12) (T := TX2) (N := 3) (v := .ref c) C ib_X2 0 rfl rfl 2 (by decide) mf_X2_18 rfl rfl rfl dX2_copyElements_12 ?_
  refine g_iload_n (pc := 15) C dX2_copyElements_15 2 rfl ?_
  refine g_sipush (pc := 16) (v := 160) C dX2_copyElements_16 (by decide) ?_
  refine g_imulN (pc := 19) (i := q) (j := 160) C dX2_copyElements_19 ?_
  refine g_iload (pc := 20) C dX2_copyElements_20 4 rfl ?_
  refine g_iaddN (pc := 22) (i := q * 160) (j := j) C dX2_copyElements_22 ?_
  refine g_iload (pc := 23) C dX2_copyElements_23 5 rfl ?_
  refine g_copyl (pc := 25) (ws' := [oC h 2 [.ref a, .ref b, .ref c], iC G a 8 hd, iC G b 8 sz, jC G c 1280 (va_cpy el el ((p * 160) + i) ((q * 160) + j) n)]) C rfl ml_X2_40 rfl 3 3 rfl rfl ((p * 160) + i) ((q * 160) + j) n rfl rfl ⟨by omega, rfl⟩ ⟨by omega, by decide⟩ ⟨by omega, by decide⟩ ⟨Nat.le_of_ble_eq_true rfl, Nat.le_of_ble_eq_true rfl⟩ dX2_copyElements_25 rfl ?_
  exact g_retVW (pc := 28) C rfl rfl () trivial (by rfl) dX2_copyElements_28
set_option maxRecDepth 20000 in
set_option maxHeartbeats 4000000 in
theorem c_X2_longAt (l : Launch) (G : gT) (h : Nat) (a : Nat) (b : Nat) (c : Nat) (hd : Nat → Int32) (sz : Nat → Int32) (el : Nat → Int64) (s : Nat) (i : Nat) (hs : s < 8) (hi : i < 160) : RLg l yX2_longAt cX2_longAt 3 (some .long) 0 G [.ref h, .int (nI s), .int (nI i)] (wS G h a b c hd sz el) (el (s * 160 + i)) := by
  refine start_R (by decide) (Nat.le_of_ble_eq_true rfl) (fun p9 e9 s9 m9 a9 b9 t9 c9 C => ?_)
  refine g_lv (lv' := [(0, .ref h), (1, .int (nI s)), (2, .int (nI i))]) rfl ?_
  refine g_aload_n (pc := 0) C dX2_longAt_0 0 rfl ?_
  refine g_get (pc := 1) (T := TX2) (N := 3) (v := .ref c) C ib_X2 0 rfl rfl 2 (by decide) mf_X2_18 rfl rfl rfl dX2_longAt_1 ?_
  refine g_iload_n (pc := 4) C dX2_longAt_4 1 rfl ?_
  refine g_sipush (pc := 5) (v := 160) C dX2_longAt_5 (by decide) ?_
  refine g_imulN (pc := 8) (i := s) (j := 160) C dX2_longAt_8 ?_
  refine g_iload_n (pc := 9) C dX2_longAt_9 2 rfl ?_
  refine g_iaddN (pc := 10) (i := s * 160) (j := i) C dX2_longAt_10 ?_
  refine g_lald (pc := 11) (v := el ((s * 160) + i)) C 3 rfl ((s * 160) + i) (rfl) ⟨by omega, by decide⟩ (rfl) dX2_longAt_11 ?_
  exact g_retLR (pc := 12) C (by rfl) dX2_longAt_12
set_option maxRecDepth 20000 in
set_option maxHeartbeats 4000000 in
theorem c_X2_intAt (l : Launch) (G : gT) (h : Nat) (a : Nat) (b : Nat) (c : Nat) (hd : Nat → Int32) (sz : Nat → Int32) (el : Nat → Int64) (s : Nat) (i : Nat) (hs : s < 8) (hi : i < 160) : RI l yX2_intAt cX2_intAt 3 (some .int) 0 G [.ref h, .int (nI s), .int (nI i)] (wS G h a b c hd sz el) ((el (s * 160 + i)).toInt32) := by
  refine start_R (by decide) (Nat.le_of_ble_eq_true rfl) (fun p9 e9 s9 m9 a9 b9 t9 c9 C => ?_)
  refine g_lv (lv' := [(0, .ref h), (1, .int (nI s)), (2, .int (nI i))]) rfl ?_
  refine g_aload_n (pc := 0) C dX2_intAt_0 0 rfl ?_
  refine g_get (pc := 1) (T := TX2) (N := 3) (v := .ref c) C ib_X2 0 rfl rfl 2 (by decide) mf_X2_18 rfl rfl rfl dX2_intAt_1 ?_
  refine g_iload_n (pc := 4) C dX2_intAt_4 1 rfl ?_
  refine g_sipush (pc := 5) (v := 160) C dX2_intAt_5 (by decide) ?_
  refine g_imulN (pc := 8) (i := s) (j := 160) C dX2_intAt_8 ?_
  refine g_iload_n (pc := 9) C dX2_intAt_9 2 rfl ?_
  refine g_iaddN (pc := 10) (i := s * 160) (j := i) C dX2_intAt_10 ?_
  refine g_lald (pc := 11) (v := el ((s * 160) + i)) C 3 rfl ((s * 160) + i) (rfl) ⟨by omega, by decide⟩ (rfl) dX2_intAt_11 ?_
  refine g_l2i (pc := 12) (v := (el ((s * 160) + i)).toInt32) C dX2_intAt_12 rfl ?_
  exact g_retIR (pc := 13) C (rfl) (by rfl) dX2_intAt_13
set_option maxRecDepth 20000 in
set_option maxHeartbeats 4000000 in
theorem c_X2_dropQuestionsFrom (l : Launch) (G : gT) (h : Nat) (a : Nat) (b : Nat) (c : Nat) (hd : Nat → Int32) (sz : Nat → Int32) (el : Nat → Int64) (f : Int32) : WV l yX2_dropQuestionsFrom cX2_dropQuestionsFrom 3 (none) 1 0 0 G [.ref h, .int f] (wS G h a b c hd sz el) (S := Unit) (fun _ => True) (fun _ => wS G h a b c (drp hd f 8) sz el) := by
  intro sz9
  refine start_W (by decide) (Nat.le_of_ble_eq_true rfl) (fun p9 e9 s9 m9 a9 b9 t9 c9 C => ?_)
  refine g_lv (lv' := [(0, .ref h), (1, .int f)]) rfl ?_
  refine g_iconst (pc := 0) (v := 0) C dX2_dropQuestionsFrom_0 (by decide) ?_
  refine g_istore_n (pc := 1) (lv' := [(2, .int 0), (0, .ref h), (1, .int f)]) C dX2_dropQuestionsFrom_1 rfl (by decide) rfl ?_
  have key_2 : ∀ (n2 : Nat) (i : Nat) (hi : i ≤ 8), 8 - i < n2 → GW p9 l e9 (rmh 1 0 0) s9 m9 a9 b9 t9 c9 (MQ b9 (va_Qv (fun (_ : Unit) => True) (BW G (wS G h a b c hd sz el) sz9 (fun _ => wS G h a b c (drp hd f 8) sz el)) (va_A (wS G h a b c hd sz el) sz9)) a9 s9 0 0 (va_A (wS G h a b c hd sz el) sz9)) G (va_A (wS G h a b c hd sz el) sz9) true 3 0 0 (wS G h a b c (drp hd f i) sz el) [(0, .ref h), (1, .int f), (2, .int (nI i))] 2 [] := by
    intro n2
    induction n2 with
    | zero => intro i hi hn2; exact absurd hn2 (Nat.not_lt_zero _)
    | succ n2 ih2 =>
      intro i hi hn2
      refine g_iload_n (pc := 2) C dX2_dropQuestionsFrom_2 2 rfl ?_
      refine g_bipush (pc := 3) (v := 8) C dX2_dropQuestionsFrom_3 (by decide) ?_
      refine g_icmpN_ge (pc := 5) (i := i) (j := 8) (tgt := 39) C dX2_dropQuestionsFrom_5 (by decide) ⟨by omega, by omega⟩ (fun h5 => ?_) (fun h5 => ?_)
      · exact g_retVW (pc := 39) C rfl rfl () trivial (by rw [show i = 8 from by omega]) dX2_dropQuestionsFrom_39
      · refine g_aload_n (pc := 8) C dX2_dropQuestionsFrom_8 0 rfl ?_
        refine g_iload_n (pc := 9) C dX2_dropQuestionsFrom_9 2 rfl ?_
        refine g_rdVI (pc := 10) (val := bI (isQn ((drp hd f i) i))) (rest := []) C k_X2_holdsQuestion (c_X2_holdsQuestion l G h a b c (drp hd f i) sz el i (by first | assumption | omega)) ml_X2_30 rfl ⟨Nat.le_of_ble_eq_true rfl, Nat.le_of_ble_eq_true rfl⟩ rfl [0, 1, 2, 3] rfl 0 rfl rfl rfl rfl (Nat.le_of_ble_eq_true rfl) ⟨by decide, by decide⟩ dX2_dropQuestionsFrom_10 ?_
        refine g_ifb_eq (pc := 13) (tgt := 33) C dX2_dropQuestionsFrom_13 (by decide) (fun h13 => ?_) (fun h13 => ?_)
        · refine g_iinc (pc := 33) (v := nI (i + 1)) (lv' := [(2, .int (nI (i + 1))), (0, .ref h), (1, .int f)]) C dX2_dropQuestionsFrom_33 2 rfl (nI_1 i) (by decide) rfl ?_
          refine g_goto (pc := 36) (tgt := 2) C dX2_dropQuestionsFrom_36 (by decide) ?_
          refine g_ws (ws' := wS G h a b c (drp hd f (i + 1)) sz el) (by rw [← drp_f hd f i (by rw [drp_at] at h13; exact fun q => h13 q.1)]) ?_
          refine g_sub (lv' := [(0, .ref h), (1, .int f), (2, .int (nI (i + 1)))]) [1, 2, 0] rfl ?_
          exact ih2 (i + 1) (by first | assumption | omega) (by omega)
        · refine g_aload_n (pc := 16) C dX2_dropQuestionsFrom_16 0 rfl ?_
          refine g_get (pc := 17) (T := TX2) (N := 3) (v := .ref a) C ib_X2 0 rfl rfl 0 (by decide) mf_X2_9 rfl rfl rfl dX2_dropQuestionsFrom_17 ?_
          refine g_iload_n (pc := 20) C dX2_dropQuestionsFrom_20 2 rfl ?_
          refine g_iald (pc := 21) (v := (drp hd f i) i) C 1 rfl i (rfl) ⟨by omega, by decide⟩ (rfl) dX2_dropQuestionsFrom_21 ?_
          refine g_iload_n (pc := 22) C dX2_dropQuestionsFrom_22 1 rfl ?_
          refine g_icmp_lt (pc := 23) (tgt := 33) C dX2_dropQuestionsFrom_23 (by decide) (fun h23 => ?_) (fun h23 => ?_)
          · refine g_iinc (pc := 33) (v := nI (i + 1)) (lv' := [(2, .int (nI (i + 1))), (0, .ref h), (1, .int f)]) C dX2_dropQuestionsFrom_33 2 rfl (nI_1 i) (by decide) rfl ?_
            refine g_goto (pc := 36) (tgt := 2) C dX2_dropQuestionsFrom_36 (by decide) ?_
            refine g_ws (ws' := wS G h a b c (drp hd f (i + 1)) sz el) (by rw [drp_at] at h23; rw [← drp_f hd f i (fun q => q.2 h23)]) ?_
            refine g_sub (lv' := [(0, .ref h), (1, .int f), (2, .int (nI (i + 1)))]) [1, 2, 0] rfl ?_
            exact ih2 (i + 1) (by first | assumption | omega) (by omega)
          · refine g_aload_n (pc := 26) C dX2_dropQuestionsFrom_26 0 rfl ?_
            refine g_get (pc := 27) (T := TX2) (N := 3) (v := .ref a) C ib_X2 0 rfl rfl 0 (by decide) mf_X2_9 rfl rfl rfl dX2_dropQuestionsFrom_27 ?_
            refine g_iload_n (pc := 30) C dX2_dropQuestionsFrom_30 2 rfl ?_
            refine g_iconst (pc := 31) (v := (-1)) C dX2_dropQuestionsFrom_31 (by decide) ?_
            refine g_iast (pc := 32) (ws' := [oC h 2 [.ref a, .ref b, .ref c], iC G a 8 (upd (drp hd f i) i (-1)), iC G b 8 sz, jC G c 1280 el]) C rfl 1 rfl i (rfl) ⟨by omega, by decide⟩ dX2_dropQuestionsFrom_32 rfl ?_
            refine g_iinc (pc := 33) (v := nI (i + 1)) (lv' := [(2, .int (nI (i + 1))), (0, .ref h), (1, .int f)]) C dX2_dropQuestionsFrom_33 2 rfl (nI_1 i) (by decide) rfl ?_
            refine g_goto (pc := 36) (tgt := 2) C dX2_dropQuestionsFrom_36 (by decide) ?_
            refine g_ws (ws' := wS G h a b c (drp hd f (i + 1)) sz el) (by rw [drp_at] at h13 h23; rw [← drp_t hd f i ⟨h13, h23⟩]; rfl) ?_
            refine g_sub (lv' := [(0, .ref h), (1, .int f), (2, .int (nI (i + 1)))]) [1, 2, 0] rfl ?_
            exact ih2 (i + 1) (by first | assumption | omega) (by omega)
  refine g_ws (ws' := wS G h a b c (drp hd f 0) sz el) (by rw [drp_0]) ?_
  refine g_sub (lv' := [(0, .ref h), (1, .int f), (2, .int (nI 0))]) [1, 2, 0] rfl ?_
  exact key_2 _ 0 (by first | assumption | omega) (Nat.lt_succ_self _)
set_option maxRecDepth 20000 in
set_option maxHeartbeats 4000000 in
theorem c_X2_copyInts (l : Launch) (G : gT) (h : Nat) (a : Nat) (b : Nat) (c : Nat) (hd : Nat → Int32) (sz : Nat → Int32) (el : Nat → Int64) (s : Nat) (al : Nat) (lt : Nat → Int32) (hs : s < 8) (hS : SI hd sz) : WV l yX2_copyInts cX2_copyInts 4 (none) 1 0 0 G [.ref h, .int (nI s), .ref al] (wS G h a b c hd sz el ++ ([iC G al 160 lt])) (S := Unit) (fun _ => True) (fun _ => wS G h a b c hd sz el ++ ([iC G al 160 (txt el s lt (zN sz s))])) := by
  have hz := hS.z hs
  intro sz9
  refine start_W (by decide) (Nat.le_of_ble_eq_true rfl) (fun p9 e9 s9 m9 a9 b9 t9 c9 C => ?_)
  refine g_lv (lv' := [(0, .ref h), (1, .int (nI s)), (2, .ref al)]) rfl ?_
  refine g_iconst (pc := 0) (v := 0) C dX2_copyInts_0 (by decide) ?_
  refine g_istore_n (pc := 1) (lv' := [(3, .int 0), (0, .ref h), (1, .int (nI s)), (2, .ref al)]) C dX2_copyInts_1 rfl (by decide) rfl ?_
  have key_2 : ∀ (n2 : Nat) (i : Nat) (hi : i ≤ zN sz s), zN sz s - i < n2 → GW p9 l e9 (rmh 1 0 0) s9 m9 a9 b9 t9 c9 (MQ b9 (va_Qv (fun (_ : Unit) => True) (BW G (wS G h a b c hd sz el ++ ([iC G al 160 lt])) sz9 (fun _ => wS G h a b c hd sz el ++ ([iC G al 160 (txt el s lt (zN sz s))]))) (va_A (wS G h a b c hd sz el ++ ([iC G al 160 lt])) sz9)) a9 s9 0 0 (va_A (wS G h a b c hd sz el ++ ([iC G al 160 lt])) sz9)) G (va_A (wS G h a b c hd sz el ++ ([iC G al 160 lt])) sz9) true 4 0 0 (wS G h a b c hd sz el ++ ([iC G al 160 (txt el s lt i)])) [(0, .ref h), (1, .int (nI s)), (2, .ref al), (3, .int (nI i))] 2 [] := by
    intro n2
    induction n2 with
    | zero => intro i hi hn2; exact absurd hn2 (Nat.not_lt_zero _)
    | succ n2 ih2 =>
      intro i hi hn2
      refine g_iload_n (pc := 2) C dX2_copyInts_2 3 rfl ?_
      refine g_aload_n (pc := 3) C dX2_copyInts_3 0 rfl ?_
      refine g_get (pc := 4) (T := TX2) (N := 3) (v := .ref b) C ib_X2 0 rfl rfl 1 (by decide) mf_X2_15 rfl rfl rfl dX2_copyInts_4 ?_
      refine g_iload_n (pc := 7) C dX2_copyInts_7 1 rfl ?_
      refine g_iald (pc := 8) (v := sz s) C 2 rfl s (rfl) ⟨by omega, by decide⟩ (rfl) dX2_copyInts_8 ?_
      refine g_top (z := nI (zN sz s)) (hz.1) ?_
      refine g_icmpN_ge (pc := 9) (i := i) (j := zN sz s) (tgt := 33) C dX2_copyInts_9 (by decide) ⟨by omega, by omega⟩ (fun h9 => ?_) (fun h9 => ?_)
      · exact g_retVW (pc := 33) C rfl rfl () trivial (by rw [show i = zN sz s from by omega]) dX2_copyInts_33
      · refine g_iload_n (pc := 12) C dX2_copyInts_12 3 rfl ?_
        refine g_aload_n (pc := 13) C dX2_copyInts_13 2 rfl ?_
        refine g_alen (pc := 14) C 4 rfl dX2_copyInts_14 ?_
        refine g_icmpN_ge (pc := 15) (i := i) (j := 160) (tgt := 33) C dX2_copyInts_15 (by decide) ⟨by omega, by omega⟩ (fun h15 => ?_) (fun h15 => ?_)
        · exact g_retVW (pc := 33) C rfl rfl () trivial (by rw [show i = zN sz s from by omega]) dX2_copyInts_33
        · refine g_aload_n (pc := 18) C dX2_copyInts_18 2 rfl ?_
          refine g_iload_n (pc := 19) C dX2_copyInts_19 3 rfl ?_
          refine g_aload_n (pc := 20) C dX2_copyInts_20 0 rfl ?_
          refine g_iload_n (pc := 21) C dX2_copyInts_21 1 rfl ?_
          refine g_iload_n (pc := 22) C dX2_copyInts_22 3 rfl ?_
          refine g_rdVI (pc := 23) (val := (el (s * 160 + i)).toInt32) (rest := [.int (nI i), .ref al]) C k_X2_intAt (c_X2_intAt l G h a b c hd sz el s i (by first | assumption | omega) (by first | assumption | omega)) ml_X2_46 rfl ⟨Nat.le_of_ble_eq_true rfl, Nat.le_of_ble_eq_true rfl⟩ rfl [0, 1, 2, 3] rfl 0 rfl rfl rfl rfl (Nat.le_of_ble_eq_true rfl) ⟨by decide, by decide⟩ dX2_copyInts_23 ?_
          refine g_iast (pc := 26) (ws' := wS G h a b c hd sz el ++ ([iC G al 160 (upd (txt el s lt i) i ((el (s * 160 + i)).toInt32))])) C rfl 4 rfl i (rfl) ⟨by omega, by decide⟩ dX2_copyInts_26 rfl ?_
          refine g_iinc (pc := 27) (v := nI (i + 1)) (lv' := [(3, .int (nI (i + 1))), (0, .ref h), (1, .int (nI s)), (2, .ref al)]) C dX2_copyInts_27 3 rfl (nI_1 i) (by decide) rfl ?_
          refine g_goto (pc := 30) (tgt := 2) C dX2_copyInts_30 (by decide) ?_
          refine g_ws (ws' := wS G h a b c hd sz el ++ ([iC G al 160 (txt el s lt (i + 1))])) (by rw [txt_s]) ?_
          refine g_sub (lv' := [(0, .ref h), (1, .int (nI s)), (2, .ref al), (3, .int (nI (i + 1)))]) [1, 2, 3, 0] rfl ?_
          exact ih2 (i + 1) (by first | assumption | omega) (by omega)
  refine g_ws (ws' := wS G h a b c hd sz el ++ ([iC G al 160 (txt el s lt 0)])) (by rw [txt_0]) ?_
  refine g_sub (lv' := [(0, .ref h), (1, .int (nI s)), (2, .ref al), (3, .int (nI 0))]) [1, 2, 3, 0] rfl ?_
  exact key_2 _ 0 (by first | assumption | omega) (Nat.lt_succ_self _)
set_option maxRecDepth 20000 in
set_option maxHeartbeats 4000000 in
theorem c_X1_leansWithFirst (l : Launch) (G : gT) (ho : Nat) (ao : Nat) (bo : Nat) (sh : Nat → Int32) (lr : Nat → Int32) (h : Nat) (a : Nat) (b : Nat) (c : Nat) (τ : tT) (set : Int32) (r : Nat) (q : Nat) (hT : TI τ) (hq : q < 8) (hr : r < 256) : RI l yX1_leansWithFirst cX1_leansWithFirst 6 (some .int) 2 G [.ref ho, .ref h, .int set, .int (nI r), .int (nI q)] (wO G ho ao bo sh lr ++ (wT G h a b c τ)) (mAbs (shB τ q (sh q) (set &&& (nI r ^^^ (-1))) - sh q) + lr (clrB r q)) := by
  refine start_R (by decide) (Nat.le_of_ble_eq_true rfl) (fun p9 e9 s9 m9 a9 b9 t9 c9 C => ?_)
  refine g_lv (lv' := [(0, .ref ho), (1, .ref h), (2, .int set), (3, .int (nI r)), (4, .int (nI q))]) rfl ?_
  refine g_aload_n (pc := 0) C dX1_leansWithFirst_0 1 rfl ?_
  refine g_iload (pc := 1) C dX1_leansWithFirst_1 4 rfl ?_
  refine g_aload_n (pc := 3) C dX1_leansWithFirst_3 0 rfl ?_
  refine g_get (pc := 4) (T := TX1) (N := 2) (v := .ref ao) C ib_X1 0 rfl rfl 0 (by decide) mf_X1_9 rfl rfl rfl dX1_leansWithFirst_4 ?_
  refine g_iload (pc := 7) C dX1_leansWithFirst_7 4 rfl ?_
  refine g_iald (pc := 9) (v := sh q) C 1 rfl q (rfl) ⟨by omega, by decide⟩ (rfl) dX1_leansWithFirst_9 ?_
  refine g_iload_n (pc := 10) C dX1_leansWithFirst_10 2 rfl ?_
  refine g_iload_n (pc := 11) C dX1_leansWithFirst_11 3 rfl ?_
  refine g_iconst (pc := 12) (v := (-1)) C dX1_leansWithFirst_12 (by decide) ?_
  refine g_ixor (pc := 13) C dX1_leansWithFirst_13 ?_
  refine g_iand (pc := 14) C dX1_leansWithFirst_14 ?_
  refine g_rdVI (pc := 15) (val := shB τ q (sh q) (set &&& ((nI r) ^^^ (-1)))) (rest := []) C k_X3_shareBehind (c_X3_shareBehind l G h a b c τ q (sh q) (set &&& ((nI r) ^^^ (-1))) (by first | assumption | omega) (by first | assumption | omega)) ml_X1_49 rfl ⟨Nat.le_of_ble_eq_true rfl, Nat.le_of_ble_eq_true rfl⟩ rfl [3, 4, 5, 6] rfl 3 rfl rfl rfl rfl (Nat.le_of_ble_eq_true rfl) ⟨by decide, by decide⟩ dX1_leansWithFirst_15 ?_
  refine g_aload_n (pc := 18) C dX1_leansWithFirst_18 0 rfl ?_
  refine g_get (pc := 19) (T := TX1) (N := 2) (v := .ref ao) C ib_X1 0 rfl rfl 0 (by decide) mf_X1_9 rfl rfl rfl dX1_leansWithFirst_19 ?_
  refine g_iload (pc := 22) C dX1_leansWithFirst_22 4 rfl ?_
  refine g_iald (pc := 24) (v := sh q) C 1 rfl q (rfl) ⟨by omega, by decide⟩ (rfl) dX1_leansWithFirst_24 ?_
  refine g_isub (pc := 25) C dX1_leansWithFirst_25 ?_
  refine g_istore (pc := 26) (lv' := [(5, .int ((shB τ q (sh q) (set &&& ((nI r) ^^^ (-1)))) - (sh q))), (0, .ref ho), (1, .ref h), (2, .int set), (3, .int (nI r)), (4, .int (nI q))]) C dX1_leansWithFirst_26 (by decide) rfl ?_
  refine g_iload (pc := 28) C dX1_leansWithFirst_28 0 rfl ?_
  refine g_mabs (pc := 30) (v := mAbs ((shB τ q (sh q) (set &&& ((nI r) ^^^ (-1)))) - (sh q))) C ml_X1_53 rfl ⟨Nat.le_of_ble_eq_true rfl, Nat.le_of_ble_eq_true rfl⟩ ⟨by decide, by decide⟩ rfl dX1_leansWithFirst_30 ?_
  refine g_aload_n (pc := 33) C dX1_leansWithFirst_33 1 rfl ?_
  refine g_get (pc := 34) (T := TX1) (N := 2) (v := .ref bo) C ib_X1 0 rfl rfl 1 (by decide) mf_X1_15 rfl rfl rfl dX1_leansWithFirst_34 ?_
  refine g_iload_n (pc := 37) C dX1_leansWithFirst_37 4 rfl ?_
  refine g_iconst (pc := 38) (v := 1) C dX1_leansWithFirst_38 (by decide) ?_
  refine g_iload (pc := 39) C dX1_leansWithFirst_39 5 rfl ?_
  refine g_ishl (pc := 41) C dX1_leansWithFirst_41 ?_
  refine g_iconst (pc := 42) (v := (-1)) C dX1_leansWithFirst_42 (by decide) ?_
  refine g_ixor (pc := 43) C dX1_leansWithFirst_43 ?_
  refine g_iand (pc := 44) C dX1_leansWithFirst_44 ?_
  refine g_iald (pc := 45) (v := lr (clrB r q)) C 2 rfl (clrB r q) ((clrB_i r hr q hq).1) ⟨by exact (clrB_i r hr q hq).2, by decide⟩ (rfl) dX1_leansWithFirst_45 ?_
  refine g_iadd (pc := 46) C dX1_leansWithFirst_46 ?_
  exact g_retIR (pc := 47) C (rfl) (by rfl) dX1_leansWithFirst_47
