set_option maxRecDepth 20000 in
set_option maxHeartbeats 4000000 in
theorem c_X5_finest (l : Launch) (G : gT) (h : Nat) (a : Nat) (b : Nat) (c : Nat) (τ : tT) (q : Nat) (co : Int32) (hT : TI τ) (hq : q < 8) (hc : 0 ≤ co) : RI l yX5_finest cX5_finest 7 (some .int) 5 G [.ref h, .int (nI q), .int co] (wT G h a b c τ) (nI (fiN τ q co 9)) := by
  refine start_R (by decide) (Nat.le_of_ble_eq_true rfl) (fun p9 e9 s9 m9 a9 b9 t9 c9 C => ?_)
  refine g_lv (lv' := [(0, .ref h), (1, .int (nI q)), (2, .int co)]) rfl ?_
  refine g_ldc (pc := 0) (v := 1000000) C mk_X5_67 dX5_finest_0 ?_
  refine g_istore_n (pc := 2) (lv' := [(3, .int 1000000), (0, .ref h), (1, .int (nI q)), (2, .int co)]) C dX5_finest_2 rfl (by decide) rfl ?_
  refine g_iconst (pc := 3) (v := 0) C dX5_finest_3 (by decide) ?_
  refine g_istore (pc := 4) (lv' := [(4, .int 0), (3, .int 1000000), (0, .ref h), (1, .int (nI q)), (2, .int co)]) C dX5_finest_4 (by decide) rfl ?_
  refine g_iconst (pc := 6) (v := 0) C dX5_finest_6 (by decide) ?_
  refine g_istore (pc := 7) (lv' := [(5, .int 0), (4, .int 0), (3, .int 1000000), (0, .ref h), (1, .int (nI q)), (2, .int co)]) C dX5_finest_7 (by decide) rfl ?_
  have key_9 : ∀ (n9 : Nat) (i : Nat) (hi : i ≤ 10), 10 - i < n9 → GW p9 l e9 (rmh 5 0 0) s9 m9 a9 b9 t9 c9 (MQ b9 (QcI (nI (fiN τ q co 9))) a9 s9 0 0 NoA) G NoA false 7 0 0 (wT G h a b c τ) [(0, .ref h), (1, .int (nI q)), (2, .int co), (3, .int (fiL τ q co i)), (4, .int (nI (fiB τ q co i))), (5, .int (nI i))] 9 [] := by
    intro n9
    induction n9 with
    | zero => intro i hi hn9; exact absurd hn9 (Nat.not_lt_zero _)
    | succ n9 ih9 =>
      intro i hi hn9
      refine g_iload (pc := 9) C dX5_finest_9 5 rfl ?_
      refine g_bipush (pc := 11) (v := 9) C dX5_finest_11 (by decide) ?_
      refine g_icmpN_gt (pc := 13) (i := i) (j := 9) (tgt := 57) C dX5_finest_13 (by decide) ⟨by omega, by omega⟩ (fun h13 => ?_) (fun h13 => ?_)
      · refine g_iload (pc := 57) C dX5_finest_57 4 rfl ?_
        exact g_retIR (pc := 59) C (rfl) (by rw [show i = 10 from by omega]; rfl) dX5_finest_59
      · refine g_aload_n (pc := 16) C dX5_finest_16 0 rfl ?_
        refine g_iload_n (pc := 17) C dX5_finest_17 1 rfl ?_
        refine g_iload (pc := 18) C dX5_finest_18 5 rfl ?_
        refine g_rdSI (pc := 20) (val := off τ q i) (rest := []) C k_X5_offBy (c_X5_offBy l G h a b c τ q i (by first | assumption | omega) (by first | assumption | omega) (by first | assumption | omega)) ml_X5_59 rfl ⟨Nat.le_of_ble_eq_true rfl, Nat.le_of_ble_eq_true rfl⟩ rfl [0, 1, 2, 3] rfl rfl (Nat.le_of_ble_eq_true rfl) ⟨by decide, by decide⟩ dX5_finest_20 ?_
        refine g_mabs (pc := 23) (v := mAbs (off τ q i)) C ml_X5_62 rfl ⟨Nat.le_of_ble_eq_true rfl, Nat.le_of_ble_eq_true rfl⟩ ⟨by decide, by decide⟩ rfl dX5_finest_23 ?_
        refine g_istore (pc := 26) (lv' := [(6, .int (mAbs (off τ q i))), (0, .ref h), (1, .int (nI q)), (2, .int co), (3, .int (fiL τ q co i)), (4, .int (nI (fiB τ q co i))), (5, .int (nI i))]) C dX5_finest_26 (by decide) rfl ?_
        refine g_aload_n (pc := 28) C dX5_finest_28 1 rfl ?_
        refine g_iload (pc := 29) C dX5_finest_29 6 rfl ?_
        refine g_rdSI (pc := 31) (val := cost τ i) (rest := []) C k_X5_costOf (c_X5_costOf l G h a b c τ i (by first | assumption | omega) (by first | assumption | omega)) ml_X5_68 rfl ⟨Nat.le_of_ble_eq_true rfl, Nat.le_of_ble_eq_true rfl⟩ rfl [0, 1, 2, 3] rfl rfl (Nat.le_of_ble_eq_true rfl) ⟨by decide, by decide⟩ dX5_finest_31 ?_
        refine g_iload_n (pc := 34) C dX5_finest_34 3 rfl ?_
        refine g_icmp_gt (pc := 35) (tgt := 51) C dX5_finest_35 (by decide) (fun h35 => ?_) (fun h35 => ?_)
        · refine g_iinc (pc := 51) (v := nI (i + 1)) (lv' := [(5, .int (nI (i + 1))), (6, .int (mAbs (off τ q i))), (0, .ref h), (1, .int (nI q)), (2, .int co), (3, .int (fiL τ q co i)), (4, .int (nI (fiB τ q co i)))]) C dX5_finest_51 6 rfl (nI_1 i) (by decide) rfl ?_
          refine g_goto (pc := 54) (tgt := 9) C dX5_finest_54 (by decide) ?_
          refine g_sub (lv' := [(0, .ref h), (1, .int (nI q)), (2, .int co), (3, .int (fiL τ q co i)), (4, .int (nI (fiB τ q co i))), (5, .int (nI (i + 1)))]) [2, 3, 4, 5, 6, 0] rfl ?_
          refine g_lv (lv' := [(0, .ref h), (1, .int (nI q)), (2, .int co), (3, .int (fiL τ q co (i + 1))), (4, .int (nI (fiB τ q co (i + 1)))), (5, .int (nI (i + 1)))]) (by have e9 := fi_skip hT hq hc (i := i) (fun z => Int32.not_le.mpr h35 z.1); rw [e9.1, e9.2]) ?_
          exact ih9 (i + 1) (by first | assumption | omega) (by omega)
        · refine g_iload (pc := 38) C dX5_finest_38 0 rfl ?_
          refine g_iload_n (pc := 40) C dX5_finest_40 4 rfl ?_
          refine g_icmp_ge (pc := 41) (tgt := 51) C dX5_finest_41 (by decide) (fun h41 => ?_) (fun h41 => ?_)
          · refine g_iinc (pc := 51) (v := nI (i + 1)) (lv' := [(5, .int (nI (i + 1))), (6, .int (mAbs (off τ q i))), (0, .ref h), (1, .int (nI q)), (2, .int co), (3, .int (fiL τ q co i)), (4, .int (nI (fiB τ q co i)))]) C dX5_finest_51 6 rfl (nI_1 i) (by decide) rfl ?_
            refine g_goto (pc := 54) (tgt := 9) C dX5_finest_54 (by decide) ?_
            refine g_sub (lv' := [(0, .ref h), (1, .int (nI q)), (2, .int co), (3, .int (fiL τ q co i)), (4, .int (nI (fiB τ q co i))), (5, .int (nI (i + 1)))]) [2, 3, 4, 5, 6, 0] rfl ?_
            refine g_lv (lv' := [(0, .ref h), (1, .int (nI q)), (2, .int co), (3, .int (fiL τ q co (i + 1))), (4, .int (nI (fiB τ q co (i + 1)))), (5, .int (nI (i + 1)))]) (by have e9 := fi_skip hT hq hc (i := i) (fun z => Int32.not_lt.mpr h41 z.2); rw [e9.1, e9.2]) ?_
            exact ih9 (i + 1) (by first | assumption | omega) (by omega)
          · refine g_iload (pc := 44) C dX5_finest_44 0 rfl ?_
            refine g_istore_n (pc := 46) (lv' := [(3, .int (mAbs (off τ q i))), (6, .int (mAbs (off τ q i))), (0, .ref h), (1, .int (nI q)), (2, .int co), (4, .int (nI (fiB τ q co i))), (5, .int (nI i))]) C dX5_finest_46 rfl (by decide) rfl ?_
            refine g_iload (pc := 47) C dX5_finest_47 6 rfl ?_
            refine g_istore (pc := 49) (lv' := [(4, .int (nI i)), (3, .int (mAbs (off τ q i))), (6, .int (mAbs (off τ q i))), (0, .ref h), (1, .int (nI q)), (2, .int co), (5, .int (nI i))]) C dX5_finest_49 (by decide) rfl ?_
            refine g_iinc (pc := 51) (v := nI (i + 1)) (lv' := [(5, .int (nI (i + 1))), (4, .int (nI i)), (3, .int (mAbs (off τ q i))), (6, .int (mAbs (off τ q i))), (0, .ref h), (1, .int (nI q)), (2, .int co)]) C dX5_finest_51 6 rfl (nI_1 i) (by decide) rfl ?_
            refine g_goto (pc := 54) (tgt := 9) C dX5_finest_54 (by decide) ?_
            refine g_sub (lv' := [(0, .ref h), (1, .int (nI q)), (2, .int co), (3, .int (mAbs (off τ q i))), (4, .int (nI i)), (5, .int (nI (i + 1)))]) [4, 5, 6, 2, 1, 0] rfl ?_
            refine g_lv (lv' := [(0, .ref h), (1, .int (nI q)), (2, .int co), (3, .int (fiL τ q co (i + 1))), (4, .int (nI (fiB τ q co (i + 1)))), (5, .int (nI (i + 1)))]) (by have e9 := fi_take hT hq (Int32.not_lt.mp h35) (Int32.not_le.mp h41); rw [e9.1, e9.2]) ?_
            exact ih9 (i + 1) (by first | assumption | omega) (by omega)
  refine g_sub (lv' := [(0, .ref h), (1, .int (nI q)), (2, .int co), (3, .int (fiL τ q co 0)), (4, .int (nI (fiB τ q co 0))), (5, .int (nI 0))]) [3, 4, 5, 2, 1, 0] rfl ?_
  exact key_9 _ 0 (by first | assumption | omega) (Nat.lt_succ_self _)
set_option maxRecDepth 20000 in
set_option maxHeartbeats 4000000 in
theorem c_X6_fine (l : Launch) (G : gT) (x : Nat) (t : Nat) (im : Nat) (it : Int32) (o : Nat) (sv : Nat) (tx : Nat) (ac : Nat) (rf : Nat) (lf : Int32) (ta : Nat) (tb : Nat) (tc : Nat) (τ : tT) (q : Int32) (co : Int32) (rr : Nat → Int32) (hT : TI τ) : WI l yX6_fine cX6_fine 3 (some .int) 10 0 0 G [.ref x, .int q, .int co] ([wX x t im it o sv tx ac rf lf] ++ (wT G t ta tb tc τ ++ ([iC G rf 8 rr]))) (S := Unit) (fun r _ => r = if rcFi τ q co = 0 then nI (fiN τ (nx q) co 9) else (rcFi τ q co)) (fun _ => [wX x t im it o sv tx ac rf lf] ++ (wT G t ta tb tc τ ++ ([iC G rf 8 (rfI rr (rcFi τ q co))]))) := by
  have hg10 := hT.g10
  have hq8 := hT.q8
  intro sz9
  refine start_W (by decide) (Nat.le_of_ble_eq_true rfl) (fun p9 e9 s9 m9 a9 b9 t9 c9 C => ?_)
  refine g_lv (lv' := [(0, .ref x), (1, .int q), (2, .int co)]) rfl ?_
  refine g_aload_n (pc := 0) C dX6_fine_0 0 rfl ?_
  refine g_get (pc := 1) (T := TX6) (N := 9) (v := .ref t) C ib_X6 0 rfl rfl 0 (by decide) mf_X6_10 rfl rfl rfl dX6_fine_1 ?_
  refine g_iload_n (pc := 4) C dX6_fine_4 1 rfl ?_
  refine g_rdVI (pc := 5) (val := bI (0 ≤ q ∧ q ≤ nI (tQ τ) - 1)) (rest := []) C k_X3_hasQuestion (c_X3_hasQuestion l G t ta tb tc τ q (by first | assumption | omega)) ml_X6_93 rfl ⟨Nat.le_of_ble_eq_true rfl, Nat.le_of_ble_eq_true rfl⟩ rfl [1, 2, 3, 4] rfl 1 rfl rfl rfl rfl (Nat.le_of_ble_eq_true rfl) ⟨by decide, by decide⟩ dX6_fine_5 ?_
  refine g_ifb_ne (pc := 8) (tgt := 17) C dX6_fine_8 (by decide) (fun h8 => ?_) (fun h8 => ?_)
  · obtain ⟨q8, hq8, rfl⟩ := isQ_nI hT h8
    have eq8 : nx (nI q8) = q8 := nx_nI (by omega)
    refine g_iload_n (pc := 17) C dX6_fine_17 2 rfl ?_
    refine g_if_ge (pc := 18) (tgt := 28) C dX6_fine_18 (by decide) (fun h18 => ?_) (fun h18 => ?_)
    · refine g_aload_n (pc := 28) C dX6_fine_28 0 rfl ?_
      refine g_get (pc := 29) (T := TX6) (N := 9) (v := .ref t) C ib_X6 0 rfl rfl 0 (by decide) mf_X6_10 rfl rfl rfl dX6_fine_29 ?_
      refine g_iload_n (pc := 32) C dX6_fine_32 1 rfl ?_
      refine g_iload_n (pc := 33) C dX6_fine_33 2 rfl ?_
      refine g_rdSI (pc := 34) (val := nI (fiN τ q8 co 9)) (rest := []) C k_X5_finest (c_X5_finest l G t ta tb tc τ q8 co (by first | assumption | omega) (by first | assumption | omega) h18) ml_X6_256 rfl ⟨Nat.le_of_ble_eq_true rfl, Nat.le_of_ble_eq_true rfl⟩ rfl [1, 2, 3, 4] rfl rfl (Nat.le_of_ble_eq_true rfl) ⟨by decide, by decide⟩ dX6_fine_34 ?_
      exact g_retIW (pc := 37) C rfl rfl () (rfl) (by have e9 : rcFi τ (nI q8) co = 0 := (by first | (simp [rcFi, *]; done) | (grind [rcFi])); rw [if_pos e9] <;> (rw [eq8])) (by have e9 : rcFi τ (nI q8) co = 0 := (by first | (simp [rcFi, *]; done) | (grind [rcFi])); rw [e9, rfI_0] <;> (rfl)) dX6_fine_37
    · refine g_aload_n (pc := 21) C dX6_fine_21 0 rfl ?_
      refine g_bipush (pc := 22) (v := (-6)) C dX6_fine_22 (by decide) ?_
      refine g_wrVI (pc := 24) (rest := []) (wr := [oC t 3 [.ref ta, .ref tb, .ref tc, .int (τ 8 0), .int (τ 8 1), .int (τ 8 2), .int (τ 8 3), .int (τ 8 4), .int (τ 8 5), .int (τ 8 6)], iC G ta 16 (fq τ), iC G tb 64 (τ 2), iC G tc 50 (fg τ)]) C (fun _ => [wX x t im it o sv tx ac rf lf] ++ (wT G t ta tb tc τ ++ ([iC G rf 8 (rfI rr (-6))]))) rfl k_X6_refuse (c_X6_refuse l G x t im it o sv tx ac rf lf rr (-6)) ml_X6_59 rfl ⟨Nat.le_of_ble_eq_true rfl, Nat.le_of_ble_eq_true rfl⟩ rfl [0, 5] [1, 2, 3, 4] [4, 0, 1, 2, 3, 5] rfl (by decide) rfl (by decide) (by decide) (by decide) (fun _ => rfl) 0 rfl rfl rfl rfl (Nat.le_of_ble_eq_true rfl) ⟨by decide, by decide⟩ dX6_fine_24 (fun r24 _ e24 => ?_)
      subst e24
      exact g_retIW (pc := 27) C rfl rfl () (rfl) (by have e9 : rcFi τ (nI q8) co = (-6) := (by first | (simp [rcFi, *]; done) | (grind [rcFi])); rw [if_neg (by rw [e9] <;> (first | done | decide)), e9]) (by have e9 : rcFi τ (nI q8) co = (-6) := (by first | (simp [rcFi, *]; done) | (grind [rcFi])); rw [e9] <;> (first | done | rfl | (rw [if_neg (by decide)] <;> (first | done | rfl)))) dX6_fine_27
  · refine g_aload_n (pc := 11) C dX6_fine_11 0 rfl ?_
    refine g_iconst (pc := 12) (v := (-1)) C dX6_fine_12 (by decide) ?_
    refine g_wrVI (pc := 13) (rest := []) (wr := [oC t 3 [.ref ta, .ref tb, .ref tc, .int (τ 8 0), .int (τ 8 1), .int (τ 8 2), .int (τ 8 3), .int (τ 8 4), .int (τ 8 5), .int (τ 8 6)], iC G ta 16 (fq τ), iC G tb 64 (τ 2), iC G tc 50 (fg τ)]) C (fun _ => [wX x t im it o sv tx ac rf lf] ++ (wT G t ta tb tc τ ++ ([iC G rf 8 (rfI rr (-1))]))) rfl k_X6_refuse (c_X6_refuse l G x t im it o sv tx ac rf lf rr (-1)) ml_X6_59 rfl ⟨Nat.le_of_ble_eq_true rfl, Nat.le_of_ble_eq_true rfl⟩ rfl [0, 5] [1, 2, 3, 4] [4, 0, 1, 2, 3, 5] rfl (by decide) rfl (by decide) (by decide) (by decide) (fun _ => rfl) 0 rfl rfl rfl rfl (Nat.le_of_ble_eq_true rfl) ⟨by decide, by decide⟩ dX6_fine_13 (fun r13 _ e13 => ?_)
    subst e13
    exact g_retIW (pc := 16) C rfl rfl () (rfl) (by have e9 : rcFi τ q co = (-1) := (by first | (simp [rcFi, *]; done) | (grind [rcFi])); rw [if_neg (by rw [e9] <;> (first | done | decide)), e9]) (by have e9 : rcFi τ q co = (-1) := (by first | (simp [rcFi, *]; done) | (grind [rcFi])); rw [e9] <;> (first | done | rfl | (rw [if_neg (by decide)] <;> (first | done | rfl)))) dX6_fine_16
set_option maxRecDepth 20000 in
set_option maxHeartbeats 4000000 in
theorem c_X3_hasQuestions (l : Launch) (G : gT) (h : Nat) (a : Nat) (b : Nat) (c : Nat) (τ : tT) (x : Int32) (hT : TI τ) : RI l yX3_hasQuestions cX3_hasQuestions 2 (some .boolean) 0 G [.ref h, .int x] (wT G h a b c τ) (bI ((x.toUInt32 >>> (Int32.toUInt32 (nI (tQ τ)) &&& Int32.toUInt32 31)).toInt32 = 0)) := by
  refine start_R (by decide) (Nat.le_of_ble_eq_true rfl) (fun p9 e9 s9 m9 a9 b9 t9 c9 C => ?_)
  refine g_lv (lv' := [(0, .ref h), (1, .int x)]) rfl ?_
  refine g_iload_n (pc := 0) C dX3_hasQuestions_0 1 rfl ?_
  refine g_aload_n (pc := 1) C dX3_hasQuestions_1 0 rfl ?_
  refine g_get (pc := 2) (T := TX3) (N := 10) (v := .int (τ 8 0)) C ib_X3 0 rfl rfl 3 (by decide) mf_X3_34 rfl rfl rfl dX3_hasQuestions_2 ?_
  refine g_top (z := nI (tQ τ)) (hT.q) ?_
  refine g_iushr (pc := 5) (v := (x.toUInt32 >>> (Int32.toUInt32 (nI (tQ τ)) &&& Int32.toUInt32 31)).toInt32) C dX3_hasQuestions_5 rfl ?_
  refine g_if_ne (pc := 6) (tgt := 13) C dX3_hasQuestions_6 (by decide) (fun h6 => ?_) (fun h6 => ?_)
  · refine g_iconst (pc := 13) (v := 0) C dX3_hasQuestions_13 (by decide) ?_
    exact g_retIR (pc := 14) C (rfl) (by simp [bI, *]) dX3_hasQuestions_14
  · refine g_iconst (pc := 9) (v := 1) C dX3_hasQuestions_9 (by decide) ?_
    refine g_goto (pc := 10) (tgt := 14) C dX3_hasQuestions_10 (by decide) ?_
    exact g_retIR (pc := 14) C (rfl) (by simp [bI, *]) dX3_hasQuestions_14
set_option maxRecDepth 20000 in
set_option maxHeartbeats 4000000 in
theorem c_X3_leastMoved (l : Launch) (G : gT) (h : Nat) (a : Nat) (b : Nat) (c : Nat) (τ : tT) (q : Nat) (v : Int32) (hT : TI τ) (hq : q < 8) : RI l yX3_leastMoved cX3_leastMoved 10 (some .int) 3 G [.ref h, .int (nI q), .int v] (wT G h a b c τ) (mvF τ q v (mvP τ (tG τ) + 1) 0) := by
  have hg10 := hT.g10
  have hq8 := hT.q8
  refine start_R (by decide) (Nat.le_of_ble_eq_true rfl) (fun p9 e9 s9 m9 a9 b9 t9 c9 C => ?_)
  refine g_lv (lv' := [(0, .ref h), (1, .int (nI q)), (2, .int v)]) rfl ?_
  refine g_aload_n (pc := 0) C dX3_leastMoved_0 0 rfl ?_
  refine g_sipush (pc := 1) (v := 1023) C dX3_leastMoved_1 (by decide) ?_
  refine g_rdVI (pc := 4) (val := ppl τ) (rest := []) C k_X3_peopleOf (c_X3_peopleOf_all l G h a b c τ (by first | assumption | omega)) ml_X3_94 rfl ⟨Nat.le_of_ble_eq_true rfl, Nat.le_of_ble_eq_true rfl⟩ rfl [0, 1, 2, 3] rfl 0 rfl rfl rfl rfl (Nat.le_of_ble_eq_true rfl) ⟨by decide, by decide⟩ dX3_leastMoved_4 ?_
  refine g_istore_n (pc := 7) (lv' := [(3, .int (ppl τ)), (0, .ref h), (1, .int (nI q)), (2, .int v)]) C dX3_leastMoved_7 rfl (by decide) rfl ?_
  refine g_aload_n (pc := 8) C dX3_leastMoved_8 1 rfl ?_
  refine g_iload_n (pc := 9) C dX3_leastMoved_9 2 rfl ?_
  refine g_sipush (pc := 10) (v := 1023) C dX3_leastMoved_10 (by decide) ?_
  refine g_rdVI (pc := 13) (val := allN τ q) (rest := []) C k_X3_allOf (c_X3_allOf_all l G h a b c τ q (by first | assumption | omega) (by first | assumption | omega)) ml_X3_90 rfl ⟨Nat.le_of_ble_eq_true rfl, Nat.le_of_ble_eq_true rfl⟩ rfl [0, 1, 2, 3] rfl 0 rfl rfl rfl rfl (Nat.le_of_ble_eq_true rfl) ⟨by decide, by decide⟩ dX3_leastMoved_13 ?_
  refine g_istore (pc := 16) (lv' := [(4, .int (allN τ q)), (3, .int (ppl τ)), (0, .ref h), (1, .int (nI q)), (2, .int v)]) C dX3_leastMoved_16 (by decide) rfl ?_
  refine g_iload (pc := 18) C dX3_leastMoved_18 0 rfl ?_
  refine g_iload_n (pc := 20) C dX3_leastMoved_20 1 rfl ?_
  refine g_rdSNI (pc := 21) (val := sTh (allN τ q) (ppl τ)) (rest := []) C k_X6_thousandths (c_X6_thousandths l G (allN τ q) (ppl τ)) (List.mem_of_getElem? (i := 9) rfl) rfl ⟨Nat.le_of_ble_eq_true rfl, Nat.le_of_ble_eq_true rfl⟩ rfl [] rfl rfl (Nat.le_of_ble_eq_true rfl) ⟨by decide, by decide⟩ dX3_leastMoved_21 ?_
  refine g_iload_n (pc := 24) C dX3_leastMoved_24 4 rfl ?_
  refine g_icmp_lt (pc := 25) (tgt := 30) C dX3_leastMoved_25 (by decide) (fun h25 => ?_) (fun h25 => ?_)
  · refine g_iconst (pc := 30) (v := 0) C dX3_leastMoved_30 (by decide) ?_
    refine g_istore (pc := 31) (lv' := [(5, .int 0), (4, .int (allN τ q)), (3, .int (ppl τ)), (0, .ref h), (1, .int (nI q)), (2, .int v)]) C dX3_leastMoved_31 (by decide) rfl ?_
    refine g_iconst (pc := 33) (v := 0) C dX3_leastMoved_33 (by decide) ?_
    refine g_istore (pc := 34) (lv' := [(6, .int 0), (5, .int 0), (4, .int (allN τ q)), (3, .int (ppl τ)), (0, .ref h), (1, .int (nI q)), (2, .int v)]) C dX3_leastMoved_34 (by decide) rfl ?_
    have key_36 : ∀ (n36 : Nat) (i : Nat) (hi : i ≤ tG τ) (hv : mvF τ q v (mvP τ (tG τ) + 1) 0 = mvF τ q v (mvP τ (tG τ) - mvP τ i) (mvP τ i + 1)), tG τ - i < n36 → GW p9 l e9 (rmh 3 0 0) s9 m9 a9 b9 t9 c9 (MQ b9 (QcI (mvF τ q v (mvP τ (tG τ) + 1) 0)) a9 s9 0 0 NoA) G NoA false 10 0 0 (wT G h a b c τ) [(0, .ref h), (1, .int (nI q)), (2, .int v), (3, .int (ppl τ)), (4, .int (mvS τ q (mvP τ i))), (5, .int (nI (mvP τ i))), (6, .int (nI i))] 36 [] := by
      intro n36
      induction n36 with
      | zero => intro i hi hv hn36; exact absurd hn36 (Nat.not_lt_zero _)
      | succ n36 ih36 =>
        intro i hi hv hn36
        refine g_iload (pc := 36) C dX3_leastMoved_36 6 rfl ?_
        refine g_aload_n (pc := 38) C dX3_leastMoved_38 0 rfl ?_
        refine g_get (pc := 39) (T := TX3) (N := 10) (v := .int (τ 8 1)) C ib_X3 0 rfl rfl 4 (by decide) mf_X3_37 rfl rfl rfl dX3_leastMoved_39 ?_
        refine g_top (z := nI (tG τ)) (hT.g) ?_
        refine g_icmpN_ge (pc := 42) (i := i) (j := tG τ) (tgt := 157) C dX3_leastMoved_42 (by decide) ⟨by omega, by omega⟩ (fun h42 => ?_) (fun h42 => ?_)
        · refine g_iconst (pc := 157) (v := (-1)) C dX3_leastMoved_157 (by decide) ?_
          exact g_retIR (pc := 158) C (rfl) (by rw [hv, show mvP τ (tG τ) - mvP τ i = 0 from by rw [show i = tG τ from by omega]; omega]; rfl) dX3_leastMoved_158
        · refine g_aload_n (pc := 45) C dX3_leastMoved_45 0 rfl ?_
          refine g_iload (pc := 46) C dX3_leastMoved_46 6 rfl ?_
          refine g_rdVI (pc := 48) (val := τ 4 i) (rest := []) C k_X3_viewOf (c_X3_viewOf l G h a b c τ i (by first | assumption | omega)) ml_X3_76 rfl ⟨Nat.le_of_ble_eq_true rfl, Nat.le_of_ble_eq_true rfl⟩ rfl [0, 1, 2, 3] rfl 0 rfl rfl rfl rfl (Nat.le_of_ble_eq_true rfl) ⟨by decide, by decide⟩ dX3_leastMoved_48 ?_
          refine g_iconst (pc := 51) (v := 2) C dX3_leastMoved_51 (by decide) ?_
          refine g_icmp_eq (pc := 52) (tgt := 58) C dX3_leastMoved_52 (by decide) (fun h52 => ?_) (fun h52 => ?_)
          · refine g_aload_n (pc := 58) C dX3_leastMoved_58 0 rfl ?_
            refine g_iload (pc := 59) C dX3_leastMoved_59 6 rfl ?_
            refine g_rdVI (pc := 61) (val := τ 3 i) (rest := []) C k_X3_countOf (c_X3_countOf l G h a b c τ i (by first | assumption | omega)) ml_X3_83 rfl ⟨Nat.le_of_ble_eq_true rfl, Nat.le_of_ble_eq_true rfl⟩ rfl [0, 1, 2, 3] rfl 0 rfl rfl rfl rfl (Nat.le_of_ble_eq_true rfl) ⟨by decide, by decide⟩ dX3_leastMoved_61 ?_
            refine g_top (z := nI (tC τ i)) ((hT.c (show i < tG τ from by omega)).1) ?_
            have hc9 := hT.c (g := i) (by omega)
            have hp9 := mvP_le τ (show i + 1 ≤ tG τ by omega)
            rw [mvP_s τ h52] at hp9
            refine g_istore (pc := 64) (lv' := [(7, .int (nI (tC τ i))), (0, .ref h), (1, .int (nI q)), (2, .int v), (3, .int (ppl τ)), (4, .int (mvS τ q (mvP τ i))), (5, .int (nI (mvP τ i))), (6, .int (nI i))]) C dX3_leastMoved_64 (by decide) rfl ?_
            refine g_iload (pc := 66) C dX3_leastMoved_66 5 rfl ?_
            refine g_aload_n (pc := 68) C dX3_leastMoved_68 1 rfl ?_
            refine g_iload_n (pc := 69) C dX3_leastMoved_69 2 rfl ?_
            refine g_iload (pc := 70) C dX3_leastMoved_70 7 rfl ?_
            refine g_iload (pc := 72) C dX3_leastMoved_72 0 rfl ?_
            refine g_rdVI (pc := 74) (val := yG τ q i (nI (tC τ i))) (rest := [.int (mvS τ q (mvP τ i))]) C k_X3_yesOf (c_X3_yesOf l G h a b c τ q i (nI (tC τ i)) (by first | assumption | omega) (by first | assumption | omega)) ml_X3_86 rfl ⟨Nat.le_of_ble_eq_true rfl, Nat.le_of_ble_eq_true rfl⟩ rfl [0, 1, 2, 3] rfl 0 rfl rfl rfl rfl (Nat.le_of_ble_eq_true rfl) ⟨by decide, by decide⟩ dX3_leastMoved_74 ?_
            refine g_isub (pc := 77) C dX3_leastMoved_77 ?_
            refine g_istore (pc := 78) (lv' := [(8, .int ((mvS τ q (mvP τ i)) - (yG τ q i (nI (tC τ i))))), (7, .int (nI (tC τ i))), (0, .ref h), (1, .int (nI q)), (2, .int v), (3, .int (ppl τ)), (4, .int (mvS τ q (mvP τ i))), (5, .int (nI (mvP τ i))), (6, .int (nI i))]) C dX3_leastMoved_78 (by decide) rfl ?_
            refine g_iconst (pc := 80) (v := 1) C dX3_leastMoved_80 (by decide) ?_
            refine g_istore (pc := 81) (lv' := [(9, .int 1), (8, .int ((mvS τ q (mvP τ i)) - (yG τ q i (nI (tC τ i))))), (7, .int (nI (tC τ i))), (0, .ref h), (1, .int (nI q)), (2, .int v), (3, .int (ppl τ)), (4, .int (mvS τ q (mvP τ i))), (5, .int (nI (mvP τ i))), (6, .int (nI i))]) C dX3_leastMoved_81 (by decide) rfl ?_
            have key_83 : ∀ (n83 : Nat) (n : Nat) (hn : n ≤ tC τ i + 1) (h1 : 1 ≤ n) (hw : mvF τ q v (mvP τ (tG τ) + 1) 0 = mvF τ q v (mvP τ (tG τ) + 1 - (mvP τ i + n)) (mvP τ i + n)), tC τ i + 1 - n < n83 → GW p9 l e9 (rmh 3 0 0) s9 m9 a9 b9 t9 c9 (MQ b9 (QcI (mvF τ q v (mvP τ (tG τ) + 1) 0)) a9 s9 0 0 NoA) G NoA false 10 0 0 (wT G h a b c τ) [(0, .ref h), (1, .int (nI q)), (2, .int v), (3, .int (ppl τ)), (4, .int (mvS τ q (mvP τ i + (n - 1)))), (5, .int (nI (mvP τ i))), (6, .int (nI i)), (7, .int (nI (tC τ i))), (8, .int (mvS τ q (mvP τ i) - yG τ q i (nI (tC τ i)))), (9, .int (nI n))] 83 [] := by
              intro n83
              induction n83 with
              | zero => intro n hn h1 hw hn83; exact absurd hn83 (Nat.not_lt_zero _)
              | succ n83 ih83 =>
                intro n hn h1 hw hn83
                refine g_iload (pc := 83) C dX3_leastMoved_83 9 rfl ?_
                refine g_iload (pc := 85) C dX3_leastMoved_85 7 rfl ?_
                refine g_icmpN_gt (pc := 87) (i := n) (j := tC τ i) (tgt := 144) C dX3_leastMoved_87 (by decide) ⟨by omega, by omega⟩ (fun h87 => ?_) (fun h87 => ?_)
                · refine g_iload (pc := 144) C dX3_leastMoved_144 5 rfl ?_
                  refine g_iload (pc := 146) C dX3_leastMoved_146 7 rfl ?_
                  refine g_iaddN (pc := 148) (i := mvP τ i) (j := tC τ i) C dX3_leastMoved_148 ?_
                  refine g_istore (pc := 149) (lv' := [(5, .int (nI ((mvP τ i) + (tC τ i)))), (0, .ref h), (1, .int (nI q)), (2, .int v), (3, .int (ppl τ)), (4, .int (mvS τ q (mvP τ i + (n - 1)))), (6, .int (nI i)), (7, .int (nI (tC τ i))), (8, .int (mvS τ q (mvP τ i) - yG τ q i (nI (tC τ i)))), (9, .int (nI n))]) C dX3_leastMoved_149 (by decide) rfl ?_
                  refine g_iinc (pc := 151) (v := nI (i + 1)) (lv' := [(6, .int (nI (i + 1))), (5, .int (nI ((mvP τ i) + (tC τ i)))), (0, .ref h), (1, .int (nI q)), (2, .int v), (3, .int (ppl τ)), (4, .int (mvS τ q (mvP τ i + (n - 1)))), (7, .int (nI (tC τ i))), (8, .int (mvS τ q (mvP τ i) - yG τ q i (nI (tC τ i)))), (9, .int (nI n))]) C dX3_leastMoved_151 6 rfl (nI_1 i) (by decide) rfl ?_
                  refine g_goto (pc := 154) (tgt := 36) C dX3_leastMoved_154 (by decide) ?_
                  refine g_sub (lv' := [(0, .ref h), (1, .int (nI q)), (2, .int v), (3, .int (ppl τ)), (4, .int (mvS τ q (mvP τ i + (n - 1)))), (5, .int (nI ((mvP τ i) + (tC τ i)))), (6, .int (nI (i + 1)))]) [2, 3, 4, 5, 6, 1, 0] rfl ?_
                  refine g_lv (lv' := [(0, .ref h), (1, .int (nI q)), (2, .int v), (3, .int (ppl τ)), (4, .int (mvS τ q (mvP τ (i + 1)))), (5, .int (nI (mvP τ (i + 1)))), (6, .int (nI (i + 1)))]) (by rw [mvP_s τ h52, show n = tC τ i + 1 from by omega]; rfl) ?_
                  exact ih36 (i + 1) (by first | assumption | omega) (by rw [mvP_s τ h52, hw, show n = tC τ i + 1 from by omega]; congr 1; omega) (by omega)
                · refine g_iload (pc := 90) C dX3_leastMoved_90 8 rfl ?_
                  refine g_aload_n (pc := 92) C dX3_leastMoved_92 0 rfl ?_
                  refine g_iload_n (pc := 93) C dX3_leastMoved_93 1 rfl ?_
                  refine g_iconst (pc := 94) (v := 0) C dX3_leastMoved_94 (by decide) ?_
                  refine g_aload_n (pc := 95) C dX3_leastMoved_95 0 rfl ?_
                  refine g_iload (pc := 96) C dX3_leastMoved_96 6 rfl ?_
                  refine g_rdVI (pc := 98) (val := τ 5 i) (rest := [.int 0, .int (nI q), .ref h, .int (mvS τ q (mvP τ i) - yG τ q i (nI (tC τ i)))]) C k_X3_gladOf (c_X3_gladOf l G h a b c τ i (by first | assumption | omega)) ml_X3_53 rfl ⟨Nat.le_of_ble_eq_true rfl, Nat.le_of_ble_eq_true rfl⟩ rfl [0, 1, 2, 3] rfl 0 rfl rfl rfl rfl (Nat.le_of_ble_eq_true rfl) ⟨by decide, by decide⟩ dX3_leastMoved_98 ?_
                  refine g_iload (pc := 101) C dX3_leastMoved_101 9 rfl ?_
                  refine g_rdVI (pc := 103) (val := yQ τ q 0 (τ 5 i) (nI n)) (rest := [.int (mvS τ q (mvP τ i) - yG τ q i (nI (tC τ i)))]) C k_X3_yesAs (c_X3_yesAs l G h a b c τ q 0 (τ 5 i) (nI n) (by first | assumption | omega)) ml_X3_121 rfl ⟨Nat.le_of_ble_eq_true rfl, Nat.le_of_ble_eq_true rfl⟩ rfl [0, 1, 2, 3] rfl 0 rfl rfl rfl rfl (Nat.le_of_ble_eq_true rfl) ⟨by decide, by decide⟩ dX3_leastMoved_103 ?_
                  refine g_iadd (pc := 106) C dX3_leastMoved_106 ?_
                  refine g_aload_n (pc := 107) C dX3_leastMoved_107 0 rfl ?_
                  refine g_iload_n (pc := 108) C dX3_leastMoved_108 1 rfl ?_
                  refine g_iload (pc := 109) C dX3_leastMoved_109 6 rfl ?_
                  refine g_iload (pc := 111) C dX3_leastMoved_111 7 rfl ?_
                  refine g_iload (pc := 113) C dX3_leastMoved_113 9 rfl ?_
                  refine g_isub (pc := 115) C dX3_leastMoved_115 ?_
                  refine g_top (z := nI (tC τ i - n)) (pk_sub (by omega)) ?_
                  refine g_rdVI (pc := 116) (val := yG τ q i (nI (tC τ i - n))) (rest := [.int ((mvS τ q (mvP τ i) - yG τ q i (nI (tC τ i))) + (yQ τ q 0 (τ 5 i) (nI n)))]) C k_X3_yesOf (c_X3_yesOf l G h a b c τ q i (nI (tC τ i - n)) (by first | assumption | omega) (by first | assumption | omega)) ml_X3_86 rfl ⟨Nat.le_of_ble_eq_true rfl, Nat.le_of_ble_eq_true rfl⟩ rfl [0, 1, 2, 3] rfl 0 rfl rfl rfl rfl (Nat.le_of_ble_eq_true rfl) ⟨by decide, by decide⟩ dX3_leastMoved_116 ?_
                  refine g_iadd (pc := 119) C dX3_leastMoved_119 ?_
                  refine g_top (z := mvS τ q (mvP τ i + n)) (mv_step hT hq (by omega) h52 (by omega)) ?_
                  refine g_istore (pc := 120) (lv' := [(4, .int (mvS τ q (mvP τ i + n))), (0, .ref h), (1, .int (nI q)), (2, .int v), (3, .int (ppl τ)), (5, .int (nI (mvP τ i))), (6, .int (nI i)), (7, .int (nI (tC τ i))), (8, .int (mvS τ q (mvP τ i) - yG τ q i (nI (tC τ i)))), (9, .int (nI n))]) C dX3_leastMoved_120 (by decide) rfl ?_
                  refine g_iload (pc := 122) C dX3_leastMoved_122 0 rfl ?_
                  refine g_iload_n (pc := 124) C dX3_leastMoved_124 4 rfl ?_
                  refine g_rdSNI (pc := 125) (val := sTh (mvS τ q (mvP τ i + n)) (ppl τ)) (rest := []) C k_X6_thousandths (c_X6_thousandths l G (mvS τ q (mvP τ i + n)) (ppl τ)) (List.mem_of_getElem? (i := 9) rfl) rfl ⟨Nat.le_of_ble_eq_true rfl, Nat.le_of_ble_eq_true rfl⟩ rfl [] rfl rfl (Nat.le_of_ble_eq_true rfl) ⟨by decide, by decide⟩ dX3_leastMoved_125 ?_
                  refine g_iload_n (pc := 128) C dX3_leastMoved_128 3 rfl ?_
                  refine g_icmp_lt (pc := 129) (tgt := 138) C dX3_leastMoved_129 (by decide) (fun h129 => ?_) (fun h129 => ?_)
                  · refine g_iinc (pc := 138) (v := nI (n + 1)) (lv' := [(9, .int (nI (n + 1))), (4, .int (mvS τ q (mvP τ i + n))), (0, .ref h), (1, .int (nI q)), (2, .int v), (3, .int (ppl τ)), (5, .int (nI (mvP τ i))), (6, .int (nI i)), (7, .int (nI (tC τ i))), (8, .int (mvS τ q (mvP τ i) - yG τ q i (nI (tC τ i))))]) C dX3_leastMoved_138 9 rfl (nI_1 n) (by decide) rfl ?_
                    refine g_goto (pc := 141) (tgt := 83) C dX3_leastMoved_141 (by decide) ?_
                    refine g_sub (lv' := [(0, .ref h), (1, .int (nI q)), (2, .int v), (3, .int (ppl τ)), (4, .int (mvS τ q (mvP τ i + ((n + 1) - 1)))), (5, .int (nI (mvP τ i))), (6, .int (nI i)), (7, .int (nI (tC τ i))), (8, .int (mvS τ q (mvP τ i) - yG τ q i (nI (tC τ i)))), (9, .int (nI (n + 1)))]) [2, 3, 4, 5, 1, 6, 7, 8, 9, 0] rfl ?_
                    exact ih83 (n + 1) (by first | assumption | omega) (by first | assumption | omega) (by rw [hw, mvF_go (Int32.not_le.mpr h129) (by omega)] <;> congr 1) (by omega)
                  · refine g_iload (pc := 132) C dX3_leastMoved_132 5 rfl ?_
                    refine g_iload (pc := 134) C dX3_leastMoved_134 9 rfl ?_
                    refine g_iaddN (pc := 136) (i := mvP τ i) (j := n) C dX3_leastMoved_136 ?_
                    exact g_retIR (pc := 137) C (rfl) (by rw [hw, mvF_at (Int32.not_lt.mp h129) (by omega)]) dX3_leastMoved_137
            refine g_sub (lv' := [(0, .ref h), (1, .int (nI q)), (2, .int v), (3, .int (ppl τ)), (4, .int (mvS τ q (mvP τ i + (1 - 1)))), (5, .int (nI (mvP τ i))), (6, .int (nI i)), (7, .int (nI (tC τ i))), (8, .int (mvS τ q (mvP τ i) - yG τ q i (nI (tC τ i)))), (9, .int (nI 1))]) [3, 4, 5, 6, 7, 8, 9, 2, 1, 0] rfl ?_
            exact key_83 _ 1 (by first | assumption | omega) (by first | assumption | omega) (by rw [hv]; congr 1; omega) (Nat.lt_succ_self _)
          · refine g_goto (pc := 55) (tgt := 151) C dX3_leastMoved_55 (by decide) ?_
            refine g_iinc (pc := 151) (v := nI (i + 1)) (lv' := [(6, .int (nI (i + 1))), (0, .ref h), (1, .int (nI q)), (2, .int v), (3, .int (ppl τ)), (4, .int (mvS τ q (mvP τ i))), (5, .int (nI (mvP τ i)))]) C dX3_leastMoved_151 6 rfl (nI_1 i) (by decide) rfl ?_
            refine g_goto (pc := 154) (tgt := 36) C dX3_leastMoved_154 (by decide) ?_
            refine g_sub (lv' := [(0, .ref h), (1, .int (nI q)), (2, .int v), (3, .int (ppl τ)), (4, .int (mvS τ q (mvP τ i))), (5, .int (nI (mvP τ i))), (6, .int (nI (i + 1)))]) [1, 2, 3, 4, 5, 6, 0] rfl ?_
            refine g_lv (lv' := [(0, .ref h), (1, .int (nI q)), (2, .int v), (3, .int (ppl τ)), (4, .int (mvS τ q (mvP τ (i + 1)))), (5, .int (nI (mvP τ (i + 1)))), (6, .int (nI (i + 1)))]) (by rw [mvP_n τ h52]) ?_
            exact ih36 (i + 1) (by first | assumption | omega) (by rw [mvP_n τ h52]; exact hv) (by omega)
    refine g_sub (lv' := [(0, .ref h), (1, .int (nI q)), (2, .int v), (3, .int (ppl τ)), (4, .int (allN τ q)), (5, .int 0), (6, .int 0)]) [4, 5, 6, 3, 2, 1, 0] rfl ?_
    refine g_lv (lv' := [(0, .ref h), (1, .int (nI q)), (2, .int v), (3, .int (ppl τ)), (4, .int (mvS τ q (mvP τ 0))), (5, .int (nI (mvP τ 0))), (6, .int (nI 0))]) (by rw [mvP, mv_0 hT hq] <;> rfl) ?_
    exact key_36 _ 0 (by first | assumption | omega) (by rw [mvF_go (by rw [mv_0 hT hq]; exact Int32.not_le.mpr h25) (by omega)]; rfl) (Nat.lt_succ_self _)
  · refine g_iconst (pc := 28) (v := 0) C dX3_leastMoved_28 (by decide) ?_
    exact g_retIR (pc := 29) C (rfl) (by rw [mvF_at (by rw [mv_0 hT hq]; exact Int32.not_lt.mp h25) (by omega)]; rfl) dX3_leastMoved_29
set_option maxRecDepth 20000 in
set_option maxHeartbeats 4000000 in
theorem c_X6_move (l : Launch) (G : gT) (x : Nat) (t : Nat) (im : Nat) (it : Int32) (o : Nat) (sv : Nat) (tx : Nat) (ac : Nat) (rf : Nat) (lf : Int32) (ta : Nat) (tb : Nat) (tc : Nat) (τ : tT) (q : Int32) (v : Int32) (rr : Nat → Int32) (hT : TI τ) : WI l yX6_move cX6_move 3 (some .int) 10 0 0 G [.ref x, .int q, .int v] ([wX x t im it o sv tx ac rf lf] ++ (wT G t ta tb tc τ ++ ([iC G rf 8 rr]))) (S := Unit) (fun r _ => r = if rcEn τ q v = 0 then mvF τ (nx q) v (mvP τ (tG τ) + 1) 0 else -10 + (rcEn τ q v)) (fun _ => [wX x t im it o sv tx ac rf lf] ++ (wT G t ta tb tc τ ++ ([iC G rf 8 (rfI rr (rcEn τ q v))]))) := by
  have hg10 := hT.g10
  have hq8 := hT.q8
  intro sz9
  refine start_W (by decide) (Nat.le_of_ble_eq_true rfl) (fun p9 e9 s9 m9 a9 b9 t9 c9 C => ?_)
  refine g_lv (lv' := [(0, .ref x), (1, .int q), (2, .int v)]) rfl ?_
  refine g_aload_n (pc := 0) C dX6_move_0 0 rfl ?_
  refine g_get (pc := 1) (T := TX6) (N := 9) (v := .ref t) C ib_X6 0 rfl rfl 0 (by decide) mf_X6_10 rfl rfl rfl dX6_move_1 ?_
  refine g_iload_n (pc := 4) C dX6_move_4 1 rfl ?_
  refine g_rdVI (pc := 5) (val := bI (0 ≤ q ∧ q ≤ nI (tQ τ) - 1)) (rest := []) C k_X3_hasQuestion (c_X3_hasQuestion l G t ta tb tc τ q (by first | assumption | omega)) ml_X6_93 rfl ⟨Nat.le_of_ble_eq_true rfl, Nat.le_of_ble_eq_true rfl⟩ rfl [1, 2, 3, 4] rfl 1 rfl rfl rfl rfl (Nat.le_of_ble_eq_true rfl) ⟨by decide, by decide⟩ dX6_move_5 ?_
  refine g_ifb_ne (pc := 8) (tgt := 17) C dX6_move_8 (by decide) (fun h8 => ?_) (fun h8 => ?_)
  · obtain ⟨q8, hq8, rfl⟩ := isQ_nI hT h8
    have eq8 : nx (nI q8) = q8 := nx_nI (by omega)
    refine g_iload_n (pc := 17) C dX6_move_17 2 rfl ?_
    refine g_iconst (pc := 18) (v := 0) C dX6_move_18 (by decide) ?_
    refine g_sipush (pc := 19) (v := 1000) C dX6_move_19 (by decide) ?_
    refine g_rdSI (pc := 22) (val := bI (0 ≤ v ∧ v ≤ 1000)) (rest := []) C k_X6_isWithin (c_X6_isWithin l G v 0 1000) ml_X6_63 rfl ⟨Nat.le_of_ble_eq_true rfl, Nat.le_of_ble_eq_true rfl⟩ rfl [] rfl rfl (Nat.le_of_ble_eq_true rfl) ⟨by decide, by decide⟩ dX6_move_22 ?_
    refine g_ifb_ne (pc := 25) (tgt := 35) C dX6_move_25 (by decide) (fun h25 => ?_) (fun h25 => ?_)
    · refine g_aload_n (pc := 35) C dX6_move_35 0 rfl ?_
      refine g_get (pc := 36) (T := TX6) (N := 9) (v := .ref t) C ib_X6 0 rfl rfl 0 (by decide) mf_X6_10 rfl rfl rfl dX6_move_36 ?_
      refine g_iload_n (pc := 39) C dX6_move_39 1 rfl ?_
      refine g_iload_n (pc := 40) C dX6_move_40 2 rfl ?_
      refine g_rdVI (pc := 41) (val := mvF τ q8 v (mvP τ (tG τ) + 1) 0) (rest := []) C k_X3_leastMoved (c_X3_leastMoved l G t ta tb tc τ q8 v (by first | assumption | omega) (by first | assumption | omega)) ml_X6_264 rfl ⟨Nat.le_of_ble_eq_true rfl, Nat.le_of_ble_eq_true rfl⟩ rfl [1, 2, 3, 4] rfl 1 rfl rfl rfl rfl (Nat.le_of_ble_eq_true rfl) ⟨by decide, by decide⟩ dX6_move_41 ?_
      exact g_retIW (pc := 44) C rfl rfl () (rfl) (by have e9 : rcEn τ (nI q8) v = 0 := (by first | (simp [rcEn, *]; done) | (grind [rcEn])); rw [if_pos e9] <;> (rw [eq8])) (by have e9 : rcEn τ (nI q8) v = 0 := (by first | (simp [rcEn, *]; done) | (grind [rcEn])); rw [e9, rfI_0] <;> (rfl)) dX6_move_44
    · refine g_aload_n (pc := 28) C dX6_move_28 0 rfl ?_
      refine g_bipush (pc := 29) (v := (-6)) C dX6_move_29 (by decide) ?_
      refine g_wrVI (pc := 31) (rest := []) (wr := [oC t 3 [.ref ta, .ref tb, .ref tc, .int (τ 8 0), .int (τ 8 1), .int (τ 8 2), .int (τ 8 3), .int (τ 8 4), .int (τ 8 5), .int (τ 8 6)], iC G ta 16 (fq τ), iC G tb 64 (τ 2), iC G tc 50 (fg τ)]) C (fun _ => [wX x t im it o sv tx ac rf lf] ++ (wT G t ta tb tc τ ++ ([iC G rf 8 (rfI rr (-6))]))) rfl k_X6_refuseBelowNone (c_X6_refuseBelowNone l G x t im it o sv tx ac rf lf rr (-6)) ml_X6_247 rfl ⟨Nat.le_of_ble_eq_true rfl, Nat.le_of_ble_eq_true rfl⟩ rfl [0, 5] [1, 2, 3, 4] [4, 0, 1, 2, 3, 5] rfl (by decide) rfl (by decide) (by decide) (by decide) (fun _ => rfl) 0 rfl rfl rfl rfl (Nat.le_of_ble_eq_true rfl) ⟨by decide, by decide⟩ dX6_move_31 (fun r31 _ e31 => ?_)
      subst e31
      exact g_retIW (pc := 34) C rfl rfl () (rfl) (by have e9 : rcEn τ (nI q8) v = (-6) := (by first | (simp [rcEn, *]; done) | (grind [rcEn])); rw [if_neg (by rw [e9] <;> (first | done | decide)), e9]) (by have e9 : rcEn τ (nI q8) v = (-6) := (by first | (simp [rcEn, *]; done) | (grind [rcEn])); rw [e9] <;> (first | done | rfl | (rw [if_neg (by decide)] <;> (first | done | rfl)))) dX6_move_34
  · refine g_aload_n (pc := 11) C dX6_move_11 0 rfl ?_
    refine g_iconst (pc := 12) (v := (-1)) C dX6_move_12 (by decide) ?_
    refine g_wrVI (pc := 13) (rest := []) (wr := [oC t 3 [.ref ta, .ref tb, .ref tc, .int (τ 8 0), .int (τ 8 1), .int (τ 8 2), .int (τ 8 3), .int (τ 8 4), .int (τ 8 5), .int (τ 8 6)], iC G ta 16 (fq τ), iC G tb 64 (τ 2), iC G tc 50 (fg τ)]) C (fun _ => [wX x t im it o sv tx ac rf lf] ++ (wT G t ta tb tc τ ++ ([iC G rf 8 (rfI rr (-1))]))) rfl k_X6_refuseBelowNone (c_X6_refuseBelowNone l G x t im it o sv tx ac rf lf rr (-1)) ml_X6_247 rfl ⟨Nat.le_of_ble_eq_true rfl, Nat.le_of_ble_eq_true rfl⟩ rfl [0, 5] [1, 2, 3, 4] [4, 0, 1, 2, 3, 5] rfl (by decide) rfl (by decide) (by decide) (by decide) (fun _ => rfl) 0 rfl rfl rfl rfl (Nat.le_of_ble_eq_true rfl) ⟨by decide, by decide⟩ dX6_move_13 (fun r13 _ e13 => ?_)
    subst e13
    exact g_retIW (pc := 16) C rfl rfl () (rfl) (by have e9 : rcEn τ q v = (-1) := (by first | (simp [rcEn, *]; done) | (grind [rcEn])); rw [if_neg (by rw [e9] <;> (first | done | decide)), e9]) (by have e9 : rcEn τ q v = (-1) := (by first | (simp [rcEn, *]; done) | (grind [rcEn])); rw [e9] <;> (first | done | rfl | (rw [if_neg (by decide)] <;> (first | done | rfl)))) dX6_move_16
