theorem neg_ix {k : Int32} (h : -7 ≤ k ∧ k ≤ -1) : -k = nI (nx (-k)) ∧ nx (-k) < 8 := by
  have h1 : (-7 : Int) ≤ k.toInt := Int32.le_iff_toInt_le.mp h.1
  have h2 : k.toInt ≤ -1 := Int32.le_iff_toInt_le.mp h.2
  have h3 : (-k).toInt = -k.toInt := by
    rw [Int32.toInt_neg, Int.bmod_def]; omega
  have h4 := rng_nI (x := -k) (b := 7) ⟨by omega, by omega⟩
  exact ⟨h4.1, by have := h4.2; show (-k).toNatClampNeg < 8; omega⟩
set_option maxRecDepth 20000 in
set_option maxHeartbeats 4000000 in
theorem c_X3_knock (l : Launch) (G : gT) (h : Nat) (a : Nat) (b : Nat) (c : Nat) (τ : tT) (hT : TI τ) (hQ : 0 < tQ τ) (hG : 0 < tG τ) : WV l yX3_knock cX3_knock 4 (none) 4 0 0 G [.ref h] (wT G h a b c τ) (S := Unit) (fun _ => True) (fun _ => wT G h a b c (knk τ)) := by
  have hg10 := hT.g10
  have hq8 := hT.q8
  have hd1 : drV (τ 8 4) (nI (tG τ)) = nI (kG τ) ∧ kG τ < tG τ := drV_lt (τ 8 4) hG (by omega)
  have hd2 : drV (kT τ 8 4) (nI (tQ τ)) = nI (kQ τ) ∧ kQ τ < tQ τ := drV_lt (kT τ 8 4) hQ (by omega)
  intro sz9
  refine start_W (by decide) (Nat.le_of_ble_eq_true rfl) (fun p9 e9 s9 m9 a9 b9 t9 c9 C => ?_)
  refine g_lv (lv' := [(0, .ref h)]) rfl ?_
  refine g_aload_n (pc := 0) C dX3_knock_0 0 rfl ?_
  refine g_aload_n (pc := 1) C dX3_knock_1 0 rfl ?_
  refine g_get (pc := 2) (T := TX3) (N := 10) (v := .int (τ 8 1)) C ib_X3 0 rfl rfl 4 (by decide) mf_X3_37 rfl rfl rfl dX3_knock_2 ?_
  refine g_top (z := nI (tG τ)) (hT.g) ?_
  refine g_wrVI (pc := 5) (rest := []) (wr := []) C (fun _ => wT G h a b c (kn1 τ)) rfl k_X3_draw (c_X3_draw l G h a b c τ (nI (tG τ))) ml_X3_125 rfl ⟨Nat.le_of_ble_eq_true rfl, Nat.le_of_ble_eq_true rfl⟩ rfl [0, 1, 2, 3] [] [0, 1, 2, 3] rfl (by decide) rfl (by decide) (by decide) (by decide) (fun _ => rfl) 0 rfl rfl rfl rfl (Nat.le_of_ble_eq_true rfl) ⟨by decide, by decide⟩ dX3_knock_5 (fun r5 _ e5 => ?_)
  subst e5
  refine g_top (z := nI (kG τ)) (hd1.1) ?_
  refine g_istore_n (pc := 8) (lv' := [(1, .int (nI (kG τ))), (0, .ref h)]) C dX3_knock_8 rfl (by decide) rfl ?_
  refine g_aload_n (pc := 9) C dX3_knock_9 1 rfl ?_
  refine g_bipush (pc := 10) (v := 10) C dX3_knock_10 (by decide) ?_
  refine g_wrVI (pc := 12) (rest := []) (wr := []) C (fun _ => wT G h a b c (kn1 (kn1 τ))) rfl k_X3_draw (c_X3_draw l G h a b c (kn1 τ) 10) ml_X3_125 rfl ⟨Nat.le_of_ble_eq_true rfl, Nat.le_of_ble_eq_true rfl⟩ rfl [0, 1, 2, 3] [] [0, 1, 2, 3] rfl (by decide) rfl (by decide) (by decide) (by decide) (fun _ => rfl) 0 rfl rfl rfl rfl (Nat.le_of_ble_eq_true rfl) ⟨by decide, by decide⟩ dX3_knock_12 (fun r12 _ e12 => ?_)
  subst e12
  refine g_aload_n (pc := 15) C dX3_knock_15 1 rfl ?_
  refine g_iload_n (pc := 16) C dX3_knock_16 0 rfl ?_
  refine g_rdVI (pc := 17) (val := (kn1 (kn1 τ)) 6 (kG τ)) (rest := [.int (drV ((kn1 τ) 8 4) 10)]) C k_X3_homeOf (c_X3_homeOf l G h a b c (kn1 (kn1 τ)) (kG τ) (by first | assumption | omega | exact hT)) ml_X3_57 rfl ⟨Nat.le_of_ble_eq_true rfl, Nat.le_of_ble_eq_true rfl⟩ rfl [0, 1, 2, 3] rfl 0 rfl rfl rfl rfl (Nat.le_of_ble_eq_true rfl) ⟨by decide, by decide⟩ dX3_knock_17 ?_
  refine g_icmp_ge (pc := 20) (tgt := 37) C dX3_knock_20 (by decide) (fun h20 => ?_) (fun h20 => ?_)
  · exact g_retVW (pc := 37) C rfl rfl () trivial (by simp only [yG_kn, yG_kT, kn1_r _ (show (6 : Nat) ≠ 8 from by decide), kn1_r _ (show (7 : Nat) ≠ 8 from by decide), kn1_r _ (show (3 : Nat) ≠ 8 from by decide), kT_r _ (show (3 : Nat) ≠ 8 from by decide)] at h20; rw [knk, if_pos h20]) dX3_knock_37
  · refine g_aload_n (pc := 23) C dX3_knock_23 1 rfl ?_
    refine g_bipush (pc := 24) (v := 10) C dX3_knock_24 (by decide) ?_
    refine g_wrVI (pc := 26) (rest := []) (wr := []) C (fun _ => wT G h a b c (kn1 (kn1 (kn1 τ)))) rfl k_X3_draw (c_X3_draw l G h a b c (kn1 (kn1 τ)) 10) ml_X3_125 rfl ⟨Nat.le_of_ble_eq_true rfl, Nat.le_of_ble_eq_true rfl⟩ rfl [0, 1, 2, 3] [] [0, 1, 2, 3] rfl (by decide) rfl (by decide) (by decide) (by decide) (fun _ => rfl) 0 rfl rfl rfl rfl (Nat.le_of_ble_eq_true rfl) ⟨by decide, by decide⟩ dX3_knock_26 (fun r26 _ e26 => ?_)
    subst e26
    refine g_aload_n (pc := 29) C dX3_knock_29 1 rfl ?_
    refine g_iload_n (pc := 30) C dX3_knock_30 0 rfl ?_
    refine g_rdVI (pc := 31) (val := (kn1 (kn1 (kn1 τ))) 7 (kG τ)) (rest := [.int (drV ((kn1 (kn1 τ)) 8 4) 10)]) C k_X3_willOf (c_X3_willOf l G h a b c (kn1 (kn1 (kn1 τ))) (kG τ) (by first | assumption | omega | exact hT)) ml_X3_60 rfl ⟨Nat.le_of_ble_eq_true rfl, Nat.le_of_ble_eq_true rfl⟩ rfl [0, 1, 2, 3] rfl 0 rfl rfl rfl rfl (Nat.le_of_ble_eq_true rfl) ⟨by decide, by decide⟩ dX3_knock_31 ?_
    refine g_icmp_lt (pc := 34) (tgt := 38) C dX3_knock_34 (by decide) (fun h34 => ?_) (fun h34 => ?_)
    · refine g_aload_n (pc := 38) C dX3_knock_38 1 rfl ?_
      refine g_dup (pc := 39) C dX3_knock_39 rfl ?_
      refine g_get (pc := 40) (T := TX3) (N := 10) (v := .int ((kn1 (kn1 (kn1 τ))) 8 5)) C ib_X3 0 rfl rfl 8 (by decide) mf_X3_43 rfl rfl rfl dX3_knock_40 ?_
      refine g_iconst (pc := 43) (v := 1) C dX3_knock_43 (by decide) ?_
      refine g_iadd (pc := 44) C dX3_knock_44 ?_
      refine g_put (pc := 45) (T := TX3) (N := 10) (ty := .int) (ws' := [oC h 3 [.ref a, .ref b, .ref c, .int ((kn1 (kn1 (kn1 τ))) 8 0), .int ((kn1 (kn1 (kn1 τ))) 8 1), .int ((kn1 (kn1 (kn1 τ))) 8 2), .int ((kn1 (kn1 (kn1 τ))) 8 3), .int ((kn1 (kn1 (kn1 τ))) 8 4), .int (((kn1 (kn1 (kn1 τ))) 8 5) + 1), .int ((kn1 (kn1 (kn1 τ))) 8 6)], iC G a 16 (fq (kn1 (kn1 (kn1 τ)))), iC G b 64 ((kn1 (kn1 (kn1 τ))) 2), iC G c 50 (fg (kn1 (kn1 (kn1 τ))))]) C rfl ib_X3 tyX3 tyX3_ok nmX3 0 rfl rfl 8 (by decide) mf_X3_43 rfl rfl rfl (by decide +kernel) rfl rfl (Nat.le_of_ble_eq_true rfl) dX3_knock_45 rfl ?_
      refine g_ws (ws' := wT G h a b c (kT τ)) (by simp [wT, kT, kn1, aSc, fq_upn, fg_upn, up2_n, up2]) ?_
      refine g_aload_n (pc := 48) C dX3_knock_48 1 rfl ?_
      refine g_aload_n (pc := 49) C dX3_knock_49 1 rfl ?_
      refine g_get (pc := 50) (T := TX3) (N := 10) (v := .int ((kT τ) 8 0)) C ib_X3 0 rfl rfl 3 (by decide) mf_X3_34 rfl rfl rfl dX3_knock_50 ?_
      refine g_top (z := nI (tQ τ)) (hT.q) ?_
      refine g_wrVI (pc := 53) (rest := []) (wr := []) C (fun _ => wT G h a b c (kn1 (kT τ))) rfl k_X3_draw (c_X3_draw l G h a b c (kT τ) (nI (tQ τ))) ml_X3_125 rfl ⟨Nat.le_of_ble_eq_true rfl, Nat.le_of_ble_eq_true rfl⟩ rfl [0, 1, 2, 3] [] [0, 1, 2, 3] rfl (by decide) rfl (by decide) (by decide) (by decide) (fun _ => rfl) 0 rfl rfl rfl rfl (Nat.le_of_ble_eq_true rfl) ⟨by decide, by decide⟩ dX3_knock_53 (fun r53 _ e53 => ?_)
      subst e53
      refine g_top (z := nI (kQ τ)) (hd2.1) ?_
      refine g_istore_n (pc := 56) (lv' := [(2, .int (nI (kQ τ))), (1, .int (nI (kG τ))), (0, .ref h)]) C dX3_knock_56 rfl (by decide) rfl ?_
      refine g_aload_n (pc := 57) C dX3_knock_57 2 rfl ?_
      refine g_iload_n (pc := 58) C dX3_knock_58 1 rfl ?_
      refine g_rdVI (pc := 59) (val := (kn1 (kT τ)) 3 (kG τ)) (rest := []) C k_X3_countOf (c_X3_countOf l G h a b c (kn1 (kT τ)) (kG τ) (by first | assumption | omega | exact hT)) ml_X3_83 rfl ⟨Nat.le_of_ble_eq_true rfl, Nat.le_of_ble_eq_true rfl⟩ rfl [0, 1, 2, 3] rfl 0 rfl rfl rfl rfl (Nat.le_of_ble_eq_true rfl) ⟨by decide, by decide⟩ dX3_knock_59 ?_
      refine g_istore_n (pc := 62) (lv' := [(3, .int ((kn1 (kT τ)) 3 (kG τ))), (2, .int (nI (kQ τ))), (1, .int (nI (kG τ))), (0, .ref h)]) C dX3_knock_62 rfl (by decide) rfl ?_
      refine g_aload_n (pc := 63) C dX3_knock_63 3 rfl ?_
      refine g_iload_n (pc := 64) C dX3_knock_64 0 rfl ?_
      refine g_wrVI (pc := 65) (rest := []) (wr := []) C (fun _ => wT G h a b c (kn1 (kn1 (kT τ)))) rfl k_X3_draw (c_X3_draw l G h a b c (kn1 (kT τ)) ((kn1 (kT τ)) 3 (kG τ))) ml_X3_125 rfl ⟨Nat.le_of_ble_eq_true rfl, Nat.le_of_ble_eq_true rfl⟩ rfl [0, 1, 2, 3] [] [0, 1, 2, 3] rfl (by decide) rfl (by decide) (by decide) (by decide) (fun _ => rfl) 0 rfl rfl rfl rfl (Nat.le_of_ble_eq_true rfl) ⟨by decide, by decide⟩ dX3_knock_65 (fun r65 _ e65 => ?_)
      subst e65
      refine g_aload_n (pc := 68) C dX3_knock_68 3 rfl ?_
      refine g_iload_n (pc := 69) C dX3_knock_69 1 rfl ?_
      refine g_iload_n (pc := 70) C dX3_knock_70 2 rfl ?_
      refine g_iload_n (pc := 71) C dX3_knock_71 0 rfl ?_
      refine g_rdVI (pc := 72) (val := yG (kn1 (kn1 (kT τ))) (kQ τ) (kG τ) ((kn1 (kT τ)) 3 (kG τ))) (rest := [.int (drV ((kn1 (kT τ)) 8 4) ((kn1 (kT τ)) 3 (kG τ)))]) C k_X3_yesOf (c_X3_yesOf l G h a b c (kn1 (kn1 (kT τ))) (kQ τ) (kG τ) ((kn1 (kT τ)) 3 (kG τ)) (by first | assumption | omega | exact hT) (by first | assumption | omega | exact hT)) ml_X3_86 rfl ⟨Nat.le_of_ble_eq_true rfl, Nat.le_of_ble_eq_true rfl⟩ rfl [0, 1, 2, 3] rfl 0 rfl rfl rfl rfl (Nat.le_of_ble_eq_true rfl) ⟨by decide, by decide⟩ dX3_knock_72 ?_
      refine g_icmp_ge (pc := 75) (tgt := 88) C dX3_knock_75 (by decide) (fun h75 => ?_) (fun h75 => ?_)
      · exact g_retVW (pc := 88) C rfl rfl () trivial (by simp only [yG_kn, yG_kT, kn1_r _ (show (6 : Nat) ≠ 8 from by decide), kn1_r _ (show (7 : Nat) ≠ 8 from by decide), kn1_r _ (show (3 : Nat) ≠ 8 from by decide), kT_r _ (show (3 : Nat) ≠ 8 from by decide)] at h20 h34 h75; rw [knk, if_neg h20, if_neg (fun q => q h34), if_pos h75]) dX3_knock_88
      · refine g_aload_n (pc := 78) C dX3_knock_78 3 rfl ?_
        refine g_dup (pc := 79) C dX3_knock_79 rfl ?_
        refine g_get (pc := 80) (T := TX3) (N := 10) (v := .int ((kn1 (kn1 (kT τ))) 8 6)) C ib_X3 0 rfl rfl 9 (by decide) mf_X3_46 rfl rfl rfl dX3_knock_80 ?_
        refine g_iconst (pc := 83) (v := 1) C dX3_knock_83 (by decide) ?_
        refine g_iadd (pc := 84) C dX3_knock_84 ?_
        refine g_put (pc := 85) (T := TX3) (N := 10) (ty := .int) (ws' := [oC h 3 [.ref a, .ref b, .ref c, .int ((kn1 (kn1 (kT τ))) 8 0), .int ((kn1 (kn1 (kT τ))) 8 1), .int ((kn1 (kn1 (kT τ))) 8 2), .int ((kn1 (kn1 (kT τ))) 8 3), .int ((kn1 (kn1 (kT τ))) 8 4), .int ((kn1 (kn1 (kT τ))) 8 5), .int (((kn1 (kn1 (kT τ))) 8 6) + 1)], iC G a 16 (fq (kn1 (kn1 (kT τ)))), iC G b 64 ((kn1 (kn1 (kT τ))) 2), iC G c 50 (fg (kn1 (kn1 (kT τ))))]) C rfl ib_X3 tyX3 tyX3_ok nmX3 0 rfl rfl 9 (by decide) mf_X3_46 rfl rfl rfl (by decide +kernel) rfl rfl (Nat.le_of_ble_eq_true rfl) dX3_knock_85 rfl ?_
        exact g_retVW (pc := 88) C rfl rfl () trivial (by simp only [yG_kn, yG_kT, kn1_r _ (show (6 : Nat) ≠ 8 from by decide), kn1_r _ (show (7 : Nat) ≠ 8 from by decide), kn1_r _ (show (3 : Nat) ≠ 8 from by decide), kT_r _ (show (3 : Nat) ≠ 8 from by decide)] at h20 h34 h75; rw [knk, if_neg h20, if_neg (fun q => q h34), if_neg h75]; simp [wT, kn1, kT, aSc, fq_upn, fg_upn, up2_n, up2]) dX3_knock_88
    · exact g_retVW (pc := 37) C rfl rfl () trivial (by simp only [yG_kn, yG_kT, kn1_r _ (show (6 : Nat) ≠ 8 from by decide), kn1_r _ (show (7 : Nat) ≠ 8 from by decide), kn1_r _ (show (3 : Nat) ≠ 8 from by decide), kT_r _ (show (3 : Nat) ≠ 8 from by decide)] at h20 h34; rw [knk, if_neg h20, if_pos h34]) dX3_knock_37
set_option maxRecDepth 20000 in
set_option maxHeartbeats 4000000 in
theorem c_X6_refuse (l : Launch) (G : gT) (x : Nat) (t : Nat) (im : Nat) (it : Int32) (o : Nat) (sv : Nat) (tx : Nat) (ac : Nat) (rf : Nat) (lf : Int32) (rr : Nat → Int32) (k : Int32) : WI l yX6_refuse cX6_refuse 2 (some .int) 1 0 0 G [.ref x, .int k] ([wX x t im it o sv tx ac rf lf, iC G rf 8 rr]) (S := Unit) (fun r _ => r = k) (fun _ => [wX x t im it o sv tx ac rf lf, iC G rf 8 (rfI rr k)]) := by
  intro sz9
  refine start_W (by decide) (Nat.le_of_ble_eq_true rfl) (fun p9 e9 s9 m9 a9 b9 t9 c9 C => ?_)
  refine g_lv (lv' := [(0, .ref x), (1, .int k)]) rfl ?_
  refine g_iload_n (pc := 0) C dX6_refuse_0 1 rfl ?_
  refine g_bipush (pc := 1) (v := (-7)) C dX6_refuse_1 (by decide) ?_
  refine g_iconst (pc := 3) (v := (-1)) C dX6_refuse_3 (by decide) ?_
  refine g_rdSI (pc := 4) (val := bI ((-7) ≤ k ∧ k ≤ (-1))) (rest := []) C k_X6_isWithin (c_X6_isWithin l G k (-7) (-1)) ml_X6_63 rfl ⟨Nat.le_of_ble_eq_true rfl, Nat.le_of_ble_eq_true rfl⟩ rfl [] rfl rfl (Nat.le_of_ble_eq_true rfl) ⟨by decide, by decide⟩ dX6_refuse_4 ?_
  refine g_ifb_eq (pc := 7) (tgt := 21) C dX6_refuse_7 (by decide) (fun h7 => ?_) (fun h7 => ?_)
  · refine g_iload_n (pc := 21) C dX6_refuse_21 1 rfl ?_
    exact g_retIW (pc := 22) C rfl rfl () (rfl) (by rfl) (by rw [rfI, if_neg h7]) dX6_refuse_22
  · refine g_aload_n (pc := 10) C dX6_refuse_10 0 rfl ?_
    refine g_get (pc := 11) (T := TX6) (N := 9) (v := .ref rf) C ib_X6 0 rfl rfl 7 (by decide) mf_X6_47 rfl rfl rfl dX6_refuse_11 ?_
    refine g_iload_n (pc := 14) C dX6_refuse_14 1 rfl ?_
    refine g_ineg (pc := 15) (v := -k) C dX6_refuse_15 rfl ?_
    refine g_dup2 (pc := 16) C dX6_refuse_16 rfl rfl ?_
    refine g_iald (pc := 17) (v := rr (nx (-k))) C 1 rfl (nx (-k)) ((neg_ix h7).1) ⟨by exact (neg_ix h7).2, by decide⟩ (rfl) dX6_refuse_17 ?_
    refine g_iconst (pc := 18) (v := 1) C dX6_refuse_18 (by decide) ?_
    refine g_iadd (pc := 19) C dX6_refuse_19 ?_
    refine g_iast (pc := 20) (ws' := [wX x t im it o sv tx ac rf lf, iC G rf 8 (upd rr (nx (-k)) ((rr (nx (-k))) + 1))]) C rfl 1 rfl (nx (-k)) ((neg_ix h7).1) ⟨by exact (neg_ix h7).2, by decide⟩ dX6_refuse_20 rfl ?_
    refine g_iload_n (pc := 21) C dX6_refuse_21 1 rfl ?_
    exact g_retIW (pc := 22) C rfl rfl () (rfl) (by rfl) (by rw [rfI, if_pos h7]) dX6_refuse_22
set_option maxRecDepth 20000 in
set_option maxHeartbeats 4000000 in
theorem c_X6_refuseFarBelow (l : Launch) (G : gT) (x : Nat) (t : Nat) (im : Nat) (it : Int32) (o : Nat) (sv : Nat) (tx : Nat) (ac : Nat) (rf : Nat) (lf : Int32) (rr : Nat → Int32) (k : Int32) : WI l yX6_refuseFarBelow cX6_refuseFarBelow 2 (some .int) 2 0 0 G [.ref x, .int k] ([wX x t im it o sv tx ac rf lf, iC G rf 8 rr]) (S := Unit) (fun r _ => r = -10000 + k) (fun _ => [wX x t im it o sv tx ac rf lf, iC G rf 8 (rfI rr k)]) := by
  intro sz9
  refine start_W (by decide) (Nat.le_of_ble_eq_true rfl) (fun p9 e9 s9 m9 a9 b9 t9 c9 C => ?_)
  refine g_lv (lv' := [(0, .ref x), (1, .int k)]) rfl ?_
  refine g_sipush (pc := 0) (v := (-10000)) C dX6_refuseFarBelow_0 (by decide) ?_
  refine g_aload_n (pc := 3) C dX6_refuseFarBelow_3 0 rfl ?_
  refine g_iload_n (pc := 4) C dX6_refuseFarBelow_4 1 rfl ?_
  refine g_wrVI (pc := 5) (rest := [.int (-10000)]) (wr := []) C (fun _ => [wX x t im it o sv tx ac rf lf, iC G rf 8 (rfI rr k)]) rfl k_X6_refuse (c_X6_refuse l G x t im it o sv tx ac rf lf rr k) ml_X6_59 rfl ⟨Nat.le_of_ble_eq_true rfl, Nat.le_of_ble_eq_true rfl⟩ rfl [0, 1] [] [0, 1] rfl (by decide) rfl (by decide) (by decide) (by decide) (fun _ => rfl) 0 rfl rfl rfl rfl (Nat.le_of_ble_eq_true rfl) ⟨by decide, by decide⟩ dX6_refuseFarBelow_5 (fun r5 _ e5 => ?_)
  subst e5
  refine g_iadd (pc := 8) C dX6_refuseFarBelow_8 ?_
  exact g_retIW (pc := 9) C rfl rfl () (rfl) (by rfl) (by rfl) dX6_refuseFarBelow_9
set_option maxRecDepth 20000 in
set_option maxHeartbeats 4000000 in
theorem c_X6_refuseBelowNone (l : Launch) (G : gT) (x : Nat) (t : Nat) (im : Nat) (it : Int32) (o : Nat) (sv : Nat) (tx : Nat) (ac : Nat) (rf : Nat) (lf : Int32) (rr : Nat → Int32) (k : Int32) : WI l yX6_refuseBelowNone cX6_refuseBelowNone 2 (some .int) 2 0 0 G [.ref x, .int k] ([wX x t im it o sv tx ac rf lf, iC G rf 8 rr]) (S := Unit) (fun r _ => r = -10 + k) (fun _ => [wX x t im it o sv tx ac rf lf, iC G rf 8 (rfI rr k)]) := by
  intro sz9
  refine start_W (by decide) (Nat.le_of_ble_eq_true rfl) (fun p9 e9 s9 m9 a9 b9 t9 c9 C => ?_)
  refine g_lv (lv' := [(0, .ref x), (1, .int k)]) rfl ?_
  refine g_bipush (pc := 0) (v := (-10)) C dX6_refuseBelowNone_0 (by decide) ?_
  refine g_aload_n (pc := 2) C dX6_refuseBelowNone_2 0 rfl ?_
  refine g_iload_n (pc := 3) C dX6_refuseBelowNone_3 1 rfl ?_
  refine g_wrVI (pc := 4) (rest := [.int (-10)]) (wr := []) C (fun _ => [wX x t im it o sv tx ac rf lf, iC G rf 8 (rfI rr k)]) rfl k_X6_refuse (c_X6_refuse l G x t im it o sv tx ac rf lf rr k) ml_X6_59 rfl ⟨Nat.le_of_ble_eq_true rfl, Nat.le_of_ble_eq_true rfl⟩ rfl [0, 1] [] [0, 1] rfl (by decide) rfl (by decide) (by decide) (by decide) (fun _ => rfl) 0 rfl rfl rfl rfl (Nat.le_of_ble_eq_true rfl) ⟨by decide, by decide⟩ dX6_refuseBelowNone_4 (fun r4 _ e4 => ?_)
  subst e4
  refine g_iadd (pc := 7) C dX6_refuseBelowNone_7 ?_
  exact g_retIW (pc := 8) C rfl rfl () (rfl) (by rfl) (by rfl) dX6_refuseBelowNone_8
set_option maxRecDepth 20000 in
set_option maxHeartbeats 4000000 in
theorem c_X6_row (l : Launch) (G : gT) (x : Nat) (t : Nat) (im : Nat) (it : Int32) (o : Nat) (sv : Nat) (tx : Nat) (ac : Nat) (rf : Nat) (lf : Int32) (sa : Nat) (sb : Nat) (sc : Nat) (hd : Nat → Int32) (sz : Nat → Int32) (el : Nat → Int64) (s : Int32) (k : Int32) (n : Int32) (rr : Nat → Int32) : WI l yX6_row cX6_row 4 (some .int) 3 0 0 G [.ref x, .int s, .int k, .int n] ([wX x t im it o sv tx ac rf lf] ++ (wS G sv sa sb sc hd sz el ++ ([iC G rf 8 rr]))) (S := Unit) (fun r _ => r = if rcRow s k n = 0 then 1 else (rcRow s k n)) (fun _ => [wX x t im it o sv tx ac rf lf] ++ (wS G sv sa sb sc (if rcRow s k n = 0 then upd hd (nx s) (100 + k) else hd) (if rcRow s k n = 0 then upd sz (nx s) n else sz) (if rcRow s k n = 0 then clr el (nx s) (nx n) else el) ++ ([iC G rf 8 (rfI rr (rcRow s k n))]))) := by
  intro sz9
  refine start_W (by decide) (Nat.le_of_ble_eq_true rfl) (fun p9 e9 s9 m9 a9 b9 t9 c9 C => ?_)
  refine g_lv (lv' := [(0, .ref x), (1, .int s), (2, .int k), (3, .int n)]) rfl ?_
  refine g_iload_n (pc := 0) C dX6_row_0 1 rfl ?_
  refine g_rdSI (pc := 1) (val := bI (0 ≤ s ∧ s ≤ 7)) (rest := []) C k_X6_isShelf (c_X6_isShelf l G s) ml_X6_55 rfl ⟨Nat.le_of_ble_eq_true rfl, Nat.le_of_ble_eq_true rfl⟩ rfl [] rfl rfl (Nat.le_of_ble_eq_true rfl) ⟨by decide, by decide⟩ dX6_row_1 ?_
  refine g_ifb_ne (pc := 4) (tgt := 13) C dX6_row_4 (by decide) (fun h4 => ?_) (fun h4 => ?_)
  · obtain ⟨s8, hs8, rfl⟩ := in8_nI h4
    have es8 : nx (nI s8) = s8 := nx_nI (by omega)
    refine g_iload_n (pc := 13) C dX6_row_13 3 rfl ?_
    refine g_if_ge (pc := 14) (tgt := 24) C dX6_row_14 (by decide) (fun h14 => ?_) (fun h14 => ?_)
    · refine g_iload_n (pc := 24) C dX6_row_24 2 rfl ?_
      refine g_iconst (pc := 25) (v := 0) C dX6_row_25 (by decide) ?_
      refine g_iconst (pc := 26) (v := 3) C dX6_row_26 (by decide) ?_
      refine g_rdSI (pc := 27) (val := bI (0 ≤ k ∧ k ≤ 3)) (rest := []) C k_X6_isWithin (c_X6_isWithin l G k 0 3) ml_X6_63 rfl ⟨Nat.le_of_ble_eq_true rfl, Nat.le_of_ble_eq_true rfl⟩ rfl [] rfl rfl (Nat.le_of_ble_eq_true rfl) ⟨by decide, by decide⟩ dX6_row_27 ?_
      refine g_ifb_ne (pc := 30) (tgt := 40) C dX6_row_30 (by decide) (fun h30 => ?_) (fun h30 => ?_)
      · refine g_iload_n (pc := 40) C dX6_row_40 3 rfl ?_
        refine g_sipush (pc := 41) (v := 160) C dX6_row_41 (by decide) ?_
        refine g_icmp_le (pc := 44) (tgt := 54) C dX6_row_44 (by decide) (fun h44 => ?_) (fun h44 => ?_)
        · obtain ⟨n8, hn8, rfl⟩ := nI_of2 (M := 160) (n := 160) rfl (Int32.not_lt.mpr h14) h44
          have en8 : nx (nI n8) = n8 := nx_nI (by omega)
          refine g_aload_n (pc := 54) C dX6_row_54 0 rfl ?_
          refine g_get (pc := 55) (T := TX6) (N := 9) (v := .ref sv) C ib_X6 0 rfl rfl 4 (by decide) mf_X6_29 rfl rfl rfl dX6_row_55 ?_
          refine g_iload_n (pc := 58) C dX6_row_58 1 rfl ?_
          refine g_iload_n (pc := 59) C dX6_row_59 2 rfl ?_
          refine g_iload_n (pc := 60) C dX6_row_60 3 rfl ?_
          refine g_wrVV (pc := 61) (rest := []) (wr := [wX x t im it o sv tx ac rf lf, iC G rf 8 rr]) C (fun _ => [wX x t im it o sv tx ac rf lf] ++ (wS G sv sa sb sc (upd hd s8 (100 + k)) (upd sz s8 (nI n8)) (clr el s8 n8) ++ ([iC G rf 8 rr]))) rfl k_X2_putRow (c_X2_putRow l G sv sa sb sc hd sz el s8 k n8 (by first | assumption | omega) (by first | assumption | omega)) ml_X6_67 rfl ⟨Nat.le_of_ble_eq_true rfl, Nat.le_of_ble_eq_true rfl⟩ rfl [1, 2, 3, 4] [0, 5] [0, 2, 3, 4, 5, 1] rfl (by decide) rfl (by decide) (by decide) (by decide) (fun _ => rfl) 1 rfl rfl rfl rfl (Nat.le_of_ble_eq_true rfl) ⟨by decide, by decide⟩ dX6_row_61 (fun _ _ => ?_)
          refine g_iconst (pc := 64) (v := 1) C dX6_row_64 (by decide) ?_
          exact g_retIW (pc := 65) C rfl rfl () (rfl) (by have e9 : rcRow (nI s8) k (nI n8) = 0 := (by first | (simp [rcRow, *]; done) | (grind [rcRow])); rw [if_pos e9] <;> (rfl)) (by have e9 : rcRow (nI s8) k (nI n8) = 0 := (by first | (simp [rcRow, *]; done) | (grind [rcRow])); rw [e9, rfI_0] <;> (rw [es8, en8] <;> rfl)) dX6_row_65
        · refine g_aload_n (pc := 47) C dX6_row_47 0 rfl ?_
          refine g_bipush (pc := 48) (v := (-7)) C dX6_row_48 (by decide) ?_
          refine g_wrVI (pc := 50) (rest := []) (wr := [oC sv 2 [.ref sa, .ref sb, .ref sc], iC G sa 8 hd, iC G sb 8 sz, jC G sc 1280 el]) C (fun _ => [wX x t im it o sv tx ac rf lf] ++ (wS G sv sa sb sc hd sz el ++ ([iC G rf 8 (rfI rr (-7))]))) rfl k_X6_refuse (c_X6_refuse l G x t im it o sv tx ac rf lf rr (-7)) ml_X6_59 rfl ⟨Nat.le_of_ble_eq_true rfl, Nat.le_of_ble_eq_true rfl⟩ rfl [0, 5] [1, 2, 3, 4] [4, 0, 1, 2, 3, 5] rfl (by decide) rfl (by decide) (by decide) (by decide) (fun _ => rfl) 0 rfl rfl rfl rfl (Nat.le_of_ble_eq_true rfl) ⟨by decide, by decide⟩ dX6_row_50 (fun r50 _ e50 => ?_)
          subst e50
          exact g_retIW (pc := 53) C rfl rfl () (rfl) (by have e9 : rcRow (nI s8) k n = (-7) := (by first | (simp [rcRow, *]; done) | (grind [rcRow])); rw [if_neg (by rw [e9] <;> (first | done | decide)), e9]) (by have e9 : rcRow (nI s8) k n = (-7) := (by first | (simp [rcRow, *]; done) | (grind [rcRow])); rw [e9] <;> (first | done | rfl | (rw [if_neg (by decide)] <;> (first | done | rfl)))) dX6_row_53
      · refine g_aload_n (pc := 33) C dX6_row_33 0 rfl ?_
        refine g_bipush (pc := 34) (v := (-6)) C dX6_row_34 (by decide) ?_
        refine g_wrVI (pc := 36) (rest := []) (wr := [oC sv 2 [.ref sa, .ref sb, .ref sc], iC G sa 8 hd, iC G sb 8 sz, jC G sc 1280 el]) C (fun _ => [wX x t im it o sv tx ac rf lf] ++ (wS G sv sa sb sc hd sz el ++ ([iC G rf 8 (rfI rr (-6))]))) rfl k_X6_refuse (c_X6_refuse l G x t im it o sv tx ac rf lf rr (-6)) ml_X6_59 rfl ⟨Nat.le_of_ble_eq_true rfl, Nat.le_of_ble_eq_true rfl⟩ rfl [0, 5] [1, 2, 3, 4] [4, 0, 1, 2, 3, 5] rfl (by decide) rfl (by decide) (by decide) (by decide) (fun _ => rfl) 0 rfl rfl rfl rfl (Nat.le_of_ble_eq_true rfl) ⟨by decide, by decide⟩ dX6_row_36 (fun r36 _ e36 => ?_)
        subst e36
        exact g_retIW (pc := 39) C rfl rfl () (rfl) (by have e9 : rcRow (nI s8) k n = (-6) := (by first | (simp [rcRow, *]; done) | (grind [rcRow])); rw [if_neg (by rw [e9] <;> (first | done | decide)), e9]) (by have e9 : rcRow (nI s8) k n = (-6) := (by first | (simp [rcRow, *]; done) | (grind [rcRow])); rw [e9] <;> (first | done | rfl | (rw [if_neg (by decide)] <;> (first | done | rfl)))) dX6_row_39
    · refine g_aload_n (pc := 17) C dX6_row_17 0 rfl ?_
      refine g_bipush (pc := 18) (v := (-4)) C dX6_row_18 (by decide) ?_
      refine g_wrVI (pc := 20) (rest := []) (wr := [oC sv 2 [.ref sa, .ref sb, .ref sc], iC G sa 8 hd, iC G sb 8 sz, jC G sc 1280 el]) C (fun _ => [wX x t im it o sv tx ac rf lf] ++ (wS G sv sa sb sc hd sz el ++ ([iC G rf 8 (rfI rr (-4))]))) rfl k_X6_refuse (c_X6_refuse l G x t im it o sv tx ac rf lf rr (-4)) ml_X6_59 rfl ⟨Nat.le_of_ble_eq_true rfl, Nat.le_of_ble_eq_true rfl⟩ rfl [0, 5] [1, 2, 3, 4] [4, 0, 1, 2, 3, 5] rfl (by decide) rfl (by decide) (by decide) (by decide) (fun _ => rfl) 0 rfl rfl rfl rfl (Nat.le_of_ble_eq_true rfl) ⟨by decide, by decide⟩ dX6_row_20 (fun r20 _ e20 => ?_)
      subst e20
      exact g_retIW (pc := 23) C rfl rfl () (rfl) (by have e9 : rcRow (nI s8) k n = (-4) := (by first | (simp [rcRow, *]; done) | (grind [rcRow])); rw [if_neg (by rw [e9] <;> (first | done | decide)), e9]) (by have e9 : rcRow (nI s8) k n = (-4) := (by first | (simp [rcRow, *]; done) | (grind [rcRow])); rw [e9] <;> (first | done | rfl | (rw [if_neg (by decide)] <;> (first | done | rfl)))) dX6_row_23
  · refine g_aload_n (pc := 7) C dX6_row_7 0 rfl ?_
    refine g_iconst (pc := 8) (v := (-1)) C dX6_row_8 (by decide) ?_
    refine g_wrVI (pc := 9) (rest := []) (wr := [oC sv 2 [.ref sa, .ref sb, .ref sc], iC G sa 8 hd, iC G sb 8 sz, jC G sc 1280 el]) C (fun _ => [wX x t im it o sv tx ac rf lf] ++ (wS G sv sa sb sc hd sz el ++ ([iC G rf 8 (rfI rr (-1))]))) rfl k_X6_refuse (c_X6_refuse l G x t im it o sv tx ac rf lf rr (-1)) ml_X6_59 rfl ⟨Nat.le_of_ble_eq_true rfl, Nat.le_of_ble_eq_true rfl⟩ rfl [0, 5] [1, 2, 3, 4] [4, 0, 1, 2, 3, 5] rfl (by decide) rfl (by decide) (by decide) (by decide) (fun _ => rfl) 0 rfl rfl rfl rfl (Nat.le_of_ble_eq_true rfl) ⟨by decide, by decide⟩ dX6_row_9 (fun r9 _ e9 => ?_)
    subst e9
    exact g_retIW (pc := 12) C rfl rfl () (rfl) (by have e9 : rcRow s k n = (-1) := (by first | (simp [rcRow, *]; done) | (grind [rcRow])); rw [if_neg (by rw [e9] <;> (first | done | decide)), e9]) (by have e9 : rcRow s k n = (-1) := (by first | (simp [rcRow, *]; done) | (grind [rcRow])); rw [e9] <;> (first | done | rfl | (rw [if_neg (by decide)] <;> (first | done | rfl)))) dX6_row_12
set_option maxRecDepth 20000 in
set_option maxHeartbeats 4000000 in
theorem c_X6_yes (l : Launch) (G : gT) (x : Nat) (t : Nat) (im : Nat) (it : Int32) (o : Nat) (sv : Nat) (tx : Nat) (ac : Nat) (rf : Nat) (lf : Int32) (ta : Nat) (tb : Nat) (tc : Nat) (τ : tT) (q : Int32) (g : Int32) (n : Int32) (rr : Nat → Int32) (hT : TI τ) : WI l yX6_yes cX6_yes 4 (some .int) 3 0 0 G [.ref x, .int q, .int g, .int n] ([wX x t im it o sv tx ac rf lf] ++ (wT G t ta tb tc τ ++ ([iC G rf 8 rr]))) (S := Unit) (fun r _ => r = if rcYes τ q g n = 0 then yG τ (nx q) (nx g) n else (rcYes τ q g n)) (fun _ => [wX x t im it o sv tx ac rf lf] ++ (wT G t ta tb tc τ ++ ([iC G rf 8 (rfI rr (rcYes τ q g n))]))) := by
  have hg10 := hT.g10
  have hq8 := hT.q8
  intro sz9
  refine start_W (by decide) (Nat.le_of_ble_eq_true rfl) (fun p9 e9 s9 m9 a9 b9 t9 c9 C => ?_)
  refine g_lv (lv' := [(0, .ref x), (1, .int q), (2, .int g), (3, .int n)]) rfl ?_
  refine g_aload_n (pc := 0) C dX6_yes_0 0 rfl ?_
  refine g_get (pc := 1) (T := TX6) (N := 9) (v := .ref t) C ib_X6 0 rfl rfl 0 (by decide) mf_X6_10 rfl rfl rfl dX6_yes_1 ?_
  refine g_iload_n (pc := 4) C dX6_yes_4 1 rfl ?_
  refine g_rdVI (pc := 5) (val := bI (0 ≤ q ∧ q ≤ nI (tQ τ) - 1)) (rest := []) C k_X3_hasQuestion (c_X3_hasQuestion l G t ta tb tc τ q (by first | assumption | omega)) ml_X6_93 rfl ⟨Nat.le_of_ble_eq_true rfl, Nat.le_of_ble_eq_true rfl⟩ rfl [1, 2, 3, 4] rfl 1 rfl rfl rfl rfl (Nat.le_of_ble_eq_true rfl) ⟨by decide, by decide⟩ dX6_yes_5 ?_
  refine g_ifb_eq (pc := 8) (tgt := 22) C dX6_yes_8 (by decide) (fun h8 => ?_) (fun h8 => ?_)
  · refine g_aload_n (pc := 22) C dX6_yes_22 0 rfl ?_
    refine g_iconst (pc := 23) (v := (-1)) C dX6_yes_23 (by decide) ?_
    refine g_wrVI (pc := 24) (rest := []) (wr := [oC t 3 [.ref ta, .ref tb, .ref tc, .int (τ 8 0), .int (τ 8 1), .int (τ 8 2), .int (τ 8 3), .int (τ 8 4), .int (τ 8 5), .int (τ 8 6)], iC G ta 16 (fq τ), iC G tb 64 (τ 2), iC G tc 50 (fg τ)]) C (fun _ => [wX x t im it o sv tx ac rf lf] ++ (wT G t ta tb tc τ ++ ([iC G rf 8 (rfI rr (-1))]))) rfl k_X6_refuse (c_X6_refuse l G x t im it o sv tx ac rf lf rr (-1)) ml_X6_59 rfl ⟨Nat.le_of_ble_eq_true rfl, Nat.le_of_ble_eq_true rfl⟩ rfl [0, 5] [1, 2, 3, 4] [4, 0, 1, 2, 3, 5] rfl (by decide) rfl (by decide) (by decide) (by decide) (fun _ => rfl) 0 rfl rfl rfl rfl (Nat.le_of_ble_eq_true rfl) ⟨by decide, by decide⟩ dX6_yes_24 (fun r24 _ e24 => ?_)
    subst e24
    exact g_retIW (pc := 27) C rfl rfl () (rfl) (by have e9 : rcYes τ q g n = (-1) := (by first | (simp [rcYes, *]; done) | (grind [rcYes])); rw [if_neg (by rw [e9] <;> (first | done | decide)), e9]) (by have e9 : rcYes τ q g n = (-1) := (by first | (simp [rcYes, *]; done) | (grind [rcYes])); rw [e9] <;> (first | done | rfl | (rw [if_neg (by decide)] <;> (first | done | rfl)))) dX6_yes_27
  · obtain ⟨q8, hq8, rfl⟩ := isQ_nI hT h8
    have eq8 : nx (nI q8) = q8 := nx_nI (by omega)
    refine g_aload_n (pc := 11) C dX6_yes_11 0 rfl ?_
    refine g_get (pc := 12) (T := TX6) (N := 9) (v := .ref t) C ib_X6 0 rfl rfl 0 (by decide) mf_X6_10 rfl rfl rfl dX6_yes_12 ?_
    refine g_iload_n (pc := 15) C dX6_yes_15 2 rfl ?_
    refine g_rdVI (pc := 16) (val := bI (0 ≤ g ∧ g ≤ nI (tG τ) - 1)) (rest := []) C k_X3_hasGroup (c_X3_hasGroup l G t ta tb tc τ g (by first | assumption | omega)) ml_X6_146 rfl ⟨Nat.le_of_ble_eq_true rfl, Nat.le_of_ble_eq_true rfl⟩ rfl [1, 2, 3, 4] rfl 1 rfl rfl rfl rfl (Nat.le_of_ble_eq_true rfl) ⟨by decide, by decide⟩ dX6_yes_16 ?_
    refine g_ifb_ne (pc := 19) (tgt := 28) C dX6_yes_19 (by decide) (fun h19 => ?_) (fun h19 => ?_)
    · obtain ⟨g8, hg8, rfl⟩ := isG_nI hT h19
      have eg8 : nx (nI g8) = g8 := nx_nI (by omega)
      refine g_iload_n (pc := 28) C dX6_yes_28 3 rfl ?_
      refine g_iconst (pc := 29) (v := 0) C dX6_yes_29 (by decide) ?_
      refine g_sipush (pc := 30) (v := 999) C dX6_yes_30 (by decide) ?_
      refine g_rdSI (pc := 33) (val := bI (0 ≤ n ∧ n ≤ 999)) (rest := []) C k_X6_isWithin (c_X6_isWithin l G n 0 999) ml_X6_63 rfl ⟨Nat.le_of_ble_eq_true rfl, Nat.le_of_ble_eq_true rfl⟩ rfl [] rfl rfl (Nat.le_of_ble_eq_true rfl) ⟨by decide, by decide⟩ dX6_yes_33 ?_
      refine g_ifb_ne (pc := 36) (tgt := 46) C dX6_yes_36 (by decide) (fun h36 => ?_) (fun h36 => ?_)
      · refine g_aload_n (pc := 46) C dX6_yes_46 0 rfl ?_
        refine g_get (pc := 47) (T := TX6) (N := 9) (v := .ref t) C ib_X6 0 rfl rfl 0 (by decide) mf_X6_10 rfl rfl rfl dX6_yes_47 ?_
        refine g_iload_n (pc := 50) C dX6_yes_50 1 rfl ?_
        refine g_iload_n (pc := 51) C dX6_yes_51 2 rfl ?_
        refine g_iload_n (pc := 52) C dX6_yes_52 3 rfl ?_
        refine g_rdVI (pc := 53) (val := yG τ q8 g8 n) (rest := []) C k_X3_yesOf (c_X3_yesOf l G t ta tb tc τ q8 g8 n (by first | assumption | omega) (by first | assumption | omega)) ml_X6_200 rfl ⟨Nat.le_of_ble_eq_true rfl, Nat.le_of_ble_eq_true rfl⟩ rfl [1, 2, 3, 4] rfl 1 rfl rfl rfl rfl (Nat.le_of_ble_eq_true rfl) ⟨by decide, by decide⟩ dX6_yes_53 ?_
        exact g_retIW (pc := 56) C rfl rfl () (rfl) (by have e9 : rcYes τ (nI q8) (nI g8) n = 0 := (by first | (simp [rcYes, *]; done) | (grind [rcYes])); rw [if_pos e9] <;> (rw [eq8, eg8])) (by have e9 : rcYes τ (nI q8) (nI g8) n = 0 := (by first | (simp [rcYes, *]; done) | (grind [rcYes])); rw [e9, rfI_0] <;> (rfl)) dX6_yes_56
      · refine g_aload_n (pc := 39) C dX6_yes_39 0 rfl ?_
        refine g_bipush (pc := 40) (v := (-6)) C dX6_yes_40 (by decide) ?_
        refine g_wrVI (pc := 42) (rest := []) (wr := [oC t 3 [.ref ta, .ref tb, .ref tc, .int (τ 8 0), .int (τ 8 1), .int (τ 8 2), .int (τ 8 3), .int (τ 8 4), .int (τ 8 5), .int (τ 8 6)], iC G ta 16 (fq τ), iC G tb 64 (τ 2), iC G tc 50 (fg τ)]) C (fun _ => [wX x t im it o sv tx ac rf lf] ++ (wT G t ta tb tc τ ++ ([iC G rf 8 (rfI rr (-6))]))) rfl k_X6_refuse (c_X6_refuse l G x t im it o sv tx ac rf lf rr (-6)) ml_X6_59 rfl ⟨Nat.le_of_ble_eq_true rfl, Nat.le_of_ble_eq_true rfl⟩ rfl [0, 5] [1, 2, 3, 4] [4, 0, 1, 2, 3, 5] rfl (by decide) rfl (by decide) (by decide) (by decide) (fun _ => rfl) 0 rfl rfl rfl rfl (Nat.le_of_ble_eq_true rfl) ⟨by decide, by decide⟩ dX6_yes_42 (fun r42 _ e42 => ?_)
        subst e42
        exact g_retIW (pc := 45) C rfl rfl () (rfl) (by have e9 : rcYes τ (nI q8) (nI g8) n = (-6) := (by first | (simp [rcYes, *]; done) | (grind [rcYes])); rw [if_neg (by rw [e9] <;> (first | done | decide)), e9]) (by have e9 : rcYes τ (nI q8) (nI g8) n = (-6) := (by first | (simp [rcYes, *]; done) | (grind [rcYes])); rw [e9] <;> (first | done | rfl | (rw [if_neg (by decide)] <;> (first | done | rfl)))) dX6_yes_45
    · refine g_aload_n (pc := 22) C dX6_yes_22 0 rfl ?_
      refine g_iconst (pc := 23) (v := (-1)) C dX6_yes_23 (by decide) ?_
      refine g_wrVI (pc := 24) (rest := []) (wr := [oC t 3 [.ref ta, .ref tb, .ref tc, .int (τ 8 0), .int (τ 8 1), .int (τ 8 2), .int (τ 8 3), .int (τ 8 4), .int (τ 8 5), .int (τ 8 6)], iC G ta 16 (fq τ), iC G tb 64 (τ 2), iC G tc 50 (fg τ)]) C (fun _ => [wX x t im it o sv tx ac rf lf] ++ (wT G t ta tb tc τ ++ ([iC G rf 8 (rfI rr (-1))]))) rfl k_X6_refuse (c_X6_refuse l G x t im it o sv tx ac rf lf rr (-1)) ml_X6_59 rfl ⟨Nat.le_of_ble_eq_true rfl, Nat.le_of_ble_eq_true rfl⟩ rfl [0, 5] [1, 2, 3, 4] [4, 0, 1, 2, 3, 5] rfl (by decide) rfl (by decide) (by decide) (by decide) (fun _ => rfl) 0 rfl rfl rfl rfl (Nat.le_of_ble_eq_true rfl) ⟨by decide, by decide⟩ dX6_yes_24 (fun r24 _ e24 => ?_)
      subst e24
      exact g_retIW (pc := 27) C rfl rfl () (rfl) (by have e9 : rcYes τ (nI q8) g n = (-1) := (by first | (simp [rcYes, *]; done) | (grind [rcYes])); rw [if_neg (by rw [e9] <;> (first | done | decide)), e9]) (by have e9 : rcYes τ (nI q8) g n = (-1) := (by first | (simp [rcYes, *]; done) | (grind [rcYes])); rw [e9] <;> (first | done | rfl | (rw [if_neg (by decide)] <;> (first | done | rfl)))) dX6_yes_27
