set_option maxRecDepth 20000 in
set_option maxHeartbeats 4000000 in
theorem c_J6_bitCount_0f7a4 (l : Launch) (G : gT) (v : Int32) : RI l yJ6_bitCount_0f7a4 cJ6_bitCount_0f7a4 1 (some .int) 0 G [.int v] (([] : va_W)) (bcV v) := by
  refine start_R (by decide) (Nat.le_of_ble_eq_true rfl) (fun p9 e9 s9 m9 a9 b9 t9 c9 C => ?_)
  refine g_lv (lv' := [(0, .int v)]) rfl ?_
  refine g_iload_n (pc := 0) C dJ6_bitCount_0f7a4_0 0 rfl ?_
  refine g_iload_n (pc := 1) C dJ6_bitCount_0f7a4_1 0 rfl ?_
  refine g_iconst (pc := 2) (v := 1) C dJ6_bitCount_0f7a4_2 (by decide) ?_
  refine g_iushr (pc := 3) (v := (v.toUInt32 >>> (Int32.toUInt32 1 &&& Int32.toUInt32 31)).toInt32) C dJ6_bitCount_0f7a4_3 rfl ?_
  refine g_ldcw (pc := 4) (v := 1431655765) C mk_J6_265 dJ6_bitCount_0f7a4_4 ?_
  refine g_iand (pc := 7) C dJ6_bitCount_0f7a4_7 ?_
  refine g_isub (pc := 8) C dJ6_bitCount_0f7a4_8 ?_
  refine g_istore_n (pc := 9) (lv' := [(0, .int (v - (((v.toUInt32 >>> (Int32.toUInt32 1 &&& Int32.toUInt32 31)).toInt32) &&& 1431655765)))]) C dJ6_bitCount_0f7a4_9 rfl (by decide) rfl ?_
  refine g_iload_n (pc := 10) C dJ6_bitCount_0f7a4_10 0 rfl ?_
  refine g_ldcw (pc := 11) (v := 858993459) C mk_J6_266 dJ6_bitCount_0f7a4_11 ?_
  refine g_iand (pc := 14) C dJ6_bitCount_0f7a4_14 ?_
  refine g_iload_n (pc := 15) C dJ6_bitCount_0f7a4_15 0 rfl ?_
  refine g_iconst (pc := 16) (v := 2) C dJ6_bitCount_0f7a4_16 (by decide) ?_
  refine g_iushr (pc := 17) (v := ((v - (((v.toUInt32 >>> (Int32.toUInt32 1 &&& Int32.toUInt32 31)).toInt32) &&& 1431655765)).toUInt32 >>> (Int32.toUInt32 2 &&& Int32.toUInt32 31)).toInt32) C dJ6_bitCount_0f7a4_17 rfl ?_
  refine g_ldcw (pc := 18) (v := 858993459) C mk_J6_266 dJ6_bitCount_0f7a4_18 ?_
  refine g_iand (pc := 21) C dJ6_bitCount_0f7a4_21 ?_
  refine g_iadd (pc := 22) C dJ6_bitCount_0f7a4_22 ?_
  refine g_istore_n (pc := 23) (lv' := [(0, .int (((v - (((v.toUInt32 >>> (Int32.toUInt32 1 &&& Int32.toUInt32 31)).toInt32) &&& 1431655765)) &&& 858993459) + ((((v - (((v.toUInt32 >>> (Int32.toUInt32 1 &&& Int32.toUInt32 31)).toInt32) &&& 1431655765)).toUInt32 >>> (Int32.toUInt32 2 &&& Int32.toUInt32 31)).toInt32) &&& 858993459)))]) C dJ6_bitCount_0f7a4_23 rfl (by decide) rfl ?_
  refine g_iload_n (pc := 24) C dJ6_bitCount_0f7a4_24 0 rfl ?_
  refine g_iload_n (pc := 25) C dJ6_bitCount_0f7a4_25 0 rfl ?_
  refine g_iconst (pc := 26) (v := 4) C dJ6_bitCount_0f7a4_26 (by decide) ?_
  refine g_iushr (pc := 27) (v := ((((v - (((v.toUInt32 >>> (Int32.toUInt32 1 &&& Int32.toUInt32 31)).toInt32) &&& 1431655765)) &&& 858993459) + ((((v - (((v.toUInt32 >>> (Int32.toUInt32 1 &&& Int32.toUInt32 31)).toInt32) &&& 1431655765)).toUInt32 >>> (Int32.toUInt32 2 &&& Int32.toUInt32 31)).toInt32) &&& 858993459)).toUInt32 >>> (Int32.toUInt32 4 &&& Int32.toUInt32 31)).toInt32) C dJ6_bitCount_0f7a4_27 rfl ?_
  refine g_iadd (pc := 28) C dJ6_bitCount_0f7a4_28 ?_
  refine g_ldcw (pc := 29) (v := 252645135) C mk_J6_267 dJ6_bitCount_0f7a4_29 ?_
  refine g_iand (pc := 32) C dJ6_bitCount_0f7a4_32 ?_
  refine g_istore_n (pc := 33) (lv' := [(0, .int (((((v - (((v.toUInt32 >>> (Int32.toUInt32 1 &&& Int32.toUInt32 31)).toInt32) &&& 1431655765)) &&& 858993459) + ((((v - (((v.toUInt32 >>> (Int32.toUInt32 1 &&& Int32.toUInt32 31)).toInt32) &&& 1431655765)).toUInt32 >>> (Int32.toUInt32 2 &&& Int32.toUInt32 31)).toInt32) &&& 858993459)) + (((((v - (((v.toUInt32 >>> (Int32.toUInt32 1 &&& Int32.toUInt32 31)).toInt32) &&& 1431655765)) &&& 858993459) + ((((v - (((v.toUInt32 >>> (Int32.toUInt32 1 &&& Int32.toUInt32 31)).toInt32) &&& 1431655765)).toUInt32 >>> (Int32.toUInt32 2 &&& Int32.toUInt32 31)).toInt32) &&& 858993459)).toUInt32 >>> (Int32.toUInt32 4 &&& Int32.toUInt32 31)).toInt32)) &&& 252645135))]) C dJ6_bitCount_0f7a4_33 rfl (by decide) rfl ?_
  refine g_iload_n (pc := 34) C dJ6_bitCount_0f7a4_34 0 rfl ?_
  refine g_iload_n (pc := 35) C dJ6_bitCount_0f7a4_35 0 rfl ?_
  refine g_bipush (pc := 36) (v := 8) C dJ6_bitCount_0f7a4_36 (by decide) ?_
  refine g_iushr (pc := 38) (v := ((((((v - (((v.toUInt32 >>> (Int32.toUInt32 1 &&& Int32.toUInt32 31)).toInt32) &&& 1431655765)) &&& 858993459) + ((((v - (((v.toUInt32 >>> (Int32.toUInt32 1 &&& Int32.toUInt32 31)).toInt32) &&& 1431655765)).toUInt32 >>> (Int32.toUInt32 2 &&& Int32.toUInt32 31)).toInt32) &&& 858993459)) + (((((v - (((v.toUInt32 >>> (Int32.toUInt32 1 &&& Int32.toUInt32 31)).toInt32) &&& 1431655765)) &&& 858993459) + ((((v - (((v.toUInt32 >>> (Int32.toUInt32 1 &&& Int32.toUInt32 31)).toInt32) &&& 1431655765)).toUInt32 >>> (Int32.toUInt32 2 &&& Int32.toUInt32 31)).toInt32) &&& 858993459)).toUInt32 >>> (Int32.toUInt32 4 &&& Int32.toUInt32 31)).toInt32)) &&& 252645135).toUInt32 >>> (Int32.toUInt32 8 &&& Int32.toUInt32 31)).toInt32) C dJ6_bitCount_0f7a4_38 rfl ?_
  refine g_iadd (pc := 39) C dJ6_bitCount_0f7a4_39 ?_
  refine g_istore_n (pc := 40) (lv' := [(0, .int ((((((v - (((v.toUInt32 >>> (Int32.toUInt32 1 &&& Int32.toUInt32 31)).toInt32) &&& 1431655765)) &&& 858993459) + ((((v - (((v.toUInt32 >>> (Int32.toUInt32 1 &&& Int32.toUInt32 31)).toInt32) &&& 1431655765)).toUInt32 >>> (Int32.toUInt32 2 &&& Int32.toUInt32 31)).toInt32) &&& 858993459)) + (((((v - (((v.toUInt32 >>> (Int32.toUInt32 1 &&& Int32.toUInt32 31)).toInt32) &&& 1431655765)) &&& 858993459) + ((((v - (((v.toUInt32 >>> (Int32.toUInt32 1 &&& Int32.toUInt32 31)).toInt32) &&& 1431655765)).toUInt32 >>> (Int32.toUInt32 2 &&& Int32.toUInt32 31)).toInt32) &&& 858993459)).toUInt32 >>> (Int32.toUInt32 4 &&& Int32.toUInt32 31)).toInt32)) &&& 252645135) + (((((((v - (((v.toUInt32 >>> (Int32.toUInt32 1 &&& Int32.toUInt32 31)).toInt32) &&& 1431655765)) &&& 858993459) + ((((v - (((v.toUInt32 >>> (Int32.toUInt32 1 &&& Int32.toUInt32 31)).toInt32) &&& 1431655765)).toUInt32 >>> (Int32.toUInt32 2 &&& Int32.toUInt32 31)).toInt32) &&& 858993459)) + (((((v - (((v.toUInt32 >>> (Int32.toUInt32 1 &&& Int32.toUInt32 31)).toInt32) &&& 1431655765)) &&& 858993459) + ((((v - (((v.toUInt32 >>> (Int32.toUInt32 1 &&& Int32.toUInt32 31)).toInt32) &&& 1431655765)).toUInt32 >>> (Int32.toUInt32 2 &&& Int32.toUInt32 31)).toInt32) &&& 858993459)).toUInt32 >>> (Int32.toUInt32 4 &&& Int32.toUInt32 31)).toInt32)) &&& 252645135).toUInt32 >>> (Int32.toUInt32 8 &&& Int32.toUInt32 31)).toInt32)))]) C dJ6_bitCount_0f7a4_40 rfl (by decide) rfl ?_
  refine g_iload_n (pc := 41) C dJ6_bitCount_0f7a4_41 0 rfl ?_
  refine g_iload_n (pc := 42) C dJ6_bitCount_0f7a4_42 0 rfl ?_
  refine g_bipush (pc := 43) (v := 16) C dJ6_bitCount_0f7a4_43 (by decide) ?_
  refine g_iushr (pc := 45) (v := (((((((v - (((v.toUInt32 >>> (Int32.toUInt32 1 &&& Int32.toUInt32 31)).toInt32) &&& 1431655765)) &&& 858993459) + ((((v - (((v.toUInt32 >>> (Int32.toUInt32 1 &&& Int32.toUInt32 31)).toInt32) &&& 1431655765)).toUInt32 >>> (Int32.toUInt32 2 &&& Int32.toUInt32 31)).toInt32) &&& 858993459)) + (((((v - (((v.toUInt32 >>> (Int32.toUInt32 1 &&& Int32.toUInt32 31)).toInt32) &&& 1431655765)) &&& 858993459) + ((((v - (((v.toUInt32 >>> (Int32.toUInt32 1 &&& Int32.toUInt32 31)).toInt32) &&& 1431655765)).toUInt32 >>> (Int32.toUInt32 2 &&& Int32.toUInt32 31)).toInt32) &&& 858993459)).toUInt32 >>> (Int32.toUInt32 4 &&& Int32.toUInt32 31)).toInt32)) &&& 252645135) + (((((((v - (((v.toUInt32 >>> (Int32.toUInt32 1 &&& Int32.toUInt32 31)).toInt32) &&& 1431655765)) &&& 858993459) + ((((v - (((v.toUInt32 >>> (Int32.toUInt32 1 &&& Int32.toUInt32 31)).toInt32) &&& 1431655765)).toUInt32 >>> (Int32.toUInt32 2 &&& Int32.toUInt32 31)).toInt32) &&& 858993459)) + (((((v - (((v.toUInt32 >>> (Int32.toUInt32 1 &&& Int32.toUInt32 31)).toInt32) &&& 1431655765)) &&& 858993459) + ((((v - (((v.toUInt32 >>> (Int32.toUInt32 1 &&& Int32.toUInt32 31)).toInt32) &&& 1431655765)).toUInt32 >>> (Int32.toUInt32 2 &&& Int32.toUInt32 31)).toInt32) &&& 858993459)).toUInt32 >>> (Int32.toUInt32 4 &&& Int32.toUInt32 31)).toInt32)) &&& 252645135).toUInt32 >>> (Int32.toUInt32 8 &&& Int32.toUInt32 31)).toInt32)).toUInt32 >>> (Int32.toUInt32 16 &&& Int32.toUInt32 31)).toInt32) C dJ6_bitCount_0f7a4_45 rfl ?_
  refine g_iadd (pc := 46) C dJ6_bitCount_0f7a4_46 ?_
  refine g_istore_n (pc := 47) (lv' := [(0, .int (((((((v - (((v.toUInt32 >>> (Int32.toUInt32 1 &&& Int32.toUInt32 31)).toInt32) &&& 1431655765)) &&& 858993459) + ((((v - (((v.toUInt32 >>> (Int32.toUInt32 1 &&& Int32.toUInt32 31)).toInt32) &&& 1431655765)).toUInt32 >>> (Int32.toUInt32 2 &&& Int32.toUInt32 31)).toInt32) &&& 858993459)) + (((((v - (((v.toUInt32 >>> (Int32.toUInt32 1 &&& Int32.toUInt32 31)).toInt32) &&& 1431655765)) &&& 858993459) + ((((v - (((v.toUInt32 >>> (Int32.toUInt32 1 &&& Int32.toUInt32 31)).toInt32) &&& 1431655765)).toUInt32 >>> (Int32.toUInt32 2 &&& Int32.toUInt32 31)).toInt32) &&& 858993459)).toUInt32 >>> (Int32.toUInt32 4 &&& Int32.toUInt32 31)).toInt32)) &&& 252645135) + (((((((v - (((v.toUInt32 >>> (Int32.toUInt32 1 &&& Int32.toUInt32 31)).toInt32) &&& 1431655765)) &&& 858993459) + ((((v - (((v.toUInt32 >>> (Int32.toUInt32 1 &&& Int32.toUInt32 31)).toInt32) &&& 1431655765)).toUInt32 >>> (Int32.toUInt32 2 &&& Int32.toUInt32 31)).toInt32) &&& 858993459)) + (((((v - (((v.toUInt32 >>> (Int32.toUInt32 1 &&& Int32.toUInt32 31)).toInt32) &&& 1431655765)) &&& 858993459) + ((((v - (((v.toUInt32 >>> (Int32.toUInt32 1 &&& Int32.toUInt32 31)).toInt32) &&& 1431655765)).toUInt32 >>> (Int32.toUInt32 2 &&& Int32.toUInt32 31)).toInt32) &&& 858993459)).toUInt32 >>> (Int32.toUInt32 4 &&& Int32.toUInt32 31)).toInt32)) &&& 252645135).toUInt32 >>> (Int32.toUInt32 8 &&& Int32.toUInt32 31)).toInt32)) + ((((((((v - (((v.toUInt32 >>> (Int32.toUInt32 1 &&& Int32.toUInt32 31)).toInt32) &&& 1431655765)) &&& 858993459) + ((((v - (((v.toUInt32 >>> (Int32.toUInt32 1 &&& Int32.toUInt32 31)).toInt32) &&& 1431655765)).toUInt32 >>> (Int32.toUInt32 2 &&& Int32.toUInt32 31)).toInt32) &&& 858993459)) + (((((v - (((v.toUInt32 >>> (Int32.toUInt32 1 &&& Int32.toUInt32 31)).toInt32) &&& 1431655765)) &&& 858993459) + ((((v - (((v.toUInt32 >>> (Int32.toUInt32 1 &&& Int32.toUInt32 31)).toInt32) &&& 1431655765)).toUInt32 >>> (Int32.toUInt32 2 &&& Int32.toUInt32 31)).toInt32) &&& 858993459)).toUInt32 >>> (Int32.toUInt32 4 &&& Int32.toUInt32 31)).toInt32)) &&& 252645135) + (((((((v - (((v.toUInt32 >>> (Int32.toUInt32 1 &&& Int32.toUInt32 31)).toInt32) &&& 1431655765)) &&& 858993459) + ((((v - (((v.toUInt32 >>> (Int32.toUInt32 1 &&& Int32.toUInt32 31)).toInt32) &&& 1431655765)).toUInt32 >>> (Int32.toUInt32 2 &&& Int32.toUInt32 31)).toInt32) &&& 858993459)) + (((((v - (((v.toUInt32 >>> (Int32.toUInt32 1 &&& Int32.toUInt32 31)).toInt32) &&& 1431655765)) &&& 858993459) + ((((v - (((v.toUInt32 >>> (Int32.toUInt32 1 &&& Int32.toUInt32 31)).toInt32) &&& 1431655765)).toUInt32 >>> (Int32.toUInt32 2 &&& Int32.toUInt32 31)).toInt32) &&& 858993459)).toUInt32 >>> (Int32.toUInt32 4 &&& Int32.toUInt32 31)).toInt32)) &&& 252645135).toUInt32 >>> (Int32.toUInt32 8 &&& Int32.toUInt32 31)).toInt32)).toUInt32 >>> (Int32.toUInt32 16 &&& Int32.toUInt32 31)).toInt32)))]) C dJ6_bitCount_0f7a4_47 rfl (by decide) rfl ?_
  refine g_iload_n (pc := 48) C dJ6_bitCount_0f7a4_48 0 rfl ?_
  refine g_bipush (pc := 49) (v := 63) C dJ6_bitCount_0f7a4_49 (by decide) ?_
  refine g_iand (pc := 51) C dJ6_bitCount_0f7a4_51 ?_
  exact g_retIR (pc := 52) C (rfl) (by rfl) dJ6_bitCount_0f7a4_52
set_option maxRecDepth 20000 in
set_option maxHeartbeats 4000000 in
theorem c_X1_leastOf (l : Launch) (G : gT) (ho : Nat) (ao : Nat) (bo : Nat) (sh : Nat → Int32) (lr : Nat → Int32) (h : Nat) (a : Nat) (b : Nat) (c : Nat) (τ : tT) (S : Nat) (R : Nat) (hT : TI τ) (hS2 : S < 2 ^ tQ τ) (hR2 : R < 2 ^ tQ τ) (hRs : sub8 R S) (hR0 : R ≠ 0) (hsh : shOK τ sh) (hlr : lrOK τ S R lr) : RI l yX1_leastOf cX1_leastOf 6 (some .int) 3 G [.ref ho, .ref h, .int (nI S), .int (nI R)] (wO G ho ao bo sh lr ++ (wT G h a b c τ)) (nI ((BS τ S R).1)) := by
  have hg10 := hT.g10
  have hq8 := hT.q8
  have hp8 := p28 hT.q8
  have hS8 : S < 256 := Nat.lt_of_lt_of_le hS2 hp8
  have hR8 : R < 256 := Nat.lt_of_lt_of_le hR2 hp8
  refine start_R (by decide) (Nat.le_of_ble_eq_true rfl) (fun p9 e9 s9 m9 a9 b9 t9 c9 C => ?_)
  refine g_lv (lv' := [(0, .ref ho), (1, .ref h), (2, .int (nI S)), (3, .int (nI R))]) rfl ?_
  refine g_ldc (pc := 0) (v := 1000000) C mk_X1_35 dX1_leastOf_0 ?_
  refine g_istore (pc := 2) (lv' := [(4, .int 1000000), (0, .ref ho), (1, .ref h), (2, .int (nI S)), (3, .int (nI R))]) C dX1_leastOf_2 (by decide) rfl ?_
  refine g_iconst (pc := 4) (v := 0) C dX1_leastOf_4 (by decide) ?_
  refine g_istore (pc := 5) (lv' := [(5, .int 0), (4, .int 1000000), (0, .ref ho), (1, .ref h), (2, .int (nI S)), (3, .int (nI R))]) C dX1_leastOf_5 (by decide) rfl ?_
  have key_7 : ∀ (n7 : Nat) (i : Nat) (hi : i ≤ tQ τ), tQ τ - i < n7 → GW p9 l e9 (rmh 3 0 0) s9 m9 a9 b9 t9 c9 (MQ b9 (QcI (nI ((BS τ S R).1))) a9 s9 0 0 NoA) G NoA false 6 0 0 (wO G ho ao bo sh lr ++ (wT G h a b c τ)) [(0, .ref ho), (1, .ref h), (2, .int (nI S)), (3, .int (nI R)), (4, .int (nI (lsN τ S R i))), (5, .int (nI i))] 7 [] := by
    intro n7
    induction n7 with
    | zero => intro i hi hn7; exact absurd hn7 (Nat.not_lt_zero _)
    | succ n7 ih7 =>
      intro i hi hn7
      refine g_iload (pc := 7) C dX1_leastOf_7 5 rfl ?_
      refine g_aload_n (pc := 9) C dX1_leastOf_9 1 rfl ?_
      refine g_get (pc := 10) (T := TX3) (N := 10) (v := .int (τ 8 0)) C ib_X3 3 rfl rfl 3 (by decide) mf_X1_18 rfl rfl rfl dX1_leastOf_10 ?_
      refine g_top (z := nI (tQ τ)) (hT.q) ?_
      refine g_icmpN_ge (pc := 13) (i := i) (j := tQ τ) (tgt := 47) C dX1_leastOf_13 (by decide) ⟨by omega, by omega⟩ (fun h13 => ?_) (fun h13 => ?_)
      · refine g_iload (pc := 47) C dX1_leastOf_47 4 rfl ?_
        exact g_retIR (pc := 49) C (rfl) (by rw [show i = tQ τ from by omega, lsN_end τ hS8 hR8 hRs hR0 hq8 hR2]) dX1_leastOf_49
      · refine g_iload_n (pc := 16) C dX1_leastOf_16 3 rfl ?_
        refine g_iload (pc := 17) C dX1_leastOf_17 5 rfl ?_
        refine g_rdSNI (pc := 19) (val := bI (¬ (nI R) &&& (1 <<< ((nI i) &&& 31)) = 0)) (rest := []) C k_X6_contains (c_X6_contains l G (nI R) (nI i)) (List.mem_of_getElem? (i := 13) rfl) rfl ⟨Nat.le_of_ble_eq_true rfl, Nat.le_of_ble_eq_true rfl⟩ rfl [] rfl rfl (Nat.le_of_ble_eq_true rfl) ⟨by decide, by decide⟩ dX1_leastOf_19 ?_
        refine g_ifb_eq (pc := 22) (tgt := 41) C dX1_leastOf_22 (by decide) (fun h22 => ?_) (fun h22 => ?_)
        · refine g_iinc (pc := 41) (v := nI (i + 1)) (lv' := [(5, .int (nI (i + 1))), (0, .ref ho), (1, .ref h), (2, .int (nI S)), (3, .int (nI R)), (4, .int (nI (lsN τ S R i)))]) C dX1_leastOf_41 5 rfl (nI_1 i) (by decide) rfl ?_
          refine g_goto (pc := 44) (tgt := 7) C dX1_leastOf_44 (by decide) ?_
          refine g_sub (lv' := [(0, .ref ho), (1, .ref h), (2, .int (nI S)), (3, .int (nI R)), (4, .int (nI (lsN τ S R i))), (5, .int (nI (i + 1)))]) [1, 2, 3, 4, 5, 0] rfl ?_
          refine g_lv (lv' := [(0, .ref ho), (1, .ref h), (2, .int (nI S)), (3, .int (nI R)), (4, .int (nI (lsN τ S R (i + 1)))), (5, .int (nI (i + 1)))]) (by rw [lsN_f τ (fun z => h22 ((bitP_nI R hR8 i (by omega)).mpr z))]) ?_
          exact ih7 (i + 1) (by first | omega | assumption) (by omega)
        · refine g_iload (pc := 25) C dX1_leastOf_25 4 rfl ?_
          refine g_aload_n (pc := 27) C dX1_leastOf_27 0 rfl ?_
          refine g_aload_n (pc := 28) C dX1_leastOf_28 1 rfl ?_
          refine g_iload_n (pc := 29) C dX1_leastOf_29 2 rfl ?_
          refine g_iload_n (pc := 30) C dX1_leastOf_30 3 rfl ?_
          refine g_iload (pc := 31) C dX1_leastOf_31 5 rfl ?_
          refine g_rdVI (pc := 33) (val := mAbs (shB τ i (sh i) ((nI S) &&& (nI R ^^^ (-1))) - sh i) + lr (clrB R i)) (rest := [.int (nI (lsN τ S R i))]) C k_X1_leansWithFirst (c_X1_leansWithFirst l G ho ao bo sh lr h a b c τ (nI S) R i (by first | omega | assumption) (by first | omega | assumption) (by first | omega | assumption)) ml_X1_40 rfl ⟨Nat.le_of_ble_eq_true rfl, Nat.le_of_ble_eq_true rfl⟩ rfl [0, 1, 2, 3, 4, 5, 6] rfl 0 rfl rfl rfl rfl (Nat.le_of_ble_eq_true rfl) ⟨by decide, by decide⟩ dX1_leastOf_33 ?_
          refine g_top (z := nI ((bsF τ S R i).1)) (ls_v hT hS2 hR8 hRs (by omega) h22 hsh hlr) ?_
          refine g_mmin (pc := 36) (v := mMin (nI (lsN τ S R i)) (nI ((bsF τ S R i).1))) C ml_X1_44 rfl ⟨Nat.le_of_ble_eq_true rfl, Nat.le_of_ble_eq_true rfl⟩ ⟨by decide, by decide⟩ rfl dX1_leastOf_36 ?_
          refine g_istore (pc := 39) (lv' := [(4, .int (mMin (nI (lsN τ S R i)) (nI ((bsF τ S R i).1)))), (0, .ref ho), (1, .ref h), (2, .int (nI S)), (3, .int (nI R)), (5, .int (nI i))]) C dX1_leastOf_39 (by decide) rfl ?_
          refine g_iinc (pc := 41) (v := nI (i + 1)) (lv' := [(5, .int (nI (i + 1))), (4, .int (mMin (nI (lsN τ S R i)) (nI ((bsF τ S R i).1)))), (0, .ref ho), (1, .ref h), (2, .int (nI S)), (3, .int (nI R))]) C dX1_leastOf_41 5 rfl (nI_1 i) (by decide) rfl ?_
          refine g_goto (pc := 44) (tgt := 7) C dX1_leastOf_44 (by decide) ?_
          refine g_sub (lv' := [(0, .ref ho), (1, .ref h), (2, .int (nI S)), (3, .int (nI R)), (4, .int (mMin (nI (lsN τ S R i)) (nI ((bsF τ S R i).1)))), (5, .int (nI (i + 1)))]) [2, 3, 4, 5, 1, 0] rfl ?_
          refine g_lv (lv' := [(0, .ref ho), (1, .ref h), (2, .int (nI S)), (3, .int (nI R)), (4, .int (nI (lsN τ S R (i + 1)))), (5, .int (nI (i + 1)))]) (by rw [lsN_t τ ((bitP_nI R hR8 i (by omega)).mp h22), ← mMin_nI (by have := lsN_le τ S R i; omega) (by have := bsF_le τ (S := S) (q := i) hR8; omega)]) ?_
          exact ih7 (i + 1) (by first | omega | assumption) (by omega)
  refine g_sub (lv' := [(0, .ref ho), (1, .ref h), (2, .int (nI S)), (3, .int (nI R)), (4, .int 1000000), (5, .int 0)]) [2, 3, 4, 5, 1, 0] rfl ?_
  refine g_lv (lv' := [(0, .ref ho), (1, .ref h), (2, .int (nI S)), (3, .int (nI R)), (4, .int (nI (lsN τ S R 0))), (5, .int (nI 0))]) (by rw [show lsN τ S R 0 = 1000000 from rfl] <;> rfl) ?_
  exact key_7 _ 0 (by first | omega | assumption) (Nat.lt_succ_self _)
set_option maxRecDepth 20000 in
set_option maxHeartbeats 4000000 in
theorem c_X1_firstOf (l : Launch) (G : gT) (ho : Nat) (ao : Nat) (bo : Nat) (sh : Nat → Int32) (lr : Nat → Int32) (h : Nat) (a : Nat) (b : Nat) (c : Nat) (τ : tT) (S : Nat) (R : Nat) (hT : TI τ) (hS2 : S < 2 ^ tQ τ) (hR2 : R < 2 ^ tQ τ) (hRs : sub8 R S) (hR0 : R ≠ 0) (hsh : shOK τ sh) (hlr : lrOK τ S (R + 1) lr) : RI l yX1_firstOf cX1_firstOf 5 (some .int) 3 G [.ref ho, .ref h, .int (nI S), .int (nI R)] (wO G ho ao bo sh lr ++ (wT G h a b c τ)) (nI (fiO τ S R)) := by
  have hg10 := hT.g10
  have hq8 := hT.q8
  have hp8 := p28 hT.q8
  have hS8 : S < 256 := Nat.lt_of_lt_of_le hS2 hp8
  have hR8 : R < 256 := Nat.lt_of_lt_of_le hR2 hp8
  have hlr2 : lrOK τ S R lr := fun k hk => hlr k (by omega)
  have hv9 : lr R = nI (BS τ S R).1 := hlr R (Nat.lt_succ_self R) hRs
  refine start_R (by decide) (Nat.le_of_ble_eq_true rfl) (fun p9 e9 s9 m9 a9 b9 t9 c9 C => ?_)
  refine g_lv (lv' := [(0, .ref ho), (1, .ref h), (2, .int (nI S)), (3, .int (nI R))]) rfl ?_
  refine g_iconst (pc := 0) (v := 0) C dX1_firstOf_0 (by decide) ?_
  refine g_istore (pc := 1) (lv' := [(4, .int 0), (0, .ref ho), (1, .ref h), (2, .int (nI S)), (3, .int (nI R))]) C dX1_firstOf_1 (by decide) rfl ?_
  have key_3 : ∀ (n3 : Nat) (i : Nat) (hi : i ≤ tQ τ) (hlt : ∀ p, p < i → R.testBit p = true → (bsF τ S R p).1 ≠ (BS τ S R).1), tQ τ - i < n3 → GW p9 l e9 (rmh 3 0 0) s9 m9 a9 b9 t9 c9 (MQ b9 (QcI (nI (fiO τ S R))) a9 s9 0 0 NoA) G NoA false 5 0 0 (wO G ho ao bo sh lr ++ (wT G h a b c τ)) [(0, .ref ho), (1, .ref h), (2, .int (nI S)), (3, .int (nI R)), (4, .int (nI i))] 3 [] := by
    intro n3
    induction n3 with
    | zero => intro i hi hlt hn3; exact absurd hn3 (Nat.not_lt_zero _)
    | succ n3 ih3 =>
      intro i hi hlt hn3
      refine g_iload (pc := 3) C dX1_firstOf_3 4 rfl ?_
      refine g_aload_n (pc := 5) C dX1_firstOf_5 1 rfl ?_
      refine g_get (pc := 6) (T := TX3) (N := 10) (v := .int (τ 8 0)) C ib_X3 3 rfl rfl 3 (by decide) mf_X1_18 rfl rfl rfl dX1_firstOf_6 ?_
      refine g_top (z := nI (tQ τ)) (hT.q) ?_
      refine g_icmpN_ge (pc := 9) (i := i) (j := tQ τ) (tgt := 48) C dX1_firstOf_9 (by decide) ⟨by omega, by omega⟩ (fun h9 => ?_) (fun h9 => ?_)
      · refine g_iconst (pc := 48) (v := (-1)) C dX1_firstOf_48 (by decide) ?_
        exact g_retIR (pc := 49) C (rfl) (by exact absurd (bs_some τ hS8 hR8 hRs hR0 hq8 hR2 (by rw [show tQ τ = i from by omega]; exact hlt)) (fun z => z)) dX1_firstOf_49
      · refine g_iload_n (pc := 12) C dX1_firstOf_12 3 rfl ?_
        refine g_iload (pc := 13) C dX1_firstOf_13 4 rfl ?_
        refine g_rdSNI (pc := 15) (val := bI (¬ (nI R) &&& (1 <<< ((nI i) &&& 31)) = 0)) (rest := []) C k_X6_contains (c_X6_contains l G (nI R) (nI i)) (List.mem_of_getElem? (i := 13) rfl) rfl ⟨Nat.le_of_ble_eq_true rfl, Nat.le_of_ble_eq_true rfl⟩ rfl [] rfl rfl (Nat.le_of_ble_eq_true rfl) ⟨by decide, by decide⟩ dX1_firstOf_15 ?_
        refine g_ifb_eq (pc := 18) (tgt := 42) C dX1_firstOf_18 (by decide) (fun h18 => ?_) (fun h18 => ?_)
        · refine g_iinc (pc := 42) (v := nI (i + 1)) (lv' := [(4, .int (nI (i + 1))), (0, .ref ho), (1, .ref h), (2, .int (nI S)), (3, .int (nI R))]) C dX1_firstOf_42 4 rfl (nI_1 i) (by decide) rfl ?_
          refine g_goto (pc := 45) (tgt := 3) C dX1_firstOf_45 (by decide) ?_
          refine g_sub (lv' := [(0, .ref ho), (1, .ref h), (2, .int (nI S)), (3, .int (nI R)), (4, .int (nI (i + 1)))]) [1, 2, 3, 4, 0] rfl ?_
          exact ih3 (i + 1) (by first | omega | assumption) (fun p hp hb => if hpi : p = i then absurd ((bitP_nI R hR8 p (by omega)).mpr hb) (by rw [hpi]; exact h18) else hlt p (by omega) hb) (by omega)
        · refine g_aload_n (pc := 21) C dX1_firstOf_21 0 rfl ?_
          refine g_aload_n (pc := 22) C dX1_firstOf_22 1 rfl ?_
          refine g_iload_n (pc := 23) C dX1_firstOf_23 2 rfl ?_
          refine g_iload_n (pc := 24) C dX1_firstOf_24 3 rfl ?_
          refine g_iload (pc := 25) C dX1_firstOf_25 4 rfl ?_
          refine g_rdVI (pc := 27) (val := mAbs (shB τ i (sh i) ((nI S) &&& (nI R ^^^ (-1))) - sh i) + lr (clrB R i)) (rest := []) C k_X1_leansWithFirst (c_X1_leansWithFirst l G ho ao bo sh lr h a b c τ (nI S) R i (by first | omega | assumption) (by first | omega | assumption) (by first | omega | assumption)) ml_X1_40 rfl ⟨Nat.le_of_ble_eq_true rfl, Nat.le_of_ble_eq_true rfl⟩ rfl [0, 1, 2, 3, 4, 5, 6] rfl 0 rfl rfl rfl rfl (Nat.le_of_ble_eq_true rfl) ⟨by decide, by decide⟩ dX1_firstOf_27 ?_
          refine g_top (z := nI ((bsF τ S R i).1)) (ls_v hT hS2 hR8 hRs (by omega) h18 hsh hlr2) ?_
          refine g_aload_n (pc := 30) C dX1_firstOf_30 0 rfl ?_
          refine g_get (pc := 31) (T := TX1) (N := 2) (v := .ref bo) C ib_X1 0 rfl rfl 1 (by decide) mf_X1_15 rfl rfl rfl dX1_firstOf_31 ?_
          refine g_iload_n (pc := 34) C dX1_firstOf_34 3 rfl ?_
          refine g_iald (pc := 35) (v := lr R) C 2 rfl R (rfl) ⟨by omega, by decide⟩ (rfl) dX1_firstOf_35 ?_
          have hb8 := (BS_len τ (S := S) hR8).1
          have hb9 := bsF_le τ (S := S) (q := i) hR8
          refine g_top (z := nI ((BS τ S R).1)) (hv9) ?_
          refine g_icmpN_ne (pc := 36) (i := (bsF τ S R i).1) (j := (BS τ S R).1) (tgt := 42) C dX1_firstOf_36 (by decide) ⟨by omega, by omega⟩ (fun h36 => ?_) (fun h36 => ?_)
          · refine g_iinc (pc := 42) (v := nI (i + 1)) (lv' := [(4, .int (nI (i + 1))), (0, .ref ho), (1, .ref h), (2, .int (nI S)), (3, .int (nI R))]) C dX1_firstOf_42 4 rfl (nI_1 i) (by decide) rfl ?_
            refine g_goto (pc := 45) (tgt := 3) C dX1_firstOf_45 (by decide) ?_
            refine g_sub (lv' := [(0, .ref ho), (1, .ref h), (2, .int (nI S)), (3, .int (nI R)), (4, .int (nI (i + 1)))]) [1, 2, 3, 4, 0] rfl ?_
            exact ih3 (i + 1) (by first | omega | assumption) (fun p hp hb => if hpi : p = i then (by rw [hpi]; exact h36) else hlt p (by omega) hb) (by omega)
          · refine g_iload (pc := 39) C dX1_firstOf_39 4 rfl ?_
            exact g_retIR (pc := 41) C (rfl) (by rw [fiO_of τ (bs_hit τ hS8 hR8 hRs (by omega) ((bitP_nI R hR8 i (by omega)).mp h18) h36 hlt)]) dX1_firstOf_41
  refine g_sub (lv' := [(0, .ref ho), (1, .ref h), (2, .int (nI S)), (3, .int (nI R)), (4, .int (nI 0))]) [1, 2, 3, 4, 0] rfl ?_
  exact key_3 _ 0 (by first | omega | assumption) (fun p hp => absurd hp (Nat.not_lt_zero _)) (Nat.lt_succ_self _)
set_option maxRecDepth 20000 in
set_option maxHeartbeats 4000000 in
theorem c_X1_leansOfBest (l : Launch) (G : gT) (ho : Nat) (ao : Nat) (bo : Nat) (sh : Nat → Int32) (lr : Nat → Int32) (h : Nat) (a : Nat) (b : Nat) (c : Nat) (τ : tT) (S : Nat) (hT : TI τ) (hS2 : S < 2 ^ tQ τ) (h0 : lr 0 = 0) : WI l yX1_leansOfBest cX1_leansOfBest 4 (some .int) 4 0 0 G [.ref ho, .ref h, .int (nI S)] (wO G ho ao bo sh lr ++ (wT G h a b c τ)) (S := Unit) (fun r _ => r = nI ((BS τ S S).1)) (fun _ => wO G ho ao bo (oSh τ sh (tQ τ)) (oLr τ S lr 256) ++ (wT G h a b c τ)) := by
  have hg10 := hT.g10
  have hq8 := hT.q8
  have hp8 := p28 hT.q8
  have hS8 : S < 256 := Nat.lt_of_lt_of_le hS2 hp8
  intro sz9
  refine start_W (by decide) (Nat.le_of_ble_eq_true rfl) (fun p9 e9 s9 m9 a9 b9 t9 c9 C => ?_)
  refine g_lv (lv' := [(0, .ref ho), (1, .ref h), (2, .int (nI S))]) rfl ?_
  refine g_iconst (pc := 0) (v := 0) C dX1_leansOfBest_0 (by decide) ?_
  refine g_istore_n (pc := 1) (lv' := [(3, .int 0), (0, .ref ho), (1, .ref h), (2, .int (nI S))]) C dX1_leansOfBest_1 rfl (by decide) rfl ?_
  have key_2 : ∀ (n2 : Nat) (i : Nat) (hi : i ≤ tQ τ), tQ τ - i < n2 → GW p9 l e9 (rmh 4 0 0) s9 m9 a9 b9 t9 c9 (MQ b9 (va_Qi (fun r (_ : Unit) => r = nI ((BS τ S S).1)) (BW G (wO G ho ao bo sh lr ++ (wT G h a b c τ)) sz9 (fun _ => wO G ho ao bo (oSh τ sh (tQ τ)) (oLr τ S lr 256) ++ (wT G h a b c τ))) (va_A (wO G ho ao bo sh lr ++ (wT G h a b c τ)) sz9)) a9 s9 0 0 (va_A (wO G ho ao bo sh lr ++ (wT G h a b c τ)) sz9)) G (va_A (wO G ho ao bo sh lr ++ (wT G h a b c τ)) sz9) true 4 0 0 (wO G ho ao bo (oSh τ sh i) lr ++ (wT G h a b c τ)) [(0, .ref ho), (1, .ref h), (2, .int (nI S)), (3, .int (nI i))] 2 [] := by
    intro n2
    induction n2 with
    | zero => intro i hi hn2; exact absurd hn2 (Nat.not_lt_zero _)
    | succ n2 ih2 =>
      intro i hi hn2
      refine g_iload_n (pc := 2) C dX1_leansOfBest_2 3 rfl ?_
      refine g_aload_n (pc := 3) C dX1_leansOfBest_3 1 rfl ?_
      refine g_get (pc := 4) (T := TX3) (N := 10) (v := .int (τ 8 0)) C ib_X3 3 rfl rfl 3 (by decide) mf_X1_18 rfl rfl rfl dX1_leansOfBest_4 ?_
      refine g_top (z := nI (tQ τ)) (hT.q) ?_
      refine g_icmpN_ge (pc := 7) (i := i) (j := tQ τ) (tgt := 30) C dX1_leansOfBest_7 (by decide) ⟨by omega, by omega⟩ (fun h7 => ?_) (fun h7 => ?_)
      · refine g_iconst (pc := 30) (v := 1) C dX1_leansOfBest_30 (by decide) ?_
        refine g_istore_n (pc := 31) (lv' := [(3, .int 1), (0, .ref ho), (1, .ref h), (2, .int (nI S))]) C dX1_leansOfBest_31 rfl (by decide) rfl ?_
        have key_32 : ∀ (n32 : Nat) (k : Nat) (hk : k ≤ 256) (hk1 : 1 ≤ k), 256 - k < n32 → GW p9 l e9 (rmh 4 0 0) s9 m9 a9 b9 t9 c9 (MQ b9 (va_Qi (fun r (_ : Unit) => r = nI ((BS τ S S).1)) (BW G (wO G ho ao bo sh lr ++ (wT G h a b c τ)) sz9 (fun _ => wO G ho ao bo (oSh τ sh (tQ τ)) (oLr τ S lr 256) ++ (wT G h a b c τ))) (va_A (wO G ho ao bo sh lr ++ (wT G h a b c τ)) sz9)) a9 s9 0 0 (va_A (wO G ho ao bo sh lr ++ (wT G h a b c τ)) sz9)) G (va_A (wO G ho ao bo sh lr ++ (wT G h a b c τ)) sz9) true 4 0 0 (wO G ho ao bo (oSh τ sh (tQ τ)) (oLr τ S lr k) ++ (wT G h a b c τ)) [(0, .ref ho), (1, .ref h), (2, .int (nI S)), (3, .int (nI k))] 32 [] := by
          intro n32
          induction n32 with
          | zero => intro k hk hk1 hn32; exact absurd hn32 (Nat.not_lt_zero _)
          | succ n32 ih32 =>
            intro k hk hk1 hn32
            refine g_iload_n (pc := 32) C dX1_leansOfBest_32 3 rfl ?_
            refine g_aload_n (pc := 33) C dX1_leansOfBest_33 0 rfl ?_
            refine g_get (pc := 34) (T := TX1) (N := 2) (v := .ref bo) C ib_X1 0 rfl rfl 1 (by decide) mf_X1_15 rfl rfl rfl dX1_leansOfBest_34 ?_
            refine g_alen (pc := 37) C 2 rfl dX1_leansOfBest_37 ?_
            refine g_icmpN_ge (pc := 38) (i := k) (j := 256) (tgt := 68) C dX1_leansOfBest_38 (by decide) ⟨by omega, by omega⟩ (fun h38 => ?_) (fun h38 => ?_)
            · refine g_aload_n (pc := 68) C dX1_leansOfBest_68 0 rfl ?_
              refine g_get (pc := 69) (T := TX1) (N := 2) (v := .ref bo) C ib_X1 0 rfl rfl 1 (by decide) mf_X1_15 rfl rfl rfl dX1_leansOfBest_69 ?_
              refine g_iload_n (pc := 72) C dX1_leansOfBest_72 2 rfl ?_
              refine g_iald (pc := 73) (v := (oLr τ S lr k) S) C 2 rfl S (rfl) ⟨by omega, by decide⟩ (rfl) dX1_leansOfBest_73 ?_
              exact g_retIW (pc := 74) C rfl rfl () (rfl) (by rw [show k = 256 from by omega, oLr_ok τ hS8 h0 (i := 256) (by omega) S (by omega) (sub_self8 S)]) (by rw [show k = 256 from by omega]) dX1_leansOfBest_74
            · refine g_iload_n (pc := 41) C dX1_leansOfBest_41 3 rfl ?_
              refine g_iload_n (pc := 42) C dX1_leansOfBest_42 2 rfl ?_
              refine g_iconst (pc := 43) (v := (-1)) C dX1_leansOfBest_43 (by decide) ?_
              refine g_ixor (pc := 44) C dX1_leansOfBest_44 ?_
              refine g_iand (pc := 45) C dX1_leansOfBest_45 ?_
              refine g_if_ne (pc := 46) (tgt := 62) C dX1_leansOfBest_46 (by decide) (fun h46 => ?_) (fun h46 => ?_)
              · refine g_iinc (pc := 62) (v := nI (k + 1)) (lv' := [(3, .int (nI (k + 1))), (0, .ref ho), (1, .ref h), (2, .int (nI S))]) C dX1_leansOfBest_62 3 rfl (nI_1 k) (by decide) rfl ?_
                refine g_goto (pc := 65) (tgt := 32) C dX1_leansOfBest_65 (by decide) ?_
                refine g_ws (ws' := wO G ho ao bo (oSh τ sh (tQ τ)) (oLr τ S lr (k + 1)) ++ (wT G h a b c τ)) (by rw [← oLr_f τ lr (fun z => h46 ((sub_iff (by omega) hS8).mpr ((dif_0 (by omega) hS8).mp z)))]) ?_
                refine g_sub (lv' := [(0, .ref ho), (1, .ref h), (2, .int (nI S)), (3, .int (nI (k + 1)))]) [1, 2, 3, 0] rfl ?_
                exact ih32 (k + 1) (by first | omega | assumption) (by first | omega | assumption) (by omega)
              · refine g_aload_n (pc := 49) C dX1_leansOfBest_49 0 rfl ?_
                refine g_get (pc := 50) (T := TX1) (N := 2) (v := .ref bo) C ib_X1 0 rfl rfl 1 (by decide) mf_X1_15 rfl rfl rfl dX1_leansOfBest_50 ?_
                refine g_iload_n (pc := 53) C dX1_leansOfBest_53 3 rfl ?_
                refine g_aload_n (pc := 54) C dX1_leansOfBest_54 0 rfl ?_
                refine g_aload_n (pc := 55) C dX1_leansOfBest_55 1 rfl ?_
                refine g_iload_n (pc := 56) C dX1_leansOfBest_56 2 rfl ?_
                refine g_iload_n (pc := 57) C dX1_leansOfBest_57 3 rfl ?_
                refine g_rdVI (pc := 58) (val := nI ((BS τ S k).1)) (rest := [.int (nI k), .ref bo]) C k_X1_leastOf (c_X1_leastOf l G ho ao bo (oSh τ sh (tQ τ)) (oLr τ S lr k) h a b c τ S k (by first | omega | assumption) (by first | omega | assumption) (Nat.lt_of_le_of_lt (sub_le8 (by omega) ((sub_iff (by omega) hS8).mp h46)) hS2) ((sub_iff (by omega) hS8).mp h46) (by omega) (oSh_ok τ sh) (oLr_ok τ hS8 h0 (by omega))) ml_X1_28 rfl ⟨Nat.le_of_ble_eq_true rfl, Nat.le_of_ble_eq_true rfl⟩ rfl [0, 1, 2, 3, 4, 5, 6] rfl 0 rfl rfl rfl rfl (Nat.le_of_ble_eq_true rfl) ⟨by decide, by decide⟩ dX1_leansOfBest_58 ?_
                refine g_iast (pc := 61) (ws' := [oC ho 1 [.ref ao, .ref bo], iC G ao 8 (oSh τ sh (tQ τ)), iC G bo 256 (upd (oLr τ S lr k) k (nI ((BS τ S k).1)))] ++ (wT G h a b c τ)) C rfl 2 rfl k (rfl) ⟨by omega, by decide⟩ dX1_leansOfBest_61 rfl ?_
                refine g_iinc (pc := 62) (v := nI (k + 1)) (lv' := [(3, .int (nI (k + 1))), (0, .ref ho), (1, .ref h), (2, .int (nI S))]) C dX1_leansOfBest_62 3 rfl (nI_1 k) (by decide) rfl ?_
                refine g_goto (pc := 65) (tgt := 32) C dX1_leansOfBest_65 (by decide) ?_
                refine g_ws (ws' := wO G ho ao bo (oSh τ sh (tQ τ)) (oLr τ S lr (k + 1)) ++ (wT G h a b c τ)) (by rw [← oLr_s τ lr hk1 ((dif_0 (by omega) hS8).mpr ((sub_iff (by omega) hS8).mp h46))]; rfl) ?_
                refine g_sub (lv' := [(0, .ref ho), (1, .ref h), (2, .int (nI S)), (3, .int (nI (k + 1)))]) [1, 2, 3, 0] rfl ?_
                exact ih32 (k + 1) (by first | omega | assumption) (by first | omega | assumption) (by omega)
        refine g_ws (ws' := wO G ho ao bo (oSh τ sh (tQ τ)) (oLr τ S lr 1) ++ (wT G h a b c τ)) (by rw [oLr_1, show i = tQ τ from by omega]) ?_
        refine g_sub (lv' := [(0, .ref ho), (1, .ref h), (2, .int (nI S)), (3, .int (nI 1))]) [1, 2, 3, 0] rfl ?_
        exact key_32 _ 1 (by first | omega | assumption) (by first | omega | assumption) (Nat.lt_succ_self _)
      · refine g_aload_n (pc := 10) C dX1_leansOfBest_10 0 rfl ?_
        refine g_get (pc := 11) (T := TX1) (N := 2) (v := .ref ao) C ib_X1 0 rfl rfl 0 (by decide) mf_X1_9 rfl rfl rfl dX1_leansOfBest_11 ?_
        refine g_iload_n (pc := 14) C dX1_leansOfBest_14 3 rfl ?_
        refine g_aload_n (pc := 15) C dX1_leansOfBest_15 1 rfl ?_
        refine g_iload_n (pc := 16) C dX1_leansOfBest_16 3 rfl ?_
        refine g_sipush (pc := 17) (v := 1023) C dX1_leansOfBest_17 (by decide) ?_
        refine g_rdVI (pc := 20) (val := share τ i) (rest := [.int (nI i), .ref ao]) C k_X3_shareOf (c_X3_shareOf_all l G h a b c τ i (by first | omega | assumption) (by first | omega | assumption)) ml_X1_24 rfl ⟨Nat.le_of_ble_eq_true rfl, Nat.le_of_ble_eq_true rfl⟩ rfl [3, 4, 5, 6] rfl 3 rfl rfl rfl rfl (Nat.le_of_ble_eq_true rfl) ⟨by decide, by decide⟩ dX1_leansOfBest_20 ?_
        refine g_iast (pc := 23) (ws' := [oC ho 1 [.ref ao, .ref bo], iC G ao 8 (upd (oSh τ sh i) i (share τ i)), iC G bo 256 lr] ++ (wT G h a b c τ)) C rfl 1 rfl i (rfl) ⟨by omega, by decide⟩ dX1_leansOfBest_23 rfl ?_
        refine g_iinc (pc := 24) (v := nI (i + 1)) (lv' := [(3, .int (nI (i + 1))), (0, .ref ho), (1, .ref h), (2, .int (nI S))]) C dX1_leansOfBest_24 3 rfl (nI_1 i) (by decide) rfl ?_
        refine g_goto (pc := 27) (tgt := 2) C dX1_leansOfBest_27 (by decide) ?_
        refine g_ws (ws' := wO G ho ao bo (oSh τ sh (i + 1)) lr ++ (wT G h a b c τ)) (by rw [← oSh_s]; rfl) ?_
        refine g_sub (lv' := [(0, .ref ho), (1, .ref h), (2, .int (nI S)), (3, .int (nI (i + 1)))]) [1, 2, 3, 0] rfl ?_
        exact ih2 (i + 1) (by first | omega | assumption) (by omega)
  refine g_ws (ws' := wO G ho ao bo (oSh τ sh 0) lr ++ (wT G h a b c τ)) (by rw [oSh_0]) ?_
  refine g_sub (lv' := [(0, .ref ho), (1, .ref h), (2, .int (nI S)), (3, .int (nI 0))]) [1, 2, 3, 0] rfl ?_
  exact key_2 _ 0 (by first | omega | assumption) (Nat.lt_succ_self _)
set_option maxRecDepth 20000 in
set_option maxHeartbeats 4000000 in
theorem c_X1_questionOfBest (l : Launch) (G : gT) (ho : Nat) (ao : Nat) (bo : Nat) (sh : Nat → Int32) (lr : Nat → Int32) (h : Nat) (a : Nat) (b : Nat) (c : Nat) (τ : tT) (S : Nat) (n : Nat) (hT : TI τ) (hS2 : S < 2 ^ tQ τ) (hsh : shOK τ sh) (hlr : lrOK τ S (S + 1) lr) (hn : n < (memL S).length) : RI l yX1_questionOfBest cX1_questionOfBest 6 (some .int) 4 G [.ref ho, .ref h, .int (nI S), .int (nI n)] (wO G ho ao bo sh lr ++ (wT G h a b c τ)) (nI ((BS τ S S).2.getD n 0)) := by
  have hg10 := hT.g10
  have hq8 := hT.q8
  have hp8 := p28 hT.q8
  have hS8 : S < 256 := Nat.lt_of_lt_of_le hS2 hp8
  have hm8 : (memL S).length ≤ 8 := (by unfold memL; exact Nat.le_trans (List.length_filter_le _ _) (by simp))
  refine start_R (by decide) (Nat.le_of_ble_eq_true rfl) (fun p9 e9 s9 m9 a9 b9 t9 c9 C => ?_)
  refine g_lv (lv' := [(0, .ref ho), (1, .ref h), (2, .int (nI S)), (3, .int (nI n))]) rfl ?_
  refine g_iload_n (pc := 0) C dX1_questionOfBest_0 2 rfl ?_
  refine g_istore (pc := 1) (lv' := [(4, .int (nI S)), (0, .ref ho), (1, .ref h), (2, .int (nI S)), (3, .int (nI n))]) C dX1_questionOfBest_1 (by decide) rfl ?_
  refine g_iconst (pc := 3) (v := 0) C dX1_questionOfBest_3 (by decide) ?_
  refine g_istore (pc := 4) (lv' := [(5, .int 0), (4, .int (nI S)), (0, .ref ho), (1, .ref h), (2, .int (nI S)), (3, .int (nI n))]) C dX1_questionOfBest_4 (by decide) rfl ?_
  have key_6 : ∀ (n6 : Nat) (k : Nat) (R : Nat) (hk : k ≤ n) (hRs : sub8 R S) (hR2 : R < 2 ^ tQ τ) (hle : R ≤ S) (hl : (BS τ S S).2.drop k = (BS τ S R).2), n - k < n6 → GW p9 l e9 (rmh 4 0 0) s9 m9 a9 b9 t9 c9 (MQ b9 (QcI (nI ((BS τ S S).2.getD n 0))) a9 s9 0 0 NoA) G NoA false 6 0 0 (wO G ho ao bo sh lr ++ (wT G h a b c τ)) [(0, .ref ho), (1, .ref h), (2, .int (nI S)), (3, .int (nI n)), (4, .int (nI R)), (5, .int (nI k))] 6 [] := by
    intro n6
    induction n6 with
    | zero => intro k R hk hRs hR2 hle hl hn6; exact absurd hn6 (Nat.not_lt_zero _)
    | succ n6 ih6 =>
      intro k R hk hRs hR2 hle hl hn6
      have hR8 : R < 256 := Nat.lt_of_lt_of_le hR2 hp8
      have hR0 := bs_ne τ hS8 hR8 hl (by omega)
      have hf9 := bs_cons τ hS8 hR8 hRs hR0
      have hlr9 : lrOK τ S (R + 1) lr := fun z hz => hlr z (by omega)
      refine g_iload (pc := 6) C dX1_questionOfBest_6 5 rfl ?_
      refine g_iload_n (pc := 8) C dX1_questionOfBest_8 3 rfl ?_
      refine g_icmpN_ge (pc := 9) (i := k) (j := n) (tgt := 35) C dX1_questionOfBest_9 (by decide) ⟨by omega, by omega⟩ (fun h9 => ?_) (fun h9 => ?_)
      · refine g_aload_n (pc := 35) C dX1_questionOfBest_35 0 rfl ?_
        refine g_aload_n (pc := 36) C dX1_questionOfBest_36 1 rfl ?_
        refine g_iload_n (pc := 37) C dX1_questionOfBest_37 2 rfl ?_
        refine g_iload (pc := 38) C dX1_questionOfBest_38 4 rfl ?_
        refine g_rdVI (pc := 40) (val := nI (fiO τ S R)) (rest := []) C k_X1_firstOf (c_X1_firstOf l G ho ao bo sh lr h a b c τ S R (by first | omega | assumption) (by first | omega | assumption) (by first | omega | assumption) (by first | omega | assumption) (by first | omega | assumption) (by first | omega | assumption) hlr9) ml_X1_32 rfl ⟨Nat.le_of_ble_eq_true rfl, Nat.le_of_ble_eq_true rfl⟩ rfl [0, 1, 2, 3, 4, 5, 6] rfl 0 rfl rfl rfl rfl (Nat.le_of_ble_eq_true rfl) ⟨by decide, by decide⟩ dX1_questionOfBest_40 ?_
        exact g_retIR (pc := 43) C (rfl) (by rw [← bs_get τ hl, show k = n from by omega]) dX1_questionOfBest_43
      · refine g_iload (pc := 12) C dX1_questionOfBest_12 4 rfl ?_
        refine g_iconst (pc := 14) (v := 1) C dX1_questionOfBest_14 (by decide) ?_
        refine g_aload_n (pc := 15) C dX1_questionOfBest_15 0 rfl ?_
        refine g_aload_n (pc := 16) C dX1_questionOfBest_16 1 rfl ?_
        refine g_iload_n (pc := 17) C dX1_questionOfBest_17 2 rfl ?_
        refine g_iload (pc := 18) C dX1_questionOfBest_18 4 rfl ?_
        refine g_rdVI (pc := 20) (val := nI (fiO τ S R)) (rest := [.int 1, .int (nI R)]) C k_X1_firstOf (c_X1_firstOf l G ho ao bo sh lr h a b c τ S R (by first | omega | assumption) (by first | omega | assumption) (by first | omega | assumption) (by first | omega | assumption) (by first | omega | assumption) (by first | omega | assumption) hlr9) ml_X1_32 rfl ⟨Nat.le_of_ble_eq_true rfl, Nat.le_of_ble_eq_true rfl⟩ rfl [0, 1, 2, 3, 4, 5, 6] rfl 0 rfl rfl rfl rfl (Nat.le_of_ble_eq_true rfl) ⟨by decide, by decide⟩ dX1_questionOfBest_20 ?_
        refine g_ishl (pc := 23) C dX1_questionOfBest_23 ?_
        refine g_iconst (pc := 24) (v := (-1)) C dX1_questionOfBest_24 (by decide) ?_
        refine g_ixor (pc := 25) C dX1_questionOfBest_25 ?_
        refine g_iand (pc := 26) C dX1_questionOfBest_26 ?_
        refine g_top (z := nI (clrB R (fiO τ S R))) ((clrB_i R hR8 _ hf9.1).1) ?_
        refine g_istore (pc := 27) (lv' := [(4, .int (nI (clrB R (fiO τ S R)))), (0, .ref ho), (1, .ref h), (2, .int (nI S)), (3, .int (nI n)), (5, .int (nI k))]) C dX1_questionOfBest_27 (by decide) rfl ?_
        refine g_iinc (pc := 29) (v := nI (k + 1)) (lv' := [(5, .int (nI (k + 1))), (4, .int (nI (clrB R (fiO τ S R)))), (0, .ref ho), (1, .ref h), (2, .int (nI S)), (3, .int (nI n))]) C dX1_questionOfBest_29 5 rfl (nI_1 k) (by decide) rfl ?_
        refine g_goto (pc := 32) (tgt := 6) C dX1_questionOfBest_32 (by decide) ?_
        refine g_sub (lv' := [(0, .ref ho), (1, .ref h), (2, .int (nI S)), (3, .int (nI n)), (4, .int (nI (clrB R (fiO τ S R)))), (5, .int (nI (k + 1)))]) [2, 3, 4, 5, 1, 0] rfl ?_
        exact ih6 (k + 1) (clrB R (fiO τ S R)) (by first | omega | assumption) (sub_clr hR8 hf9.1 hRs) (clr_pow hR2) (Nat.le_trans (clr_le _ _) hle) (bs_drop τ hS8 hR8 hRs hR0 hl) (by omega)
  refine g_sub (lv' := [(0, .ref ho), (1, .ref h), (2, .int (nI S)), (3, .int (nI n)), (4, .int (nI S)), (5, .int (nI 0))]) [2, 3, 4, 5, 1, 0] rfl ?_
  exact key_6 _ 0 S (by first | omega | assumption) (sub_self8 S) (by first | omega | assumption) (Nat.le_refl _) rfl (Nat.lt_succ_self _)
set_option maxRecDepth 20000 in
set_option maxHeartbeats 4000000 in
theorem c_X6_order (l : Launch) (G : gT) (x : Nat) (t : Nat) (im : Nat) (it : Int32) (o : Nat) (sv : Nat) (tx : Nat) (ac : Nat) (rf : Nat) (lf : Int32) (ta : Nat) (tb : Nat) (tc : Nat) (τ : tT) (oa : Nat) (ob : Nat) (sh : Nat → Int32) (lr : Nat → Int32) (set : Int32) (i : Int32) (rr : Nat → Int32) (hT : TI τ) (h0 : lr 0 = 0) : WI l yX6_order cX6_order 5 (some .int) 10 0 0 G [.ref x, .int set, .int i] ([wX x t im it o sv tx ac rf lf] ++ (wT G t ta tb tc τ ++ (wO G o oa ob sh lr ++ ([iC G rf 8 rr])))) (S := Unit) (fun r _ => r = if rcOr τ set i = 0 then orV τ (nx set) i else (rcOr τ set i)) (fun _ => [wX x t im it o sv tx ac rf lf] ++ (wT G t ta tb tc τ ++ (wO G o oa ob (if rcOr τ set i = 0 then oSh τ sh (tQ τ) else sh) (if rcOr τ set i = 0 then oLr τ (nx set) lr 256 else lr) ++ ([iC G rf 8 (rfI rr (rcOr τ set i))])))) := by
  have hg10 := hT.g10
  have hq8 := hT.q8
  intro sz9
  refine start_W (by decide) (Nat.le_of_ble_eq_true rfl) (fun p9 e9 s9 m9 a9 b9 t9 c9 C => ?_)
  refine g_lv (lv' := [(0, .ref x), (1, .int set), (2, .int i)]) rfl ?_
  refine g_iload_n (pc := 0) C dX6_order_0 1 rfl ?_
  refine g_rdSI (pc := 1) (val := bcV set) (rest := []) C k_J6_bitCount_0f7a4 (c_J6_bitCount_0f7a4 l G set) ml_X6_225 rfl ⟨Nat.le_of_ble_eq_true rfl, Nat.le_of_ble_eq_true rfl⟩ rfl [] rfl rfl (Nat.le_of_ble_eq_true rfl) ⟨by decide, by decide⟩ dX6_order_1 ?_
  refine g_istore_n (pc := 4) (lv' := [(3, .int (bcV set)), (0, .ref x), (1, .int set), (2, .int i)]) C dX6_order_4 rfl (by decide) rfl ?_
  refine g_iload_n (pc := 5) C dX6_order_5 3 rfl ?_
  refine g_iconst (pc := 6) (v := (-1)) C dX6_order_6 (by decide) ?_
  refine g_iload_n (pc := 7) C dX6_order_7 0 rfl ?_
  refine g_iconst (pc := 8) (v := 1) C dX6_order_8 (by decide) ?_
  refine g_isub (pc := 9) C dX6_order_9 ?_
  refine g_rdSI (pc := 10) (val := bI ((-1) ≤ i ∧ i ≤ ((bcV set) - 1))) (rest := []) C k_X6_isWithin (c_X6_isWithin l G i (-1) ((bcV set) - 1)) ml_X6_63 rfl ⟨Nat.le_of_ble_eq_true rfl, Nat.le_of_ble_eq_true rfl⟩ rfl [] rfl rfl (Nat.le_of_ble_eq_true rfl) ⟨by decide, by decide⟩ dX6_order_10 ?_
  refine g_ifb_ne (pc := 13) (tgt := 23) C dX6_order_13 (by decide) (fun h13 => ?_) (fun h13 => ?_)
  · refine g_iload_n (pc := 23) C dX6_order_23 0 rfl ?_
    refine g_bipush (pc := 24) (v := 6) C dX6_order_24 (by decide) ?_
    refine g_icmp_gt (pc := 26) (tgt := 40) C dX6_order_26 (by decide) (fun h26 => ?_) (fun h26 => ?_)
    · refine g_aload_n (pc := 40) C dX6_order_40 1 rfl ?_
      refine g_bipush (pc := 41) (v := (-6)) C dX6_order_41 (by decide) ?_
      refine g_wrVI (pc := 43) (rest := []) (wr := [oC t 3 [.ref ta, .ref tb, .ref tc, .int (τ 8 0), .int (τ 8 1), .int (τ 8 2), .int (τ 8 3), .int (τ 8 4), .int (τ 8 5), .int (τ 8 6)], iC G ta 16 (fq τ), iC G tb 64 (τ 2), iC G tc 50 (fg τ), oC o 1 [.ref oa, .ref ob], iC G oa 8 sh, iC G ob 256 lr]) C (fun _ => [wX x t im it o sv tx ac rf lf] ++ (wT G t ta tb tc τ ++ (wO G o oa ob sh lr ++ ([iC G rf 8 (rfI rr (-6))])))) rfl k_X6_refuse (c_X6_refuse l G x t im it o sv tx ac rf lf rr (-6)) ml_X6_59 rfl ⟨Nat.le_of_ble_eq_true rfl, Nat.le_of_ble_eq_true rfl⟩ rfl [0, 8] [1, 2, 3, 4, 5, 6, 7] [7, 0, 1, 2, 3, 4, 5, 6, 8] rfl (by decide) rfl (by decide) (by decide) (by decide) (fun _ => rfl) 0 rfl rfl rfl rfl (Nat.le_of_ble_eq_true rfl) ⟨by decide, by decide⟩ dX6_order_43 (fun r43 _ e43 => ?_)
      subst e43
      exact g_retIW (pc := 46) C rfl rfl () (rfl) (by have e9 : rcOr τ set i = (-6) := (by first | (simp [rcOr, ush, *]; done) | (grind [rcOr, ush])); rw [if_neg (by rw [e9] <;> (first | done | decide)), e9]) (by have e9 : rcOr τ set i = (-6) := (by first | (simp [rcOr, ush, *]; done) | (grind [rcOr, ush])); rw [e9] <;> (first | done | rfl | (rw [if_neg (by decide)] <;> (first | done | rfl)))) dX6_order_46
    · refine g_aload_n (pc := 29) C dX6_order_29 1 rfl ?_
      refine g_get (pc := 30) (T := TX6) (N := 9) (v := .ref t) C ib_X6 0 rfl rfl 0 (by decide) mf_X6_10 rfl rfl rfl dX6_order_30 ?_
      refine g_iload_n (pc := 33) C dX6_order_33 2 rfl ?_
      refine g_rdVI (pc := 34) (val := bI ((set.toUInt32 >>> (Int32.toUInt32 (nI (tQ τ)) &&& Int32.toUInt32 31)).toInt32 = 0)) (rest := []) C k_X3_hasQuestions (c_X3_hasQuestions l G t ta tb tc τ set (by first | assumption | omega)) ml_X6_230 rfl ⟨Nat.le_of_ble_eq_true rfl, Nat.le_of_ble_eq_true rfl⟩ rfl [1, 2, 3, 4] rfl 1 rfl rfl rfl rfl (Nat.le_of_ble_eq_true rfl) ⟨by decide, by decide⟩ dX6_order_34 ?_
      refine g_ifb_ne (pc := 37) (tgt := 47) C dX6_order_37 (by decide) (fun h37 => ?_) (fun h37 => ?_)
      · obtain ⟨S8, hS2, rfl⟩ := set_nI hq8 h37
        have hS8 : S8 < 256 := Nat.lt_of_lt_of_le hS2 (p28 hq8)
        have eS8 : nx (nI S8) = S8 := nx_nI (by omega)
        have h13n := h13; rw [bcV_nI S8 hS8] at h13n
        have hm8 : (memL S8).length ≤ 8 := (by unfold memL; exact Nat.le_trans (List.length_filter_le _ _) (by simp))
        refine g_aload_n (pc := 47) C dX6_order_47 1 rfl ?_
        refine g_get (pc := 48) (T := TX6) (N := 9) (v := .ref o) C ib_X6 0 rfl rfl 3 (by decide) mf_X6_22 rfl rfl rfl dX6_order_48 ?_
        refine g_aload_n (pc := 51) C dX6_order_51 1 rfl ?_
        refine g_get (pc := 52) (T := TX6) (N := 9) (v := .ref t) C ib_X6 0 rfl rfl 0 (by decide) mf_X6_10 rfl rfl rfl dX6_order_52 ?_
        refine g_iload_n (pc := 55) C dX6_order_55 2 rfl ?_
        refine g_wrVI (pc := 56) (rest := []) (wr := [wX x t im it o sv tx ac rf lf, iC G rf 8 rr]) C (fun _ => [wX x t im it o sv tx ac rf lf] ++ (wT G t ta tb tc τ ++ (wO G o oa ob (oSh τ sh (tQ τ)) (oLr τ S8 lr 256) ++ ([iC G rf 8 rr])))) rfl k_X1_leansOfBest (c_X1_leansOfBest l G o oa ob sh lr t ta tb tc τ S8 (by first | assumption | omega) (by first | assumption | omega) (by first | assumption | omega)) ml_X6_233 rfl ⟨Nat.le_of_ble_eq_true rfl, Nat.le_of_ble_eq_true rfl⟩ rfl [5, 6, 7, 1, 2, 3, 4] [0, 8] [0, 5, 6, 7, 8, 2, 3, 4, 1] rfl (by decide) rfl (by decide) (by decide) (by decide) (fun _ => rfl) 5 rfl rfl rfl rfl (Nat.le_of_ble_eq_true rfl) ⟨by decide, by decide⟩ dX6_order_56 (fun r56 _ e56 => ?_)
        subst e56
        refine g_istore (pc := 59) (lv' := [(4, .int (nI ((BS τ S8 S8).1))), (3, .int (bcV (nI S8))), (0, .ref x), (1, .int (nI S8)), (2, .int i)]) C dX6_order_59 (by decide) rfl ?_
        refine g_iload_n (pc := 61) C dX6_order_61 4 rfl ?_
        refine g_iconst (pc := 62) (v := (-1)) C dX6_order_62 (by decide) ?_
        refine g_icmp_ne (pc := 63) (tgt := 71) C dX6_order_63 (by decide) (fun h63 => ?_) (fun h63 => ?_)
        · obtain ⟨i8, hi8, rfl⟩ := ix_nI (by omega) h13n h63
          have ei8 : nx (nI i8) = i8 := nx_nI (by omega)
          refine g_aload_n (pc := 71) C dX6_order_71 2 rfl ?_
          refine g_get (pc := 72) (T := TX6) (N := 9) (v := .ref o) C ib_X6 0 rfl rfl 3 (by decide) mf_X6_22 rfl rfl rfl dX6_order_72 ?_
          refine g_aload_n (pc := 75) C dX6_order_75 2 rfl ?_
          refine g_get (pc := 76) (T := TX6) (N := 9) (v := .ref t) C ib_X6 0 rfl rfl 0 (by decide) mf_X6_10 rfl rfl rfl dX6_order_76 ?_
          refine g_iload_n (pc := 79) C dX6_order_79 3 rfl ?_
          refine g_iload_n (pc := 80) C dX6_order_80 4 rfl ?_
          refine g_rdVI (pc := 81) (val := nI ((BS τ S8 S8).2.getD i8 0)) (rest := []) C k_X1_questionOfBest (c_X1_questionOfBest l G o oa ob (oSh τ sh (tQ τ)) (oLr τ S8 lr 256) t ta tb tc τ S8 i8 (by first | assumption | omega) (by first | assumption | omega) (oSh_ok τ sh) (fun z hz => oLr_ok τ hS8 h0 (i := 256) (by omega) z (by omega)) (by first | assumption | omega)) ml_X6_236 rfl ⟨Nat.le_of_ble_eq_true rfl, Nat.le_of_ble_eq_true rfl⟩ rfl [5, 6, 7, 1, 2, 3, 4] rfl 5 rfl rfl rfl rfl (Nat.le_of_ble_eq_true rfl) ⟨by decide, by decide⟩ dX6_order_81 ?_
          exact g_retIW (pc := 84) C rfl rfl () (rfl) (by have e9 : rcOr τ (nI S8) (nI i8) = 0 := (by first | (simp [rcOr, ush, *]; done) | (grind [rcOr, ush])); rw [if_pos e9] <;> (rw [orV, if_neg h63, eS8, ei8])) (by have e9 : rcOr τ (nI S8) (nI i8) = 0 := (by first | (simp [rcOr, ush, *]; done) | (grind [rcOr, ush])); rw [e9, rfI_0] <;> (rw [eS8] <;> rfl)) dX6_order_84
        · refine g_iload (pc := 66) C dX6_order_66 0 rfl ?_
          refine g_goto (pc := 68) (tgt := 84) C dX6_order_68 (by decide) ?_
          exact g_retIW (pc := 84) C rfl rfl () (rfl) (by have e9 : rcOr τ (nI S8) i = 0 := (by first | (simp [rcOr, ush, *]; done) | (grind [rcOr, ush])); rw [if_pos e9] <;> (rw [orV, if_pos h63, eS8])) (by have e9 : rcOr τ (nI S8) i = 0 := (by first | (simp [rcOr, ush, *]; done) | (grind [rcOr, ush])); rw [e9, rfI_0] <;> (rw [eS8] <;> rfl)) dX6_order_84
      · refine g_aload_n (pc := 40) C dX6_order_40 1 rfl ?_
        refine g_bipush (pc := 41) (v := (-6)) C dX6_order_41 (by decide) ?_
        refine g_wrVI (pc := 43) (rest := []) (wr := [oC t 3 [.ref ta, .ref tb, .ref tc, .int (τ 8 0), .int (τ 8 1), .int (τ 8 2), .int (τ 8 3), .int (τ 8 4), .int (τ 8 5), .int (τ 8 6)], iC G ta 16 (fq τ), iC G tb 64 (τ 2), iC G tc 50 (fg τ), oC o 1 [.ref oa, .ref ob], iC G oa 8 sh, iC G ob 256 lr]) C (fun _ => [wX x t im it o sv tx ac rf lf] ++ (wT G t ta tb tc τ ++ (wO G o oa ob sh lr ++ ([iC G rf 8 (rfI rr (-6))])))) rfl k_X6_refuse (c_X6_refuse l G x t im it o sv tx ac rf lf rr (-6)) ml_X6_59 rfl ⟨Nat.le_of_ble_eq_true rfl, Nat.le_of_ble_eq_true rfl⟩ rfl [0, 8] [1, 2, 3, 4, 5, 6, 7] [7, 0, 1, 2, 3, 4, 5, 6, 8] rfl (by decide) rfl (by decide) (by decide) (by decide) (fun _ => rfl) 0 rfl rfl rfl rfl (Nat.le_of_ble_eq_true rfl) ⟨by decide, by decide⟩ dX6_order_43 (fun r43 _ e43 => ?_)
        subst e43
        exact g_retIW (pc := 46) C rfl rfl () (rfl) (by have e9 : rcOr τ set i = (-6) := (by first | (simp [rcOr, ush, *]; done) | (grind [rcOr, ush])); rw [if_neg (by rw [e9] <;> (first | done | decide)), e9]) (by have e9 : rcOr τ set i = (-6) := (by first | (simp [rcOr, ush, *]; done) | (grind [rcOr, ush])); rw [e9] <;> (first | done | rfl | (rw [if_neg (by decide)] <;> (first | done | rfl)))) dX6_order_46
  · refine g_aload_n (pc := 16) C dX6_order_16 1 rfl ?_
    refine g_bipush (pc := 17) (v := (-5)) C dX6_order_17 (by decide) ?_
    refine g_wrVI (pc := 19) (rest := []) (wr := [oC t 3 [.ref ta, .ref tb, .ref tc, .int (τ 8 0), .int (τ 8 1), .int (τ 8 2), .int (τ 8 3), .int (τ 8 4), .int (τ 8 5), .int (τ 8 6)], iC G ta 16 (fq τ), iC G tb 64 (τ 2), iC G tc 50 (fg τ), oC o 1 [.ref oa, .ref ob], iC G oa 8 sh, iC G ob 256 lr]) C (fun _ => [wX x t im it o sv tx ac rf lf] ++ (wT G t ta tb tc τ ++ (wO G o oa ob sh lr ++ ([iC G rf 8 (rfI rr (-5))])))) rfl k_X6_refuse (c_X6_refuse l G x t im it o sv tx ac rf lf rr (-5)) ml_X6_59 rfl ⟨Nat.le_of_ble_eq_true rfl, Nat.le_of_ble_eq_true rfl⟩ rfl [0, 8] [1, 2, 3, 4, 5, 6, 7] [7, 0, 1, 2, 3, 4, 5, 6, 8] rfl (by decide) rfl (by decide) (by decide) (by decide) (fun _ => rfl) 0 rfl rfl rfl rfl (Nat.le_of_ble_eq_true rfl) ⟨by decide, by decide⟩ dX6_order_19 (fun r19 _ e19 => ?_)
    subst e19
    exact g_retIW (pc := 22) C rfl rfl () (rfl) (by have e9 : rcOr τ set i = (-5) := (by first | (simp [rcOr, ush, *]; done) | (grind [rcOr, ush])); rw [if_neg (by rw [e9] <;> (first | done | decide)), e9]) (by have e9 : rcOr τ set i = (-5) := (by first | (simp [rcOr, ush, *]; done) | (grind [rcOr, ush])); rw [e9] <;> (first | done | rfl | (rw [if_neg (by decide)] <;> (first | done | rfl)))) dX6_order_22
