set_option maxRecDepth 20000 in
set_option maxHeartbeats 4000000 in
theorem c_X7_move (l : Launch) (G : gT) (m : Nat) (A : Nat → Nat) (τ : tT) (y : Nat → Int32) (q : Int32) (v : Int32) (rr : Nat → Int32) (hT : TI τ) : WI l yX7_move cX7_move 5 (some .int) 12 0 0 G [.ref m, .int q, .int v] (wN G m A τ y ++ ([iC G (A 11) 8 rr])) (S := Unit) (fun r _ => r = if rcEn τ q v = 0 then mvF τ (nx q) v (mvP τ (tG τ) + 1) 0 else -10 + (rcEn τ q v)) (fun _ => wN G m A τ y ++ ([iC G (A 11) 8 (rfI rr (rcEn τ q v))])) := by
  have hg10 := hT.g10
  have hq8 := hT.q8
  have hmN := mvP_nI hT (tG τ) (Nat.le_refl _)
  intro sz9
  refine start_W (by decide) (Nat.le_of_ble_eq_true rfl) (fun p9 e9 s9 m9 a9 b9 t9 c9 C => ?_)
  refine g_lv (lv' := [(0, .ref m), (1, .int q), (2, .int v)]) rfl ?_
  refine g_aload_n (pc := 0) C dX7_move_0 0 rfl ?_
  refine g_iload_n (pc := 1) C dX7_move_1 1 rfl ?_
  refine g_rdVI (pc := 2) (val := bI (0 ≤ q ∧ q ≤ nI (tQ τ) - 1)) (rest := []) C k_X7_isQuestion (c_X7_isQuestion l G m A τ y q (by first | assumption | omega | decide)) ml_X7_102 rfl ⟨Nat.le_of_ble_eq_true rfl, Nat.le_of_ble_eq_true rfl⟩ rfl [0, 1, 2, 3, 4, 5, 6, 7, 8] rfl 0 rfl rfl rfl rfl (Nat.le_of_ble_eq_true rfl) ⟨by decide, by decide⟩ dX7_move_2 ?_
  refine g_ifb_ne (pc := 5) (tgt := 14) C dX7_move_5 (by decide) (fun h5 => ?_) (fun h5 => ?_)
  · obtain ⟨q8, hq8, rfl⟩ := isQ_nI hT h5
    have eq8 : nx (nI q8) = q8 := nx_nI (by omega)
    refine g_iload_n (pc := 14) C dX7_move_14 2 rfl ?_
    refine g_iconst (pc := 15) (v := 0) C dX7_move_15 (by decide) ?_
    refine g_sipush (pc := 16) (v := 1000) C dX7_move_16 (by decide) ?_
    refine g_rdSI (pc := 19) (val := bI (0 ≤ v ∧ v ≤ 1000)) (rest := []) C k_X7_within (c_X7_within l G v 0 1000) ml_X7_88 rfl ⟨Nat.le_of_ble_eq_true rfl, Nat.le_of_ble_eq_true rfl⟩ rfl [] rfl rfl (Nat.le_of_ble_eq_true rfl) ⟨by decide, by decide⟩ dX7_move_19 ?_
    refine g_ifb_ne (pc := 22) (tgt := 32) C dX7_move_22 (by decide) (fun h22 => ?_) (fun h22 => ?_)
    · refine g_iconst (pc := 32) (v := 0) C dX7_move_32 (by decide) ?_
      refine g_istore_n (pc := 33) (lv' := [(3, .int 0), (0, .ref m), (1, .int (nI q8)), (2, .int v)]) C dX7_move_33 rfl (by decide) rfl ?_
      refine g_iconst (pc := 34) (v := 0) C dX7_move_34 (by decide) ?_
      refine g_istore (pc := 35) (lv' := [(4, .int 0), (3, .int 0), (0, .ref m), (1, .int (nI q8)), (2, .int v)]) C dX7_move_35 (by decide) rfl ?_
      have key_37 : ∀ (n37 : Nat) (i : Nat) (hi : i ≤ tG τ), tG τ - i < n37 → GW p9 l e9 (rmh 12 0 0) s9 m9 a9 b9 t9 c9 (MQ b9 (va_Qi (fun r (_ : Unit) => r = if rcEn τ (nI q8) v = 0 then mvF τ (nx (nI q8)) v (mvP τ (tG τ) + 1) 0 else -10 + (rcEn τ (nI q8) v)) (BW G (wN G m A τ y ++ ([iC G (A 11) 8 rr])) sz9 (fun _ => wN G m A τ y ++ ([iC G (A 11) 8 (rfI rr (rcEn τ (nI q8) v))]))) (va_A (wN G m A τ y ++ ([iC G (A 11) 8 rr])) sz9)) a9 s9 0 0 (va_A (wN G m A τ y ++ ([iC G (A 11) 8 rr])) sz9)) G (va_A (wN G m A τ y ++ ([iC G (A 11) 8 rr])) sz9) true 5 0 0 (wN G m A τ y ++ ([iC G (A 11) 8 rr])) [(0, .ref m), (1, .int (nI q8)), (2, .int v), (3, .int (nI (mvP τ i))), (4, .int (nI i))] 37 [] := by
        intro n37
        induction n37 with
        | zero => intro i hi hn37; exact absurd hn37 (Nat.not_lt_zero _)
        | succ n37 ih37 =>
          intro i hi hn37
          refine g_iload (pc := 37) C dX7_move_37 4 rfl ?_
          refine g_aload_n (pc := 39) C dX7_move_39 0 rfl ?_
          refine g_get (pc := 40) (T := TX7) (N := 33) (v := .int (τ 8 1)) C ib_X7 0 rfl rfl 7 (by decide) mf_X7_92 rfl rfl rfl dX7_move_40 ?_
          refine g_top (z := nI (tG τ)) (hT.g) ?_
          refine g_icmpN_ge (pc := 43) (i := i) (j := tG τ) (tgt := 73) C dX7_move_43 (by decide) ⟨by omega, by omega⟩ (fun h43 => ?_) (fun h43 => ?_)
          · refine g_iconst (pc := 73) (v := 0) C dX7_move_73 (by decide) ?_
            refine g_istore (pc := 74) (lv' := [(4, .int 0), (0, .ref m), (1, .int (nI q8)), (2, .int v), (3, .int (nI (mvP τ i)))]) C dX7_move_74 (by decide) rfl ?_
            have key_76 : ∀ (n76 : Nat) (n : Nat) (hn : n ≤ mvP τ (tG τ) + 1) (hv : mvF τ q8 v (mvP τ (tG τ) + 1) 0 = mvF τ q8 v (mvP τ (tG τ) + 1 - n) n), mvP τ (tG τ) + 1 - n < n76 → GW p9 l e9 (rmh 12 0 0) s9 m9 a9 b9 t9 c9 (MQ b9 (va_Qi (fun r (_ : Unit) => r = if rcEn τ (nI q8) v = 0 then mvF τ (nx (nI q8)) v (mvP τ (tG τ) + 1) 0 else -10 + (rcEn τ (nI q8) v)) (BW G (wN G m A τ y ++ ([iC G (A 11) 8 rr])) sz9 (fun _ => wN G m A τ y ++ ([iC G (A 11) 8 (rfI rr (rcEn τ (nI q8) v))]))) (va_A (wN G m A τ y ++ ([iC G (A 11) 8 rr])) sz9)) a9 s9 0 0 (va_A (wN G m A τ y ++ ([iC G (A 11) 8 rr])) sz9)) G (va_A (wN G m A τ y ++ ([iC G (A 11) 8 rr])) sz9) true 5 0 0 (wN G m A τ y ++ ([iC G (A 11) 8 rr])) [(0, .ref m), (1, .int (nI q8)), (2, .int v), (3, .int (nI (mvP τ (tG τ)))), (4, .int (nI n))] 76 [] := by
              intro n76
              induction n76 with
              | zero => intro n hn hv hn76; exact absurd hn76 (Nat.not_lt_zero _)
              | succ n76 ih76 =>
                intro n hn hv hn76
                refine g_iload (pc := 76) C dX7_move_76 4 rfl ?_
                refine g_iload_n (pc := 78) C dX7_move_78 3 rfl ?_
                refine g_icmpN_gt (pc := 79) (i := n) (j := mvP τ (tG τ)) (tgt := 102) C dX7_move_79 (by decide) ⟨by omega, by omega⟩ (fun h79 => ?_) (fun h79 => ?_)
                · refine g_iconst (pc := 102) (v := (-1)) C dX7_move_102 (by decide) ?_
                  exact g_retIW (pc := 103) C rfl rfl () (rfl) (by have e9 : rcEn τ (nI q8) v = 0 := (by first | (simp [rcEn, *]; done) | (grind [rcEn])); rw [if_pos e9] <;> (rw [eq8, hv, show mvP τ (tG τ) + 1 - n = 0 from by omega] <;> rfl)) (by have e9 : rcEn τ (nI q8) v = 0 := (by first | (simp [rcEn, *]; done) | (grind [rcEn])); rw [e9, rfI_0] <;> (rfl)) dX7_move_103
                · refine g_aload_n (pc := 82) C dX7_move_82 0 rfl ?_
                  refine g_iload_n (pc := 83) C dX7_move_83 1 rfl ?_
                  refine g_iload (pc := 84) C dX7_move_84 4 rfl ?_
                  refine g_rdVI (pc := 86) (val := sTh (mvS τ q8 n) (ppl τ)) (rest := []) C k_X7_shareMoved (c_X7_shareMoved l G m A τ y q8 n (by first | assumption | omega | decide) (by first | assumption | omega | decide) (by first | assumption | omega | decide)) ml_X7_278 rfl ⟨Nat.le_of_ble_eq_true rfl, Nat.le_of_ble_eq_true rfl⟩ rfl [0, 1, 2, 3, 4, 5, 6, 7, 8] rfl 0 rfl rfl rfl rfl (Nat.le_of_ble_eq_true rfl) ⟨by decide, by decide⟩ dX7_move_86 ?_
                  refine g_iload_n (pc := 89) C dX7_move_89 2 rfl ?_
                  refine g_icmp_lt (pc := 90) (tgt := 96) C dX7_move_90 (by decide) (fun h90 => ?_) (fun h90 => ?_)
                  · refine g_iinc (pc := 96) (v := nI (n + 1)) (lv' := [(4, .int (nI (n + 1))), (0, .ref m), (1, .int (nI q8)), (2, .int v), (3, .int (nI (mvP τ (tG τ))))]) C dX7_move_96 4 rfl (nI_1 n) (by decide) rfl ?_
                    refine g_goto (pc := 99) (tgt := 76) C dX7_move_99 (by decide) ?_
                    refine g_sub (lv' := [(0, .ref m), (1, .int (nI q8)), (2, .int v), (3, .int (nI (mvP τ (tG τ)))), (4, .int (nI (n + 1)))]) [1, 2, 3, 4, 0] rfl ?_
                    exact ih76 (n + 1) (by first | assumption | omega | decide) (by rw [hv, mvF_go (Int32.not_le.mpr h90) (by omega)] <;> congr 1) (by omega)
                  · refine g_iload (pc := 93) C dX7_move_93 4 rfl ?_
                    exact g_retIW (pc := 95) C rfl rfl () (rfl) (by have e9 : rcEn τ (nI q8) v = 0 := (by first | (simp [rcEn, *]; done) | (grind [rcEn])); rw [if_pos e9] <;> (rw [eq8, hv, mvF_at (Int32.not_lt.mp h90) (by omega)])) (by have e9 : rcEn τ (nI q8) v = 0 := (by first | (simp [rcEn, *]; done) | (grind [rcEn])); rw [e9, rfI_0] <;> (rfl)) dX7_move_95
            refine g_sub (lv' := [(0, .ref m), (1, .int (nI q8)), (2, .int v), (3, .int (nI (mvP τ i))), (4, .int 0)]) [1, 2, 3, 4, 0] rfl ?_
            refine g_lv (lv' := [(0, .ref m), (1, .int (nI q8)), (2, .int v), (3, .int (nI (mvP τ (tG τ)))), (4, .int (nI 0))]) (by rw [show i = tG τ from by omega] <;> rfl) ?_
            exact key_76 _ 0 (by first | assumption | omega | decide) rfl (Nat.lt_succ_self _)
          · refine g_aload_n (pc := 46) C dX7_move_46 0 rfl ?_
            refine g_get (pc := 47) (T := TX7) (N := 33) (v := .ref (A 7)) C ib_X7 0 rfl rfl 9 (by decide) mf_X7_32 rfl rfl rfl dX7_move_47 ?_
            refine g_iload (pc := 50) C dX7_move_50 4 rfl ?_
            refine g_iald (pc := 52) (v := (τ 4) i) C 5 rfl i (rfl) ⟨by omega, by decide⟩ (rfl) dX7_move_52 ?_
            refine g_iconst (pc := 53) (v := 2) C dX7_move_53 (by decide) ?_
            refine g_icmp_ne (pc := 54) (tgt := 67) C dX7_move_54 (by decide) (fun h54 => ?_) (fun h54 => ?_)
            · refine g_iinc (pc := 67) (v := nI (i + 1)) (lv' := [(4, .int (nI (i + 1))), (0, .ref m), (1, .int (nI q8)), (2, .int v), (3, .int (nI (mvP τ i)))]) C dX7_move_67 4 rfl (nI_1 i) (by decide) rfl ?_
              refine g_goto (pc := 70) (tgt := 37) C dX7_move_70 (by decide) ?_
              refine g_sub (lv' := [(0, .ref m), (1, .int (nI q8)), (2, .int v), (3, .int (nI (mvP τ i))), (4, .int (nI (i + 1)))]) [1, 2, 3, 4, 0] rfl ?_
              refine g_lv (lv' := [(0, .ref m), (1, .int (nI q8)), (2, .int v), (3, .int (nI (mvP τ (i + 1)))), (4, .int (nI (i + 1)))]) (by rw [mvP_n τ h54]) ?_
              exact ih37 (i + 1) (by first | assumption | omega | decide) (by omega)
            · refine g_iload_n (pc := 57) C dX7_move_57 3 rfl ?_
              refine g_aload_n (pc := 58) C dX7_move_58 0 rfl ?_
              refine g_get (pc := 59) (T := TX7) (N := 33) (v := .ref (A 6)) C ib_X7 0 rfl rfl 8 (by decide) mf_X7_29 rfl rfl rfl dX7_move_59 ?_
              refine g_iload (pc := 62) C dX7_move_62 4 rfl ?_
              refine g_iald (pc := 64) (v := nI (tC τ i)) C 4 rfl i (rfl) ⟨by omega, by decide⟩ ((hT.c (show i < tG τ from by omega)).1) dX7_move_64 ?_
              refine g_iaddN (pc := 65) (i := mvP τ i) (j := tC τ i) C dX7_move_65 ?_
              refine g_istore_n (pc := 66) (lv' := [(3, .int (nI ((mvP τ i) + (tC τ i)))), (0, .ref m), (1, .int (nI q8)), (2, .int v), (4, .int (nI i))]) C dX7_move_66 rfl (by decide) rfl ?_
              refine g_iinc (pc := 67) (v := nI (i + 1)) (lv' := [(4, .int (nI (i + 1))), (3, .int (nI ((mvP τ i) + (tC τ i)))), (0, .ref m), (1, .int (nI q8)), (2, .int v)]) C dX7_move_67 4 rfl (nI_1 i) (by decide) rfl ?_
              refine g_goto (pc := 70) (tgt := 37) C dX7_move_70 (by decide) ?_
              refine g_sub (lv' := [(0, .ref m), (1, .int (nI q8)), (2, .int v), (3, .int (nI ((mvP τ i) + (tC τ i)))), (4, .int (nI (i + 1)))]) [2, 3, 4, 1, 0] rfl ?_
              refine g_lv (lv' := [(0, .ref m), (1, .int (nI q8)), (2, .int v), (3, .int (nI (mvP τ (i + 1)))), (4, .int (nI (i + 1)))]) (by rw [mvP_s τ h54]) ?_
              exact ih37 (i + 1) (by first | assumption | omega | decide) (by omega)
      refine g_sub (lv' := [(0, .ref m), (1, .int (nI q8)), (2, .int v), (3, .int (nI (mvP τ 0))), (4, .int (nI 0))]) [2, 3, 4, 1, 0] rfl ?_
      exact key_37 _ 0 (by first | assumption | omega | decide) (Nat.lt_succ_self _)
    · refine g_aload_n (pc := 25) C dX7_move_25 0 rfl ?_
      refine g_bipush (pc := 26) (v := (-6)) C dX7_move_26 (by decide) ?_
      refine g_wrVI (pc := 28) (rest := []) (wr := []) C (fun _ => wN G m A τ y ++ ([iC G (A 11) 8 (rfI rr (-6))])) rfl k_X7_no10 (c_X7_no10 l G m A τ y rr (-6) (by first | assumption | omega | decide)) ml_X7_266 rfl ⟨Nat.le_of_ble_eq_true rfl, Nat.le_of_ble_eq_true rfl⟩ rfl [0, 1, 2, 3, 4, 5, 6, 7, 8, 9] [] [0, 1, 2, 3, 4, 5, 6, 7, 8, 9] rfl (by decide) rfl (by decide) (by decide) (by decide) (fun _ => rfl) 0 rfl rfl rfl rfl (Nat.le_of_ble_eq_true rfl) ⟨by decide, by decide⟩ dX7_move_28 (fun r28 _ e28 => ?_)
      subst e28
      exact g_retIW (pc := 31) C rfl rfl () (rfl) (by have e9 : rcEn τ (nI q8) v = (-6) := (by first | (simp [rcEn, *]; done) | (grind [rcEn])); rw [if_neg (by rw [e9] <;> (first | done | decide)), e9]) (by have e9 : rcEn τ (nI q8) v = (-6) := (by first | (simp [rcEn, *]; done) | (grind [rcEn])); rw [e9] <;> (first | done | rfl | (rw [if_neg (by decide)] <;> (first | done | rfl)))) dX7_move_31
  · refine g_aload_n (pc := 8) C dX7_move_8 0 rfl ?_
    refine g_iconst (pc := 9) (v := (-1)) C dX7_move_9 (by decide) ?_
    refine g_wrVI (pc := 10) (rest := []) (wr := []) C (fun _ => wN G m A τ y ++ ([iC G (A 11) 8 (rfI rr (-1))])) rfl k_X7_no10 (c_X7_no10 l G m A τ y rr (-1) (by first | assumption | omega | decide)) ml_X7_266 rfl ⟨Nat.le_of_ble_eq_true rfl, Nat.le_of_ble_eq_true rfl⟩ rfl [0, 1, 2, 3, 4, 5, 6, 7, 8, 9] [] [0, 1, 2, 3, 4, 5, 6, 7, 8, 9] rfl (by decide) rfl (by decide) (by decide) (by decide) (fun _ => rfl) 0 rfl rfl rfl rfl (Nat.le_of_ble_eq_true rfl) ⟨by decide, by decide⟩ dX7_move_10 (fun r10 _ e10 => ?_)
    subst e10
    exact g_retIW (pc := 13) C rfl rfl () (rfl) (by have e9 : rcEn τ q v = (-1) := (by first | (simp [rcEn, *]; done) | (grind [rcEn])); rw [if_neg (by rw [e9] <;> (first | done | decide)), e9]) (by have e9 : rcEn τ q v = (-1) := (by first | (simp [rcEn, *]; done) | (grind [rcEn])); rw [e9] <;> (first | done | rfl | (rw [if_neg (by decide)] <;> (first | done | rfl)))) dX7_move_13
