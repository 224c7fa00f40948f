theorem kk_1 {τ : tT} (h : τ 6 (kG τ) ≤ drV (kn1 τ 8 4) 10) : knk τ = kn1 (kn1 τ) := if_pos h
theorem kk_2 {τ : tT} (h1 : ¬ τ 6 (kG τ) ≤ drV (kn1 τ 8 4) 10) (h2 : ¬ drV (kn1 (kn1 τ) 8 4) 10 < τ 7 (kG τ)) : knk τ = kn1 (kn1 (kn1 τ)) := by rw [knk, if_neg h1, if_pos h2]
theorem kk_3 {τ : tT} (h1 : ¬ τ 6 (kG τ) ≤ drV (kn1 τ 8 4) 10) (h2 : drV (kn1 (kn1 τ) 8 4) 10 < τ 7 (kG τ)) (h3 : yG τ (kQ τ) (kG τ) (τ 3 (kG τ)) ≤ drV (kn1 (kT τ) 8 4) (τ 3 (kG τ))) : knk τ = kn1 (kn1 (kT τ)) := by rw [knk, if_neg h1, if_neg (fun z => z h2), if_pos h3]
theorem kk_4 {τ : tT} (h1 : ¬ τ 6 (kG τ) ≤ drV (kn1 τ 8 4) 10) (h2 : drV (kn1 (kn1 τ) 8 4) 10 < τ 7 (kG τ)) (h3 : ¬ yG τ (kQ τ) (kG τ) (τ 3 (kG τ)) ≤ drV (kn1 (kT τ) 8 4) (τ 3 (kG τ))) : knk τ = aSc (kn1 (kn1 (kT τ))) 6 (τ 8 6 + 1) := by rw [knk, if_neg h1, if_neg (fun z => z h2), if_neg h3]
theorem kT_out (τ : tT) : aSc (kn1 (kn1 (kn1 (kn1 τ)))) 5 (τ 8 5 + 1) = kn1 (kT τ) := (kn1_aSc (kn1 (kn1 (kn1 τ))) _ (by decide)).symm
theorem k4_5 (τ : tT) : kn1 (kn1 (kn1 (kn1 τ))) 8 5 = τ 8 5 := by rw [kn1_s _ (by decide), kn1_s _ (by decide), kn1_s _ (by decide), kn1_s _ (by decide)]
theorem kT_6 (τ : tT) : kn1 (kn1 (kT τ)) 8 6 = τ 8 6 := by rw [kn1_s _ (by decide), kn1_s _ (by decide), kT, aSc_s _ _ (by decide), kn1_s _ (by decide), kn1_s _ (by decide), kn1_s _ (by decide)]
theorem not1 {n : Nat} (h : 0 < n) (h2 : n < 2147483648) : ¬ nI n < 1 := fun z => by
  have := (nI_ltI (b := 1) h2 (by decide)).mp z
  omega
theorem wN_sc (G : gT) (m : Nat) (A : Nat → Nat) (τ : tT) (y : Nat → Int32) (k : Nat) (x : Int32) (w : va_W) (h : wN G m A (aSc τ k x) y = w) : w = wN G m A (aSc τ k x) y := h.symm
set_option maxRecDepth 20000 in
set_option maxHeartbeats 4000000 in
theorem c_X7_doors (l : Launch) (G : gT) (m : Nat) (A : Nat → Nat) (τ : tT) (y : Nat → Int32) (n : Int32) (rr : Nat → Int32) (hT : TI τ) : WI l yX7_doors cX7_doors 6 (some .int) 12 0 0 G [.ref m, .int n] (wN G m A τ y ++ ([iC G (A 11) 8 rr])) (S := Unit) (fun r _ => r = if rcDo τ n = 0 then knN τ (nx n) 8 6 - τ 8 6 else (rcDo τ n)) (fun _ => wN G m A (if rcDo τ n = 0 then knN τ (nx n) else τ) y ++ ([iC G (A 11) 8 (rfI rr (rcDo τ n))])) := by
  have hg10 := hT.g10
  have hq8 := hT.q8
  have hzq := nI_z (n := tQ τ) (by omega)
  have hzg := nI_z (n := tG τ) (by omega)
  intro sz9
  refine start_W (by decide) (Nat.le_of_ble_eq_true rfl) (fun p9 e9 s9 m9 a9 b9 t9 c9 C => ?_)
  refine g_lv (lv' := [(0, .ref m), (1, .int n)]) rfl ?_
  refine g_aload_n (pc := 0) C dX7_doors_0 0 rfl ?_
  refine g_get (pc := 1) (T := TX7) (N := 33) (v := .int (τ 8 1)) C ib_X7 0 rfl rfl 7 (by decide) mf_X7_92 rfl rfl rfl dX7_doors_1 ?_
  refine g_top (z := nI (tG τ)) (hT.g) ?_
  refine g_if_eq (pc := 4) (tgt := 14) C dX7_doors_4 (by decide) (fun h4 => ?_) (fun h4 => ?_)
  · refine g_aload_n (pc := 14) C dX7_doors_14 0 rfl ?_
    refine g_bipush (pc := 15) (v := (-5)) C dX7_doors_15 (by decide) ?_
    refine g_wrVI (pc := 17) (rest := []) (wr := []) C (fun _ => wN G m A τ y ++ ([iC G (A 11) 8 (rfI rr (-5))])) rfl k_X7_no (c_X7_no l G m A τ y rr (-5) (by first | assumption | omega | decide)) ml_X7_81 rfl ⟨Nat.le_of_ble_eq_true rfl, Nat.le_of_ble_eq_true rfl⟩ rfl [0, 1, 2, 3, 4, 5, 6, 7, 8, 9] [] [0, 1, 2, 3, 4, 5, 6, 7, 8, 9] rfl (by decide) rfl (by decide) (by decide) (by decide) (fun _ => rfl) 0 rfl rfl rfl rfl (Nat.le_of_ble_eq_true rfl) ⟨by decide, by decide⟩ dX7_doors_17 (fun r17 _ e17 => ?_)
    subst e17
    exact g_retIW (pc := 20) C rfl rfl () (rfl) (by have e9 : rcDo τ n = (-5) := (by first | (simp [rcDo, *]; done) | (grind [rcDo])); rw [if_neg (by rw [e9] <;> (first | done | decide)), e9]) (by have e9 : rcDo τ n = (-5) := (by first | (simp [rcDo, *]; done) | (grind [rcDo])); rw [e9] <;> (first | done | rfl | (rw [if_neg (by decide)] <;> (first | done | rfl)))) dX7_doors_20
  · refine g_aload_n (pc := 7) C dX7_doors_7 0 rfl ?_
    refine g_get (pc := 8) (T := TX7) (N := 33) (v := .int (τ 8 0)) C ib_X7 0 rfl rfl 3 (by decide) mf_X7_85 rfl rfl rfl dX7_doors_8 ?_
    refine g_top (z := nI (tQ τ)) (hT.q) ?_
    refine g_if_ne (pc := 11) (tgt := 21) C dX7_doors_11 (by decide) (fun h11 => ?_) (fun h11 => ?_)
    · refine g_iload_n (pc := 21) C dX7_doors_21 1 rfl ?_
      refine g_iconst (pc := 22) (v := 1) C dX7_doors_22 (by decide) ?_
      refine g_sipush (pc := 23) (v := 200) C dX7_doors_23 (by decide) ?_
      refine g_rdSI (pc := 26) (val := bI (1 ≤ n ∧ n ≤ 200)) (rest := []) C k_X7_within (c_X7_within l G n 1 200) ml_X7_88 rfl ⟨Nat.le_of_ble_eq_true rfl, Nat.le_of_ble_eq_true rfl⟩ rfl [] rfl rfl (Nat.le_of_ble_eq_true rfl) ⟨by decide, by decide⟩ dX7_doors_26 ?_
      refine g_ifb_ne (pc := 29) (tgt := 39) C dX7_doors_29 (by decide) (fun h29 => ?_) (fun h29 => ?_)
      · have hg0 : 0 < tG τ := Nat.pos_of_ne_zero (fun z => h4 (hzg.mpr z))
        have hq0 : 0 < tQ τ := Nat.pos_of_ne_zero (fun z => h11 (hzq.mpr z))
        obtain ⟨n8, hn8, rfl⟩ := nI_of2 (M := 200) (n := 200) rfl (Int32.not_lt.mpr (Int32.le_trans (by decide) h29.1)) h29.2
        have en8 : nx (nI n8) = n8 := nx_nI (by omega)
        refine g_aload_n (pc := 39) C dX7_doors_39 0 rfl ?_
        refine g_get (pc := 40) (T := TX7) (N := 33) (v := .int (τ 8 6)) C ib_X7 0 rfl rfl 16 (by decide) mf_X7_291 rfl rfl rfl dX7_doors_40 ?_
        refine g_istore_n (pc := 43) (lv' := [(2, .int (τ 8 6)), (0, .ref m), (1, .int (nI n8))]) C dX7_doors_43 rfl (by decide) rfl ?_
        refine g_iconst (pc := 44) (v := 0) C dX7_doors_44 (by decide) ?_
        refine g_istore_n (pc := 45) (lv' := [(3, .int 0), (2, .int (τ 8 6)), (0, .ref m), (1, .int (nI n8))]) C dX7_doors_45 rfl (by decide) rfl ?_
        have key_46 : ∀ (n46 : Nat) (i : Nat) (hi : i ≤ n8), n8 - i < n46 → GW p9 l e9 (rmh 12 0 0) s9 m9 a9 b9 t9 c9 (MQ b9 (va_Qi (fun r (_ : Unit) => r = if rcDo τ (nI n8) = 0 then knN τ (nx (nI n8)) 8 6 - τ 8 6 else (rcDo τ (nI n8))) (BW G (wN G m A τ y ++ ([iC G (A 11) 8 rr])) sz9 (fun _ => wN G m A (if rcDo τ (nI n8) = 0 then knN τ (nx (nI n8)) else τ) y ++ ([iC G (A 11) 8 (rfI rr (rcDo τ (nI n8)))]))) (va_A (wN G m A τ y ++ ([iC G (A 11) 8 rr])) sz9)) a9 s9 0 0 (va_A (wN G m A τ y ++ ([iC G (A 11) 8 rr])) sz9)) G (va_A (wN G m A τ y ++ ([iC G (A 11) 8 rr])) sz9) true 6 0 0 (wN G m A (knN τ i) y ++ ([iC G (A 11) 8 rr])) [(0, .ref m), (1, .int (nI n8)), (2, .int (τ 8 6)), (3, .int (nI i))] 46 [] := by
          intro n46
          induction n46 with
          | zero => intro i hi hn46; exact absurd hn46 (Nat.not_lt_zero _)
          | succ n46 ih46 =>
            intro i hi hn46
            have hk9 := hT.kN i
            have hk9q : (knN τ i) 8 0 = nI (tQ τ) := hk9.1.q.trans (congrArg nI hk9.2.1)
            have hk9g : (knN τ i) 8 1 = nI (tG τ) := hk9.1.g.trans (congrArg nI hk9.2.2)
            have hd1 : drV ((knN τ i) 8 4) (nI (tG τ)) = nI (kG (knN τ i)) ∧ kG (knN τ i) < tG τ := by have z := drV_lt ((knN τ i) 8 4) hg0 (by omega); unfold kG; rw [hk9.2.2]; exact z
            have hd2 : drV ((kn1 (kn1 (kn1 (knN τ i)))) 8 4) (nI (tQ τ)) = nI (kQ (knN τ i)) ∧ kQ (knN τ i) < tQ τ := by have z := drV_lt ((kn1 (kn1 (kn1 (knN τ i)))) 8 4) hq0 (by omega); unfold kQ; rw [hk9.2.1, show kT (knN τ i) 8 4 = (kn1 (kn1 (kn1 (knN τ i)))) 8 4 from by unfold kT; exact aSc_s _ _ (by decide)]; exact z
            have hc9 := hk9.1.c (g := kG (knN τ i)) (by rw [hk9.2.2]; exact hd1.2)
            refine g_iload_n (pc := 46) C dX7_doors_46 3 rfl ?_
            refine g_iload_n (pc := 47) C dX7_doors_47 1 rfl ?_
            refine g_icmpN_ge (pc := 48) (i := i) (j := n8) (tgt := 161) C dX7_doors_48 (by decide) ⟨by omega, by omega⟩ (fun h48 => ?_) (fun h48 => ?_)
            · refine g_aload_n (pc := 161) C dX7_doors_161 0 rfl ?_
              refine g_get (pc := 162) (T := TX7) (N := 33) (v := .int ((knN τ i) 8 6)) C ib_X7 0 rfl rfl 16 (by decide) mf_X7_291 rfl rfl rfl dX7_doors_162 ?_
              refine g_iload_n (pc := 165) C dX7_doors_165 2 rfl ?_
              refine g_isub (pc := 166) C dX7_doors_166 ?_
              exact g_retIW (pc := 167) C rfl rfl () (rfl) (by have e9 : rcDo τ (nI n8) = 0 := (by first | (simp [rcDo, *]; done) | (grind [rcDo])); rw [if_pos e9] <;> (rw [en8, show i = n8 from by omega])) (by have e9 : rcDo τ (nI n8) = 0 := (by first | (simp [rcDo, *]; done) | (grind [rcDo])); rw [e9, rfI_0] <;> (rw [en8, show i = n8 from by omega] <;> rfl)) dX7_doors_167
            · refine g_aload_n (pc := 51) C dX7_doors_51 0 rfl ?_
              refine g_aload_n (pc := 52) C dX7_doors_52 0 rfl ?_
              refine g_get (pc := 53) (T := TX7) (N := 33) (v := .int ((knN τ i) 8 1)) C ib_X7 0 rfl rfl 7 (by decide) mf_X7_92 rfl rfl rfl dX7_doors_53 ?_
              refine g_top (z := nI (tG τ)) (hk9g) ?_
              refine g_wrVI (pc := 56) (rest := []) (wr := [iC G (A 11) 8 rr]) C (fun _ => wN G m A (kn1 (knN τ i)) y ++ ([iC G (A 11) 8 rr])) rfl k_X7_draw (c_X7_draw l G m A (knN τ i) y (nI (tG τ)) (not1 hg0 (by omega))) ml_X7_294 rfl ⟨Nat.le_of_ble_eq_true rfl, Nat.le_of_ble_eq_true rfl⟩ rfl [0, 1, 2, 3, 4, 5, 6, 7, 8] [9] [1, 2, 3, 4, 5, 6, 7, 8, 9, 0] rfl (by decide) rfl (by decide) (by decide) (by decide) (fun _ => rfl) 0 rfl rfl rfl rfl (Nat.le_of_ble_eq_true rfl) ⟨by decide, by decide⟩ dX7_doors_56 (fun r56 _ e56 => ?_)
              subst e56
              refine g_top (z := nI (kG (knN τ i))) (hd1.1) ?_
              refine g_istore (pc := 59) (lv' := [(4, .int (nI (kG (knN τ i)))), (0, .ref m), (1, .int (nI n8)), (2, .int (τ 8 6)), (3, .int (nI i))]) C dX7_doors_59 (by decide) rfl ?_
              refine g_aload_n (pc := 61) C dX7_doors_61 1 rfl ?_
              refine g_bipush (pc := 62) (v := 10) C dX7_doors_62 (by decide) ?_
              refine g_wrVI (pc := 64) (rest := []) (wr := [iC G (A 11) 8 rr]) C (fun _ => wN G m A (kn1 (kn1 (knN τ i))) y ++ ([iC G (A 11) 8 rr])) rfl k_X7_draw (c_X7_draw l G m A (kn1 (knN τ i)) y 10 (by decide)) ml_X7_294 rfl ⟨Nat.le_of_ble_eq_true rfl, Nat.le_of_ble_eq_true rfl⟩ rfl [0, 1, 2, 3, 4, 5, 6, 7, 8] [9] [1, 2, 3, 4, 5, 6, 7, 8, 9, 0] rfl (by decide) rfl (by decide) (by decide) (by decide) (fun _ => rfl) 0 rfl rfl rfl rfl (Nat.le_of_ble_eq_true rfl) ⟨by decide, by decide⟩ dX7_doors_64 (fun r64 _ e64 => ?_)
              subst e64
              refine g_aload_n (pc := 67) C dX7_doors_67 1 rfl ?_
              refine g_get (pc := 68) (T := TX7) (N := 33) (v := .ref (A 9)) C ib_X7 0 rfl rfl 11 (by decide) mf_X7_38 rfl rfl rfl dX7_doors_68 ?_
              refine g_iload (pc := 71) C dX7_doors_71 0 rfl ?_
              refine g_iald (pc := 73) (v := (knN τ i) 6 (kG (knN τ i))) C 7 rfl (kG (knN τ i)) (rfl) ⟨by omega, by decide⟩ (rfl) dX7_doors_73 ?_
              refine g_icmp_ge (pc := 74) (tgt := 155) C dX7_doors_74 (by decide) (fun h74 => ?_) (fun h74 => ?_)
              · refine g_iinc (pc := 155) (v := nI (i + 1)) (lv' := [(3, .int (nI (i + 1))), (4, .int (nI (kG (knN τ i)))), (0, .ref m), (1, .int (nI n8)), (2, .int (τ 8 6))]) C dX7_doors_155 4 rfl (nI_1 i) (by decide) rfl ?_
                refine g_goto (pc := 158) (tgt := 46) C dX7_doors_158 (by decide) ?_
                refine g_ws (ws' := wN G m A (knN τ (i + 1)) y ++ ([iC G (A 11) 8 rr])) (by rw [show knN τ (i + 1) = _ from kk_1 h74] <;> rfl) ?_
                refine g_sub (lv' := [(0, .ref m), (1, .int (nI n8)), (2, .int (τ 8 6)), (3, .int (nI (i + 1)))]) [2, 3, 4, 0] rfl ?_
                exact ih46 (i + 1) (by first | assumption | omega | decide) (by omega)
              · refine g_aload_n (pc := 77) C dX7_doors_77 1 rfl ?_
                refine g_bipush (pc := 78) (v := 10) C dX7_doors_78 (by decide) ?_
                refine g_wrVI (pc := 80) (rest := []) (wr := [iC G (A 11) 8 rr]) C (fun _ => wN G m A (kn1 (kn1 (kn1 (knN τ i)))) y ++ ([iC G (A 11) 8 rr])) rfl k_X7_draw (c_X7_draw l G m A (kn1 (kn1 (knN τ i))) y 10 (by decide)) ml_X7_294 rfl ⟨Nat.le_of_ble_eq_true rfl, Nat.le_of_ble_eq_true rfl⟩ rfl [0, 1, 2, 3, 4, 5, 6, 7, 8] [9] [1, 2, 3, 4, 5, 6, 7, 8, 9, 0] rfl (by decide) rfl (by decide) (by decide) (by decide) (fun _ => rfl) 0 rfl rfl rfl rfl (Nat.le_of_ble_eq_true rfl) ⟨by decide, by decide⟩ dX7_doors_80 (fun r80 _ e80 => ?_)
                subst e80
                refine g_aload_n (pc := 83) C dX7_doors_83 1 rfl ?_
                refine g_get (pc := 84) (T := TX7) (N := 33) (v := .ref (A 10)) C ib_X7 0 rfl rfl 12 (by decide) mf_X7_41 rfl rfl rfl dX7_doors_84 ?_
                refine g_iload (pc := 87) C dX7_doors_87 0 rfl ?_
                refine g_iald (pc := 89) (v := (knN τ i) 7 (kG (knN τ i))) C 8 rfl (kG (knN τ i)) (rfl) ⟨by omega, by decide⟩ (rfl) dX7_doors_89 ?_
                refine g_icmp_lt (pc := 90) (tgt := 96) C dX7_doors_90 (by decide) (fun h90 => ?_) (fun h90 => ?_)
                · refine g_aload_n (pc := 96) C dX7_doors_96 1 rfl ?_
                  refine g_aload_n (pc := 97) C dX7_doors_97 1 rfl ?_
                  refine g_get (pc := 98) (T := TX7) (N := 33) (v := .int ((kn1 (kn1 (kn1 (knN τ i)))) 8 0)) C ib_X7 0 rfl rfl 3 (by decide) mf_X7_85 rfl rfl rfl dX7_doors_98 ?_
                  refine g_top (z := nI (tQ τ)) (hk9q) ?_
                  refine g_wrVI (pc := 101) (rest := []) (wr := [iC G (A 11) 8 rr]) C (fun _ => wN G m A (kn1 (kn1 (kn1 (kn1 (knN τ i))))) y ++ ([iC G (A 11) 8 rr])) rfl k_X7_draw (c_X7_draw l G m A (kn1 (kn1 (kn1 (knN τ i)))) y (nI (tQ τ)) (not1 hq0 (by omega))) ml_X7_294 rfl ⟨Nat.le_of_ble_eq_true rfl, Nat.le_of_ble_eq_true rfl⟩ rfl [0, 1, 2, 3, 4, 5, 6, 7, 8] [9] [1, 2, 3, 4, 5, 6, 7, 8, 9, 0] rfl (by decide) rfl (by decide) (by decide) (by decide) (fun _ => rfl) 0 rfl rfl rfl rfl (Nat.le_of_ble_eq_true rfl) ⟨by decide, by decide⟩ dX7_doors_101 (fun r101 _ e101 => ?_)
                  subst e101
                  refine g_top (z := nI (kQ (knN τ i))) (hd2.1) ?_
                  refine g_istore (pc := 104) (lv' := [(5, .int (nI (kQ (knN τ i)))), (4, .int (nI (kG (knN τ i)))), (0, .ref m), (1, .int (nI n8)), (2, .int (τ 8 6)), (3, .int (nI i))]) C dX7_doors_104 (by decide) rfl ?_
                  refine g_aload_n (pc := 106) C dX7_doors_106 2 rfl ?_
                  refine g_dup (pc := 107) C dX7_doors_107 rfl ?_
                  refine g_get (pc := 108) (T := TX7) (N := 33) (v := .int ((kn1 (kn1 (kn1 (kn1 (knN τ i))))) 8 5)) C ib_X7 0 rfl rfl 15 (by decide) mf_X7_297 rfl rfl rfl dX7_doors_108 ?_
                  refine g_iconst (pc := 111) (v := 1) C dX7_doors_111 (by decide) ?_
                  refine g_iadd (pc := 112) C dX7_doors_112 ?_
                  refine g_put (pc := 113) (T := TX7) (N := 33) (ty := .int) (ws' := [oC m 6 [.ref (A 0), .ref (A 1), .ref (A 2), .int ((kn1 (kn1 (kn1 (kn1 (knN τ i))))) 8 0), .ref (A 3), .ref (A 4), .ref (A 5), .int ((kn1 (kn1 (kn1 (kn1 (knN τ i))))) 8 1), .ref (A 6), .ref (A 7), .ref (A 8), .ref (A 9), .ref (A 10), .int ((kn1 (kn1 (kn1 (kn1 (knN τ i))))) 8 2), .int ((kn1 (kn1 (kn1 (kn1 (knN τ i))))) 8 3), .int (((kn1 (kn1 (kn1 (kn1 (knN τ i))))) 8 5) + 1), .int ((kn1 (kn1 (kn1 (kn1 (knN τ i))))) 8 6), .int ((kn1 (kn1 (kn1 (kn1 (knN τ i))))) 8 4), .int (y 0), .ref (A 11), .int (y 1), .ref (A 12), .int (y 2), .ref (A 13), .ref (A 14), .int (y 3), .int (y 4), .ref (A 15), .ref (A 16), .ref (A 17), .ref (A 18), .ref (A 19), .int (y 5)], iC G (A 3) 8 ((kn1 (kn1 (kn1 (kn1 (knN τ i))))) 0), iC G (A 4) 8 ((kn1 (kn1 (kn1 (kn1 (knN τ i))))) 1), iC G (A 5) 64 ((kn1 (kn1 (kn1 (kn1 (knN τ i))))) 2), iC G (A 6) 10 ((kn1 (kn1 (kn1 (kn1 (knN τ i))))) 3), iC G (A 7) 10 ((kn1 (kn1 (kn1 (kn1 (knN τ i))))) 4), iC G (A 8) 10 ((kn1 (kn1 (kn1 (kn1 (knN τ i))))) 5), iC G (A 9) 10 ((kn1 (kn1 (kn1 (kn1 (knN τ i))))) 6), iC G (A 10) 10 ((kn1 (kn1 (kn1 (kn1 (knN τ i))))) 7), iC G (A 11) 8 rr]) C rfl ib_X7 tyX7 tyX7_ok nmX7 0 rfl rfl 15 (by decide) mf_X7_297 rfl rfl rfl (by decide +kernel) rfl rfl (Nat.le_of_ble_eq_true rfl) dX7_doors_113 rfl ?_
                  refine g_ws (ws' := wN G m A (kn1 (kT (knN τ i))) y ++ ([iC G (A 11) 8 rr])) (by rw [← kT_out] <;> (simp [wN, aSc, aQu, aGr, aBe, aVi, aSp, up2_r, up2_n, up2_s, up2]; exact k4_5 _)) ?_
                  refine g_aload_n (pc := 116) C dX7_doors_116 2 rfl ?_
                  refine g_aload_n (pc := 117) C dX7_doors_117 2 rfl ?_
                  refine g_get (pc := 118) (T := TX7) (N := 33) (v := .ref (A 6)) C ib_X7 0 rfl rfl 8 (by decide) mf_X7_29 rfl rfl rfl dX7_doors_118 ?_
                  refine g_iload (pc := 121) C dX7_doors_121 1 rfl ?_
                  refine g_iald (pc := 123) (v := (knN τ i) 3 (kG (knN τ i))) C 4 rfl (kG (knN τ i)) (rfl) ⟨by omega, by decide⟩ (rfl) dX7_doors_123 ?_
                  refine g_wrVI (pc := 124) (rest := []) (wr := [iC G (A 11) 8 rr]) C (fun _ => wN G m A (kn1 (kn1 (kT (knN τ i)))) y ++ ([iC G (A 11) 8 rr])) rfl k_X7_draw (c_X7_draw l G m A (kn1 (kT (knN τ i))) y ((knN τ i) 3 (kG (knN τ i))) (by rw [hc9.1]; exact not1 hc9.2.2 (by omega))) ml_X7_294 rfl ⟨Nat.le_of_ble_eq_true rfl, Nat.le_of_ble_eq_true rfl⟩ rfl [0, 1, 2, 3, 4, 5, 6, 7, 8] [9] [1, 2, 3, 4, 5, 6, 7, 8, 9, 0] rfl (by decide) rfl (by decide) (by decide) (by decide) (fun _ => rfl) 0 rfl rfl rfl rfl (Nat.le_of_ble_eq_true rfl) ⟨by decide, by decide⟩ dX7_doors_124 (fun r124 _ e124 => ?_)
                  subst e124
                  refine g_aload_n (pc := 127) C dX7_doors_127 2 rfl ?_
                  refine g_iload (pc := 128) C dX7_doors_128 0 rfl ?_
                  refine g_iload (pc := 130) C dX7_doors_130 1 rfl ?_
                  refine g_aload_n (pc := 132) C dX7_doors_132 2 rfl ?_
                  refine g_get (pc := 133) (T := TX7) (N := 33) (v := .ref (A 6)) C ib_X7 0 rfl rfl 8 (by decide) mf_X7_29 rfl rfl rfl dX7_doors_133 ?_
                  refine g_iload (pc := 136) C dX7_doors_136 1 rfl ?_
                  refine g_iald (pc := 138) (v := (knN τ i) 3 (kG (knN τ i))) C 4 rfl (kG (knN τ i)) (rfl) ⟨by omega, by decide⟩ (rfl) dX7_doors_138 ?_
                  refine g_rdVI (pc := 139) (val := yG (kn1 (kn1 (kT (knN τ i)))) (kQ (knN τ i)) (kG (knN τ i)) ((knN τ i) 3 (kG (knN τ i)))) (rest := [.int (drV ((kn1 (kT (knN τ i))) 8 4) ((knN τ i) 3 (kG (knN τ i))))]) C k_X7_yesBy (c_X7_yesBy l G m A (kn1 (kn1 (kT (knN τ i)))) y (kQ (knN τ i)) (kG (knN τ i)) ((knN τ i) 3 (kG (knN τ i))) (by first | assumption | omega | decide) (by first | assumption | omega | decide)) ml_X7_207 rfl ⟨Nat.le_of_ble_eq_true rfl, Nat.le_of_ble_eq_true rfl⟩ rfl [0, 1, 2, 3, 4, 5, 6, 7, 8] rfl 0 rfl rfl rfl rfl (Nat.le_of_ble_eq_true rfl) ⟨by decide, by decide⟩ dX7_doors_139 ?_
                  refine g_icmp_ge (pc := 142) (tgt := 155) C dX7_doors_142 (by decide) (fun h142 => ?_) (fun h142 => ?_)
                  · refine g_iinc (pc := 155) (v := nI (i + 1)) (lv' := [(3, .int (nI (i + 1))), (5, .int (nI (kQ (knN τ i)))), (4, .int (nI (kG (knN τ i)))), (0, .ref m), (1, .int (nI n8)), (2, .int (τ 8 6))]) C dX7_doors_155 5 rfl (nI_1 i) (by decide) rfl ?_
                    refine g_goto (pc := 158) (tgt := 46) C dX7_doors_158 (by decide) ?_
                    refine g_ws (ws' := wN G m A (knN τ (i + 1)) y ++ ([iC G (A 11) 8 rr])) (by rw [show knN τ (i + 1) = _ from kk_3 h74 h90 h142] <;> rfl) ?_
                    refine g_sub (lv' := [(0, .ref m), (1, .int (nI n8)), (2, .int (τ 8 6)), (3, .int (nI (i + 1)))]) [3, 4, 5, 0] rfl ?_
                    exact ih46 (i + 1) (by first | assumption | omega | decide) (by omega)
                  · refine g_aload_n (pc := 145) C dX7_doors_145 2 rfl ?_
                    refine g_dup (pc := 146) C dX7_doors_146 rfl ?_
                    refine g_get (pc := 147) (T := TX7) (N := 33) (v := .int ((kn1 (kn1 (kT (knN τ i)))) 8 6)) C ib_X7 0 rfl rfl 16 (by decide) mf_X7_291 rfl rfl rfl dX7_doors_147 ?_
                    refine g_iconst (pc := 150) (v := 1) C dX7_doors_150 (by decide) ?_
                    refine g_iadd (pc := 151) C dX7_doors_151 ?_
                    refine g_put (pc := 152) (T := TX7) (N := 33) (ty := .int) (ws' := [oC m 6 [.ref (A 0), .ref (A 1), .ref (A 2), .int ((kn1 (kn1 (kT (knN τ i)))) 8 0), .ref (A 3), .ref (A 4), .ref (A 5), .int ((kn1 (kn1 (kT (knN τ i)))) 8 1), .ref (A 6), .ref (A 7), .ref (A 8), .ref (A 9), .ref (A 10), .int ((kn1 (kn1 (kT (knN τ i)))) 8 2), .int ((kn1 (kn1 (kT (knN τ i)))) 8 3), .int ((kn1 (kn1 (kT (knN τ i)))) 8 5), .int (((kn1 (kn1 (kT (knN τ i)))) 8 6) + 1), .int ((kn1 (kn1 (kT (knN τ i)))) 8 4), .int (y 0), .ref (A 11), .int (y 1), .ref (A 12), .int (y 2), .ref (A 13), .ref (A 14), .int (y 3), .int (y 4), .ref (A 15), .ref (A 16), .ref (A 17), .ref (A 18), .ref (A 19), .int (y 5)], iC G (A 3) 8 ((kn1 (kn1 (kT (knN τ i)))) 0), iC G (A 4) 8 ((kn1 (kn1 (kT (knN τ i)))) 1), iC G (A 5) 64 ((kn1 (kn1 (kT (knN τ i)))) 2), iC G (A 6) 10 ((kn1 (kn1 (kT (knN τ i)))) 3), iC G (A 7) 10 ((kn1 (kn1 (kT (knN τ i)))) 4), iC G (A 8) 10 ((kn1 (kn1 (kT (knN τ i)))) 5), iC G (A 9) 10 ((kn1 (kn1 (kT (knN τ i)))) 6), iC G (A 10) 10 ((kn1 (kn1 (kT (knN τ i)))) 7), iC G (A 11) 8 rr]) C rfl ib_X7 tyX7 tyX7_ok nmX7 0 rfl rfl 16 (by decide) mf_X7_291 rfl rfl rfl (by decide +kernel) rfl rfl (Nat.le_of_ble_eq_true rfl) dX7_doors_152 rfl ?_
                    refine g_iinc (pc := 155) (v := nI (i + 1)) (lv' := [(3, .int (nI (i + 1))), (5, .int (nI (kQ (knN τ i)))), (4, .int (nI (kG (knN τ i)))), (0, .ref m), (1, .int (nI n8)), (2, .int (τ 8 6))]) C dX7_doors_155 5 rfl (nI_1 i) (by decide) rfl ?_
                    refine g_goto (pc := 158) (tgt := 46) C dX7_doors_158 (by decide) ?_
                    refine g_ws (ws' := wN G m A (knN τ (i + 1)) y ++ ([iC G (A 11) 8 rr])) (by rw [show knN τ (i + 1) = _ from kk_4 h74 h90 h142] <;> (simp [wN, aSc, aQu, aGr, aBe, aVi, aSp, up2_r, up2_n, up2_s, up2]; exact kT_6 _)) ?_
                    refine g_sub (lv' := [(0, .ref m), (1, .int (nI n8)), (2, .int (τ 8 6)), (3, .int (nI (i + 1)))]) [3, 4, 5, 0] rfl ?_
                    exact ih46 (i + 1) (by first | assumption | omega | decide) (by omega)
                · refine g_goto (pc := 93) (tgt := 155) C dX7_doors_93 (by decide) ?_
                  refine g_iinc (pc := 155) (v := nI (i + 1)) (lv' := [(3, .int (nI (i + 1))), (4, .int (nI (kG (knN τ i)))), (0, .ref m), (1, .int (nI n8)), (2, .int (τ 8 6))]) C dX7_doors_155 4 rfl (nI_1 i) (by decide) rfl ?_
                  refine g_goto (pc := 158) (tgt := 46) C dX7_doors_158 (by decide) ?_
                  refine g_ws (ws' := wN G m A (knN τ (i + 1)) y ++ ([iC G (A 11) 8 rr])) (by rw [show knN τ (i + 1) = _ from kk_2 h74 h90] <;> rfl) ?_
                  refine g_sub (lv' := [(0, .ref m), (1, .int (nI n8)), (2, .int (τ 8 6)), (3, .int (nI (i + 1)))]) [2, 3, 4, 0] rfl ?_
                  exact ih46 (i + 1) (by first | assumption | omega | decide) (by omega)
        refine g_ws (ws' := wN G m A (knN τ 0) y ++ ([iC G (A 11) 8 rr])) (rfl) ?_
        refine g_sub (lv' := [(0, .ref m), (1, .int (nI n8)), (2, .int (τ 8 6)), (3, .int (nI 0))]) [2, 3, 1, 0] rfl ?_
        exact key_46 _ 0 (by first | assumption | omega | decide) (Nat.lt_succ_self _)
      · refine g_aload_n (pc := 32) C dX7_doors_32 0 rfl ?_
        refine g_bipush (pc := 33) (v := (-6)) C dX7_doors_33 (by decide) ?_
        refine g_wrVI (pc := 35) (rest := []) (wr := []) C (fun _ => wN G m A τ y ++ ([iC G (A 11) 8 (rfI rr (-6))])) rfl k_X7_no (c_X7_no l G m A τ y rr (-6) (by first | assumption | omega | decide)) ml_X7_81 rfl ⟨Nat.le_of_ble_eq_true rfl, Nat.le_of_ble_eq_true rfl⟩ rfl [0, 1, 2, 3, 4, 5, 6, 7, 8, 9] [] [0, 1, 2, 3, 4, 5, 6, 7, 8, 9] rfl (by decide) rfl (by decide) (by decide) (by decide) (fun _ => rfl) 0 rfl rfl rfl rfl (Nat.le_of_ble_eq_true rfl) ⟨by decide, by decide⟩ dX7_doors_35 (fun r35 _ e35 => ?_)
        subst e35
        exact g_retIW (pc := 38) C rfl rfl () (rfl) (by have e9 : rcDo τ n = (-6) := (by first | (simp [rcDo, *]; done) | (grind [rcDo])); rw [if_neg (by rw [e9] <;> (first | done | decide)), e9]) (by have e9 : rcDo τ n = (-6) := (by first | (simp [rcDo, *]; done) | (grind [rcDo])); rw [e9] <;> (first | done | rfl | (rw [if_neg (by decide)] <;> (first | done | rfl)))) dX7_doors_38
    · refine g_aload_n (pc := 14) C dX7_doors_14 0 rfl ?_
      refine g_bipush (pc := 15) (v := (-5)) C dX7_doors_15 (by decide) ?_
      refine g_wrVI (pc := 17) (rest := []) (wr := []) C (fun _ => wN G m A τ y ++ ([iC G (A 11) 8 (rfI rr (-5))])) rfl k_X7_no (c_X7_no l G m A τ y rr (-5) (by first | assumption | omega | decide)) ml_X7_81 rfl ⟨Nat.le_of_ble_eq_true rfl, Nat.le_of_ble_eq_true rfl⟩ rfl [0, 1, 2, 3, 4, 5, 6, 7, 8, 9] [] [0, 1, 2, 3, 4, 5, 6, 7, 8, 9] rfl (by decide) rfl (by decide) (by decide) (by decide) (fun _ => rfl) 0 rfl rfl rfl rfl (Nat.le_of_ble_eq_true rfl) ⟨by decide, by decide⟩ dX7_doors_17 (fun r17 _ e17 => ?_)
      subst e17
      exact g_retIW (pc := 20) C rfl rfl () (rfl) (by have e9 : rcDo τ n = (-5) := (by first | (simp [rcDo, *]; done) | (grind [rcDo])); rw [if_neg (by rw [e9] <;> (first | done | decide)), e9]) (by have e9 : rcDo τ n = (-5) := (by first | (simp [rcDo, *]; done) | (grind [rcDo])); rw [e9] <;> (first | done | rfl | (rw [if_neg (by decide)] <;> (first | done | rfl)))) dX7_doors_20
