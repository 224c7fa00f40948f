theorem upd_self {f : Nat → Int32} {k : Nat} {x : Int32} (h : f k = x) : upd f k x = f := by
  funext j; unfold upd
  by_cases e : j = k
  · rw [if_pos e, e, h]
  · rw [if_neg e]
theorem TI.z {τ : tT} (hT : TI τ) {i j : Nat} (hi : i < 8) (hj : j < 8) (h : tQ τ ≤ i ∨ tQ τ ≤ j) : τ 2 (8 * i + j) = 0 := by
  rw [Nat.mul_comm]; exact (hT.2.2.2.1 i j hi hj).2 h
theorem be_z {τ : tT} (hT : TI τ) {i : Nat} (hi : i < 8) (hQ : tQ τ < 8) : upd (upd (τ 2) (8 * tQ τ + i) 0) (8 * i + tQ τ) 0 = τ 2 := by
  have h1 : upd (τ 2) (8 * tQ τ + i) 0 = τ 2 := upd_self (hT.z hQ hi (Or.inl (Nat.le_refl _)))
  rw [h1]
  exact upd_self (hT.z hi hQ (Or.inr (Nat.le_refl _)))
set_option maxRecDepth 20000 in
set_option maxHeartbeats 4000000 in
theorem c_X7_newQuestion (l : Launch) (G : gT) (m : Nat) (A : Nat → Nat) (τ : tT) (y : Nat → Int32) (k : Int32) (x : Int32) (hT : TI τ) (hQ : tQ τ < 8) : WI l yX7_newQuestion cX7_newQuestion 4 (some .int) 0 0 0 G [.ref m, .int k, .int x] (wN G m A τ y) (S := Unit) (fun r _ => r = nI (tQ τ)) (fun _ => wN G m A (aQu τ k x) y) := by
  intro sz9
  refine start_W (by decide) (Nat.le_of_ble_eq_true rfl) (fun p9 e9 s9 m9 a9 b9 t9 c9 C => ?_)
  refine g_lv (lv' := [(0, .ref m), (1, .int k), (2, .int x)]) rfl ?_
  refine g_aload_n (pc := 0) C dX7_newQuestion_0 0 rfl ?_
  refine g_get (pc := 1) (T := TX7) (N := 33) (v := .ref (A 3)) C ib_X7 0 rfl rfl 4 (by decide) mf_X7_20 rfl rfl rfl dX7_newQuestion_1 ?_
  refine g_aload_n (pc := 4) C dX7_newQuestion_4 0 rfl ?_
  refine g_get (pc := 5) (T := TX7) (N := 33) (v := .int (τ 8 0)) C ib_X7 0 rfl rfl 3 (by decide) mf_X7_85 rfl rfl rfl dX7_newQuestion_5 ?_
  refine g_top (z := nI (tQ τ)) (hT.q) ?_
  refine g_iload_n (pc := 8) C dX7_newQuestion_8 1 rfl ?_
  refine g_iast (pc := 9) (ws' := [oC m 6 [.ref (A 0), .ref (A 1), .ref (A 2), .int (τ 8 0), .ref (A 3), .ref (A 4), .ref (A 5), .int (τ 8 1), .ref (A 6), .ref (A 7), .ref (A 8), .ref (A 9), .ref (A 10), .int (τ 8 2), .int (τ 8 3), .int (τ 8 5), .int (τ 8 6), .int (τ 8 4), .int (y 0), .ref (A 11), .int (y 1), .ref (A 12), .int (y 2), .ref (A 13), .ref (A 14), .int (y 3), .int (y 4), .ref (A 15), .ref (A 16), .ref (A 17), .ref (A 18), .ref (A 19), .int (y 5)], iC G (A 3) 8 (upd (τ 0) (tQ τ) k), iC G (A 4) 8 (τ 1), iC G (A 5) 64 (τ 2), iC G (A 6) 10 (τ 3), iC G (A 7) 10 (τ 4), iC G (A 8) 10 (τ 5), iC G (A 9) 10 (τ 6), iC G (A 10) 10 (τ 7)]) C rfl 1 rfl (tQ τ) (rfl) ⟨by omega, by decide⟩ dX7_newQuestion_9 rfl ?_
  refine g_aload_n (pc := 10) C dX7_newQuestion_10 0 rfl ?_
  refine g_get (pc := 11) (T := TX7) (N := 33) (v := .ref (A 4)) C ib_X7 0 rfl rfl 5 (by decide) mf_X7_23 rfl rfl rfl dX7_newQuestion_11 ?_
  refine g_aload_n (pc := 14) C dX7_newQuestion_14 0 rfl ?_
  refine g_get (pc := 15) (T := TX7) (N := 33) (v := .int (τ 8 0)) C ib_X7 0 rfl rfl 3 (by decide) mf_X7_85 rfl rfl rfl dX7_newQuestion_15 ?_
  refine g_top (z := nI (tQ τ)) (hT.q) ?_
  refine g_iload_n (pc := 18) C dX7_newQuestion_18 2 rfl ?_
  refine g_iast (pc := 19) (ws' := [oC m 6 [.ref (A 0), .ref (A 1), .ref (A 2), .int (τ 8 0), .ref (A 3), .ref (A 4), .ref (A 5), .int (τ 8 1), .ref (A 6), .ref (A 7), .ref (A 8), .ref (A 9), .ref (A 10), .int (τ 8 2), .int (τ 8 3), .int (τ 8 5), .int (τ 8 6), .int (τ 8 4), .int (y 0), .ref (A 11), .int (y 1), .ref (A 12), .int (y 2), .ref (A 13), .ref (A 14), .int (y 3), .int (y 4), .ref (A 15), .ref (A 16), .ref (A 17), .ref (A 18), .ref (A 19), .int (y 5)], iC G (A 3) 8 (upd (τ 0) (tQ τ) k), iC G (A 4) 8 (upd (τ 1) (tQ τ) x), iC G (A 5) 64 (τ 2), iC G (A 6) 10 (τ 3), iC G (A 7) 10 (τ 4), iC G (A 8) 10 (τ 5), iC G (A 9) 10 (τ 6), iC G (A 10) 10 (τ 7)]) C rfl 2 rfl (tQ τ) (rfl) ⟨by omega, by decide⟩ dX7_newQuestion_19 rfl ?_
  refine g_iconst (pc := 20) (v := 0) C dX7_newQuestion_20 (by decide) ?_
  refine g_istore_n (pc := 21) (lv' := [(3, .int 0), (0, .ref m), (1, .int k), (2, .int x)]) C dX7_newQuestion_21 rfl (by decide) rfl ?_
  have key_22 : ∀ (n22 : Nat) (i : Nat) (hi : i ≤ 8), 8 - i < n22 → GW p9 l e9 (rmh 0 0 0) s9 m9 a9 b9 t9 c9 (MQ b9 (va_Qi (fun r (_ : Unit) => r = nI (tQ τ)) (BW G (wN G m A τ y) sz9 (fun _ => wN G m A (aQu τ k x) y)) (va_A (wN G m A τ y) sz9)) a9 s9 0 0 (va_A (wN G m A τ y) sz9)) G (va_A (wN G m A τ y) sz9) true 4 0 0 ([oC m 6 [.ref (A 0), .ref (A 1), .ref (A 2), .int (τ 8 0), .ref (A 3), .ref (A 4), .ref (A 5), .int (τ 8 1), .ref (A 6), .ref (A 7), .ref (A 8), .ref (A 9), .ref (A 10), .int (τ 8 2), .int (τ 8 3), .int (τ 8 5), .int (τ 8 6), .int (τ 8 4), .int (y 0), .ref (A 11), .int (y 1), .ref (A 12), .int (y 2), .ref (A 13), .ref (A 14), .int (y 3), .int (y 4), .ref (A 15), .ref (A 16), .ref (A 17), .ref (A 18), .ref (A 19), .int (y 5)], iC G (A 3) 8 (upd (τ 0) (tQ τ) k), iC G (A 4) 8 (upd (τ 1) (tQ τ) x), iC G (A 5) 64 (τ 2), iC G (A 6) 10 (τ 3), iC G (A 7) 10 (τ 4), iC G (A 8) 10 (τ 5), iC G (A 9) 10 (τ 6), iC G (A 10) 10 (τ 7)]) [(0, .ref m), (1, .int k), (2, .int x), (3, .int (nI i))] 22 [] := by
    intro n22
    induction n22 with
    | zero => intro i hi hn22; exact absurd hn22 (Nat.not_lt_zero _)
    | succ n22 ih22 =>
      intro i hi hn22
      refine g_iload_n (pc := 22) C dX7_newQuestion_22 3 rfl ?_
      refine g_bipush (pc := 23) (v := 8) C dX7_newQuestion_23 (by decide) ?_
      refine g_icmpN_ge (pc := 25) (i := i) (j := 8) (tgt := 64) C dX7_newQuestion_25 (by decide) ⟨by omega, by omega⟩ (fun h25 => ?_) (fun h25 => ?_)
      · refine g_aload_n (pc := 64) C dX7_newQuestion_64 0 rfl ?_
        refine g_dup (pc := 65) C dX7_newQuestion_65 rfl ?_
        refine g_get (pc := 66) (T := TX7) (N := 33) (v := .int (τ 8 0)) C ib_X7 0 rfl rfl 3 (by decide) mf_X7_85 rfl rfl rfl dX7_newQuestion_66 ?_
        refine g_top (z := nI (tQ τ)) (hT.q) ?_
        refine g_dup_x1 (pc := 69) C dX7_newQuestion_69 rfl rfl ?_
        refine g_iconst (pc := 70) (v := 1) C dX7_newQuestion_70 (by decide) ?_
        refine g_iaddN (pc := 71) (i := tQ τ) (j := 1) C dX7_newQuestion_71 ?_
        refine g_put (pc := 72) (T := TX7) (N := 33) (ty := .int) (ws' := [oC m 6 [.ref (A 0), .ref (A 1), .ref (A 2), .int (nI ((tQ τ) + 1)), .ref (A 3), .ref (A 4), .ref (A 5), .int (τ 8 1), .ref (A 6), .ref (A 7), .ref (A 8), .ref (A 9), .ref (A 10), .int (τ 8 2), .int (τ 8 3), .int (τ 8 5), .int (τ 8 6), .int (τ 8 4), .int (y 0), .ref (A 11), .int (y 1), .ref (A 12), .int (y 2), .ref (A 13), .ref (A 14), .int (y 3), .int (y 4), .ref (A 15), .ref (A 16), .ref (A 17), .ref (A 18), .ref (A 19), .int (y 5)], iC G (A 3) 8 (upd (τ 0) (tQ τ) k), iC G (A 4) 8 (upd (τ 1) (tQ τ) x), iC G (A 5) 64 (τ 2), iC G (A 6) 10 (τ 3), iC G (A 7) 10 (τ 4), iC G (A 8) 10 (τ 5), iC G (A 9) 10 (τ 6), iC G (A 10) 10 (τ 7)]) C rfl ib_X7 tyX7 tyX7_ok nmX7 0 rfl rfl 3 (by decide) mf_X7_85 rfl rfl rfl (by decide +kernel) rfl rfl (Nat.le_of_ble_eq_true rfl) dX7_newQuestion_72 rfl ?_
        exact g_retIW (pc := 75) C rfl rfl () (rfl) (by rfl) (by simp [wN, aSc, aQu, aGr, aBe, aVi, aSp, up2_r, up2_n, up2_s, up2]) dX7_newQuestion_75
      · refine g_aload_n (pc := 28) C dX7_newQuestion_28 0 rfl ?_
        refine g_get (pc := 29) (T := TX7) (N := 33) (v := .ref (A 5)) C ib_X7 0 rfl rfl 6 (by decide) mf_X7_26 rfl rfl rfl dX7_newQuestion_29 ?_
        refine g_bipush (pc := 32) (v := 8) C dX7_newQuestion_32 (by decide) ?_
        refine g_aload_n (pc := 34) C dX7_newQuestion_34 0 rfl ?_
        refine g_get (pc := 35) (T := TX7) (N := 33) (v := .int (τ 8 0)) C ib_X7 0 rfl rfl 3 (by decide) mf_X7_85 rfl rfl rfl dX7_newQuestion_35 ?_
        refine g_top (z := nI (tQ τ)) (hT.q) ?_
        refine g_imulN (pc := 38) (i := 8) (j := tQ τ) C dX7_newQuestion_38 ?_
        refine g_iload_n (pc := 39) C dX7_newQuestion_39 3 rfl ?_
        refine g_iaddN (pc := 40) (i := 8 * (tQ τ)) (j := i) C dX7_newQuestion_40 ?_
        refine g_iconst (pc := 41) (v := 0) C dX7_newQuestion_41 (by decide) ?_
        refine g_iast (pc := 42) (ws' := [oC m 6 [.ref (A 0), .ref (A 1), .ref (A 2), .int (τ 8 0), .ref (A 3), .ref (A 4), .ref (A 5), .int (τ 8 1), .ref (A 6), .ref (A 7), .ref (A 8), .ref (A 9), .ref (A 10), .int (τ 8 2), .int (τ 8 3), .int (τ 8 5), .int (τ 8 6), .int (τ 8 4), .int (y 0), .ref (A 11), .int (y 1), .ref (A 12), .int (y 2), .ref (A 13), .ref (A 14), .int (y 3), .int (y 4), .ref (A 15), .ref (A 16), .ref (A 17), .ref (A 18), .ref (A 19), .int (y 5)], iC G (A 3) 8 (upd (τ 0) (tQ τ) k), iC G (A 4) 8 (upd (τ 1) (tQ τ) x), iC G (A 5) 64 (upd (τ 2) ((8 * (tQ τ)) + i) 0), iC G (A 6) 10 (τ 3), iC G (A 7) 10 (τ 4), iC G (A 8) 10 (τ 5), iC G (A 9) 10 (τ 6), iC G (A 10) 10 (τ 7)]) C rfl 3 rfl ((8 * (tQ τ)) + i) (rfl) ⟨by omega, by decide⟩ dX7_newQuestion_42 rfl ?_
        refine g_aload_n (pc := 43) C dX7_newQuestion_43 0 rfl ?_
        refine g_get (pc := 44) (T := TX7) (N := 33) (v := .ref (A 5)) C ib_X7 0 rfl rfl 6 (by decide) mf_X7_26 rfl rfl rfl dX7_newQuestion_44 ?_
        refine g_bipush (pc := 47) (v := 8) C dX7_newQuestion_47 (by decide) ?_
        refine g_iload_n (pc := 49) C dX7_newQuestion_49 3 rfl ?_
        refine g_imulN (pc := 50) (i := 8) (j := i) C dX7_newQuestion_50 ?_
        refine g_aload_n (pc := 51) C dX7_newQuestion_51 0 rfl ?_
        refine g_get (pc := 52) (T := TX7) (N := 33) (v := .int (τ 8 0)) C ib_X7 0 rfl rfl 3 (by decide) mf_X7_85 rfl rfl rfl dX7_newQuestion_52 ?_
        refine g_top (z := nI (tQ τ)) (hT.q) ?_
        refine g_iaddN (pc := 55) (i := 8 * i) (j := tQ τ) C dX7_newQuestion_55 ?_
        refine g_iconst (pc := 56) (v := 0) C dX7_newQuestion_56 (by decide) ?_
        refine g_iast (pc := 57) (ws' := [oC m 6 [.ref (A 0), .ref (A 1), .ref (A 2), .int (τ 8 0), .ref (A 3), .ref (A 4), .ref (A 5), .int (τ 8 1), .ref (A 6), .ref (A 7), .ref (A 8), .ref (A 9), .ref (A 10), .int (τ 8 2), .int (τ 8 3), .int (τ 8 5), .int (τ 8 6), .int (τ 8 4), .int (y 0), .ref (A 11), .int (y 1), .ref (A 12), .int (y 2), .ref (A 13), .ref (A 14), .int (y 3), .int (y 4), .ref (A 15), .ref (A 16), .ref (A 17), .ref (A 18), .ref (A 19), .int (y 5)], iC G (A 3) 8 (upd (τ 0) (tQ τ) k), iC G (A 4) 8 (upd (τ 1) (tQ τ) x), iC G (A 5) 64 (upd (upd (τ 2) ((8 * (tQ τ)) + i) 0) ((8 * i) + (tQ τ)) 0), iC G (A 6) 10 (τ 3), iC G (A 7) 10 (τ 4), iC G (A 8) 10 (τ 5), iC G (A 9) 10 (τ 6), iC G (A 10) 10 (τ 7)]) C rfl 3 rfl ((8 * i) + (tQ τ)) (rfl) ⟨by omega, by decide⟩ dX7_newQuestion_57 rfl ?_
        refine g_iinc (pc := 58) (v := nI (i + 1)) (lv' := [(3, .int (nI (i + 1))), (0, .ref m), (1, .int k), (2, .int x)]) C dX7_newQuestion_58 3 rfl (nI_1 i) (by decide) rfl ?_
        refine g_goto (pc := 61) (tgt := 22) C dX7_newQuestion_61 (by decide) ?_
        refine g_ws (ws' := [oC m 6 [.ref (A 0), .ref (A 1), .ref (A 2), .int (τ 8 0), .ref (A 3), .ref (A 4), .ref (A 5), .int (τ 8 1), .ref (A 6), .ref (A 7), .ref (A 8), .ref (A 9), .ref (A 10), .int (τ 8 2), .int (τ 8 3), .int (τ 8 5), .int (τ 8 6), .int (τ 8 4), .int (y 0), .ref (A 11), .int (y 1), .ref (A 12), .int (y 2), .ref (A 13), .ref (A 14), .int (y 3), .int (y 4), .ref (A 15), .ref (A 16), .ref (A 17), .ref (A 18), .ref (A 19), .int (y 5)], iC G (A 3) 8 (upd (τ 0) (tQ τ) k), iC G (A 4) 8 (upd (τ 1) (tQ τ) x), iC G (A 5) 64 (τ 2), iC G (A 6) 10 (τ 3), iC G (A 7) 10 (τ 4), iC G (A 8) 10 (τ 5), iC G (A 9) 10 (τ 6), iC G (A 10) 10 (τ 7)]) (by rw [be_z hT (by omega) hQ]) ?_
        refine g_sub (lv' := [(0, .ref m), (1, .int k), (2, .int x), (3, .int (nI (i + 1)))]) [1, 2, 3, 0] rfl ?_
        exact ih22 (i + 1) (by first | assumption | omega) (by omega)
  refine g_ws (ws' := [oC m 6 [.ref (A 0), .ref (A 1), .ref (A 2), .int (τ 8 0), .ref (A 3), .ref (A 4), .ref (A 5), .int (τ 8 1), .ref (A 6), .ref (A 7), .ref (A 8), .ref (A 9), .ref (A 10), .int (τ 8 2), .int (τ 8 3), .int (τ 8 5), .int (τ 8 6), .int (τ 8 4), .int (y 0), .ref (A 11), .int (y 1), .ref (A 12), .int (y 2), .ref (A 13), .ref (A 14), .int (y 3), .int (y 4), .ref (A 15), .ref (A 16), .ref (A 17), .ref (A 18), .ref (A 19), .int (y 5)], iC G (A 3) 8 (upd (τ 0) (tQ τ) k), iC G (A 4) 8 (upd (τ 1) (tQ τ) x), iC G (A 5) 64 (τ 2), iC G (A 6) 10 (τ 3), iC G (A 7) 10 (τ 4), iC G (A 8) 10 (τ 5), iC G (A 9) 10 (τ 6), iC G (A 10) 10 (τ 7)]) (rfl) ?_
  refine g_sub (lv' := [(0, .ref m), (1, .int k), (2, .int x), (3, .int (nI 0))]) [1, 2, 3, 0] rfl ?_
  exact key_22 _ 0 (by first | assumption | omega) (Nat.lt_succ_self _)
set_option maxRecDepth 20000 in
set_option maxHeartbeats 4000000 in
theorem c_X7_newGroup (l : Launch) (G : gT) (m : Nat) (A : Nat → Nat) (τ : tT) (y : Nat → Int32) (n : Int32) (v : Int32) (g : Int32) (hm : Int32) (w : Int32) (hT : TI τ) (hG : tG τ < 10) : WI l yX7_newGroup cX7_newGroup 6 (some .int) 0 0 0 G [.ref m, .int n, .int v, .int g, .int hm, .int w] (wN G m A τ y) (S := Unit) (fun r _ => r = nI (tG τ)) (fun _ => wN G m A (aGr τ n v g hm w) y) := by
  intro sz9
  refine start_W (by decide) (Nat.le_of_ble_eq_true rfl) (fun p9 e9 s9 m9 a9 b9 t9 c9 C => ?_)
  refine g_lv (lv' := [(0, .ref m), (1, .int n), (2, .int v), (3, .int g), (4, .int hm), (5, .int w)]) rfl ?_
  refine g_aload_n (pc := 0) C dX7_newGroup_0 0 rfl ?_
  refine g_get (pc := 1) (T := TX7) (N := 33) (v := .ref (A 6)) C ib_X7 0 rfl rfl 8 (by decide) mf_X7_29 rfl rfl rfl dX7_newGroup_1 ?_
  refine g_aload_n (pc := 4) C dX7_newGroup_4 0 rfl ?_
  refine g_get (pc := 5) (T := TX7) (N := 33) (v := .int (τ 8 1)) C ib_X7 0 rfl rfl 7 (by decide) mf_X7_92 rfl rfl rfl dX7_newGroup_5 ?_
  refine g_top (z := nI (tG τ)) (hT.g) ?_
  refine g_iload_n (pc := 8) C dX7_newGroup_8 1 rfl ?_
  refine g_iast (pc := 9) (ws' := [oC m 6 [.ref (A 0), .ref (A 1), .ref (A 2), .int (τ 8 0), .ref (A 3), .ref (A 4), .ref (A 5), .int (τ 8 1), .ref (A 6), .ref (A 7), .ref (A 8), .ref (A 9), .ref (A 10), .int (τ 8 2), .int (τ 8 3), .int (τ 8 5), .int (τ 8 6), .int (τ 8 4), .int (y 0), .ref (A 11), .int (y 1), .ref (A 12), .int (y 2), .ref (A 13), .ref (A 14), .int (y 3), .int (y 4), .ref (A 15), .ref (A 16), .ref (A 17), .ref (A 18), .ref (A 19), .int (y 5)], iC G (A 3) 8 (τ 0), iC G (A 4) 8 (τ 1), iC G (A 5) 64 (τ 2), iC G (A 6) 10 (upd (τ 3) (tG τ) n), iC G (A 7) 10 (τ 4), iC G (A 8) 10 (τ 5), iC G (A 9) 10 (τ 6), iC G (A 10) 10 (τ 7)]) C rfl 4 rfl (tG τ) (rfl) ⟨by omega, by decide⟩ dX7_newGroup_9 rfl ?_
  refine g_aload_n (pc := 10) C dX7_newGroup_10 0 rfl ?_
  refine g_get (pc := 11) (T := TX7) (N := 33) (v := .ref (A 7)) C ib_X7 0 rfl rfl 9 (by decide) mf_X7_32 rfl rfl rfl dX7_newGroup_11 ?_
  refine g_aload_n (pc := 14) C dX7_newGroup_14 0 rfl ?_
  refine g_get (pc := 15) (T := TX7) (N := 33) (v := .int (τ 8 1)) C ib_X7 0 rfl rfl 7 (by decide) mf_X7_92 rfl rfl rfl dX7_newGroup_15 ?_
  refine g_top (z := nI (tG τ)) (hT.g) ?_
  refine g_iload_n (pc := 18) C dX7_newGroup_18 2 rfl ?_
  refine g_iast (pc := 19) (ws' := [oC m 6 [.ref (A 0), .ref (A 1), .ref (A 2), .int (τ 8 0), .ref (A 3), .ref (A 4), .ref (A 5), .int (τ 8 1), .ref (A 6), .ref (A 7), .ref (A 8), .ref (A 9), .ref (A 10), .int (τ 8 2), .int (τ 8 3), .int (τ 8 5), .int (τ 8 6), .int (τ 8 4), .int (y 0), .ref (A 11), .int (y 1), .ref (A 12), .int (y 2), .ref (A 13), .ref (A 14), .int (y 3), .int (y 4), .ref (A 15), .ref (A 16), .ref (A 17), .ref (A 18), .ref (A 19), .int (y 5)], iC G (A 3) 8 (τ 0), iC G (A 4) 8 (τ 1), iC G (A 5) 64 (τ 2), iC G (A 6) 10 (upd (τ 3) (tG τ) n), iC G (A 7) 10 (upd (τ 4) (tG τ) v), iC G (A 8) 10 (τ 5), iC G (A 9) 10 (τ 6), iC G (A 10) 10 (τ 7)]) C rfl 5 rfl (tG τ) (rfl) ⟨by omega, by decide⟩ dX7_newGroup_19 rfl ?_
  refine g_aload_n (pc := 20) C dX7_newGroup_20 0 rfl ?_
  refine g_get (pc := 21) (T := TX7) (N := 33) (v := .ref (A 8)) C ib_X7 0 rfl rfl 10 (by decide) mf_X7_35 rfl rfl rfl dX7_newGroup_21 ?_
  refine g_aload_n (pc := 24) C dX7_newGroup_24 0 rfl ?_
  refine g_get (pc := 25) (T := TX7) (N := 33) (v := .int (τ 8 1)) C ib_X7 0 rfl rfl 7 (by decide) mf_X7_92 rfl rfl rfl dX7_newGroup_25 ?_
  refine g_top (z := nI (tG τ)) (hT.g) ?_
  refine g_iload_n (pc := 28) C dX7_newGroup_28 3 rfl ?_
  refine g_iast (pc := 29) (ws' := [oC m 6 [.ref (A 0), .ref (A 1), .ref (A 2), .int (τ 8 0), .ref (A 3), .ref (A 4), .ref (A 5), .int (τ 8 1), .ref (A 6), .ref (A 7), .ref (A 8), .ref (A 9), .ref (A 10), .int (τ 8 2), .int (τ 8 3), .int (τ 8 5), .int (τ 8 6), .int (τ 8 4), .int (y 0), .ref (A 11), .int (y 1), .ref (A 12), .int (y 2), .ref (A 13), .ref (A 14), .int (y 3), .int (y 4), .ref (A 15), .ref (A 16), .ref (A 17), .ref (A 18), .ref (A 19), .int (y 5)], iC G (A 3) 8 (τ 0), iC G (A 4) 8 (τ 1), iC G (A 5) 64 (τ 2), iC G (A 6) 10 (upd (τ 3) (tG τ) n), iC G (A 7) 10 (upd (τ 4) (tG τ) v), iC G (A 8) 10 (upd (τ 5) (tG τ) g), iC G (A 9) 10 (τ 6), iC G (A 10) 10 (τ 7)]) C rfl 6 rfl (tG τ) (rfl) ⟨by omega, by decide⟩ dX7_newGroup_29 rfl ?_
  refine g_aload_n (pc := 30) C dX7_newGroup_30 0 rfl ?_
  refine g_get (pc := 31) (T := TX7) (N := 33) (v := .ref (A 9)) C ib_X7 0 rfl rfl 11 (by decide) mf_X7_38 rfl rfl rfl dX7_newGroup_31 ?_
  refine g_aload_n (pc := 34) C dX7_newGroup_34 0 rfl ?_
  refine g_get (pc := 35) (T := TX7) (N := 33) (v := .int (τ 8 1)) C ib_X7 0 rfl rfl 7 (by decide) mf_X7_92 rfl rfl rfl dX7_newGroup_35 ?_
  refine g_top (z := nI (tG τ)) (hT.g) ?_
  refine g_iload (pc := 38) C dX7_newGroup_38 4 rfl ?_
  refine g_iast (pc := 40) (ws' := [oC m 6 [.ref (A 0), .ref (A 1), .ref (A 2), .int (τ 8 0), .ref (A 3), .ref (A 4), .ref (A 5), .int (τ 8 1), .ref (A 6), .ref (A 7), .ref (A 8), .ref (A 9), .ref (A 10), .int (τ 8 2), .int (τ 8 3), .int (τ 8 5), .int (τ 8 6), .int (τ 8 4), .int (y 0), .ref (A 11), .int (y 1), .ref (A 12), .int (y 2), .ref (A 13), .ref (A 14), .int (y 3), .int (y 4), .ref (A 15), .ref (A 16), .ref (A 17), .ref (A 18), .ref (A 19), .int (y 5)], iC G (A 3) 8 (τ 0), iC G (A 4) 8 (τ 1), iC G (A 5) 64 (τ 2), iC G (A 6) 10 (upd (τ 3) (tG τ) n), iC G (A 7) 10 (upd (τ 4) (tG τ) v), iC G (A 8) 10 (upd (τ 5) (tG τ) g), iC G (A 9) 10 (upd (τ 6) (tG τ) hm), iC G (A 10) 10 (τ 7)]) C rfl 7 rfl (tG τ) (rfl) ⟨by omega, by decide⟩ dX7_newGroup_40 rfl ?_
  refine g_aload_n (pc := 41) C dX7_newGroup_41 0 rfl ?_
  refine g_get (pc := 42) (T := TX7) (N := 33) (v := .ref (A 10)) C ib_X7 0 rfl rfl 12 (by decide) mf_X7_41 rfl rfl rfl dX7_newGroup_42 ?_
  refine g_aload_n (pc := 45) C dX7_newGroup_45 0 rfl ?_
  refine g_get (pc := 46) (T := TX7) (N := 33) (v := .int (τ 8 1)) C ib_X7 0 rfl rfl 7 (by decide) mf_X7_92 rfl rfl rfl dX7_newGroup_46 ?_
  refine g_top (z := nI (tG τ)) (hT.g) ?_
  refine g_iload (pc := 49) C dX7_newGroup_49 5 rfl ?_
  refine g_iast (pc := 51) (ws' := [oC m 6 [.ref (A 0), .ref (A 1), .ref (A 2), .int (τ 8 0), .ref (A 3), .ref (A 4), .ref (A 5), .int (τ 8 1), .ref (A 6), .ref (A 7), .ref (A 8), .ref (A 9), .ref (A 10), .int (τ 8 2), .int (τ 8 3), .int (τ 8 5), .int (τ 8 6), .int (τ 8 4), .int (y 0), .ref (A 11), .int (y 1), .ref (A 12), .int (y 2), .ref (A 13), .ref (A 14), .int (y 3), .int (y 4), .ref (A 15), .ref (A 16), .ref (A 17), .ref (A 18), .ref (A 19), .int (y 5)], iC G (A 3) 8 (τ 0), iC G (A 4) 8 (τ 1), iC G (A 5) 64 (τ 2), iC G (A 6) 10 (upd (τ 3) (tG τ) n), iC G (A 7) 10 (upd (τ 4) (tG τ) v), iC G (A 8) 10 (upd (τ 5) (tG τ) g), iC G (A 9) 10 (upd (τ 6) (tG τ) hm), iC G (A 10) 10 (upd (τ 7) (tG τ) w)]) C rfl 8 rfl (tG τ) (rfl) ⟨by omega, by decide⟩ dX7_newGroup_51 rfl ?_
  refine g_aload_n (pc := 52) C dX7_newGroup_52 0 rfl ?_
  refine g_dup (pc := 53) C dX7_newGroup_53 rfl ?_
  refine g_get (pc := 54) (T := TX7) (N := 33) (v := .int (τ 8 1)) C ib_X7 0 rfl rfl 7 (by decide) mf_X7_92 rfl rfl rfl dX7_newGroup_54 ?_
  refine g_top (z := nI (tG τ)) (hT.g) ?_
  refine g_dup_x1 (pc := 57) C dX7_newGroup_57 rfl rfl ?_
  refine g_iconst (pc := 58) (v := 1) C dX7_newGroup_58 (by decide) ?_
  refine g_iaddN (pc := 59) (i := tG τ) (j := 1) C dX7_newGroup_59 ?_
  refine g_put (pc := 60) (T := TX7) (N := 33) (ty := .int) (ws' := [oC m 6 [.ref (A 0), .ref (A 1), .ref (A 2), .int (τ 8 0), .ref (A 3), .ref (A 4), .ref (A 5), .int (nI ((tG τ) + 1)), .ref (A 6), .ref (A 7), .ref (A 8), .ref (A 9), .ref (A 10), .int (τ 8 2), .int (τ 8 3), .int (τ 8 5), .int (τ 8 6), .int (τ 8 4), .int (y 0), .ref (A 11), .int (y 1), .ref (A 12), .int (y 2), .ref (A 13), .ref (A 14), .int (y 3), .int (y 4), .ref (A 15), .ref (A 16), .ref (A 17), .ref (A 18), .ref (A 19), .int (y 5)], iC G (A 3) 8 (τ 0), iC G (A 4) 8 (τ 1), iC G (A 5) 64 (τ 2), iC G (A 6) 10 (upd (τ 3) (tG τ) n), iC G (A 7) 10 (upd (τ 4) (tG τ) v), iC G (A 8) 10 (upd (τ 5) (tG τ) g), iC G (A 9) 10 (upd (τ 6) (tG τ) hm), iC G (A 10) 10 (upd (τ 7) (tG τ) w)]) C rfl ib_X7 tyX7 tyX7_ok nmX7 0 rfl rfl 7 (by decide) mf_X7_92 rfl rfl rfl (by decide +kernel) rfl rfl (Nat.le_of_ble_eq_true rfl) dX7_newGroup_60 rfl ?_
  exact g_retIW (pc := 63) C rfl rfl () (rfl) (by rfl) (by simp [wN, aSc, aQu, aGr, aBe, aVi, aSp, up2_r, up2_n, up2_s, up2]) dX7_newGroup_63
set_option maxRecDepth 20000 in
set_option maxHeartbeats 4000000 in
theorem c_X7_question (l : Launch) (G : gT) (m : Nat) (A : Nat → Nat) (τ : tT) (y : Nat → Int32) (k : Int32) (a : Int32) (rr : Nat → Int32) (hT : TI τ) : WI l yX7_question cX7_question 3 (some .int) 12 0 0 G [.ref m, .int k, .int a] (wN G m A τ y ++ ([iC G (A 11) 8 rr])) (S := Unit) (fun r _ => r = if rcQu τ k a = 0 then nI (tQ τ) else (rcQu τ k a)) (fun _ => wN G m A (if rcQu τ k a = 0 then aQu τ k a else τ) y ++ ([iC G (A 11) 8 (rfI rr (rcQu τ k a))])) := by
  have hg10 := hT.g10
  have hq8 := hT.q8
  intro sz9
  refine start_W (by decide) (Nat.le_of_ble_eq_true rfl) (fun p9 e9 s9 m9 a9 b9 t9 c9 C => ?_)
  refine g_lv (lv' := [(0, .ref m), (1, .int k), (2, .int a)]) rfl ?_
  refine g_iload_n (pc := 0) C dX7_question_0 1 rfl ?_
  refine g_iconst (pc := 1) (v := 0) C dX7_question_1 (by decide) ?_
  refine g_bipush (pc := 2) (v := 6) C dX7_question_2 (by decide) ?_
  refine g_rdSI (pc := 4) (val := bI (0 ≤ k ∧ k ≤ 6)) (rest := []) C k_X7_within (c_X7_within l G k 0 6) ml_X7_88 rfl ⟨Nat.le_of_ble_eq_true rfl, Nat.le_of_ble_eq_true rfl⟩ rfl [] rfl rfl (Nat.le_of_ble_eq_true rfl) ⟨by decide, by decide⟩ dX7_question_4 ?_
  refine g_ifb_ne (pc := 7) (tgt := 16) C dX7_question_7 (by decide) (fun h7 => ?_) (fun h7 => ?_)
  · refine g_iload_n (pc := 16) C dX7_question_16 2 rfl ?_
    refine g_iconst (pc := 17) (v := 0) C dX7_question_17 (by decide) ?_
    refine g_bipush (pc := 18) (v := 9) C dX7_question_18 (by decide) ?_
    refine g_rdSI (pc := 20) (val := bI (0 ≤ a ∧ a ≤ 9)) (rest := []) C k_X7_within (c_X7_within l G a 0 9) ml_X7_88 rfl ⟨Nat.le_of_ble_eq_true rfl, Nat.le_of_ble_eq_true rfl⟩ rfl [] rfl rfl (Nat.le_of_ble_eq_true rfl) ⟨by decide, by decide⟩ dX7_question_20 ?_
    refine g_ifb_ne (pc := 23) (tgt := 33) C dX7_question_23 (by decide) (fun h23 => ?_) (fun h23 => ?_)
    · refine g_aload_n (pc := 33) C dX7_question_33 0 rfl ?_
      refine g_get (pc := 34) (T := TX7) (N := 33) (v := .int (τ 8 0)) C ib_X7 0 rfl rfl 3 (by decide) mf_X7_85 rfl rfl rfl dX7_question_34 ?_
      refine g_top (z := nI (tQ τ)) (hT.q) ?_
      refine g_bipush (pc := 37) (v := 8) C dX7_question_37 (by decide) ?_
      refine g_icmpN_ne (pc := 39) (i := tQ τ) (j := 8) (tgt := 51) C dX7_question_39 (by decide) ⟨by omega, by omega⟩ (fun h39 => ?_) (fun h39 => ?_)
      · refine g_aload_n (pc := 51) C dX7_question_51 0 rfl ?_
        refine g_iload_n (pc := 52) C dX7_question_52 1 rfl ?_
        refine g_iload_n (pc := 53) C dX7_question_53 2 rfl ?_
        refine g_wrVI (pc := 54) (rest := []) (wr := [iC G (A 11) 8 rr]) C (fun _ => wN G m A (aQu τ k a) y ++ ([iC G (A 11) 8 rr])) rfl k_X7_newQuestion (c_X7_newQuestion l G m A τ y k a (by first | assumption | omega | decide) (by first | assumption | omega | decide)) ml_X7_119 rfl ⟨Nat.le_of_ble_eq_true rfl, Nat.le_of_ble_eq_true rfl⟩ rfl [0, 1, 2, 3, 4, 5, 6, 7, 8] [9] [1, 2, 3, 4, 5, 6, 7, 8, 9, 0] rfl (by decide) rfl (by decide) (by decide) (by decide) (fun _ => rfl) 0 rfl rfl rfl rfl (Nat.le_of_ble_eq_true rfl) ⟨by decide, by decide⟩ dX7_question_54 (fun r54 _ e54 => ?_)
        subst e54
        exact g_retIW (pc := 57) C rfl rfl () (rfl) (by have e9 : rcQu τ k a = 0 := (by first | (simp [rcQu, *]; done) | (grind [rcQu])); rw [if_pos e9] <;> (rfl)) (by have e9 : rcQu τ k a = 0 := (by first | (simp [rcQu, *]; done) | (grind [rcQu])); rw [e9, rfI_0] <;> (rfl)) dX7_question_57
      · refine g_aload_n (pc := 42) C dX7_question_42 0 rfl ?_
        refine g_bipush (pc := 43) (v := (-7)) C dX7_question_43 (by decide) ?_
        refine g_wrVI (pc := 45) (rest := []) (wr := []) C (fun _ => wN G m A τ y ++ ([iC G (A 11) 8 (rfI rr (-7))])) rfl k_X7_no (c_X7_no l G m A τ y rr (-7) (by first | assumption | omega | decide)) ml_X7_81 rfl ⟨Nat.le_of_ble_eq_true rfl, Nat.le_of_ble_eq_true rfl⟩ rfl [0, 1, 2, 3, 4, 5, 6, 7, 8, 9] [] [0, 1, 2, 3, 4, 5, 6, 7, 8, 9] rfl (by decide) rfl (by decide) (by decide) (by decide) (fun _ => rfl) 0 rfl rfl rfl rfl (Nat.le_of_ble_eq_true rfl) ⟨by decide, by decide⟩ dX7_question_45 (fun r45 _ e45 => ?_)
        subst e45
        refine g_goto (pc := 48) (tgt := 57) C dX7_question_48 (by decide) ?_
        exact g_retIW (pc := 57) C rfl rfl () (rfl) (by have e9 : rcQu τ k a = (-7) := (by first | (simp [rcQu, *]; done) | (grind [rcQu])); rw [if_neg (by rw [e9] <;> (first | done | decide)), e9]) (by have e9 : rcQu τ k a = (-7) := (by first | (simp [rcQu, *]; done) | (grind [rcQu])); rw [e9] <;> (first | done | rfl | (rw [if_neg (by decide)] <;> (first | done | rfl)))) dX7_question_57
    · refine g_aload_n (pc := 26) C dX7_question_26 0 rfl ?_
      refine g_bipush (pc := 27) (v := (-6)) C dX7_question_27 (by decide) ?_
      refine g_wrVI (pc := 29) (rest := []) (wr := []) C (fun _ => wN G m A τ y ++ ([iC G (A 11) 8 (rfI rr (-6))])) rfl k_X7_no (c_X7_no l G m A τ y rr (-6) (by first | assumption | omega | decide)) ml_X7_81 rfl ⟨Nat.le_of_ble_eq_true rfl, Nat.le_of_ble_eq_true rfl⟩ rfl [0, 1, 2, 3, 4, 5, 6, 7, 8, 9] [] [0, 1, 2, 3, 4, 5, 6, 7, 8, 9] rfl (by decide) rfl (by decide) (by decide) (by decide) (fun _ => rfl) 0 rfl rfl rfl rfl (Nat.le_of_ble_eq_true rfl) ⟨by decide, by decide⟩ dX7_question_29 (fun r29 _ e29 => ?_)
      subst e29
      exact g_retIW (pc := 32) C rfl rfl () (rfl) (by have e9 : rcQu τ k a = (-6) := (by first | (simp [rcQu, *]; done) | (grind [rcQu])); rw [if_neg (by rw [e9] <;> (first | done | decide)), e9]) (by have e9 : rcQu τ k a = (-6) := (by first | (simp [rcQu, *]; done) | (grind [rcQu])); rw [e9] <;> (first | done | rfl | (rw [if_neg (by decide)] <;> (first | done | rfl)))) dX7_question_32
  · refine g_aload_n (pc := 10) C dX7_question_10 0 rfl ?_
    refine g_iconst (pc := 11) (v := (-1)) C dX7_question_11 (by decide) ?_
    refine g_wrVI (pc := 12) (rest := []) (wr := []) C (fun _ => wN G m A τ y ++ ([iC G (A 11) 8 (rfI rr (-1))])) rfl k_X7_no (c_X7_no l G m A τ y rr (-1) (by first | assumption | omega | decide)) ml_X7_81 rfl ⟨Nat.le_of_ble_eq_true rfl, Nat.le_of_ble_eq_true rfl⟩ rfl [0, 1, 2, 3, 4, 5, 6, 7, 8, 9] [] [0, 1, 2, 3, 4, 5, 6, 7, 8, 9] rfl (by decide) rfl (by decide) (by decide) (by decide) (fun _ => rfl) 0 rfl rfl rfl rfl (Nat.le_of_ble_eq_true rfl) ⟨by decide, by decide⟩ dX7_question_12 (fun r12 _ e12 => ?_)
    subst e12
    exact g_retIW (pc := 15) C rfl rfl () (rfl) (by have e9 : rcQu τ k a = (-1) := (by first | (simp [rcQu, *]; done) | (grind [rcQu])); rw [if_neg (by rw [e9] <;> (first | done | decide)), e9]) (by have e9 : rcQu τ k a = (-1) := (by first | (simp [rcQu, *]; done) | (grind [rcQu])); rw [e9] <;> (first | done | rfl | (rw [if_neg (by decide)] <;> (first | done | rfl)))) dX7_question_15
set_option maxRecDepth 20000 in
set_option maxHeartbeats 4000000 in
theorem c_X7_group (l : Launch) (G : gT) (m : Nat) (A : Nat → Nat) (τ : tT) (y : Nat → Int32) (n : Int32) (v : Int32) (g : Int32) (hm : Int32) (w : Int32) (rr : Nat → Int32) (hT : TI τ) : WI l yX7_group cX7_group 6 (some .int) 12 0 0 G [.ref m, .int n, .int v, .int g, .int hm, .int w] (wN G m A τ y ++ ([iC G (A 11) 8 rr])) (S := Unit) (fun r _ => r = if rcGr τ n v g hm w = 0 then nI (tG τ) else (rcGr τ n v g hm w)) (fun _ => wN G m A (if rcGr τ n v g hm w = 0 then aGr τ n v g hm w else τ) y ++ ([iC G (A 11) 8 (rfI rr (rcGr τ n v g hm w))])) := by
  have hg10 := hT.g10
  have hq8 := hT.q8
  intro sz9
  refine start_W (by decide) (Nat.le_of_ble_eq_true rfl) (fun p9 e9 s9 m9 a9 b9 t9 c9 C => ?_)
  refine g_lv (lv' := [(0, .ref m), (1, .int n), (2, .int v), (3, .int g), (4, .int hm), (5, .int w)]) rfl ?_
  refine g_iload_n (pc := 0) C dX7_group_0 1 rfl ?_
  refine g_iconst (pc := 1) (v := 1) C dX7_group_1 (by decide) ?_
  refine g_sipush (pc := 2) (v := 999) C dX7_group_2 (by decide) ?_
  refine g_rdSI (pc := 5) (val := bI (1 ≤ n ∧ n ≤ 999)) (rest := []) C k_X7_within (c_X7_within l G n 1 999) ml_X7_88 rfl ⟨Nat.le_of_ble_eq_true rfl, Nat.le_of_ble_eq_true rfl⟩ rfl [] rfl rfl (Nat.le_of_ble_eq_true rfl) ⟨by decide, by decide⟩ dX7_group_5 ?_
  refine g_ifb_eq (pc := 8) (tgt := 52) C dX7_group_8 (by decide) (fun h8 => ?_) (fun h8 => ?_)
  · refine g_aload_n (pc := 52) C dX7_group_52 0 rfl ?_
    refine g_bipush (pc := 53) (v := (-6)) C dX7_group_53 (by decide) ?_
    refine g_wrVI (pc := 55) (rest := []) (wr := []) C (fun _ => wN G m A τ y ++ ([iC G (A 11) 8 (rfI rr (-6))])) rfl k_X7_no (c_X7_no l G m A τ y rr (-6) (by first | assumption | omega | decide)) ml_X7_81 rfl ⟨Nat.le_of_ble_eq_true rfl, Nat.le_of_ble_eq_true rfl⟩ rfl [0, 1, 2, 3, 4, 5, 6, 7, 8, 9] [] [0, 1, 2, 3, 4, 5, 6, 7, 8, 9] rfl (by decide) rfl (by decide) (by decide) (by decide) (fun _ => rfl) 0 rfl rfl rfl rfl (Nat.le_of_ble_eq_true rfl) ⟨by decide, by decide⟩ dX7_group_55 (fun r55 _ e55 => ?_)
    subst e55
    exact g_retIW (pc := 58) C rfl rfl () (rfl) (by have e9 : rcGr τ n v g hm w = (-6) := (by first | (simp [rcGr, *]; done) | (grind [rcGr])); rw [if_neg (by rw [e9] <;> (first | done | decide)), e9]) (by have e9 : rcGr τ n v g hm w = (-6) := (by first | (simp [rcGr, *]; done) | (grind [rcGr])); rw [e9] <;> (first | done | rfl | (rw [if_neg (by decide)] <;> (first | done | rfl)))) dX7_group_58
  · refine g_iload_n (pc := 11) C dX7_group_11 2 rfl ?_
    refine g_iconst (pc := 12) (v := 0) C dX7_group_12 (by decide) ?_
    refine g_iconst (pc := 13) (v := 2) C dX7_group_13 (by decide) ?_
    refine g_rdSI (pc := 14) (val := bI (0 ≤ v ∧ v ≤ 2)) (rest := []) C k_X7_within (c_X7_within l G v 0 2) ml_X7_88 rfl ⟨Nat.le_of_ble_eq_true rfl, Nat.le_of_ble_eq_true rfl⟩ rfl [] rfl rfl (Nat.le_of_ble_eq_true rfl) ⟨by decide, by decide⟩ dX7_group_14 ?_
    refine g_ifb_eq (pc := 17) (tgt := 52) C dX7_group_17 (by decide) (fun h17 => ?_) (fun h17 => ?_)
    · refine g_aload_n (pc := 52) C dX7_group_52 0 rfl ?_
      refine g_bipush (pc := 53) (v := (-6)) C dX7_group_53 (by decide) ?_
      refine g_wrVI (pc := 55) (rest := []) (wr := []) C (fun _ => wN G m A τ y ++ ([iC G (A 11) 8 (rfI rr (-6))])) rfl k_X7_no (c_X7_no l G m A τ y rr (-6) (by first | assumption | omega | decide)) ml_X7_81 rfl ⟨Nat.le_of_ble_eq_true rfl, Nat.le_of_ble_eq_true rfl⟩ rfl [0, 1, 2, 3, 4, 5, 6, 7, 8, 9] [] [0, 1, 2, 3, 4, 5, 6, 7, 8, 9] rfl (by decide) rfl (by decide) (by decide) (by decide) (fun _ => rfl) 0 rfl rfl rfl rfl (Nat.le_of_ble_eq_true rfl) ⟨by decide, by decide⟩ dX7_group_55 (fun r55 _ e55 => ?_)
      subst e55
      exact g_retIW (pc := 58) C rfl rfl () (rfl) (by have e9 : rcGr τ n v g hm w = (-6) := (by first | (simp [rcGr, *]; done) | (grind [rcGr])); rw [if_neg (by rw [e9] <;> (first | done | decide)), e9]) (by have e9 : rcGr τ n v g hm w = (-6) := (by first | (simp [rcGr, *]; done) | (grind [rcGr])); rw [e9] <;> (first | done | rfl | (rw [if_neg (by decide)] <;> (first | done | rfl)))) dX7_group_58
    · refine g_iload_n (pc := 20) C dX7_group_20 3 rfl ?_
      refine g_iconst (pc := 21) (v := 0) C dX7_group_21 (by decide) ?_
      refine g_bipush (pc := 22) (v := 10) C dX7_group_22 (by decide) ?_
      refine g_rdSI (pc := 24) (val := bI (0 ≤ g ∧ g ≤ 10)) (rest := []) C k_X7_within (c_X7_within l G g 0 10) ml_X7_88 rfl ⟨Nat.le_of_ble_eq_true rfl, Nat.le_of_ble_eq_true rfl⟩ rfl [] rfl rfl (Nat.le_of_ble_eq_true rfl) ⟨by decide, by decide⟩ dX7_group_24 ?_
      refine g_ifb_eq (pc := 27) (tgt := 52) C dX7_group_27 (by decide) (fun h27 => ?_) (fun h27 => ?_)
      · refine g_aload_n (pc := 52) C dX7_group_52 0 rfl ?_
        refine g_bipush (pc := 53) (v := (-6)) C dX7_group_53 (by decide) ?_
        refine g_wrVI (pc := 55) (rest := []) (wr := []) C (fun _ => wN G m A τ y ++ ([iC G (A 11) 8 (rfI rr (-6))])) rfl k_X7_no (c_X7_no l G m A τ y rr (-6) (by first | assumption | omega | decide)) ml_X7_81 rfl ⟨Nat.le_of_ble_eq_true rfl, Nat.le_of_ble_eq_true rfl⟩ rfl [0, 1, 2, 3, 4, 5, 6, 7, 8, 9] [] [0, 1, 2, 3, 4, 5, 6, 7, 8, 9] rfl (by decide) rfl (by decide) (by decide) (by decide) (fun _ => rfl) 0 rfl rfl rfl rfl (Nat.le_of_ble_eq_true rfl) ⟨by decide, by decide⟩ dX7_group_55 (fun r55 _ e55 => ?_)
        subst e55
        exact g_retIW (pc := 58) C rfl rfl () (rfl) (by have e9 : rcGr τ n v g hm w = (-6) := (by first | (simp [rcGr, *]; done) | (grind [rcGr])); rw [if_neg (by rw [e9] <;> (first | done | decide)), e9]) (by have e9 : rcGr τ n v g hm w = (-6) := (by first | (simp [rcGr, *]; done) | (grind [rcGr])); rw [e9] <;> (first | done | rfl | (rw [if_neg (by decide)] <;> (first | done | rfl)))) dX7_group_58
      · refine g_iload (pc := 30) C dX7_group_30 4 rfl ?_
        refine g_iconst (pc := 32) (v := 0) C dX7_group_32 (by decide) ?_
        refine g_bipush (pc := 33) (v := 10) C dX7_group_33 (by decide) ?_
        refine g_rdSI (pc := 35) (val := bI (0 ≤ hm ∧ hm ≤ 10)) (rest := []) C k_X7_within (c_X7_within l G hm 0 10) ml_X7_88 rfl ⟨Nat.le_of_ble_eq_true rfl, Nat.le_of_ble_eq_true rfl⟩ rfl [] rfl rfl (Nat.le_of_ble_eq_true rfl) ⟨by decide, by decide⟩ dX7_group_35 ?_
        refine g_ifb_eq (pc := 38) (tgt := 52) C dX7_group_38 (by decide) (fun h38 => ?_) (fun h38 => ?_)
        · refine g_aload_n (pc := 52) C dX7_group_52 0 rfl ?_
          refine g_bipush (pc := 53) (v := (-6)) C dX7_group_53 (by decide) ?_
          refine g_wrVI (pc := 55) (rest := []) (wr := []) C (fun _ => wN G m A τ y ++ ([iC G (A 11) 8 (rfI rr (-6))])) rfl k_X7_no (c_X7_no l G m A τ y rr (-6) (by first | assumption | omega | decide)) ml_X7_81 rfl ⟨Nat.le_of_ble_eq_true rfl, Nat.le_of_ble_eq_true rfl⟩ rfl [0, 1, 2, 3, 4, 5, 6, 7, 8, 9] [] [0, 1, 2, 3, 4, 5, 6, 7, 8, 9] rfl (by decide) rfl (by decide) (by decide) (by decide) (fun _ => rfl) 0 rfl rfl rfl rfl (Nat.le_of_ble_eq_true rfl) ⟨by decide, by decide⟩ dX7_group_55 (fun r55 _ e55 => ?_)
          subst e55
          exact g_retIW (pc := 58) C rfl rfl () (rfl) (by have e9 : rcGr τ n v g hm w = (-6) := (by first | (simp [rcGr, *]; done) | (grind [rcGr])); rw [if_neg (by rw [e9] <;> (first | done | decide)), e9]) (by have e9 : rcGr τ n v g hm w = (-6) := (by first | (simp [rcGr, *]; done) | (grind [rcGr])); rw [e9] <;> (first | done | rfl | (rw [if_neg (by decide)] <;> (first | done | rfl)))) dX7_group_58
        · refine g_iload (pc := 41) C dX7_group_41 5 rfl ?_
          refine g_iconst (pc := 43) (v := 0) C dX7_group_43 (by decide) ?_
          refine g_bipush (pc := 44) (v := 10) C dX7_group_44 (by decide) ?_
          refine g_rdSI (pc := 46) (val := bI (0 ≤ w ∧ w ≤ 10)) (rest := []) C k_X7_within (c_X7_within l G w 0 10) ml_X7_88 rfl ⟨Nat.le_of_ble_eq_true rfl, Nat.le_of_ble_eq_true rfl⟩ rfl [] rfl rfl (Nat.le_of_ble_eq_true rfl) ⟨by decide, by decide⟩ dX7_group_46 ?_
          refine g_ifb_ne (pc := 49) (tgt := 59) C dX7_group_49 (by decide) (fun h49 => ?_) (fun h49 => ?_)
          · refine g_aload_n (pc := 59) C dX7_group_59 0 rfl ?_
            refine g_get (pc := 60) (T := TX7) (N := 33) (v := .int (τ 8 1)) C ib_X7 0 rfl rfl 7 (by decide) mf_X7_92 rfl rfl rfl dX7_group_60 ?_
            refine g_top (z := nI (tG τ)) (hT.g) ?_
            refine g_bipush (pc := 63) (v := 10) C dX7_group_63 (by decide) ?_
            refine g_icmpN_ne (pc := 65) (i := tG τ) (j := 10) (tgt := 77) C dX7_group_65 (by decide) ⟨by omega, by omega⟩ (fun h65 => ?_) (fun h65 => ?_)
            · refine g_aload_n (pc := 77) C dX7_group_77 0 rfl ?_
              refine g_iload_n (pc := 78) C dX7_group_78 1 rfl ?_
              refine g_iload_n (pc := 79) C dX7_group_79 2 rfl ?_
              refine g_iload_n (pc := 80) C dX7_group_80 3 rfl ?_
              refine g_iload (pc := 81) C dX7_group_81 4 rfl ?_
              refine g_iload (pc := 83) C dX7_group_83 5 rfl ?_
              refine g_wrVI (pc := 85) (rest := []) (wr := [iC G (A 11) 8 rr]) C (fun _ => wN G m A (aGr τ n v g hm w) y ++ ([iC G (A 11) 8 rr])) rfl k_X7_newGroup (c_X7_newGroup l G m A τ y n v g hm w (by first | assumption | omega | decide) (by first | assumption | omega | decide)) ml_X7_123 rfl ⟨Nat.le_of_ble_eq_true rfl, Nat.le_of_ble_eq_true rfl⟩ rfl [0, 1, 2, 3, 4, 5, 6, 7, 8] [9] [1, 2, 3, 4, 5, 6, 7, 8, 9, 0] rfl (by decide) rfl (by decide) (by decide) (by decide) (fun _ => rfl) 0 rfl rfl rfl rfl (Nat.le_of_ble_eq_true rfl) ⟨by decide, by decide⟩ dX7_group_85 (fun r85 _ e85 => ?_)
              subst e85
              exact g_retIW (pc := 88) C rfl rfl () (rfl) (by have e9 : rcGr τ n v g hm w = 0 := (by first | (simp [rcGr, *]; done) | (grind [rcGr])); rw [if_pos e9] <;> (rfl)) (by have e9 : rcGr τ n v g hm w = 0 := (by first | (simp [rcGr, *]; done) | (grind [rcGr])); rw [e9, rfI_0] <;> (rfl)) dX7_group_88
            · refine g_aload_n (pc := 68) C dX7_group_68 0 rfl ?_
              refine g_bipush (pc := 69) (v := (-7)) C dX7_group_69 (by decide) ?_
              refine g_wrVI (pc := 71) (rest := []) (wr := []) C (fun _ => wN G m A τ y ++ ([iC G (A 11) 8 (rfI rr (-7))])) rfl k_X7_no (c_X7_no l G m A τ y rr (-7) (by first | assumption | omega | decide)) ml_X7_81 rfl ⟨Nat.le_of_ble_eq_true rfl, Nat.le_of_ble_eq_true rfl⟩ rfl [0, 1, 2, 3, 4, 5, 6, 7, 8, 9] [] [0, 1, 2, 3, 4, 5, 6, 7, 8, 9] rfl (by decide) rfl (by decide) (by decide) (by decide) (fun _ => rfl) 0 rfl rfl rfl rfl (Nat.le_of_ble_eq_true rfl) ⟨by decide, by decide⟩ dX7_group_71 (fun r71 _ e71 => ?_)
              subst e71
              refine g_goto (pc := 74) (tgt := 88) C dX7_group_74 (by decide) ?_
              exact g_retIW (pc := 88) C rfl rfl () (rfl) (by have e9 : rcGr τ n v g hm w = (-7) := (by first | (simp [rcGr, *]; done) | (grind [rcGr])); rw [if_neg (by rw [e9] <;> (first | done | decide)), e9]) (by have e9 : rcGr τ n v g hm w = (-7) := (by first | (simp [rcGr, *]; done) | (grind [rcGr])); rw [e9] <;> (first | done | rfl | (rw [if_neg (by decide)] <;> (first | done | rfl)))) dX7_group_88
          · refine g_aload_n (pc := 52) C dX7_group_52 0 rfl ?_
            refine g_bipush (pc := 53) (v := (-6)) C dX7_group_53 (by decide) ?_
            refine g_wrVI (pc := 55) (rest := []) (wr := []) C (fun _ => wN G m A τ y ++ ([iC G (A 11) 8 (rfI rr (-6))])) rfl k_X7_no (c_X7_no l G m A τ y rr (-6) (by first | assumption | omega | decide)) ml_X7_81 rfl ⟨Nat.le_of_ble_eq_true rfl, Nat.le_of_ble_eq_true rfl⟩ rfl [0, 1, 2, 3, 4, 5, 6, 7, 8, 9] [] [0, 1, 2, 3, 4, 5, 6, 7, 8, 9] rfl (by decide) rfl (by decide) (by decide) (by decide) (fun _ => rfl) 0 rfl rfl rfl rfl (Nat.le_of_ble_eq_true rfl) ⟨by decide, by decide⟩ dX7_group_55 (fun r55 _ e55 => ?_)
            subst e55
            exact g_retIW (pc := 58) C rfl rfl () (rfl) (by have e9 : rcGr τ n v g hm w = (-6) := (by first | (simp [rcGr, *]; done) | (grind [rcGr])); rw [if_neg (by rw [e9] <;> (first | done | decide)), e9]) (by have e9 : rcGr τ n v g hm w = (-6) := (by first | (simp [rcGr, *]; done) | (grind [rcGr])); rw [e9] <;> (first | done | rfl | (rw [if_neg (by decide)] <;> (first | done | rfl)))) dX7_group_58
set_option maxRecDepth 20000 in
set_option maxHeartbeats 4000000 in
theorem c_X7_bears (l : Launch) (G : gT) (m : Nat) (A : Nat → Nat) (τ : tT) (y : Nat → Int32) (q : Int32) (p : Int32) (n : Int32) (rr : Nat → Int32) (hT : TI τ) : WI l yX7_bears cX7_bears 5 (some .int) 12 0 0 G [.ref m, .int q, .int p, .int n] (wN G m A τ y ++ ([iC G (A 11) 8 rr])) (S := Unit) (fun r _ => r = if rcBe τ q p n = 0 then τ 2 (nx q * 8 + nx p) else -10000 + (rcBe τ q p n)) (fun _ => wN G m A (if rcBe τ q p n = 0 then aBe τ (nx q) (nx p) n else τ) y ++ ([iC G (A 11) 8 (rfI rr (rcBe τ q p n))])) := by
  have hg10 := hT.g10
  have hq8 := hT.q8
  intro sz9
  refine start_W (by decide) (Nat.le_of_ble_eq_true rfl) (fun p9 e9 s9 m9 a9 b9 t9 c9 C => ?_)
  refine g_lv (lv' := [(0, .ref m), (1, .int q), (2, .int p), (3, .int n)]) rfl ?_
  refine g_aload_n (pc := 0) C dX7_bears_0 0 rfl ?_
  refine g_iload_n (pc := 1) C dX7_bears_1 1 rfl ?_
  refine g_rdVI (pc := 2) (val := bI (0 ≤ q ∧ q ≤ nI (tQ τ) - 1)) (rest := []) C k_X7_isQuestion (c_X7_isQuestion l G m A τ y q (by first | assumption | omega | decide)) ml_X7_102 rfl ⟨Nat.le_of_ble_eq_true rfl, Nat.le_of_ble_eq_true rfl⟩ rfl [0, 1, 2, 3, 4, 5, 6, 7, 8] rfl 0 rfl rfl rfl rfl (Nat.le_of_ble_eq_true rfl) ⟨by decide, by decide⟩ dX7_bears_2 ?_
  refine g_ifb_eq (pc := 5) (tgt := 16) C dX7_bears_5 (by decide) (fun h5 => ?_) (fun h5 => ?_)
  · refine g_aload_n (pc := 16) C dX7_bears_16 0 rfl ?_
    refine g_iconst (pc := 17) (v := (-1)) C dX7_bears_17 (by decide) ?_
    refine g_wrVI (pc := 18) (rest := []) (wr := []) C (fun _ => wN G m A τ y ++ ([iC G (A 11) 8 (rfI rr (-1))])) rfl k_X7_noMuch (c_X7_noMuch l G m A τ y rr (-1) (by first | assumption | omega | decide)) ml_X7_127 rfl ⟨Nat.le_of_ble_eq_true rfl, Nat.le_of_ble_eq_true rfl⟩ rfl [0, 1, 2, 3, 4, 5, 6, 7, 8, 9] [] [0, 1, 2, 3, 4, 5, 6, 7, 8, 9] rfl (by decide) rfl (by decide) (by decide) (by decide) (fun _ => rfl) 0 rfl rfl rfl rfl (Nat.le_of_ble_eq_true rfl) ⟨by decide, by decide⟩ dX7_bears_18 (fun r18 _ e18 => ?_)
    subst e18
    exact g_retIW (pc := 21) C rfl rfl () (rfl) (by have e9 : rcBe τ q p n = (-1) := (by first | (simp [rcBe, *]; done) | (grind [rcBe])); rw [if_neg (by rw [e9] <;> (first | done | decide)), e9]) (by have e9 : rcBe τ q p n = (-1) := (by first | (simp [rcBe, *]; done) | (grind [rcBe])); rw [e9] <;> (first | done | rfl | (rw [if_neg (by decide)] <;> (first | done | rfl)))) dX7_bears_21
  · obtain ⟨q8, hq8, rfl⟩ := isQ_nI hT h5
    have eq8 : nx (nI q8) = q8 := nx_nI (by omega)
    refine g_aload_n (pc := 8) C dX7_bears_8 0 rfl ?_
    refine g_iload_n (pc := 9) C dX7_bears_9 2 rfl ?_
    refine g_rdVI (pc := 10) (val := bI (0 ≤ p ∧ p ≤ nI (tQ τ) - 1)) (rest := []) C k_X7_isQuestion (c_X7_isQuestion l G m A τ y p (by first | assumption | omega | decide)) ml_X7_102 rfl ⟨Nat.le_of_ble_eq_true rfl, Nat.le_of_ble_eq_true rfl⟩ rfl [0, 1, 2, 3, 4, 5, 6, 7, 8] rfl 0 rfl rfl rfl rfl (Nat.le_of_ble_eq_true rfl) ⟨by decide, by decide⟩ dX7_bears_10 ?_
    refine g_ifb_ne (pc := 13) (tgt := 22) C dX7_bears_13 (by decide) (fun h13 => ?_) (fun h13 => ?_)
    · obtain ⟨p8, hp8, rfl⟩ := isQ_nI hT h13
      have ep8 : nx (nI p8) = p8 := nx_nI (by omega)
      refine g_iload_n (pc := 22) C dX7_bears_22 1 rfl ?_
      refine g_iload_n (pc := 23) C dX7_bears_23 2 rfl ?_
      refine g_icmp_eq (pc := 24) (tgt := 38) C dX7_bears_24 (by decide) (fun h24 => ?_) (fun h24 => ?_)
      · refine g_aload_n (pc := 38) C dX7_bears_38 0 rfl ?_
        refine g_bipush (pc := 39) (v := (-6)) C dX7_bears_39 (by decide) ?_
        refine g_wrVI (pc := 41) (rest := []) (wr := []) C (fun _ => wN G m A τ y ++ ([iC G (A 11) 8 (rfI rr (-6))])) rfl k_X7_noMuch (c_X7_noMuch l G m A τ y rr (-6) (by first | assumption | omega | decide)) ml_X7_127 rfl ⟨Nat.le_of_ble_eq_true rfl, Nat.le_of_ble_eq_true rfl⟩ rfl [0, 1, 2, 3, 4, 5, 6, 7, 8, 9] [] [0, 1, 2, 3, 4, 5, 6, 7, 8, 9] rfl (by decide) rfl (by decide) (by decide) (by decide) (fun _ => rfl) 0 rfl rfl rfl rfl (Nat.le_of_ble_eq_true rfl) ⟨by decide, by decide⟩ dX7_bears_41 (fun r41 _ e41 => ?_)
        subst e41
        exact g_retIW (pc := 44) C rfl rfl () (rfl) (by have e9 : rcBe τ (nI q8) (nI p8) n = (-6) := (by first | (simp [rcBe, *]; done) | (grind [rcBe])); rw [if_neg (by rw [e9] <;> (first | done | decide)), e9]) (by have e9 : rcBe τ (nI q8) (nI p8) n = (-6) := (by first | (simp [rcBe, *]; done) | (grind [rcBe])); rw [e9] <;> (first | done | rfl | (rw [if_neg (by decide)] <;> (first | done | rfl)))) dX7_bears_44
      · refine g_iload_n (pc := 27) C dX7_bears_27 3 rfl ?_
        refine g_bipush (pc := 28) (v := (-9)) C dX7_bears_28 (by decide) ?_
        refine g_bipush (pc := 30) (v := 9) C dX7_bears_30 (by decide) ?_
        refine g_rdSI (pc := 32) (val := bI ((-9) ≤ n ∧ n ≤ 9)) (rest := []) C k_X7_within (c_X7_within l G n (-9) 9) ml_X7_88 rfl ⟨Nat.le_of_ble_eq_true rfl, Nat.le_of_ble_eq_true rfl⟩ rfl [] rfl rfl (Nat.le_of_ble_eq_true rfl) ⟨by decide, by decide⟩ dX7_bears_32 ?_
        refine g_ifb_ne (pc := 35) (tgt := 45) C dX7_bears_35 (by decide) (fun h35 => ?_) (fun h35 => ?_)
        · refine g_aload_n (pc := 45) C dX7_bears_45 0 rfl ?_
          refine g_get (pc := 46) (T := TX7) (N := 33) (v := .ref (A 5)) C ib_X7 0 rfl rfl 6 (by decide) mf_X7_26 rfl rfl rfl dX7_bears_46 ?_
          refine g_bipush (pc := 49) (v := 8) C dX7_bears_49 (by decide) ?_
          refine g_iload_n (pc := 51) C dX7_bears_51 1 rfl ?_
          refine g_imulN (pc := 52) (i := 8) (j := q8) C dX7_bears_52 ?_
          refine g_iload_n (pc := 53) C dX7_bears_53 2 rfl ?_
          refine g_iaddN (pc := 54) (i := 8 * q8) (j := p8) C dX7_bears_54 ?_
          refine g_iald (pc := 55) (v := (τ 2) ((8 * q8) + p8)) C 3 rfl ((8 * q8) + p8) (rfl) ⟨by omega, by decide⟩ (rfl) dX7_bears_55 ?_
          refine g_istore (pc := 56) (lv' := [(4, .int ((τ 2) ((8 * q8) + p8))), (0, .ref m), (1, .int (nI q8)), (2, .int (nI p8)), (3, .int n)]) C dX7_bears_56 (by decide) rfl ?_
          refine g_aload_n (pc := 58) C dX7_bears_58 1 rfl ?_
          refine g_get (pc := 59) (T := TX7) (N := 33) (v := .ref (A 5)) C ib_X7 0 rfl rfl 6 (by decide) mf_X7_26 rfl rfl rfl dX7_bears_59 ?_
          refine g_bipush (pc := 62) (v := 8) C dX7_bears_62 (by decide) ?_
          refine g_iload_n (pc := 64) C dX7_bears_64 2 rfl ?_
          refine g_imulN (pc := 65) (i := 8) (j := q8) C dX7_bears_65 ?_
          refine g_iload_n (pc := 66) C dX7_bears_66 3 rfl ?_
          refine g_iaddN (pc := 67) (i := 8 * q8) (j := p8) C dX7_bears_67 ?_
          refine g_iload_n (pc := 68) C dX7_bears_68 4 rfl ?_
          refine g_iast (pc := 69) (ws' := [oC m 6 [.ref (A 0), .ref (A 1), .ref (A 2), .int (τ 8 0), .ref (A 3), .ref (A 4), .ref (A 5), .int (τ 8 1), .ref (A 6), .ref (A 7), .ref (A 8), .ref (A 9), .ref (A 10), .int (τ 8 2), .int (τ 8 3), .int (τ 8 5), .int (τ 8 6), .int (τ 8 4), .int (y 0), .ref (A 11), .int (y 1), .ref (A 12), .int (y 2), .ref (A 13), .ref (A 14), .int (y 3), .int (y 4), .ref (A 15), .ref (A 16), .ref (A 17), .ref (A 18), .ref (A 19), .int (y 5)], iC G (A 3) 8 (τ 0), iC G (A 4) 8 (τ 1), iC G (A 5) 64 (upd (τ 2) ((8 * q8) + p8) n), iC G (A 6) 10 (τ 3), iC G (A 7) 10 (τ 4), iC G (A 8) 10 (τ 5), iC G (A 9) 10 (τ 6), iC G (A 10) 10 (τ 7), iC G (A 11) 8 rr]) C rfl 3 rfl ((8 * q8) + p8) (rfl) ⟨by omega, by decide⟩ dX7_bears_69 rfl ?_
          refine g_iload (pc := 70) C dX7_bears_70 0 rfl ?_
          exact g_retIW (pc := 72) C rfl rfl () (rfl) (by have e9 : rcBe τ (nI q8) (nI p8) n = 0 := (by first | (simp [rcBe, *]; done) | (grind [rcBe])); rw [if_pos e9] <;> (rw [eq8, ep8, Nat.mul_comm q8 8])) (by have e9 : rcBe τ (nI q8) (nI p8) n = 0 := (by first | (simp [rcBe, *]; done) | (grind [rcBe])); rw [e9, rfI_0] <;> (rw [eq8, ep8] <;> simp [wN, aBe, up2_r, up2_n, up2, Nat.mul_comm q8 8])) dX7_bears_72
        · refine g_aload_n (pc := 38) C dX7_bears_38 0 rfl ?_
          refine g_bipush (pc := 39) (v := (-6)) C dX7_bears_39 (by decide) ?_
          refine g_wrVI (pc := 41) (rest := []) (wr := []) C (fun _ => wN G m A τ y ++ ([iC G (A 11) 8 (rfI rr (-6))])) rfl k_X7_noMuch (c_X7_noMuch l G m A τ y rr (-6) (by first | assumption | omega | decide)) ml_X7_127 rfl ⟨Nat.le_of_ble_eq_true rfl, Nat.le_of_ble_eq_true rfl⟩ rfl [0, 1, 2, 3, 4, 5, 6, 7, 8, 9] [] [0, 1, 2, 3, 4, 5, 6, 7, 8, 9] rfl (by decide) rfl (by decide) (by decide) (by decide) (fun _ => rfl) 0 rfl rfl rfl rfl (Nat.le_of_ble_eq_true rfl) ⟨by decide, by decide⟩ dX7_bears_41 (fun r41 _ e41 => ?_)
          subst e41
          exact g_retIW (pc := 44) C rfl rfl () (rfl) (by have e9 : rcBe τ (nI q8) (nI p8) n = (-6) := (by first | (simp [rcBe, *]; done) | (grind [rcBe])); rw [if_neg (by rw [e9] <;> (first | done | decide)), e9]) (by have e9 : rcBe τ (nI q8) (nI p8) n = (-6) := (by first | (simp [rcBe, *]; done) | (grind [rcBe])); rw [e9] <;> (first | done | rfl | (rw [if_neg (by decide)] <;> (first | done | rfl)))) dX7_bears_44
    · refine g_aload_n (pc := 16) C dX7_bears_16 0 rfl ?_
      refine g_iconst (pc := 17) (v := (-1)) C dX7_bears_17 (by decide) ?_
      refine g_wrVI (pc := 18) (rest := []) (wr := []) C (fun _ => wN G m A τ y ++ ([iC G (A 11) 8 (rfI rr (-1))])) rfl k_X7_noMuch (c_X7_noMuch l G m A τ y rr (-1) (by first | assumption | omega | decide)) ml_X7_127 rfl ⟨Nat.le_of_ble_eq_true rfl, Nat.le_of_ble_eq_true rfl⟩ rfl [0, 1, 2, 3, 4, 5, 6, 7, 8, 9] [] [0, 1, 2, 3, 4, 5, 6, 7, 8, 9] rfl (by decide) rfl (by decide) (by decide) (by decide) (fun _ => rfl) 0 rfl rfl rfl rfl (Nat.le_of_ble_eq_true rfl) ⟨by decide, by decide⟩ dX7_bears_18 (fun r18 _ e18 => ?_)
      subst e18
      exact g_retIW (pc := 21) C rfl rfl () (rfl) (by have e9 : rcBe τ (nI q8) p n = (-1) := (by first | (simp [rcBe, *]; done) | (grind [rcBe])); rw [if_neg (by rw [e9] <;> (first | done | decide)), e9]) (by have e9 : rcBe τ (nI q8) p n = (-1) := (by first | (simp [rcBe, *]; done) | (grind [rcBe])); rw [e9] <;> (first | done | rfl | (rw [if_neg (by decide)] <;> (first | done | rfl)))) dX7_bears_21
set_option maxRecDepth 20000 in
set_option maxHeartbeats 4000000 in
theorem c_X7_ask (l : Launch) (G : gT) (m : Nat) (A : Nat → Nat) (τ : tT) (y : Nat → Int32) (k : Int32) (v : Int32) (rr : Nat → Int32) (hT : TI τ) : WI l yX7_ask cX7_ask 4 (some .int) 12 0 0 G [.ref m, .int k, .int v] (wN G m A τ y ++ ([iC G (A 11) 8 rr])) (S := Unit) (fun r _ => r = if rcAsk k v = 0 then (if k = 0 then τ 8 2 else τ 8 3) else (rcAsk k v)) (fun _ => wN G m A (if rcAsk k v = 0 then (if k = 0 then aSc τ 2 v else aSc τ 3 v) else τ) y ++ ([iC G (A 11) 8 (rfI rr (rcAsk k v))])) := by
  have hg10 := hT.g10
  have hq8 := hT.q8
  intro sz9
  refine start_W (by decide) (Nat.le_of_ble_eq_true rfl) (fun p9 e9 s9 m9 a9 b9 t9 c9 C => ?_)
  refine g_lv (lv' := [(0, .ref m), (1, .int k), (2, .int v)]) rfl ?_
  refine g_iload_n (pc := 0) C dX7_ask_0 1 rfl ?_
  refine g_iconst (pc := 1) (v := 0) C dX7_ask_1 (by decide) ?_
  refine g_iconst (pc := 2) (v := 1) C dX7_ask_2 (by decide) ?_
  refine g_rdSI (pc := 3) (val := bI (0 ≤ k ∧ k ≤ 1)) (rest := []) C k_X7_within (c_X7_within l G k 0 1) ml_X7_88 rfl ⟨Nat.le_of_ble_eq_true rfl, Nat.le_of_ble_eq_true rfl⟩ rfl [] rfl rfl (Nat.le_of_ble_eq_true rfl) ⟨by decide, by decide⟩ dX7_ask_3 ?_
  refine g_ifb_eq (pc := 6) (tgt := 28) C dX7_ask_6 (by decide) (fun h6 => ?_) (fun h6 => ?_)
  · refine g_aload_n (pc := 28) C dX7_ask_28 0 rfl ?_
    refine g_bipush (pc := 29) (v := (-6)) C dX7_ask_29 (by decide) ?_
    refine g_wrVI (pc := 31) (rest := []) (wr := []) C (fun _ => wN G m A τ y ++ ([iC G (A 11) 8 (rfI rr (-6))])) rfl k_X7_no (c_X7_no l G m A τ y rr (-6) (by first | assumption | omega | decide)) ml_X7_81 rfl ⟨Nat.le_of_ble_eq_true rfl, Nat.le_of_ble_eq_true rfl⟩ rfl [0, 1, 2, 3, 4, 5, 6, 7, 8, 9] [] [0, 1, 2, 3, 4, 5, 6, 7, 8, 9] rfl (by decide) rfl (by decide) (by decide) (by decide) (fun _ => rfl) 0 rfl rfl rfl rfl (Nat.le_of_ble_eq_true rfl) ⟨by decide, by decide⟩ dX7_ask_31 (fun r31 _ e31 => ?_)
    subst e31
    exact g_retIW (pc := 34) C rfl rfl () (rfl) (by have e9 : rcAsk k v = (-6) := (by first | (simp [rcAsk, *]; done) | (grind [rcAsk])); rw [if_neg (by rw [e9] <;> (first | done | decide)), e9]) (by have e9 : rcAsk k v = (-6) := (by first | (simp [rcAsk, *]; done) | (grind [rcAsk])); rw [e9] <;> (first | done | rfl | (rw [if_neg (by decide)] <;> (first | done | rfl)))) dX7_ask_34
  · refine g_iload_n (pc := 9) C dX7_ask_9 2 rfl ?_
    refine g_iconst (pc := 10) (v := 0) C dX7_ask_10 (by decide) ?_
    refine g_iload_n (pc := 11) C dX7_ask_11 1 rfl ?_
    refine g_if_ne (pc := 12) (tgt := 20) C dX7_ask_12 (by decide) (fun h12 => ?_) (fun h12 => ?_)
    · refine g_bipush (pc := 20) (v := 7) C dX7_ask_20 (by decide) ?_
      refine g_rdSI (pc := 22) (val := bI (0 ≤ v ∧ v ≤ 7)) (rest := []) C k_X7_within (c_X7_within l G v 0 7) ml_X7_88 rfl ⟨Nat.le_of_ble_eq_true rfl, Nat.le_of_ble_eq_true rfl⟩ rfl [] rfl rfl (Nat.le_of_ble_eq_true rfl) ⟨by decide, by decide⟩ dX7_ask_22 ?_
      refine g_ifb_ne (pc := 25) (tgt := 35) C dX7_ask_25 (by decide) (fun h25 => ?_) (fun h25 => ?_)
      · obtain ⟨v8, hv8, rfl⟩ := in8_nI h25
        have ev8 : nx (nI v8) = v8 := nx_nI (by omega)
        refine g_iload_n (pc := 35) C dX7_ask_35 1 rfl ?_
        refine g_if_ne (pc := 36) (tgt := 46) C dX7_ask_36 (by decide) (fun h36 => ?_) (fun h36 => ?_)
        · refine g_aload_n (pc := 46) C dX7_ask_46 0 rfl ?_
          refine g_get (pc := 47) (T := TX7) (N := 33) (v := .int (τ 8 3)) C ib_X7 0 rfl rfl 14 (by decide) mf_X7_139 rfl rfl rfl dX7_ask_47 ?_
          refine g_istore_n (pc := 50) (lv' := [(3, .int (τ 8 3)), (0, .ref m), (1, .int k), (2, .int (nI v8))]) C dX7_ask_50 rfl (by decide) rfl ?_
          refine g_iload_n (pc := 51) C dX7_ask_51 2 rfl ?_
          refine g_if_ne (pc := 52) (tgt := 63) C dX7_ask_52 (by decide) (fun h52 => ?_) (fun h52 => ?_)
          · refine g_aload_n (pc := 63) C dX7_ask_63 1 rfl ?_
            refine g_iload_n (pc := 64) C dX7_ask_64 3 rfl ?_
            refine g_put (pc := 65) (T := TX7) (N := 33) (ty := .int) (ws' := [oC m 6 [.ref (A 0), .ref (A 1), .ref (A 2), .int (τ 8 0), .ref (A 3), .ref (A 4), .ref (A 5), .int (τ 8 1), .ref (A 6), .ref (A 7), .ref (A 8), .ref (A 9), .ref (A 10), .int (τ 8 2), .int (nI v8), .int (τ 8 5), .int (τ 8 6), .int (τ 8 4), .int (y 0), .ref (A 11), .int (y 1), .ref (A 12), .int (y 2), .ref (A 13), .ref (A 14), .int (y 3), .int (y 4), .ref (A 15), .ref (A 16), .ref (A 17), .ref (A 18), .ref (A 19), .int (y 5)], iC G (A 3) 8 (τ 0), iC G (A 4) 8 (τ 1), iC G (A 5) 64 (τ 2), iC G (A 6) 10 (τ 3), iC G (A 7) 10 (τ 4), iC G (A 8) 10 (τ 5), iC G (A 9) 10 (τ 6), iC G (A 10) 10 (τ 7), iC G (A 11) 8 rr]) C rfl ib_X7 tyX7 tyX7_ok nmX7 0 rfl rfl 14 (by decide) mf_X7_139 rfl rfl rfl (by decide +kernel) rfl rfl (Nat.le_of_ble_eq_true rfl) dX7_ask_65 rfl ?_
            refine g_iload_n (pc := 68) C dX7_ask_68 0 rfl ?_
            exact g_retIW (pc := 69) C rfl rfl () (rfl) (by have e9 : rcAsk k (nI v8) = 0 := (by first | (simp [rcAsk, *]; done) | (grind [rcAsk])); rw [if_pos e9] <;> (first | (simp [*]; done) | (exact absurd h36 h12) | (exact absurd h12 h36) | (exact absurd h52 h36) | (exact absurd h36 h52))) (by have e9 : rcAsk k (nI v8) = 0 := (by first | (simp [rcAsk, *]; done) | (grind [rcAsk])); rw [e9, rfI_0] <;> (first | (simp [wN, aSc, up2_n, up2, *]; done) | (exact absurd h36 h12) | (exact absurd h12 h36) | (exact absurd h52 h36) | (exact absurd h36 h52))) dX7_ask_69
          · refine g_aload_n (pc := 55) C dX7_ask_55 1 rfl ?_
            refine g_iload_n (pc := 56) C dX7_ask_56 3 rfl ?_
            refine g_put (pc := 57) (T := TX7) (N := 33) (ty := .int) (ws' := [oC m 6 [.ref (A 0), .ref (A 1), .ref (A 2), .int (τ 8 0), .ref (A 3), .ref (A 4), .ref (A 5), .int (τ 8 1), .ref (A 6), .ref (A 7), .ref (A 8), .ref (A 9), .ref (A 10), .int (nI v8), .int (τ 8 3), .int (τ 8 5), .int (τ 8 6), .int (τ 8 4), .int (y 0), .ref (A 11), .int (y 1), .ref (A 12), .int (y 2), .ref (A 13), .ref (A 14), .int (y 3), .int (y 4), .ref (A 15), .ref (A 16), .ref (A 17), .ref (A 18), .ref (A 19), .int (y 5)], iC G (A 3) 8 (τ 0), iC G (A 4) 8 (τ 1), iC G (A 5) 64 (τ 2), iC G (A 6) 10 (τ 3), iC G (A 7) 10 (τ 4), iC G (A 8) 10 (τ 5), iC G (A 9) 10 (τ 6), iC G (A 10) 10 (τ 7), iC G (A 11) 8 rr]) C rfl ib_X7 tyX7 tyX7_ok nmX7 0 rfl rfl 13 (by decide) mf_X7_71 rfl rfl rfl (by decide +kernel) rfl rfl (Nat.le_of_ble_eq_true rfl) dX7_ask_57 rfl ?_
            refine g_goto (pc := 60) (tgt := 68) C dX7_ask_60 (by decide) ?_
            refine g_iload_n (pc := 68) C dX7_ask_68 0 rfl ?_
            exact g_retIW (pc := 69) C rfl rfl () (rfl) (by have e9 : rcAsk k (nI v8) = 0 := (by first | (simp [rcAsk, *]; done) | (grind [rcAsk])); rw [if_pos e9] <;> (first | (simp [*]; done) | (exact absurd h36 h12) | (exact absurd h12 h36) | (exact absurd h52 h36) | (exact absurd h36 h52))) (by have e9 : rcAsk k (nI v8) = 0 := (by first | (simp [rcAsk, *]; done) | (grind [rcAsk])); rw [e9, rfI_0] <;> (first | (simp [wN, aSc, up2_n, up2, *]; done) | (exact absurd h36 h12) | (exact absurd h12 h36) | (exact absurd h52 h36) | (exact absurd h36 h52))) dX7_ask_69
        · refine g_aload_n (pc := 39) C dX7_ask_39 0 rfl ?_
          refine g_get (pc := 40) (T := TX7) (N := 33) (v := .int (τ 8 2)) C ib_X7 0 rfl rfl 13 (by decide) mf_X7_71 rfl rfl rfl dX7_ask_40 ?_
          refine g_goto (pc := 43) (tgt := 50) C dX7_ask_43 (by decide) ?_
          refine g_istore_n (pc := 50) (lv' := [(3, .int (τ 8 2)), (0, .ref m), (1, .int k), (2, .int (nI v8))]) C dX7_ask_50 rfl (by decide) rfl ?_
          refine g_iload_n (pc := 51) C dX7_ask_51 2 rfl ?_
          refine g_if_ne (pc := 52) (tgt := 63) C dX7_ask_52 (by decide) (fun h52 => ?_) (fun h52 => ?_)
          · refine g_aload_n (pc := 63) C dX7_ask_63 1 rfl ?_
            refine g_iload_n (pc := 64) C dX7_ask_64 3 rfl ?_
            refine g_put (pc := 65) (T := TX7) (N := 33) (ty := .int) (ws' := [oC m 6 [.ref (A 0), .ref (A 1), .ref (A 2), .int (τ 8 0), .ref (A 3), .ref (A 4), .ref (A 5), .int (τ 8 1), .ref (A 6), .ref (A 7), .ref (A 8), .ref (A 9), .ref (A 10), .int (τ 8 2), .int (nI v8), .int (τ 8 5), .int (τ 8 6), .int (τ 8 4), .int (y 0), .ref (A 11), .int (y 1), .ref (A 12), .int (y 2), .ref (A 13), .ref (A 14), .int (y 3), .int (y 4), .ref (A 15), .ref (A 16), .ref (A 17), .ref (A 18), .ref (A 19), .int (y 5)], iC G (A 3) 8 (τ 0), iC G (A 4) 8 (τ 1), iC G (A 5) 64 (τ 2), iC G (A 6) 10 (τ 3), iC G (A 7) 10 (τ 4), iC G (A 8) 10 (τ 5), iC G (A 9) 10 (τ 6), iC G (A 10) 10 (τ 7), iC G (A 11) 8 rr]) C rfl ib_X7 tyX7 tyX7_ok nmX7 0 rfl rfl 14 (by decide) mf_X7_139 rfl rfl rfl (by decide +kernel) rfl rfl (Nat.le_of_ble_eq_true rfl) dX7_ask_65 rfl ?_
            refine g_iload_n (pc := 68) C dX7_ask_68 0 rfl ?_
            exact g_retIW (pc := 69) C rfl rfl () (rfl) (by have e9 : rcAsk k (nI v8) = 0 := (by first | (simp [rcAsk, *]; done) | (grind [rcAsk])); rw [if_pos e9] <;> (first | (simp [*]; done) | (exact absurd h36 h12) | (exact absurd h12 h36) | (exact absurd h52 h36) | (exact absurd h36 h52))) (by have e9 : rcAsk k (nI v8) = 0 := (by first | (simp [rcAsk, *]; done) | (grind [rcAsk])); rw [e9, rfI_0] <;> (first | (simp [wN, aSc, up2_n, up2, *]; done) | (exact absurd h36 h12) | (exact absurd h12 h36) | (exact absurd h52 h36) | (exact absurd h36 h52))) dX7_ask_69
          · refine g_aload_n (pc := 55) C dX7_ask_55 1 rfl ?_
            refine g_iload_n (pc := 56) C dX7_ask_56 3 rfl ?_
            refine g_put (pc := 57) (T := TX7) (N := 33) (ty := .int) (ws' := [oC m 6 [.ref (A 0), .ref (A 1), .ref (A 2), .int (τ 8 0), .ref (A 3), .ref (A 4), .ref (A 5), .int (τ 8 1), .ref (A 6), .ref (A 7), .ref (A 8), .ref (A 9), .ref (A 10), .int (nI v8), .int (τ 8 3), .int (τ 8 5), .int (τ 8 6), .int (τ 8 4), .int (y 0), .ref (A 11), .int (y 1), .ref (A 12), .int (y 2), .ref (A 13), .ref (A 14), .int (y 3), .int (y 4), .ref (A 15), .ref (A 16), .ref (A 17), .ref (A 18), .ref (A 19), .int (y 5)], iC G (A 3) 8 (τ 0), iC G (A 4) 8 (τ 1), iC G (A 5) 64 (τ 2), iC G (A 6) 10 (τ 3), iC G (A 7) 10 (τ 4), iC G (A 8) 10 (τ 5), iC G (A 9) 10 (τ 6), iC G (A 10) 10 (τ 7), iC G (A 11) 8 rr]) C rfl ib_X7 tyX7 tyX7_ok nmX7 0 rfl rfl 13 (by decide) mf_X7_71 rfl rfl rfl (by decide +kernel) rfl rfl (Nat.le_of_ble_eq_true rfl) dX7_ask_57 rfl ?_
            refine g_goto (pc := 60) (tgt := 68) C dX7_ask_60 (by decide) ?_
            refine g_iload_n (pc := 68) C dX7_ask_68 0 rfl ?_
            exact g_retIW (pc := 69) C rfl rfl () (rfl) (by have e9 : rcAsk k (nI v8) = 0 := (by first | (simp [rcAsk, *]; done) | (grind [rcAsk])); rw [if_pos e9] <;> (first | (simp [*]; done) | (exact absurd h36 h12) | (exact absurd h12 h36) | (exact absurd h52 h36) | (exact absurd h36 h52))) (by have e9 : rcAsk k (nI v8) = 0 := (by first | (simp [rcAsk, *]; done) | (grind [rcAsk])); rw [e9, rfI_0] <;> (first | (simp [wN, aSc, up2_n, up2, *]; done) | (exact absurd h36 h12) | (exact absurd h12 h36) | (exact absurd h52 h36) | (exact absurd h36 h52))) dX7_ask_69
      · have h12b := h12; have h25b := h25
        refine g_aload_n (pc := 28) C dX7_ask_28 0 rfl ?_
        refine g_bipush (pc := 29) (v := (-6)) C dX7_ask_29 (by decide) ?_
        refine g_wrVI (pc := 31) (rest := []) (wr := []) C (fun _ => wN G m A τ y ++ ([iC G (A 11) 8 (rfI rr (-6))])) rfl k_X7_no (c_X7_no l G m A τ y rr (-6) (by first | assumption | omega | decide)) ml_X7_81 rfl ⟨Nat.le_of_ble_eq_true rfl, Nat.le_of_ble_eq_true rfl⟩ rfl [0, 1, 2, 3, 4, 5, 6, 7, 8, 9] [] [0, 1, 2, 3, 4, 5, 6, 7, 8, 9] rfl (by decide) rfl (by decide) (by decide) (by decide) (fun _ => rfl) 0 rfl rfl rfl rfl (Nat.le_of_ble_eq_true rfl) ⟨by decide, by decide⟩ dX7_ask_31 (fun r31 _ e31 => ?_)
        subst e31
        exact g_retIW (pc := 34) C rfl rfl () (rfl) (by have e9 : rcAsk k v = (-6) := (by first | (simp [rcAsk, *]; done) | (grind [rcAsk])); rw [if_neg (by rw [e9] <;> (first | done | decide)), e9]) (by have e9 : rcAsk k v = (-6) := (by first | (simp [rcAsk, *]; done) | (grind [rcAsk])); rw [e9] <;> (first | done | rfl | (rw [if_neg (by decide)] <;> (first | done | rfl)))) dX7_ask_34
    · refine g_bipush (pc := 15) (v := 99) C dX7_ask_15 (by decide) ?_
      refine g_goto (pc := 17) (tgt := 22) C dX7_ask_17 (by decide) ?_
      refine g_rdSI (pc := 22) (val := bI (0 ≤ v ∧ v ≤ 99)) (rest := []) C k_X7_within (c_X7_within l G v 0 99) ml_X7_88 rfl ⟨Nat.le_of_ble_eq_true rfl, Nat.le_of_ble_eq_true rfl⟩ rfl [] rfl rfl (Nat.le_of_ble_eq_true rfl) ⟨by decide, by decide⟩ dX7_ask_22 ?_
      refine g_ifb_ne (pc := 25) (tgt := 35) C dX7_ask_25 (by decide) (fun h25 => ?_) (fun h25 => ?_)
      · refine g_iload_n (pc := 35) C dX7_ask_35 1 rfl ?_
        refine g_if_ne (pc := 36) (tgt := 46) C dX7_ask_36 (by decide) (fun h36 => ?_) (fun h36 => ?_)
        · refine g_aload_n (pc := 46) C dX7_ask_46 0 rfl ?_
          refine g_get (pc := 47) (T := TX7) (N := 33) (v := .int (τ 8 3)) C ib_X7 0 rfl rfl 14 (by decide) mf_X7_139 rfl rfl rfl dX7_ask_47 ?_
          refine g_istore_n (pc := 50) (lv' := [(3, .int (τ 8 3)), (0, .ref m), (1, .int k), (2, .int v)]) C dX7_ask_50 rfl (by decide) rfl ?_
          refine g_iload_n (pc := 51) C dX7_ask_51 2 rfl ?_
          refine g_if_ne (pc := 52) (tgt := 63) C dX7_ask_52 (by decide) (fun h52 => ?_) (fun h52 => ?_)
          · refine g_aload_n (pc := 63) C dX7_ask_63 1 rfl ?_
            refine g_iload_n (pc := 64) C dX7_ask_64 3 rfl ?_
            refine g_put (pc := 65) (T := TX7) (N := 33) (ty := .int) (ws' := [oC m 6 [.ref (A 0), .ref (A 1), .ref (A 2), .int (τ 8 0), .ref (A 3), .ref (A 4), .ref (A 5), .int (τ 8 1), .ref (A 6), .ref (A 7), .ref (A 8), .ref (A 9), .ref (A 10), .int (τ 8 2), .int v, .int (τ 8 5), .int (τ 8 6), .int (τ 8 4), .int (y 0), .ref (A 11), .int (y 1), .ref (A 12), .int (y 2), .ref (A 13), .ref (A 14), .int (y 3), .int (y 4), .ref (A 15), .ref (A 16), .ref (A 17), .ref (A 18), .ref (A 19), .int (y 5)], iC G (A 3) 8 (τ 0), iC G (A 4) 8 (τ 1), iC G (A 5) 64 (τ 2), iC G (A 6) 10 (τ 3), iC G (A 7) 10 (τ 4), iC G (A 8) 10 (τ 5), iC G (A 9) 10 (τ 6), iC G (A 10) 10 (τ 7), iC G (A 11) 8 rr]) C rfl ib_X7 tyX7 tyX7_ok nmX7 0 rfl rfl 14 (by decide) mf_X7_139 rfl rfl rfl (by decide +kernel) rfl rfl (Nat.le_of_ble_eq_true rfl) dX7_ask_65 rfl ?_
            refine g_iload_n (pc := 68) C dX7_ask_68 0 rfl ?_
            exact g_retIW (pc := 69) C rfl rfl () (rfl) (by have e9 : rcAsk k v = 0 := (by first | (simp [rcAsk, *]; done) | (grind [rcAsk])); rw [if_pos e9] <;> (first | (simp [*]; done) | (exact absurd h36 h12) | (exact absurd h12 h36) | (exact absurd h52 h36) | (exact absurd h36 h52))) (by have e9 : rcAsk k v = 0 := (by first | (simp [rcAsk, *]; done) | (grind [rcAsk])); rw [e9, rfI_0] <;> (first | (simp [wN, aSc, up2_n, up2, *]; done) | (exact absurd h36 h12) | (exact absurd h12 h36) | (exact absurd h52 h36) | (exact absurd h36 h52))) dX7_ask_69
          · refine g_aload_n (pc := 55) C dX7_ask_55 1 rfl ?_
            refine g_iload_n (pc := 56) C dX7_ask_56 3 rfl ?_
            refine g_put (pc := 57) (T := TX7) (N := 33) (ty := .int) (ws' := [oC m 6 [.ref (A 0), .ref (A 1), .ref (A 2), .int (τ 8 0), .ref (A 3), .ref (A 4), .ref (A 5), .int (τ 8 1), .ref (A 6), .ref (A 7), .ref (A 8), .ref (A 9), .ref (A 10), .int v, .int (τ 8 3), .int (τ 8 5), .int (τ 8 6), .int (τ 8 4), .int (y 0), .ref (A 11), .int (y 1), .ref (A 12), .int (y 2), .ref (A 13), .ref (A 14), .int (y 3), .int (y 4), .ref (A 15), .ref (A 16), .ref (A 17), .ref (A 18), .ref (A 19), .int (y 5)], iC G (A 3) 8 (τ 0), iC G (A 4) 8 (τ 1), iC G (A 5) 64 (τ 2), iC G (A 6) 10 (τ 3), iC G (A 7) 10 (τ 4), iC G (A 8) 10 (τ 5), iC G (A 9) 10 (τ 6), iC G (A 10) 10 (τ 7), iC G (A 11) 8 rr]) C rfl ib_X7 tyX7 tyX7_ok nmX7 0 rfl rfl 13 (by decide) mf_X7_71 rfl rfl rfl (by decide +kernel) rfl rfl (Nat.le_of_ble_eq_true rfl) dX7_ask_57 rfl ?_
            refine g_goto (pc := 60) (tgt := 68) C dX7_ask_60 (by decide) ?_
            refine g_iload_n (pc := 68) C dX7_ask_68 0 rfl ?_
            exact g_retIW (pc := 69) C rfl rfl () (rfl) (by have e9 : rcAsk k v = 0 := (by first | (simp [rcAsk, *]; done) | (grind [rcAsk])); rw [if_pos e9] <;> (first | (simp [*]; done) | (exact absurd h36 h12) | (exact absurd h12 h36) | (exact absurd h52 h36) | (exact absurd h36 h52))) (by have e9 : rcAsk k v = 0 := (by first | (simp [rcAsk, *]; done) | (grind [rcAsk])); rw [e9, rfI_0] <;> (first | (simp [wN, aSc, up2_n, up2, *]; done) | (exact absurd h36 h12) | (exact absurd h12 h36) | (exact absurd h52 h36) | (exact absurd h36 h52))) dX7_ask_69
        · refine g_aload_n (pc := 39) C dX7_ask_39 0 rfl ?_
          refine g_get (pc := 40) (T := TX7) (N := 33) (v := .int (τ 8 2)) C ib_X7 0 rfl rfl 13 (by decide) mf_X7_71 rfl rfl rfl dX7_ask_40 ?_
          refine g_goto (pc := 43) (tgt := 50) C dX7_ask_43 (by decide) ?_
          refine g_istore_n (pc := 50) (lv' := [(3, .int (τ 8 2)), (0, .ref m), (1, .int k), (2, .int v)]) C dX7_ask_50 rfl (by decide) rfl ?_
          refine g_iload_n (pc := 51) C dX7_ask_51 2 rfl ?_
          refine g_if_ne (pc := 52) (tgt := 63) C dX7_ask_52 (by decide) (fun h52 => ?_) (fun h52 => ?_)
          · refine g_aload_n (pc := 63) C dX7_ask_63 1 rfl ?_
            refine g_iload_n (pc := 64) C dX7_ask_64 3 rfl ?_
            refine g_put (pc := 65) (T := TX7) (N := 33) (ty := .int) (ws' := [oC m 6 [.ref (A 0), .ref (A 1), .ref (A 2), .int (τ 8 0), .ref (A 3), .ref (A 4), .ref (A 5), .int (τ 8 1), .ref (A 6), .ref (A 7), .ref (A 8), .ref (A 9), .ref (A 10), .int (τ 8 2), .int v, .int (τ 8 5), .int (τ 8 6), .int (τ 8 4), .int (y 0), .ref (A 11), .int (y 1), .ref (A 12), .int (y 2), .ref (A 13), .ref (A 14), .int (y 3), .int (y 4), .ref (A 15), .ref (A 16), .ref (A 17), .ref (A 18), .ref (A 19), .int (y 5)], iC G (A 3) 8 (τ 0), iC G (A 4) 8 (τ 1), iC G (A 5) 64 (τ 2), iC G (A 6) 10 (τ 3), iC G (A 7) 10 (τ 4), iC G (A 8) 10 (τ 5), iC G (A 9) 10 (τ 6), iC G (A 10) 10 (τ 7), iC G (A 11) 8 rr]) C rfl ib_X7 tyX7 tyX7_ok nmX7 0 rfl rfl 14 (by decide) mf_X7_139 rfl rfl rfl (by decide +kernel) rfl rfl (Nat.le_of_ble_eq_true rfl) dX7_ask_65 rfl ?_
            refine g_iload_n (pc := 68) C dX7_ask_68 0 rfl ?_
            exact g_retIW (pc := 69) C rfl rfl () (rfl) (by have e9 : rcAsk k v = 0 := (by first | (simp [rcAsk, *]; done) | (grind [rcAsk])); rw [if_pos e9] <;> (first | (simp [*]; done) | (exact absurd h36 h12) | (exact absurd h12 h36) | (exact absurd h52 h36) | (exact absurd h36 h52))) (by have e9 : rcAsk k v = 0 := (by first | (simp [rcAsk, *]; done) | (grind [rcAsk])); rw [e9, rfI_0] <;> (first | (simp [wN, aSc, up2_n, up2, *]; done) | (exact absurd h36 h12) | (exact absurd h12 h36) | (exact absurd h52 h36) | (exact absurd h36 h52))) dX7_ask_69
          · refine g_aload_n (pc := 55) C dX7_ask_55 1 rfl ?_
            refine g_iload_n (pc := 56) C dX7_ask_56 3 rfl ?_
            refine g_put (pc := 57) (T := TX7) (N := 33) (ty := .int) (ws' := [oC m 6 [.ref (A 0), .ref (A 1), .ref (A 2), .int (τ 8 0), .ref (A 3), .ref (A 4), .ref (A 5), .int (τ 8 1), .ref (A 6), .ref (A 7), .ref (A 8), .ref (A 9), .ref (A 10), .int v, .int (τ 8 3), .int (τ 8 5), .int (τ 8 6), .int (τ 8 4), .int (y 0), .ref (A 11), .int (y 1), .ref (A 12), .int (y 2), .ref (A 13), .ref (A 14), .int (y 3), .int (y 4), .ref (A 15), .ref (A 16), .ref (A 17), .ref (A 18), .ref (A 19), .int (y 5)], iC G (A 3) 8 (τ 0), iC G (A 4) 8 (τ 1), iC G (A 5) 64 (τ 2), iC G (A 6) 10 (τ 3), iC G (A 7) 10 (τ 4), iC G (A 8) 10 (τ 5), iC G (A 9) 10 (τ 6), iC G (A 10) 10 (τ 7), iC G (A 11) 8 rr]) C rfl ib_X7 tyX7 tyX7_ok nmX7 0 rfl rfl 13 (by decide) mf_X7_71 rfl rfl rfl (by decide +kernel) rfl rfl (Nat.le_of_ble_eq_true rfl) dX7_ask_57 rfl ?_
            refine g_goto (pc := 60) (tgt := 68) C dX7_ask_60 (by decide) ?_
            refine g_iload_n (pc := 68) C dX7_ask_68 0 rfl ?_
            exact g_retIW (pc := 69) C rfl rfl () (rfl) (by have e9 : rcAsk k v = 0 := (by first | (simp [rcAsk, *]; done) | (grind [rcAsk])); rw [if_pos e9] <;> (first | (simp [*]; done) | (exact absurd h36 h12) | (exact absurd h12 h36) | (exact absurd h52 h36) | (exact absurd h36 h52))) (by have e9 : rcAsk k v = 0 := (by first | (simp [rcAsk, *]; done) | (grind [rcAsk])); rw [e9, rfI_0] <;> (first | (simp [wN, aSc, up2_n, up2, *]; done) | (exact absurd h36 h12) | (exact absurd h12 h36) | (exact absurd h52 h36) | (exact absurd h36 h52))) dX7_ask_69
      · have h12b := h12; have h25b := h25
        refine g_aload_n (pc := 28) C dX7_ask_28 0 rfl ?_
        refine g_bipush (pc := 29) (v := (-6)) C dX7_ask_29 (by decide) ?_
        refine g_wrVI (pc := 31) (rest := []) (wr := []) C (fun _ => wN G m A τ y ++ ([iC G (A 11) 8 (rfI rr (-6))])) rfl k_X7_no (c_X7_no l G m A τ y rr (-6) (by first | assumption | omega | decide)) ml_X7_81 rfl ⟨Nat.le_of_ble_eq_true rfl, Nat.le_of_ble_eq_true rfl⟩ rfl [0, 1, 2, 3, 4, 5, 6, 7, 8, 9] [] [0, 1, 2, 3, 4, 5, 6, 7, 8, 9] rfl (by decide) rfl (by decide) (by decide) (by decide) (fun _ => rfl) 0 rfl rfl rfl rfl (Nat.le_of_ble_eq_true rfl) ⟨by decide, by decide⟩ dX7_ask_31 (fun r31 _ e31 => ?_)
        subst e31
        exact g_retIW (pc := 34) C rfl rfl () (rfl) (by have e9 : rcAsk k v = (-6) := (by first | (simp [rcAsk, *]; done) | (grind [rcAsk])); rw [if_neg (by rw [e9] <;> (first | done | decide)), e9]) (by have e9 : rcAsk k v = (-6) := (by first | (simp [rcAsk, *]; done) | (grind [rcAsk])); rw [e9] <;> (first | done | rfl | (rw [if_neg (by decide)] <;> (first | done | rfl)))) dX7_ask_34
set_option maxRecDepth 20000 in
set_option maxHeartbeats 4000000 in
theorem c_X7_seed (l : Launch) (G : gT) (m : Nat) (A : Nat → Nat) (τ : tT) (y : Nat → Int32) (v : Int32) : WI l yX7_seed cX7_seed 3 (some .int) 10 0 0 G [.ref m, .int v] (wN G m A τ y) (S := Unit) (fun r _ => r = τ 8 4) (fun _ => wN G m A (aSc τ 4 v) y) := by
  intro sz9
  refine start_W (by decide) (Nat.le_of_ble_eq_true rfl) (fun p9 e9 s9 m9 a9 b9 t9 c9 C => ?_)
  refine g_lv (lv' := [(0, .ref m), (1, .int v)]) rfl ?_
  refine g_aload_n (pc := 0) C dX7_seed_0 0 rfl ?_
  refine g_get (pc := 1) (T := TX7) (N := 33) (v := .int (τ 8 4)) C ib_X7 0 rfl rfl 17 (by decide) mf_X7_75 rfl rfl rfl dX7_seed_1 ?_
  refine g_istore_n (pc := 4) (lv' := [(2, .int (τ 8 4)), (0, .ref m), (1, .int v)]) C dX7_seed_4 rfl (by decide) rfl ?_
  refine g_aload_n (pc := 5) C dX7_seed_5 1 rfl ?_
  refine g_iload_n (pc := 6) C dX7_seed_6 2 rfl ?_
  refine g_put (pc := 7) (T := TX7) (N := 33) (ty := .int) (ws' := [oC m 6 [.ref (A 0), .ref (A 1), .ref (A 2), .int (τ 8 0), .ref (A 3), .ref (A 4), .ref (A 5), .int (τ 8 1), .ref (A 6), .ref (A 7), .ref (A 8), .ref (A 9), .ref (A 10), .int (τ 8 2), .int (τ 8 3), .int (τ 8 5), .int (τ 8 6), .int v, .int (y 0), .ref (A 11), .int (y 1), .ref (A 12), .int (y 2), .ref (A 13), .ref (A 14), .int (y 3), .int (y 4), .ref (A 15), .ref (A 16), .ref (A 17), .ref (A 18), .ref (A 19), .int (y 5)], iC G (A 3) 8 (τ 0), iC G (A 4) 8 (τ 1), iC G (A 5) 64 (τ 2), iC G (A 6) 10 (τ 3), iC G (A 7) 10 (τ 4), iC G (A 8) 10 (τ 5), iC G (A 9) 10 (τ 6), iC G (A 10) 10 (τ 7)]) C rfl ib_X7 tyX7 tyX7_ok nmX7 0 rfl rfl 17 (by decide) mf_X7_75 rfl rfl rfl (by decide +kernel) rfl rfl (Nat.le_of_ble_eq_true rfl) dX7_seed_7 rfl ?_
  refine g_iload_n (pc := 10) C dX7_seed_10 0 rfl ?_
  exact g_retIW (pc := 11) C rfl rfl () (rfl) (by rfl) (by simp [wN, aSc, aQu, aGr, aBe, aVi, aSp, up2_r, up2_n, up2_s, up2]) dX7_seed_11
set_option maxRecDepth 20000 in
set_option maxHeartbeats 4000000 in
theorem c_X7_draw (l : Launch) (G : gT) (m : Nat) (A : Nat → Nat) (τ : tT) (y : Nat → Int32) (n : Int32) (hn : ¬ n < 1) : WI l yX7_draw cX7_draw 2 (some .int) 0 0 0 G [.ref m, .int n] (wN G m A τ y) (S := Unit) (fun r _ => r = drV (τ 8 4) n) (fun _ => wN G m A (kn1 τ) y) := by
  intro sz9
  refine start_W (by decide) (Nat.le_of_ble_eq_true rfl) (fun p9 e9 s9 m9 a9 b9 t9 c9 C => ?_)
  refine g_lv (lv' := [(0, .ref m), (1, .int n)]) rfl ?_
  refine g_aload_n (pc := 0) C dX7_draw_0 0 rfl ?_
  refine g_aload_n (pc := 1) C dX7_draw_1 0 rfl ?_
  refine g_get (pc := 2) (T := TX7) (N := 33) (v := .int (τ 8 4)) C ib_X7 0 rfl rfl 17 (by decide) mf_X7_75 rfl rfl rfl dX7_draw_2 ?_
  refine g_ldcw (pc := 5) (v := 1103515245) C mk_X7_290 dX7_draw_5 ?_
  refine g_imul (pc := 8) C dX7_draw_8 ?_
  refine g_sipush (pc := 9) (v := 12345) C dX7_draw_9 (by decide) ?_
  refine g_iadd (pc := 12) C dX7_draw_12 ?_
  refine g_put (pc := 13) (T := TX7) (N := 33) (ty := .int) (ws' := [oC m 6 [.ref (A 0), .ref (A 1), .ref (A 2), .int (τ 8 0), .ref (A 3), .ref (A 4), .ref (A 5), .int (τ 8 1), .ref (A 6), .ref (A 7), .ref (A 8), .ref (A 9), .ref (A 10), .int (τ 8 2), .int (τ 8 3), .int (τ 8 5), .int (τ 8 6), .int (((τ 8 4) * 1103515245) + 12345), .int (y 0), .ref (A 11), .int (y 1), .ref (A 12), .int (y 2), .ref (A 13), .ref (A 14), .int (y 3), .int (y 4), .ref (A 15), .ref (A 16), .ref (A 17), .ref (A 18), .ref (A 19), .int (y 5)], iC G (A 3) 8 (τ 0), iC G (A 4) 8 (τ 1), iC G (A 5) 64 (τ 2), iC G (A 6) 10 (τ 3), iC G (A 7) 10 (τ 4), iC G (A 8) 10 (τ 5), iC G (A 9) 10 (τ 6), iC G (A 10) 10 (τ 7)]) C rfl ib_X7 tyX7 tyX7_ok nmX7 0 rfl rfl 17 (by decide) mf_X7_75 rfl rfl rfl (by decide +kernel) rfl rfl (Nat.le_of_ble_eq_true rfl) dX7_draw_13 rfl ?_
  refine g_aload_n (pc := 16) C dX7_draw_16 0 rfl ?_
  refine g_get (pc := 17) (T := TX7) (N := 33) (v := .int (((τ 8 4) * 1103515245) + 12345)) C ib_X7 0 rfl rfl 17 (by decide) mf_X7_75 rfl rfl rfl dX7_draw_17 ?_
  refine g_bipush (pc := 20) (v := 16) C dX7_draw_20 (by decide) ?_
  refine g_iushr (pc := 22) (v := ((((τ 8 4) * 1103515245) + 12345).toUInt32 >>> (Int32.toUInt32 16 &&& Int32.toUInt32 31)).toInt32) C dX7_draw_22 rfl ?_
  refine g_iload_n (pc := 23) C dX7_draw_23 1 rfl ?_
  refine g_irem (pc := 24) (v := (((((τ 8 4) * 1103515245) + 12345).toUInt32 >>> (Int32.toUInt32 16 &&& Int32.toUInt32 31)).toInt32) - (((((τ 8 4) * 1103515245) + 12345).toUInt32 >>> (Int32.toUInt32 16 &&& Int32.toUInt32 31)).toInt32) / n * n) C dX7_draw_24 (by rintro rfl; exact absurd hn (by decide)) (rfl) ?_
  exact g_retIW (pc := 25) C rfl rfl () (rfl) (by rw [drV, if_neg hn]; rfl) (by simp [wN, kn1, sdN, aSc, up2_n, up2]) dX7_draw_25
set_option maxRecDepth 20000 in
set_option maxHeartbeats 4000000 in
theorem c_X7_change (l : Launch) (G : gT) (m : Nat) (A : Nat → Nat) (τ : tT) (y : Nat → Int32) (g : Int32) (v : Int32) (n : Int32) (rr : Nat → Int32) (hT : TI τ) : WI l yX7_change cX7_change 4 (some .int) 12 0 0 G [.ref m, .int g, .int v, .int n] (wN G m A τ y ++ ([iC G (A 11) 8 rr])) (S := Unit) (fun r _ => r = if rcCh τ g v n = 0 then chV τ g v n else (rcCh τ g v n)) (fun _ => wN G m A (if rcCh τ g v n = 0 then chT τ g v n else τ) y ++ ([iC G (A 11) 8 (rfI rr (rcCh τ g v n))])) := by
  have hg10 := hT.g10
  have hq8 := hT.q8
  intro sz9
  refine start_W (by decide) (Nat.le_of_ble_eq_true rfl) (fun p9 e9 s9 m9 a9 b9 t9 c9 C => ?_)
  refine g_lv (lv' := [(0, .ref m), (1, .int g), (2, .int v), (3, .int n)]) rfl ?_
  refine g_aload_n (pc := 0) C dX7_change_0 0 rfl ?_
  refine g_iload_n (pc := 1) C dX7_change_1 1 rfl ?_
  refine g_rdVI (pc := 2) (val := bI (0 ≤ g ∧ g ≤ nI (tG τ) - 1)) (rest := []) C k_X7_isGroup (c_X7_isGroup l G m A τ y g (by first | assumption | omega | decide)) ml_X7_136 rfl ⟨Nat.le_of_ble_eq_true rfl, Nat.le_of_ble_eq_true rfl⟩ rfl [0, 1, 2, 3, 4, 5, 6, 7, 8] rfl 0 rfl rfl rfl rfl (Nat.le_of_ble_eq_true rfl) ⟨by decide, by decide⟩ dX7_change_2 ?_
  refine g_ifb_ne (pc := 5) (tgt := 14) C dX7_change_5 (by decide) (fun h5 => ?_) (fun h5 => ?_)
  · obtain ⟨g8, hg8, rfl⟩ := isG_nI hT h5
    have eg8 : nx (nI g8) = g8 := nx_nI (by omega)
    refine g_iload_n (pc := 14) C dX7_change_14 2 rfl ?_
    refine g_iconst (pc := 15) (v := 0) C dX7_change_15 (by decide) ?_
    refine g_iconst (pc := 16) (v := 2) C dX7_change_16 (by decide) ?_
    refine g_rdSI (pc := 17) (val := bI (0 ≤ v ∧ v ≤ 2)) (rest := []) C k_X7_within (c_X7_within l G v 0 2) ml_X7_88 rfl ⟨Nat.le_of_ble_eq_true rfl, Nat.le_of_ble_eq_true rfl⟩ rfl [] rfl rfl (Nat.le_of_ble_eq_true rfl) ⟨by decide, by decide⟩ dX7_change_17 ?_
    refine g_ifb_eq (pc := 20) (tgt := 47) C dX7_change_20 (by decide) (fun h20 => ?_) (fun h20 => ?_)
    · refine g_aload_n (pc := 47) C dX7_change_47 0 rfl ?_
      refine g_bipush (pc := 48) (v := (-6)) C dX7_change_48 (by decide) ?_
      refine g_wrVI (pc := 50) (rest := []) (wr := []) C (fun _ => wN G m A τ y ++ ([iC G (A 11) 8 (rfI rr (-6))])) rfl k_X7_no (c_X7_no l G m A τ y rr (-6) (by first | assumption | omega | decide)) ml_X7_81 rfl ⟨Nat.le_of_ble_eq_true rfl, Nat.le_of_ble_eq_true rfl⟩ rfl [0, 1, 2, 3, 4, 5, 6, 7, 8, 9] [] [0, 1, 2, 3, 4, 5, 6, 7, 8, 9] rfl (by decide) rfl (by decide) (by decide) (by decide) (fun _ => rfl) 0 rfl rfl rfl rfl (Nat.le_of_ble_eq_true rfl) ⟨by decide, by decide⟩ dX7_change_50 (fun r50 _ e50 => ?_)
      subst e50
      exact g_retIW (pc := 53) C rfl rfl () (rfl) (by have e9 : rcCh τ (nI g8) v n = (-6) := (by first | (simp [rcCh, *]; done) | (grind [rcCh])); rw [if_neg (by rw [e9] <;> (first | done | decide)), e9]) (by have e9 : rcCh τ (nI g8) v n = (-6) := (by first | (simp [rcCh, *]; done) | (grind [rcCh])); rw [e9] <;> (first | done | rfl | (rw [if_neg (by decide)] <;> (first | done | rfl)))) dX7_change_53
    · refine g_iload_n (pc := 23) C dX7_change_23 2 rfl ?_
      refine g_aload_n (pc := 24) C dX7_change_24 0 rfl ?_
      refine g_get (pc := 25) (T := TX7) (N := 33) (v := .ref (A 7)) C ib_X7 0 rfl rfl 9 (by decide) mf_X7_32 rfl rfl rfl dX7_change_25 ?_
      refine g_iload_n (pc := 28) C dX7_change_28 1 rfl ?_
      refine g_iald (pc := 29) (v := (τ 4) g8) C 5 rfl g8 (rfl) ⟨by omega, by decide⟩ (rfl) dX7_change_29 ?_
      refine g_icmp_eq (pc := 30) (tgt := 47) C dX7_change_30 (by decide) (fun h30 => ?_) (fun h30 => ?_)
      · refine g_aload_n (pc := 47) C dX7_change_47 0 rfl ?_
        refine g_bipush (pc := 48) (v := (-6)) C dX7_change_48 (by decide) ?_
        refine g_wrVI (pc := 50) (rest := []) (wr := []) C (fun _ => wN G m A τ y ++ ([iC G (A 11) 8 (rfI rr (-6))])) rfl k_X7_no (c_X7_no l G m A τ y rr (-6) (by first | assumption | omega | decide)) ml_X7_81 rfl ⟨Nat.le_of_ble_eq_true rfl, Nat.le_of_ble_eq_true rfl⟩ rfl [0, 1, 2, 3, 4, 5, 6, 7, 8, 9] [] [0, 1, 2, 3, 4, 5, 6, 7, 8, 9] rfl (by decide) rfl (by decide) (by decide) (by decide) (fun _ => rfl) 0 rfl rfl rfl rfl (Nat.le_of_ble_eq_true rfl) ⟨by decide, by decide⟩ dX7_change_50 (fun r50 _ e50 => ?_)
        subst e50
        exact g_retIW (pc := 53) C rfl rfl () (rfl) (by have e9 : rcCh τ (nI g8) v n = (-6) := (by first | (simp [rcCh, *]; done) | (grind [rcCh])); rw [if_neg (by rw [e9] <;> (first | done | decide)), e9]) (by have e9 : rcCh τ (nI g8) v n = (-6) := (by first | (simp [rcCh, *]; done) | (grind [rcCh])); rw [e9] <;> (first | done | rfl | (rw [if_neg (by decide)] <;> (first | done | rfl)))) dX7_change_53
      · refine g_iload_n (pc := 33) C dX7_change_33 3 rfl ?_
        refine g_iconst (pc := 34) (v := 1) C dX7_change_34 (by decide) ?_
        refine g_aload_n (pc := 35) C dX7_change_35 0 rfl ?_
        refine g_get (pc := 36) (T := TX7) (N := 33) (v := .ref (A 6)) C ib_X7 0 rfl rfl 8 (by decide) mf_X7_29 rfl rfl rfl dX7_change_36 ?_
        refine g_iload_n (pc := 39) C dX7_change_39 1 rfl ?_
        refine g_iald (pc := 40) (v := (τ 3) g8) C 4 rfl g8 (rfl) ⟨by omega, by decide⟩ (rfl) dX7_change_40 ?_
        refine g_rdSI (pc := 41) (val := bI (1 ≤ n ∧ n ≤ ((τ 3) g8))) (rest := []) C k_X7_within (c_X7_within l G n 1 ((τ 3) g8)) ml_X7_88 rfl ⟨Nat.le_of_ble_eq_true rfl, Nat.le_of_ble_eq_true rfl⟩ rfl [] rfl rfl (Nat.le_of_ble_eq_true rfl) ⟨by decide, by decide⟩ dX7_change_41 ?_
        refine g_ifb_ne (pc := 44) (tgt := 54) C dX7_change_44 (by decide) (fun h44 => ?_) (fun h44 => ?_)
        · refine g_iload_n (pc := 54) C dX7_change_54 3 rfl ?_
          refine g_aload_n (pc := 55) C dX7_change_55 0 rfl ?_
          refine g_get (pc := 56) (T := TX7) (N := 33) (v := .ref (A 6)) C ib_X7 0 rfl rfl 8 (by decide) mf_X7_29 rfl rfl rfl dX7_change_56 ?_
          refine g_iload_n (pc := 59) C dX7_change_59 1 rfl ?_
          refine g_iald (pc := 60) (v := (τ 3) g8) C 4 rfl g8 (rfl) ⟨by omega, by decide⟩ (rfl) dX7_change_60 ?_
          refine g_icmp_ne (pc := 61) (tgt := 73) C dX7_change_61 (by decide) (fun h61 => ?_) (fun h61 => ?_)
          · refine g_aload_n (pc := 73) C dX7_change_73 0 rfl ?_
            refine g_get (pc := 74) (T := TX7) (N := 33) (v := .int (τ 8 1)) C ib_X7 0 rfl rfl 7 (by decide) mf_X7_92 rfl rfl rfl dX7_change_74 ?_
            refine g_top (z := nI (tG τ)) (hT.g) ?_
            refine g_bipush (pc := 77) (v := 10) C dX7_change_77 (by decide) ?_
            refine g_icmpN_ne (pc := 79) (i := tG τ) (j := 10) (tgt := 89) C dX7_change_79 (by decide) ⟨by omega, by omega⟩ (fun h79 => ?_) (fun h79 => ?_)
            · refine g_aload_n (pc := 89) C dX7_change_89 0 rfl ?_
              refine g_get (pc := 90) (T := TX7) (N := 33) (v := .ref (A 6)) C ib_X7 0 rfl rfl 8 (by decide) mf_X7_29 rfl rfl rfl dX7_change_90 ?_
              refine g_iload_n (pc := 93) C dX7_change_93 1 rfl ?_
              refine g_dup2 (pc := 94) C dX7_change_94 rfl rfl ?_
              refine g_iald (pc := 95) (v := (τ 3) g8) C 4 rfl g8 (rfl) ⟨by omega, by decide⟩ (rfl) dX7_change_95 ?_
              refine g_iload_n (pc := 96) C dX7_change_96 3 rfl ?_
              refine g_isub (pc := 97) C dX7_change_97 ?_
              refine g_iast (pc := 98) (ws' := [oC m 6 [.ref (A 0), .ref (A 1), .ref (A 2), .int (τ 8 0), .ref (A 3), .ref (A 4), .ref (A 5), .int (τ 8 1), .ref (A 6), .ref (A 7), .ref (A 8), .ref (A 9), .ref (A 10), .int (τ 8 2), .int (τ 8 3), .int (τ 8 5), .int (τ 8 6), .int (τ 8 4), .int (y 0), .ref (A 11), .int (y 1), .ref (A 12), .int (y 2), .ref (A 13), .ref (A 14), .int (y 3), .int (y 4), .ref (A 15), .ref (A 16), .ref (A 17), .ref (A 18), .ref (A 19), .int (y 5)], iC G (A 3) 8 (τ 0), iC G (A 4) 8 (τ 1), iC G (A 5) 64 (τ 2), iC G (A 6) 10 (upd (τ 3) g8 (((τ 3) g8) - n)), iC G (A 7) 10 (τ 4), iC G (A 8) 10 (τ 5), iC G (A 9) 10 (τ 6), iC G (A 10) 10 (τ 7), iC G (A 11) 8 rr]) C rfl 4 rfl g8 (rfl) ⟨by omega, by decide⟩ dX7_change_98 rfl ?_
              refine g_ws (ws' := wN G m A (up2 τ 3 g8 (τ 3 g8 - n)) y ++ ([iC G (A 11) 8 rr])) (by simp [wN, aSc, aQu, aGr, aBe, aVi, aSp, up2_r, up2_n, up2_s, up2]) ?_
              refine g_aload_n (pc := 99) C dX7_change_99 0 rfl ?_
              refine g_iload_n (pc := 100) C dX7_change_100 3 rfl ?_
              refine g_iload_n (pc := 101) C dX7_change_101 2 rfl ?_
              refine g_aload_n (pc := 102) C dX7_change_102 0 rfl ?_
              refine g_get (pc := 103) (T := TX7) (N := 33) (v := .ref (A 8)) C ib_X7 0 rfl rfl 10 (by decide) mf_X7_35 rfl rfl rfl dX7_change_103 ?_
              refine g_iload_n (pc := 106) C dX7_change_106 1 rfl ?_
              refine g_iald (pc := 107) (v := ((up2 τ 3 g8 (τ 3 g8 - n)) 5) g8) C 6 rfl g8 (rfl) ⟨by omega, by decide⟩ (rfl) dX7_change_107 ?_
              refine g_aload_n (pc := 108) C dX7_change_108 0 rfl ?_
              refine g_get (pc := 109) (T := TX7) (N := 33) (v := .ref (A 9)) C ib_X7 0 rfl rfl 11 (by decide) mf_X7_38 rfl rfl rfl dX7_change_109 ?_
              refine g_iload_n (pc := 112) C dX7_change_112 1 rfl ?_
              refine g_iald (pc := 113) (v := ((up2 τ 3 g8 (τ 3 g8 - n)) 6) g8) C 7 rfl g8 (rfl) ⟨by omega, by decide⟩ (rfl) dX7_change_113 ?_
              refine g_aload_n (pc := 114) C dX7_change_114 0 rfl ?_
              refine g_get (pc := 115) (T := TX7) (N := 33) (v := .ref (A 10)) C ib_X7 0 rfl rfl 12 (by decide) mf_X7_41 rfl rfl rfl dX7_change_115 ?_
              refine g_iload_n (pc := 118) C dX7_change_118 1 rfl ?_
              refine g_iald (pc := 119) (v := ((up2 τ 3 g8 (τ 3 g8 - n)) 7) g8) C 8 rfl g8 (rfl) ⟨by omega, by decide⟩ (rfl) dX7_change_119 ?_
              refine g_wrVI (pc := 120) (rest := []) (wr := [iC G (A 11) 8 rr]) C (fun _ => wN G m A (aGr (up2 τ 3 g8 (τ 3 g8 - n)) n v (((up2 τ 3 g8 (τ 3 g8 - n)) 5) g8) (((up2 τ 3 g8 (τ 3 g8 - n)) 6) g8) (((up2 τ 3 g8 (τ 3 g8 - n)) 7) g8)) y ++ ([iC G (A 11) 8 rr])) rfl k_X7_newGroup (c_X7_newGroup l G m A (up2 τ 3 g8 (τ 3 g8 - n)) y n v (((up2 τ 3 g8 (τ 3 g8 - n)) 5) g8) (((up2 τ 3 g8 (τ 3 g8 - n)) 6) g8) (((up2 τ 3 g8 (τ 3 g8 - n)) 7) g8) (TI_cut hT hg8 h44 h61) (by show tG τ < 10; omega)) ml_X7_123 rfl ⟨Nat.le_of_ble_eq_true rfl, Nat.le_of_ble_eq_true rfl⟩ rfl [0, 1, 2, 3, 4, 5, 6, 7, 8] [9] [1, 2, 3, 4, 5, 6, 7, 8, 9, 0] rfl (by decide) rfl (by decide) (by decide) (by decide) (fun _ => rfl) 0 rfl rfl rfl rfl (Nat.le_of_ble_eq_true rfl) ⟨by decide, by decide⟩ dX7_change_120 (fun r120 _ e120 => ?_)
              subst e120
              exact g_retIW (pc := 123) C rfl rfl () (rfl) (by have e9 : rcCh τ (nI g8) v n = 0 := (by first | (simp [rcCh, *]; done) | (grind [rcCh])); rw [if_pos e9] <;> (simp [chV, eg8, h61] <;> rfl)) (by have e9 : rcCh τ (nI g8) v n = 0 := (by first | (simp [rcCh, *]; done) | (grind [rcCh])); rw [e9, rfI_0] <;> (rw [chT, eg8, if_neg h61] <;> rfl)) dX7_change_123
            · refine g_aload_n (pc := 82) C dX7_change_82 0 rfl ?_
              refine g_bipush (pc := 83) (v := (-7)) C dX7_change_83 (by decide) ?_
              refine g_wrVI (pc := 85) (rest := []) (wr := []) C (fun _ => wN G m A τ y ++ ([iC G (A 11) 8 (rfI rr (-7))])) rfl k_X7_no (c_X7_no l G m A τ y rr (-7) (by first | assumption | omega | decide)) ml_X7_81 rfl ⟨Nat.le_of_ble_eq_true rfl, Nat.le_of_ble_eq_true rfl⟩ rfl [0, 1, 2, 3, 4, 5, 6, 7, 8, 9] [] [0, 1, 2, 3, 4, 5, 6, 7, 8, 9] rfl (by decide) rfl (by decide) (by decide) (by decide) (fun _ => rfl) 0 rfl rfl rfl rfl (Nat.le_of_ble_eq_true rfl) ⟨by decide, by decide⟩ dX7_change_85 (fun r85 _ e85 => ?_)
              subst e85
              exact g_retIW (pc := 88) C rfl rfl () (rfl) (by have e9 : rcCh τ (nI g8) v n = (-7) := (by first | (simp [rcCh, *]; done) | (grind [rcCh])); rw [if_neg (by rw [e9] <;> (first | done | decide)), e9]) (by have e9 : rcCh τ (nI g8) v n = (-7) := (by first | (simp [rcCh, *]; done) | (grind [rcCh])); rw [e9] <;> (first | done | rfl | (rw [if_neg (by decide)] <;> (first | done | rfl)))) dX7_change_88
          · refine g_aload_n (pc := 64) C dX7_change_64 0 rfl ?_
            refine g_get (pc := 65) (T := TX7) (N := 33) (v := .ref (A 7)) C ib_X7 0 rfl rfl 9 (by decide) mf_X7_32 rfl rfl rfl dX7_change_65 ?_
            refine g_iload_n (pc := 68) C dX7_change_68 1 rfl ?_
            refine g_iload_n (pc := 69) C dX7_change_69 2 rfl ?_
            refine g_iast (pc := 70) (ws' := [oC m 6 [.ref (A 0), .ref (A 1), .ref (A 2), .int (τ 8 0), .ref (A 3), .ref (A 4), .ref (A 5), .int (τ 8 1), .ref (A 6), .ref (A 7), .ref (A 8), .ref (A 9), .ref (A 10), .int (τ 8 2), .int (τ 8 3), .int (τ 8 5), .int (τ 8 6), .int (τ 8 4), .int (y 0), .ref (A 11), .int (y 1), .ref (A 12), .int (y 2), .ref (A 13), .ref (A 14), .int (y 3), .int (y 4), .ref (A 15), .ref (A 16), .ref (A 17), .ref (A 18), .ref (A 19), .int (y 5)], iC G (A 3) 8 (τ 0), iC G (A 4) 8 (τ 1), iC G (A 5) 64 (τ 2), iC G (A 6) 10 (τ 3), iC G (A 7) 10 (upd (τ 4) g8 v), iC G (A 8) 10 (τ 5), iC G (A 9) 10 (τ 6), iC G (A 10) 10 (τ 7), iC G (A 11) 8 rr]) C rfl 5 rfl g8 (rfl) ⟨by omega, by decide⟩ dX7_change_70 rfl ?_
            refine g_iload_n (pc := 71) C dX7_change_71 1 rfl ?_
            exact g_retIW (pc := 72) C rfl rfl () (rfl) (by have e9 : rcCh τ (nI g8) v n = 0 := (by first | (simp [rcCh, *]; done) | (grind [rcCh])); rw [if_pos e9] <;> (simp [chV, eg8, h61])) (by have e9 : rcCh τ (nI g8) v n = 0 := (by first | (simp [rcCh, *]; done) | (grind [rcCh])); rw [e9, rfI_0] <;> (rw [chT, eg8, if_pos h61] <;> simp [wN, aSc, aQu, aGr, aBe, aVi, aSp, up2_r, up2_n, up2_s, up2])) dX7_change_72
        · refine g_aload_n (pc := 47) C dX7_change_47 0 rfl ?_
          refine g_bipush (pc := 48) (v := (-6)) C dX7_change_48 (by decide) ?_
          refine g_wrVI (pc := 50) (rest := []) (wr := []) C (fun _ => wN G m A τ y ++ ([iC G (A 11) 8 (rfI rr (-6))])) rfl k_X7_no (c_X7_no l G m A τ y rr (-6) (by first | assumption | omega | decide)) ml_X7_81 rfl ⟨Nat.le_of_ble_eq_true rfl, Nat.le_of_ble_eq_true rfl⟩ rfl [0, 1, 2, 3, 4, 5, 6, 7, 8, 9] [] [0, 1, 2, 3, 4, 5, 6, 7, 8, 9] rfl (by decide) rfl (by decide) (by decide) (by decide) (fun _ => rfl) 0 rfl rfl rfl rfl (Nat.le_of_ble_eq_true rfl) ⟨by decide, by decide⟩ dX7_change_50 (fun r50 _ e50 => ?_)
          subst e50
          exact g_retIW (pc := 53) C rfl rfl () (rfl) (by have e9 : rcCh τ (nI g8) v n = (-6) := (by first | (simp [rcCh, *]; done) | (grind [rcCh])); rw [if_neg (by rw [e9] <;> (first | done | decide)), e9]) (by have e9 : rcCh τ (nI g8) v n = (-6) := (by first | (simp [rcCh, *]; done) | (grind [rcCh])); rw [e9] <;> (first | done | rfl | (rw [if_neg (by decide)] <;> (first | done | rfl)))) dX7_change_53
  · refine g_aload_n (pc := 8) C dX7_change_8 0 rfl ?_
    refine g_iconst (pc := 9) (v := (-1)) C dX7_change_9 (by decide) ?_
    refine g_wrVI (pc := 10) (rest := []) (wr := []) C (fun _ => wN G m A τ y ++ ([iC G (A 11) 8 (rfI rr (-1))])) rfl k_X7_no (c_X7_no l G m A τ y rr (-1) (by first | assumption | omega | decide)) ml_X7_81 rfl ⟨Nat.le_of_ble_eq_true rfl, Nat.le_of_ble_eq_true rfl⟩ rfl [0, 1, 2, 3, 4, 5, 6, 7, 8, 9] [] [0, 1, 2, 3, 4, 5, 6, 7, 8, 9] rfl (by decide) rfl (by decide) (by decide) (by decide) (fun _ => rfl) 0 rfl rfl rfl rfl (Nat.le_of_ble_eq_true rfl) ⟨by decide, by decide⟩ dX7_change_10 (fun r10 _ e10 => ?_)
    subst e10
    exact g_retIW (pc := 13) C rfl rfl () (rfl) (by have e9 : rcCh τ g v n = (-1) := (by first | (simp [rcCh, *]; done) | (grind [rcCh])); rw [if_neg (by rw [e9] <;> (first | done | decide)), e9]) (by have e9 : rcCh τ g v n = (-1) := (by first | (simp [rcCh, *]; done) | (grind [rcCh])); rw [e9] <;> (first | done | rfl | (rw [if_neg (by decide)] <;> (first | done | rfl)))) dX7_change_13
