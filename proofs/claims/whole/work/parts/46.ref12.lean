theorem mOff_nI {τ : tT} (hT : TI τ) {q p : Nat} (hq : q < 8) (hp : p < 8) : ∃ m, m ≤ 2000 ∧ mAbs (share τ q + share τ p - 1000) = nI m := by
  obtain ⟨a, ha, ea⟩ := share_nI hT hq
  obtain ⟨b, hb, eb⟩ := share_nI hT hp
  rw [ea, eb, nI_add]
  exact abs_nI (a := a + b) (b := 1000) (M := 2000) (by omega) (by decide) (by decide)
def twL (τ : tT) (q i : Nat) : Int32 := if (twN τ q i).1 = -1 then 0 else (twN τ q i).2
theorem tw_n {n : Nat} (h : n < 2147483648) : ¬ nI n = -1 := fun e => by
  have := nI_pos h
  rw [e] at this
  exact this (by decide)
theorem tw_1 (τ : tT) (q : Nat) : ∀ i, i ≤ 8 → (twN τ q i).1 = -1 → (twN τ q i).2 = 1000000
  | 0, _, _ => rfl
  | i + 1, hi, h => by
    rw [twN] at h ⊢
    by_cases hc : ¬ i = q ∧ mAbs (share τ q + share τ i - 1000) < (twN τ q i).2
    · rw [if_pos hc] at h; exact absurd h (tw_n (by omega))
    · rw [if_neg hc] at h ⊢; exact tw_1 τ q i (by omega) h
theorem tw_same (τ : tT) {q i : Nat} (h : i = q) : twN τ q (i + 1) = twN τ q i := by rw [twN, if_neg (fun z => z.1 h)]
theorem tw_more (τ : tT) {q i : Nat} (h1 : ¬ (twN τ q i).1 = -1) (h : twL τ q i ≤ mAbs (share τ q + share τ i - 1000)) : twN τ q (i + 1) = twN τ q i := by
  rw [twL, if_neg h1] at h
  rw [twN, if_neg (fun z => Int32.not_le.mpr z.2 h)]
theorem tw_take {τ : tT} (hT : TI τ) {q i : Nat} (hq : q < 8) (hi : i < 8) (h : ¬ i = q) (h1 : (twN τ q i).1 = -1 ∨ mAbs (share τ q + share τ i - 1000) < twL τ q i) : twN τ q (i + 1) = (nI i, mAbs (share τ q + share τ i - 1000)) := by
  have hlt : mAbs (share τ q + share τ i - 1000) < (twN τ q i).2 := by
    by_cases h2 : (twN τ q i).1 = -1
    · rw [tw_1 τ q i (by omega) h2]
      obtain ⟨m, hm, e⟩ := mOff_nI hT hq hi
      rw [e]; exact (nI_ltI (b := 1000000) (by omega) (by decide)).mpr (by omega)
    · have h3 := h1.resolve_left h2
      rwa [twL, if_neg h2] at h3
  rw [twN, if_pos ⟨h, hlt⟩]
theorem twL_take {τ : tT} (hT : TI τ) {q i : Nat} (hq : q < 8) (hi : i < 8) (h : ¬ i = q) (h1 : (twN τ q i).1 = -1 ∨ mAbs (share τ q + share τ i - 1000) < twL τ q i) : twL τ q (i + 1) = mAbs (share τ q + share τ i - 1000) := by
  rw [twL, tw_take hT hq hi h h1]
  exact if_neg (tw_n (by omega))
theorem bPar : ∀ i, i < 12 → (i % 2 = 0 → (i < 10 → bitP 341 i) ∧ ¬ bitP 682 i) ∧ (i % 2 = 1 → (i < 10 → bitP 682 i) ∧ ¬ bitP 341 i) := by decide
def sB (s : Int32) (f : Nat → Int32) (i : Nat) : Int32 := sumN (fun g => if bitP s g then f g else 0) i
theorem sB_0 (s : Int32) (f : Nat → Int32) : sB s f 0 = 0 := rfl
theorem sB_n {s : Int32} {f : Nat → Int32} {i : Nat} (h : ¬ bitP s i) : sB s f (i + 1) = sB s f i := by
  show sumN (fun g => if bitP s g then f g else 0) i + (if bitP s i then f i else 0) = _
  rw [if_neg h, Int32.add_zero]; rfl
theorem sB_t {s : Int32} {f : Nat → Int32} {i : Nat} (h : bitP s i) : sB s f (i + 1) = sB s f i + f i := by
  show sumN (fun g => if bitP s g then f g else 0) i + (if bitP s i then f i else 0) = _
  rw [if_pos h]; rfl
theorem sB_2 {s : Int32} {f : Nat → Int32} {i : Nat} (h1 : bitP s i) (h2 : ¬ bitP s (i + 1)) : sB s f (i + 2) = sB s f i + f i := by rw [sB_n h2, sB_t h1]
theorem sB_e {s : Int32} {f : Nat → Int32} {i n : Nat} (h : i = n ∨ (i = n + 1 ∧ ¬ bitP s n)) : sB s f i = sB s f n := by
  rcases h with h | ⟨h, h2⟩
  · rw [h]
  · rw [h, sB_n h2]
set_option maxRecDepth 20000 in
set_option maxHeartbeats 4000000 in
theorem c_X7_shareOfHalf_0 (l : Launch) (G : gT) (m : Nat) (A : Nat → Nat) (τ : tT) (y : Nat → Int32) (q : Nat) (hT : TI τ) (hq : q < 8) : RI l yX7_shareOfHalf cX7_shareOfHalf 6 (some .int) 3 G [.ref m, .int (nI q), .int 0] (wN G m A τ y) (shS τ q 341) := by
  have hg10 := hT.g10
  have hq8 := hT.q8
  refine start_R (by decide) (Nat.le_of_ble_eq_true rfl) (fun p9 e9 s9 m9 a9 b9 t9 c9 C => ?_)
  refine g_lv (lv' := [(0, .ref m), (1, .int (nI q)), (2, .int 0)]) rfl ?_
  refine g_iconst (pc := 0) (v := 0) C dX7_shareOfHalf_0 (by decide) ?_
  refine g_istore_n (pc := 1) (lv' := [(3, .int 0), (0, .ref m), (1, .int (nI q)), (2, .int 0)]) C dX7_shareOfHalf_1 rfl (by decide) rfl ?_
  refine g_iconst (pc := 2) (v := 0) C dX7_shareOfHalf_2 (by decide) ?_
  refine g_istore (pc := 3) (lv' := [(4, .int 0), (3, .int 0), (0, .ref m), (1, .int (nI q)), (2, .int 0)]) C dX7_shareOfHalf_3 (by decide) rfl ?_
  refine g_iload_n (pc := 5) C dX7_shareOfHalf_5 4 rfl ?_
  refine g_istore (pc := 6) (lv' := [(5, .int 0), (4, .int 0), (3, .int 0), (0, .ref m), (1, .int (nI q)), (2, .int 0)]) C dX7_shareOfHalf_6 (by decide) rfl ?_
  have key_8 : ∀ (n8 : Nat) (i : Nat) (hi : i ≤ tG τ + 1) (hp : i % 2 = 0), tG τ + 1 - i < n8 → GW p9 l e9 (rmh 3 0 0) s9 m9 a9 b9 t9 c9 (MQ b9 (QcI (shS τ q 341)) a9 s9 0 0 NoA) G NoA false 6 0 0 (wN G m A τ y) [(0, .ref m), (1, .int (nI q)), (2, .int 0), (3, .int (sB 341 (τ 3) i)), (4, .int (sB 341 (fun g => yG τ q g (τ 3 g)) i)), (5, .int (nI i))] 8 [] := by
    intro n8
    induction n8 with
    | zero => intro i hi hp hn8; exact absurd hn8 (Nat.not_lt_zero _)
    | succ n8 ih8 =>
      intro i hi hp hn8
      refine g_iload (pc := 8) C dX7_shareOfHalf_8 5 rfl ?_
      refine g_aload_n (pc := 10) C dX7_shareOfHalf_10 0 rfl ?_
      refine g_get (pc := 11) (T := TX7) (N := 33) (v := .int (τ 8 1)) C ib_X7 0 rfl rfl 7 (by decide) mf_X7_92 rfl rfl rfl dX7_shareOfHalf_11 ?_
      refine g_top (z := nI (tG τ)) (hT.g) ?_
      refine g_icmpN_ge (pc := 14) (i := i) (j := tG τ) (tgt := 52) C dX7_shareOfHalf_14 (by decide) ⟨by omega, by omega⟩ (fun h14 => ?_) (fun h14 => ?_)
      · refine g_iload (pc := 52) C dX7_shareOfHalf_52 4 rfl ?_
        refine g_iload_n (pc := 54) C dX7_shareOfHalf_54 3 rfl ?_
        refine g_rdSI (pc := 55) (val := sTh (sB 341 (fun g => yG τ q g (τ 3 g)) i) (sB 341 (τ 3) i)) (rest := []) C k_X7_thousandths (c_X7_thousandths l G (sB 341 (fun g => yG τ q g (τ 3 g)) i) (sB 341 (τ 3) i)) ml_X7_214 rfl ⟨Nat.le_of_ble_eq_true rfl, Nat.le_of_ble_eq_true rfl⟩ rfl [] rfl rfl (Nat.le_of_ble_eq_true rfl) ⟨by decide, by decide⟩ dX7_shareOfHalf_55 ?_
        exact g_retIR (pc := 58) C (rfl) (by have he9 : i = tG τ ∨ (i = tG τ + 1 ∧ ¬ bitP 341 (tG τ)) := (by by_cases h9 : i = tG τ; exact Or.inl h9; exact Or.inr ⟨by omega, ((bPar (tG τ) (by omega)).2 (by omega)).2⟩); rw [sB_e he9, sB_e he9] <;> rfl) dX7_shareOfHalf_58
      · refine g_iload_n (pc := 17) C dX7_shareOfHalf_17 3 rfl ?_
        refine g_aload_n (pc := 18) C dX7_shareOfHalf_18 0 rfl ?_
        refine g_get (pc := 19) (T := TX7) (N := 33) (v := .ref (A 6)) C ib_X7 0 rfl rfl 8 (by decide) mf_X7_29 rfl rfl rfl dX7_shareOfHalf_19 ?_
        refine g_iload (pc := 22) C dX7_shareOfHalf_22 5 rfl ?_
        refine g_iald (pc := 24) (v := (τ 3) i) C 4 rfl i (rfl) ⟨by omega, by decide⟩ (rfl) dX7_shareOfHalf_24 ?_
        refine g_iadd (pc := 25) C dX7_shareOfHalf_25 ?_
        refine g_istore_n (pc := 26) (lv' := [(3, .int ((sB 341 (τ 3) i) + ((τ 3) i))), (0, .ref m), (1, .int (nI q)), (2, .int 0), (4, .int (sB 341 (fun g => yG τ q g (τ 3 g)) i)), (5, .int (nI i))]) C dX7_shareOfHalf_26 rfl (by decide) rfl ?_
        refine g_iload (pc := 27) C dX7_shareOfHalf_27 4 rfl ?_
        refine g_aload_n (pc := 29) C dX7_shareOfHalf_29 1 rfl ?_
        refine g_iload_n (pc := 30) C dX7_shareOfHalf_30 2 rfl ?_
        refine g_iload (pc := 31) C dX7_shareOfHalf_31 5 rfl ?_
        refine g_aload_n (pc := 33) C dX7_shareOfHalf_33 1 rfl ?_
        refine g_get (pc := 34) (T := TX7) (N := 33) (v := .ref (A 6)) C ib_X7 0 rfl rfl 8 (by decide) mf_X7_29 rfl rfl rfl dX7_shareOfHalf_34 ?_
        refine g_iload (pc := 37) C dX7_shareOfHalf_37 5 rfl ?_
        refine g_iald (pc := 39) (v := (τ 3) i) C 4 rfl i (rfl) ⟨by omega, by decide⟩ (rfl) dX7_shareOfHalf_39 ?_
        refine g_rdVI (pc := 40) (val := yG τ q i ((τ 3) i)) (rest := [.int (sB 341 (fun g => yG τ q g (τ 3 g)) i)]) C k_X7_yesBy (c_X7_yesBy l G m A τ y q i ((τ 3) i) (by first | assumption | omega) (by first | assumption | omega)) ml_X7_207 rfl ⟨Nat.le_of_ble_eq_true rfl, Nat.le_of_ble_eq_true rfl⟩ rfl [0, 1, 2, 3, 4, 5, 6, 7, 8] rfl 0 rfl rfl rfl rfl (Nat.le_of_ble_eq_true rfl) ⟨by decide, by decide⟩ dX7_shareOfHalf_40 ?_
        refine g_iadd (pc := 43) C dX7_shareOfHalf_43 ?_
        refine g_istore (pc := 44) (lv' := [(4, .int ((sB 341 (fun g => yG τ q g (τ 3 g)) i) + (yG τ q i ((τ 3) i)))), (3, .int ((sB 341 (τ 3) i) + ((τ 3) i))), (0, .ref m), (1, .int (nI q)), (2, .int 0), (5, .int (nI i))]) C dX7_shareOfHalf_44 (by decide) rfl ?_
        refine g_iinc (pc := 46) (v := nI (i + 2)) (lv' := [(5, .int (nI (i + 2))), (4, .int ((sB 341 (fun g => yG τ q g (τ 3 g)) i) + (yG τ q i ((τ 3) i)))), (3, .int ((sB 341 (τ 3) i) + ((τ 3) i))), (0, .ref m), (1, .int (nI q)), (2, .int 0)]) C dX7_shareOfHalf_46 5 rfl (nI_add i 2) (by decide) rfl ?_
        refine g_goto (pc := 49) (tgt := 8) C dX7_shareOfHalf_49 (by decide) ?_
        refine g_sub (lv' := [(0, .ref m), (1, .int (nI q)), (2, .int 0), (3, .int ((sB 341 (τ 3) i) + ((τ 3) i))), (4, .int ((sB 341 (fun g => yG τ q g (τ 3 g)) i) + (yG τ q i ((τ 3) i)))), (5, .int (nI (i + 2)))]) [3, 4, 5, 2, 1, 0] rfl ?_
        refine g_lv (lv' := [(0, .ref m), (1, .int (nI q)), (2, .int 0), (3, .int (sB 341 (τ 3) (i + 2))), (4, .int (sB 341 (fun g => yG τ q g (τ 3 g)) (i + 2))), (5, .int (nI (i + 2)))]) (by rw [sB_2 (((bPar i (by omega)).1 hp).1 (by omega)) (((bPar (i + 1) (by omega)).2 (by omega)).2), sB_2 (((bPar i (by omega)).1 hp).1 (by omega)) (((bPar (i + 1) (by omega)).2 (by omega)).2)]) ?_
        exact ih8 (i + 2) (by first | assumption | omega) (by first | assumption | omega) (by omega)
  refine g_sub (lv' := [(0, .ref m), (1, .int (nI q)), (2, .int 0), (3, .int 0), (4, .int 0), (5, .int 0)]) [3, 4, 5, 2, 1, 0] rfl ?_
  refine g_lv (lv' := [(0, .ref m), (1, .int (nI q)), (2, .int 0), (3, .int (sB 341 (τ 3) 0)), (4, .int (sB 341 (fun g => yG τ q g (τ 3 g)) 0)), (5, .int (nI 0))]) (by rfl) ?_
  exact key_8 _ 0 (by first | assumption | omega) rfl (Nat.lt_succ_self _)
set_option maxRecDepth 20000 in
set_option maxHeartbeats 4000000 in
theorem c_X7_shareOfHalf_1 (l : Launch) (G : gT) (m : Nat) (A : Nat → Nat) (τ : tT) (y : Nat → Int32) (q : Nat) (hT : TI τ) (hq : q < 8) : RI l yX7_shareOfHalf cX7_shareOfHalf 6 (some .int) 3 G [.ref m, .int (nI q), .int 1] (wN G m A τ y) (shS τ q 682) := by
  have hg10 := hT.g10
  have hq8 := hT.q8
  refine start_R (by decide) (Nat.le_of_ble_eq_true rfl) (fun p9 e9 s9 m9 a9 b9 t9 c9 C => ?_)
  refine g_lv (lv' := [(0, .ref m), (1, .int (nI q)), (2, .int 1)]) rfl ?_
  refine g_iconst (pc := 0) (v := 0) C dX7_shareOfHalf_0 (by decide) ?_
  refine g_istore_n (pc := 1) (lv' := [(3, .int 0), (0, .ref m), (1, .int (nI q)), (2, .int 1)]) C dX7_shareOfHalf_1 rfl (by decide) rfl ?_
  refine g_iconst (pc := 2) (v := 0) C dX7_shareOfHalf_2 (by decide) ?_
  refine g_istore (pc := 3) (lv' := [(4, .int 0), (3, .int 0), (0, .ref m), (1, .int (nI q)), (2, .int 1)]) C dX7_shareOfHalf_3 (by decide) rfl ?_
  refine g_iload_n (pc := 5) C dX7_shareOfHalf_5 4 rfl ?_
  refine g_istore (pc := 6) (lv' := [(5, .int 1), (4, .int 0), (3, .int 0), (0, .ref m), (1, .int (nI q)), (2, .int 1)]) C dX7_shareOfHalf_6 (by decide) rfl ?_
  have key_8 : ∀ (n8 : Nat) (i : Nat) (hi : i ≤ tG τ + 1) (hp : i % 2 = 1), tG τ + 1 - i < n8 → GW p9 l e9 (rmh 3 0 0) s9 m9 a9 b9 t9 c9 (MQ b9 (QcI (shS τ q 682)) a9 s9 0 0 NoA) G NoA false 6 0 0 (wN G m A τ y) [(0, .ref m), (1, .int (nI q)), (2, .int 1), (3, .int (sB 682 (τ 3) i)), (4, .int (sB 682 (fun g => yG τ q g (τ 3 g)) i)), (5, .int (nI i))] 8 [] := by
    intro n8
    induction n8 with
    | zero => intro i hi hp hn8; exact absurd hn8 (Nat.not_lt_zero _)
    | succ n8 ih8 =>
      intro i hi hp hn8
      refine g_iload (pc := 8) C dX7_shareOfHalf_8 5 rfl ?_
      refine g_aload_n (pc := 10) C dX7_shareOfHalf_10 0 rfl ?_
      refine g_get (pc := 11) (T := TX7) (N := 33) (v := .int (τ 8 1)) C ib_X7 0 rfl rfl 7 (by decide) mf_X7_92 rfl rfl rfl dX7_shareOfHalf_11 ?_
      refine g_top (z := nI (tG τ)) (hT.g) ?_
      refine g_icmpN_ge (pc := 14) (i := i) (j := tG τ) (tgt := 52) C dX7_shareOfHalf_14 (by decide) ⟨by omega, by omega⟩ (fun h14 => ?_) (fun h14 => ?_)
      · refine g_iload (pc := 52) C dX7_shareOfHalf_52 4 rfl ?_
        refine g_iload_n (pc := 54) C dX7_shareOfHalf_54 3 rfl ?_
        refine g_rdSI (pc := 55) (val := sTh (sB 682 (fun g => yG τ q g (τ 3 g)) i) (sB 682 (τ 3) i)) (rest := []) C k_X7_thousandths (c_X7_thousandths l G (sB 682 (fun g => yG τ q g (τ 3 g)) i) (sB 682 (τ 3) i)) ml_X7_214 rfl ⟨Nat.le_of_ble_eq_true rfl, Nat.le_of_ble_eq_true rfl⟩ rfl [] rfl rfl (Nat.le_of_ble_eq_true rfl) ⟨by decide, by decide⟩ dX7_shareOfHalf_55 ?_
        exact g_retIR (pc := 58) C (rfl) (by have he9 : i = tG τ ∨ (i = tG τ + 1 ∧ ¬ bitP 682 (tG τ)) := (by by_cases h9 : i = tG τ; exact Or.inl h9; exact Or.inr ⟨by omega, ((bPar (tG τ) (by omega)).1 (by omega)).2⟩); rw [sB_e he9, sB_e he9] <;> rfl) dX7_shareOfHalf_58
      · refine g_iload_n (pc := 17) C dX7_shareOfHalf_17 3 rfl ?_
        refine g_aload_n (pc := 18) C dX7_shareOfHalf_18 0 rfl ?_
        refine g_get (pc := 19) (T := TX7) (N := 33) (v := .ref (A 6)) C ib_X7 0 rfl rfl 8 (by decide) mf_X7_29 rfl rfl rfl dX7_shareOfHalf_19 ?_
        refine g_iload (pc := 22) C dX7_shareOfHalf_22 5 rfl ?_
        refine g_iald (pc := 24) (v := (τ 3) i) C 4 rfl i (rfl) ⟨by omega, by decide⟩ (rfl) dX7_shareOfHalf_24 ?_
        refine g_iadd (pc := 25) C dX7_shareOfHalf_25 ?_
        refine g_istore_n (pc := 26) (lv' := [(3, .int ((sB 682 (τ 3) i) + ((τ 3) i))), (0, .ref m), (1, .int (nI q)), (2, .int 1), (4, .int (sB 682 (fun g => yG τ q g (τ 3 g)) i)), (5, .int (nI i))]) C dX7_shareOfHalf_26 rfl (by decide) rfl ?_
        refine g_iload (pc := 27) C dX7_shareOfHalf_27 4 rfl ?_
        refine g_aload_n (pc := 29) C dX7_shareOfHalf_29 1 rfl ?_
        refine g_iload_n (pc := 30) C dX7_shareOfHalf_30 2 rfl ?_
        refine g_iload (pc := 31) C dX7_shareOfHalf_31 5 rfl ?_
        refine g_aload_n (pc := 33) C dX7_shareOfHalf_33 1 rfl ?_
        refine g_get (pc := 34) (T := TX7) (N := 33) (v := .ref (A 6)) C ib_X7 0 rfl rfl 8 (by decide) mf_X7_29 rfl rfl rfl dX7_shareOfHalf_34 ?_
        refine g_iload (pc := 37) C dX7_shareOfHalf_37 5 rfl ?_
        refine g_iald (pc := 39) (v := (τ 3) i) C 4 rfl i (rfl) ⟨by omega, by decide⟩ (rfl) dX7_shareOfHalf_39 ?_
        refine g_rdVI (pc := 40) (val := yG τ q i ((τ 3) i)) (rest := [.int (sB 682 (fun g => yG τ q g (τ 3 g)) i)]) C k_X7_yesBy (c_X7_yesBy l G m A τ y q i ((τ 3) i) (by first | assumption | omega) (by first | assumption | omega)) ml_X7_207 rfl ⟨Nat.le_of_ble_eq_true rfl, Nat.le_of_ble_eq_true rfl⟩ rfl [0, 1, 2, 3, 4, 5, 6, 7, 8] rfl 0 rfl rfl rfl rfl (Nat.le_of_ble_eq_true rfl) ⟨by decide, by decide⟩ dX7_shareOfHalf_40 ?_
        refine g_iadd (pc := 43) C dX7_shareOfHalf_43 ?_
        refine g_istore (pc := 44) (lv' := [(4, .int ((sB 682 (fun g => yG τ q g (τ 3 g)) i) + (yG τ q i ((τ 3) i)))), (3, .int ((sB 682 (τ 3) i) + ((τ 3) i))), (0, .ref m), (1, .int (nI q)), (2, .int 1), (5, .int (nI i))]) C dX7_shareOfHalf_44 (by decide) rfl ?_
        refine g_iinc (pc := 46) (v := nI (i + 2)) (lv' := [(5, .int (nI (i + 2))), (4, .int ((sB 682 (fun g => yG τ q g (τ 3 g)) i) + (yG τ q i ((τ 3) i)))), (3, .int ((sB 682 (τ 3) i) + ((τ 3) i))), (0, .ref m), (1, .int (nI q)), (2, .int 1)]) C dX7_shareOfHalf_46 5 rfl (nI_add i 2) (by decide) rfl ?_
        refine g_goto (pc := 49) (tgt := 8) C dX7_shareOfHalf_49 (by decide) ?_
        refine g_sub (lv' := [(0, .ref m), (1, .int (nI q)), (2, .int 1), (3, .int ((sB 682 (τ 3) i) + ((τ 3) i))), (4, .int ((sB 682 (fun g => yG τ q g (τ 3 g)) i) + (yG τ q i ((τ 3) i)))), (5, .int (nI (i + 2)))]) [3, 4, 5, 2, 1, 0] rfl ?_
        refine g_lv (lv' := [(0, .ref m), (1, .int (nI q)), (2, .int 1), (3, .int (sB 682 (τ 3) (i + 2))), (4, .int (sB 682 (fun g => yG τ q g (τ 3 g)) (i + 2))), (5, .int (nI (i + 2)))]) (by rw [sB_2 (((bPar i (by omega)).2 hp).1 (by omega)) (((bPar (i + 1) (by omega)).1 (by omega)).2), sB_2 (((bPar i (by omega)).2 hp).1 (by omega)) (((bPar (i + 1) (by omega)).1 (by omega)).2)]) ?_
        exact ih8 (i + 2) (by first | assumption | omega) (by first | assumption | omega) (by omega)
  refine g_sub (lv' := [(0, .ref m), (1, .int (nI q)), (2, .int 1), (3, .int 0), (4, .int 0), (5, .int 1)]) [3, 4, 5, 2, 1, 0] rfl ?_
  refine g_lv (lv' := [(0, .ref m), (1, .int (nI q)), (2, .int 1), (3, .int (sB 682 (τ 3) 1)), (4, .int (sB 682 (fun g => yG τ q g (τ 3 g)) 1)), (5, .int (nI 1))]) (by rw [sB_n (show ¬ bitP 682 0 by decide), sB_n (show ¬ bitP 682 0 by decide)] <;> rfl) ?_
  exact key_8 _ 1 (by first | assumption | omega) rfl (Nat.lt_succ_self _)
set_option maxRecDepth 20000 in
set_option maxHeartbeats 4000000 in
theorem c_X7_halves (l : Launch) (G : gT) (m : Nat) (A : Nat → Nat) (τ : tT) (y : Nat → Int32) (q : Int32) (rr : Nat → Int32) (hT : TI τ) : WI l yX7_halves cX7_halves 2 (some .int) 12 0 0 G [.ref m, .int q] (wN G m A τ y ++ ([iC G (A 11) 8 rr])) (S := Unit) (fun r _ => r = if rcHa τ q = 0 then haV τ (nx q) else -10000 + (rcHa τ q)) (fun _ => wN G m A τ y ++ ([iC G (A 11) 8 (rfI rr (rcHa τ q))])) := by
  have hg10 := hT.g10
  have hq8 := hT.q8
  have hh7 := hT.h.2
  intro sz9
  refine start_W (by decide) (Nat.le_of_ble_eq_true rfl) (fun p9 e9 s9 m9 a9 b9 t9 c9 C => ?_)
  refine g_lv (lv' := [(0, .ref m), (1, .int q)]) rfl ?_
  refine g_aload_n (pc := 0) C dX7_halves_0 0 rfl ?_
  refine g_iload_n (pc := 1) C dX7_halves_1 1 rfl ?_
  refine g_rdVI (pc := 2) (val := bI (0 ≤ q ∧ q ≤ nI (tQ τ) - 1)) (rest := []) C k_X7_isQuestion (c_X7_isQuestion l G m A τ y q (by first | assumption | omega | decide)) ml_X7_102 rfl ⟨Nat.le_of_ble_eq_true rfl, Nat.le_of_ble_eq_true rfl⟩ rfl [0, 1, 2, 3, 4, 5, 6, 7, 8] rfl 0 rfl rfl rfl rfl (Nat.le_of_ble_eq_true rfl) ⟨by decide, by decide⟩ dX7_halves_2 ?_
  refine g_ifb_eq (pc := 5) (tgt := 19) C dX7_halves_5 (by decide) (fun h5 => ?_) (fun h5 => ?_)
  · refine g_aload_n (pc := 19) C dX7_halves_19 0 rfl ?_
    refine g_iconst (pc := 20) (v := (-1)) C dX7_halves_20 (by decide) ?_
    refine g_wrVI (pc := 21) (rest := []) (wr := []) C (fun _ => wN G m A τ y ++ ([iC G (A 11) 8 (rfI rr (-1))])) rfl k_X7_noMuch (c_X7_noMuch l G m A τ y rr (-1) (by first | assumption | omega | decide)) ml_X7_127 rfl ⟨Nat.le_of_ble_eq_true rfl, Nat.le_of_ble_eq_true rfl⟩ rfl [0, 1, 2, 3, 4, 5, 6, 7, 8, 9] [] [0, 1, 2, 3, 4, 5, 6, 7, 8, 9] rfl (by decide) rfl (by decide) (by decide) (by decide) (fun _ => rfl) 0 rfl rfl rfl rfl (Nat.le_of_ble_eq_true rfl) ⟨by decide, by decide⟩ dX7_halves_21 (fun r21 _ e21 => ?_)
    subst e21
    exact g_retIW (pc := 24) C rfl rfl () (rfl) (by have e9 : rcHa τ q = (-1) := (by first | (simp [rcHa, *]; done) | (grind [rcHa])); rw [if_neg (by rw [e9] <;> (first | done | decide)), e9]) (by have e9 : rcHa τ q = (-1) := (by first | (simp [rcHa, *]; done) | (grind [rcHa])); rw [e9] <;> (first | done | rfl | (rw [if_neg (by decide)] <;> (first | done | rfl)))) dX7_halves_24
  · obtain ⟨q8, hq8, rfl⟩ := isQ_nI hT h5
    have eq8 : nx (nI q8) = q8 := nx_nI (by omega)
    refine g_aload_n (pc := 8) C dX7_halves_8 0 rfl ?_
    refine g_aload_n (pc := 9) C dX7_halves_9 0 rfl ?_
    refine g_get (pc := 10) (T := TX7) (N := 33) (v := .int (τ 8 3)) C ib_X7 0 rfl rfl 14 (by decide) mf_X7_139 rfl rfl rfl dX7_halves_10 ?_
    refine g_top (z := nI (tH τ)) (hT.h.1) ?_
    refine g_rdVI (pc := 13) (val := bI (0 ≤ (nI (tH τ)) ∧ (nI (tH τ)) ≤ nI (tQ τ) - 1)) (rest := []) C k_X7_isQuestion (c_X7_isQuestion l G m A τ y (nI (tH τ)) (by first | assumption | omega | decide)) ml_X7_102 rfl ⟨Nat.le_of_ble_eq_true rfl, Nat.le_of_ble_eq_true rfl⟩ rfl [0, 1, 2, 3, 4, 5, 6, 7, 8] rfl 0 rfl rfl rfl rfl (Nat.le_of_ble_eq_true rfl) ⟨by decide, by decide⟩ dX7_halves_13 ?_
    refine g_ifb_ne (pc := 16) (tgt := 25) C dX7_halves_16 (by decide) (fun h16 => ?_) (fun h16 => ?_)
    · refine g_aload_n (pc := 25) C dX7_halves_25 0 rfl ?_
      refine g_iload_n (pc := 26) C dX7_halves_26 1 rfl ?_
      refine g_iconst (pc := 27) (v := 0) C dX7_halves_27 (by decide) ?_
      refine g_rdVI (pc := 28) (val := shS τ q8 341) (rest := []) C k_X7_shareOfHalf (c_X7_shareOfHalf_0 l G m A τ y q8 (by first | assumption | omega | decide) (by first | assumption | omega | decide)) ml_X7_275 rfl ⟨Nat.le_of_ble_eq_true rfl, Nat.le_of_ble_eq_true rfl⟩ rfl [0, 1, 2, 3, 4, 5, 6, 7, 8] rfl 0 rfl rfl rfl rfl (Nat.le_of_ble_eq_true rfl) ⟨by decide, by decide⟩ dX7_halves_28 ?_
      refine g_aload_n (pc := 31) C dX7_halves_31 0 rfl ?_
      refine g_aload_n (pc := 32) C dX7_halves_32 0 rfl ?_
      refine g_get (pc := 33) (T := TX7) (N := 33) (v := .int (τ 8 3)) C ib_X7 0 rfl rfl 14 (by decide) mf_X7_139 rfl rfl rfl dX7_halves_33 ?_
      refine g_top (z := nI (tH τ)) (hT.h.1) ?_
      refine g_iconst (pc := 36) (v := 1) C dX7_halves_36 (by decide) ?_
      refine g_rdVI (pc := 37) (val := shS τ (tH τ) 682) (rest := [.int (shS τ q8 341)]) C k_X7_shareOfHalf (c_X7_shareOfHalf_1 l G m A τ y (tH τ) (by first | assumption | omega | decide) (by first | assumption | omega | decide)) ml_X7_275 rfl ⟨Nat.le_of_ble_eq_true rfl, Nat.le_of_ble_eq_true rfl⟩ rfl [0, 1, 2, 3, 4, 5, 6, 7, 8] rfl 0 rfl rfl rfl rfl (Nat.le_of_ble_eq_true rfl) ⟨by decide, by decide⟩ dX7_halves_37 ?_
      refine g_isub (pc := 40) C dX7_halves_40 ?_
      exact g_retIW (pc := 41) C rfl rfl () (rfl) (by have e9 : rcHa τ (nI q8) = 0 := (by first | (simp [rcHa, *]; done) | (grind [rcHa])); rw [if_pos e9] <;> (rw [haV, eq8])) (by have e9 : rcHa τ (nI q8) = 0 := (by first | (simp [rcHa, *]; done) | (grind [rcHa])); rw [e9, rfI_0] <;> (rfl)) dX7_halves_41
    · refine g_aload_n (pc := 19) C dX7_halves_19 0 rfl ?_
      refine g_iconst (pc := 20) (v := (-1)) C dX7_halves_20 (by decide) ?_
      refine g_wrVI (pc := 21) (rest := []) (wr := []) C (fun _ => wN G m A τ y ++ ([iC G (A 11) 8 (rfI rr (-1))])) rfl k_X7_noMuch (c_X7_noMuch l G m A τ y rr (-1) (by first | assumption | omega | decide)) ml_X7_127 rfl ⟨Nat.le_of_ble_eq_true rfl, Nat.le_of_ble_eq_true rfl⟩ rfl [0, 1, 2, 3, 4, 5, 6, 7, 8, 9] [] [0, 1, 2, 3, 4, 5, 6, 7, 8, 9] rfl (by decide) rfl (by decide) (by decide) (by decide) (fun _ => rfl) 0 rfl rfl rfl rfl (Nat.le_of_ble_eq_true rfl) ⟨by decide, by decide⟩ dX7_halves_21 (fun r21 _ e21 => ?_)
      subst e21
      exact g_retIW (pc := 24) C rfl rfl () (rfl) (by have e9 : rcHa τ (nI q8) = (-1) := (by first | (simp [rcHa, *]; done) | (grind [rcHa])); rw [if_neg (by rw [e9] <;> (first | done | decide)), e9]) (by have e9 : rcHa τ (nI q8) = (-1) := (by first | (simp [rcHa, *]; done) | (grind [rcHa])); rw [e9] <;> (first | done | rfl | (rw [if_neg (by decide)] <;> (first | done | rfl)))) dX7_halves_24
set_option maxRecDepth 20000 in
set_option maxHeartbeats 4000000 in
theorem c_X7_twin (l : Launch) (G : gT) (m : Nat) (A : Nat → Nat) (τ : tT) (y : Nat → Int32) (q : Int32) (rr : Nat → Int32) (hT : TI τ) : WI l yX7_twin cX7_twin 6 (some .int) 12 0 0 G [.ref m, .int q] (wN G m A τ y ++ ([iC G (A 11) 8 rr])) (S := Unit) (fun r _ => r = if rcQ1 τ q = 0 then (twN τ (nx q) (tQ τ)).1 else -10 + (rcQ1 τ q)) (fun _ => wN G m A τ y ++ ([iC G (A 11) 8 (rfI rr (rcQ1 τ q))])) := by
  have hg10 := hT.g10
  have hq8 := hT.q8
  intro sz9
  refine start_W (by decide) (Nat.le_of_ble_eq_true rfl) (fun p9 e9 s9 m9 a9 b9 t9 c9 C => ?_)
  refine g_lv (lv' := [(0, .ref m), (1, .int q)]) rfl ?_
  refine g_aload_n (pc := 0) C dX7_twin_0 0 rfl ?_
  refine g_iload_n (pc := 1) C dX7_twin_1 1 rfl ?_
  refine g_rdVI (pc := 2) (val := bI (0 ≤ q ∧ q ≤ nI (tQ τ) - 1)) (rest := []) C k_X7_isQuestion (c_X7_isQuestion l G m A τ y q (by first | assumption | omega | decide)) ml_X7_102 rfl ⟨Nat.le_of_ble_eq_true rfl, Nat.le_of_ble_eq_true rfl⟩ rfl [0, 1, 2, 3, 4, 5, 6, 7, 8] rfl 0 rfl rfl rfl rfl (Nat.le_of_ble_eq_true rfl) ⟨by decide, by decide⟩ dX7_twin_2 ?_
  refine g_ifb_ne (pc := 5) (tgt := 14) C dX7_twin_5 (by decide) (fun h5 => ?_) (fun h5 => ?_)
  · obtain ⟨q8, hq8, rfl⟩ := isQ_nI hT h5
    have eq8 : nx (nI q8) = q8 := nx_nI (by omega)
    refine g_iconst (pc := 14) (v := (-1)) C dX7_twin_14 (by decide) ?_
    refine g_istore_n (pc := 15) (lv' := [(2, .int (-1)), (0, .ref m), (1, .int (nI q8))]) C dX7_twin_15 rfl (by decide) rfl ?_
    refine g_iconst (pc := 16) (v := 0) C dX7_twin_16 (by decide) ?_
    refine g_istore_n (pc := 17) (lv' := [(3, .int 0), (2, .int (-1)), (0, .ref m), (1, .int (nI q8))]) C dX7_twin_17 rfl (by decide) rfl ?_
    refine g_iconst (pc := 18) (v := 0) C dX7_twin_18 (by decide) ?_
    refine g_istore (pc := 19) (lv' := [(4, .int 0), (3, .int 0), (2, .int (-1)), (0, .ref m), (1, .int (nI q8))]) C dX7_twin_19 (by decide) rfl ?_
    have key_21 : ∀ (n21 : Nat) (i : Nat) (hi : i ≤ tQ τ), tQ τ - i < n21 → GW p9 l e9 (rmh 12 0 0) s9 m9 a9 b9 t9 c9 (MQ b9 (va_Qi (fun r (_ : Unit) => r = if rcQ1 τ (nI q8) = 0 then (twN τ (nx (nI q8)) (tQ τ)).1 else -10 + (rcQ1 τ (nI q8))) (BW G (wN G m A τ y ++ ([iC G (A 11) 8 rr])) sz9 (fun _ => wN G m A τ y ++ ([iC G (A 11) 8 (rfI rr (rcQ1 τ (nI q8)))]))) (va_A (wN G m A τ y ++ ([iC G (A 11) 8 rr])) sz9)) a9 s9 0 0 (va_A (wN G m A τ y ++ ([iC G (A 11) 8 rr])) sz9)) G (va_A (wN G m A τ y ++ ([iC G (A 11) 8 rr])) sz9) true 6 0 0 (wN G m A τ y ++ ([iC G (A 11) 8 rr])) [(0, .ref m), (1, .int (nI q8)), (2, .int ((twN τ q8 i).1)), (3, .int (twL τ q8 i)), (4, .int (nI i))] 21 [] := by
      intro n21
      induction n21 with
      | zero => intro i hi hn21; exact absurd hn21 (Nat.not_lt_zero _)
      | succ n21 ih21 =>
        intro i hi hn21
        refine g_iload (pc := 21) C dX7_twin_21 4 rfl ?_
        refine g_aload_n (pc := 23) C dX7_twin_23 0 rfl ?_
        refine g_get (pc := 24) (T := TX7) (N := 33) (v := .int (τ 8 0)) C ib_X7 0 rfl rfl 3 (by decide) mf_X7_85 rfl rfl rfl dX7_twin_24 ?_
        refine g_top (z := nI (tQ τ)) (hT.q) ?_
        refine g_icmpN_ge (pc := 27) (i := i) (j := tQ τ) (tgt := 83) C dX7_twin_27 (by decide) ⟨by omega, by omega⟩ (fun h27 => ?_) (fun h27 => ?_)
        · refine g_iload_n (pc := 83) C dX7_twin_83 2 rfl ?_
          exact g_retIW (pc := 84) C rfl rfl () (rfl) (by have e9 : rcQ1 τ (nI q8) = 0 := (by first | (simp [rcQ1, *]; done) | (grind [rcQ1])); rw [if_pos e9] <;> (rw [eq8, show i = tQ τ from by omega])) (by have e9 : rcQ1 τ (nI q8) = 0 := (by first | (simp [rcQ1, *]; done) | (grind [rcQ1])); rw [e9, rfI_0] <;> (rfl)) dX7_twin_84
        · refine g_aload_n (pc := 30) C dX7_twin_30 0 rfl ?_
          refine g_iload_n (pc := 31) C dX7_twin_31 1 rfl ?_
          refine g_rdVI (pc := 32) (val := share τ q8) (rest := []) C k_X7_shareOf (c_X7_shareOf l G m A τ y q8 (by first | assumption | omega | decide) (by first | assumption | omega | decide)) ml_X7_112 rfl ⟨Nat.le_of_ble_eq_true rfl, Nat.le_of_ble_eq_true rfl⟩ rfl [0, 1, 2, 3, 4, 5, 6, 7, 8] rfl 0 rfl rfl rfl rfl (Nat.le_of_ble_eq_true rfl) ⟨by decide, by decide⟩ dX7_twin_32 ?_
          refine g_aload_n (pc := 35) C dX7_twin_35 0 rfl ?_
          refine g_iload (pc := 36) C dX7_twin_36 4 rfl ?_
          refine g_rdVI (pc := 38) (val := share τ i) (rest := [.int (share τ q8)]) C k_X7_shareOf (c_X7_shareOf l G m A τ y i (by first | assumption | omega | decide) (by first | assumption | omega | decide)) ml_X7_112 rfl ⟨Nat.le_of_ble_eq_true rfl, Nat.le_of_ble_eq_true rfl⟩ rfl [0, 1, 2, 3, 4, 5, 6, 7, 8] rfl 0 rfl rfl rfl rfl (Nat.le_of_ble_eq_true rfl) ⟨by decide, by decide⟩ dX7_twin_38 ?_
          refine g_iadd (pc := 41) C dX7_twin_41 ?_
          refine g_sipush (pc := 42) (v := 1000) C dX7_twin_42 (by decide) ?_
          refine g_isub (pc := 45) C dX7_twin_45 ?_
          refine g_mabs (pc := 46) (v := mAbs (((share τ q8) + (share τ i)) - 1000)) C ml_X7_242 rfl ⟨Nat.le_of_ble_eq_true rfl, Nat.le_of_ble_eq_true rfl⟩ ⟨by decide, by decide⟩ rfl dX7_twin_46 ?_
          refine g_istore (pc := 49) (lv' := [(5, .int (mAbs (((share τ q8) + (share τ i)) - 1000))), (0, .ref m), (1, .int (nI q8)), (2, .int ((twN τ q8 i).1)), (3, .int (twL τ q8 i)), (4, .int (nI i))]) C dX7_twin_49 (by decide) rfl ?_
          refine g_iload (pc := 51) C dX7_twin_51 5 rfl ?_
          refine g_iload_n (pc := 53) C dX7_twin_53 2 rfl ?_
          refine g_icmpN_eq (pc := 54) (i := i) (j := q8) (tgt := 77) C dX7_twin_54 (by decide) ⟨by omega, by omega⟩ (fun h54 => ?_) (fun h54 => ?_)
          · refine g_iinc (pc := 77) (v := nI (i + 1)) (lv' := [(4, .int (nI (i + 1))), (5, .int (mAbs (((share τ q8) + (share τ i)) - 1000))), (0, .ref m), (1, .int (nI q8)), (2, .int ((twN τ q8 i).1)), (3, .int (twL τ q8 i))]) C dX7_twin_77 5 rfl (nI_1 i) (by decide) rfl ?_
            refine g_goto (pc := 80) (tgt := 21) C dX7_twin_80 (by decide) ?_
            refine g_sub (lv' := [(0, .ref m), (1, .int (nI q8)), (2, .int ((twN τ q8 i).1)), (3, .int (twL τ q8 i)), (4, .int (nI (i + 1)))]) [2, 3, 4, 5, 0] rfl ?_
            refine g_lv (lv' := [(0, .ref m), (1, .int (nI q8)), (2, .int ((twN τ q8 (i + 1)).1)), (3, .int (twL τ q8 (i + 1))), (4, .int (nI (i + 1)))]) (by rw [show twL τ q8 (i + 1) = twL τ q8 i from by rw [twL, twL, tw_same τ h54], tw_same τ h54]) ?_
            exact ih21 (i + 1) (by first | assumption | omega | decide) (by omega)
          · refine g_iload_n (pc := 57) C dX7_twin_57 3 rfl ?_
            refine g_iconst (pc := 58) (v := (-1)) C dX7_twin_58 (by decide) ?_
            refine g_icmp_eq (pc := 59) (tgt := 71) C dX7_twin_59 (by decide) (fun h59 => ?_) (fun h59 => ?_)
            · refine g_iload (pc := 71) C dX7_twin_71 5 rfl ?_
              refine g_istore_n (pc := 73) (lv' := [(2, .int (nI i)), (5, .int (mAbs (((share τ q8) + (share τ i)) - 1000))), (0, .ref m), (1, .int (nI q8)), (3, .int (twL τ q8 i)), (4, .int (nI i))]) C dX7_twin_73 rfl (by decide) rfl ?_
              refine g_iload (pc := 74) C dX7_twin_74 1 rfl ?_
              refine g_istore_n (pc := 76) (lv' := [(3, .int (mAbs (((share τ q8) + (share τ i)) - 1000))), (2, .int (nI i)), (5, .int (mAbs (((share τ q8) + (share τ i)) - 1000))), (0, .ref m), (1, .int (nI q8)), (4, .int (nI i))]) C dX7_twin_76 rfl (by decide) rfl ?_
              refine g_iinc (pc := 77) (v := nI (i + 1)) (lv' := [(4, .int (nI (i + 1))), (3, .int (mAbs (((share τ q8) + (share τ i)) - 1000))), (2, .int (nI i)), (5, .int (mAbs (((share τ q8) + (share τ i)) - 1000))), (0, .ref m), (1, .int (nI q8))]) C dX7_twin_77 5 rfl (nI_1 i) (by decide) rfl ?_
              refine g_goto (pc := 80) (tgt := 21) C dX7_twin_80 (by decide) ?_
              refine g_sub (lv' := [(0, .ref m), (1, .int (nI q8)), (2, .int (nI i)), (3, .int (mAbs (((share τ q8) + (share τ i)) - 1000))), (4, .int (nI (i + 1)))]) [4, 5, 2, 1, 0] rfl ?_
              refine g_lv (lv' := [(0, .ref m), (1, .int (nI q8)), (2, .int ((twN τ q8 (i + 1)).1)), (3, .int (twL τ q8 (i + 1))), (4, .int (nI (i + 1)))]) (by rw [tw_take hT (by omega) (by omega) h54 (Or.inl h59), twL_take hT (by omega) (by omega) h54 (Or.inl h59)]) ?_
              exact ih21 (i + 1) (by first | assumption | omega | decide) (by omega)
            · refine g_iload (pc := 62) C dX7_twin_62 0 rfl ?_
              refine g_iload_n (pc := 64) C dX7_twin_64 4 rfl ?_
              refine g_icmp_lt (pc := 65) (tgt := 71) C dX7_twin_65 (by decide) (fun h65 => ?_) (fun h65 => ?_)
              · refine g_iload (pc := 71) C dX7_twin_71 5 rfl ?_
                refine g_istore_n (pc := 73) (lv' := [(2, .int (nI i)), (5, .int (mAbs (((share τ q8) + (share τ i)) - 1000))), (0, .ref m), (1, .int (nI q8)), (3, .int (twL τ q8 i)), (4, .int (nI i))]) C dX7_twin_73 rfl (by decide) rfl ?_
                refine g_iload (pc := 74) C dX7_twin_74 1 rfl ?_
                refine g_istore_n (pc := 76) (lv' := [(3, .int (mAbs (((share τ q8) + (share τ i)) - 1000))), (2, .int (nI i)), (5, .int (mAbs (((share τ q8) + (share τ i)) - 1000))), (0, .ref m), (1, .int (nI q8)), (4, .int (nI i))]) C dX7_twin_76 rfl (by decide) rfl ?_
                refine g_iinc (pc := 77) (v := nI (i + 1)) (lv' := [(4, .int (nI (i + 1))), (3, .int (mAbs (((share τ q8) + (share τ i)) - 1000))), (2, .int (nI i)), (5, .int (mAbs (((share τ q8) + (share τ i)) - 1000))), (0, .ref m), (1, .int (nI q8))]) C dX7_twin_77 5 rfl (nI_1 i) (by decide) rfl ?_
                refine g_goto (pc := 80) (tgt := 21) C dX7_twin_80 (by decide) ?_
                refine g_sub (lv' := [(0, .ref m), (1, .int (nI q8)), (2, .int (nI i)), (3, .int (mAbs (((share τ q8) + (share τ i)) - 1000))), (4, .int (nI (i + 1)))]) [4, 5, 2, 1, 0] rfl ?_
                refine g_lv (lv' := [(0, .ref m), (1, .int (nI q8)), (2, .int ((twN τ q8 (i + 1)).1)), (3, .int (twL τ q8 (i + 1))), (4, .int (nI (i + 1)))]) (by rw [tw_take hT (by omega) (by omega) h54 (Or.inr h65), twL_take hT (by omega) (by omega) h54 (Or.inr h65)]) ?_
                exact ih21 (i + 1) (by first | assumption | omega | decide) (by omega)
              · refine g_goto (pc := 68) (tgt := 77) C dX7_twin_68 (by decide) ?_
                refine g_iinc (pc := 77) (v := nI (i + 1)) (lv' := [(4, .int (nI (i + 1))), (5, .int (mAbs (((share τ q8) + (share τ i)) - 1000))), (0, .ref m), (1, .int (nI q8)), (2, .int ((twN τ q8 i).1)), (3, .int (twL τ q8 i))]) C dX7_twin_77 5 rfl (nI_1 i) (by decide) rfl ?_
                refine g_goto (pc := 80) (tgt := 21) C dX7_twin_80 (by decide) ?_
                refine g_sub (lv' := [(0, .ref m), (1, .int (nI q8)), (2, .int ((twN τ q8 i).1)), (3, .int (twL τ q8 i)), (4, .int (nI (i + 1)))]) [2, 3, 4, 5, 0] rfl ?_
                refine g_lv (lv' := [(0, .ref m), (1, .int (nI q8)), (2, .int ((twN τ q8 (i + 1)).1)), (3, .int (twL τ q8 (i + 1))), (4, .int (nI (i + 1)))]) (by have e9 := tw_more τ h59 (Int32.not_lt.mp h65); rw [show twL τ q8 (i + 1) = twL τ q8 i from by rw [twL, twL, e9], e9]) ?_
                exact ih21 (i + 1) (by first | assumption | omega | decide) (by omega)
    refine g_sub (lv' := [(0, .ref m), (1, .int (nI q8)), (2, .int (-1)), (3, .int 0), (4, .int 0)]) [3, 4, 2, 1, 0] rfl ?_
    refine g_lv (lv' := [(0, .ref m), (1, .int (nI q8)), (2, .int ((twN τ q8 0).1)), (3, .int (twL τ q8 0)), (4, .int (nI 0))]) (by rfl) ?_
    exact key_21 _ 0 (by first | assumption | omega | decide) (Nat.lt_succ_self _)
  · refine g_aload_n (pc := 8) C dX7_twin_8 0 rfl ?_
    refine g_iconst (pc := 9) (v := (-1)) C dX7_twin_9 (by decide) ?_
    refine g_wrVI (pc := 10) (rest := []) (wr := []) C (fun _ => wN G m A τ y ++ ([iC G (A 11) 8 (rfI rr (-1))])) rfl k_X7_no10 (c_X7_no10 l G m A τ y rr (-1) (by first | assumption | omega | decide)) ml_X7_266 rfl ⟨Nat.le_of_ble_eq_true rfl, Nat.le_of_ble_eq_true rfl⟩ rfl [0, 1, 2, 3, 4, 5, 6, 7, 8, 9] [] [0, 1, 2, 3, 4, 5, 6, 7, 8, 9] rfl (by decide) rfl (by decide) (by decide) (by decide) (fun _ => rfl) 0 rfl rfl rfl rfl (Nat.le_of_ble_eq_true rfl) ⟨by decide, by decide⟩ dX7_twin_10 (fun r10 _ e10 => ?_)
    subst e10
    exact g_retIW (pc := 13) C rfl rfl () (rfl) (by have e9 : rcQ1 τ q = (-1) := (by first | (simp [rcQ1, *]; done) | (grind [rcQ1])); rw [if_neg (by rw [e9] <;> (first | done | decide)), e9]) (by have e9 : rcQ1 τ q = (-1) := (by first | (simp [rcQ1, *]; done) | (grind [rcQ1])); rw [e9] <;> (first | done | rfl | (rw [if_neg (by decide)] <;> (first | done | rfl)))) dX7_twin_13
set_option maxRecDepth 20000 in
set_option maxHeartbeats 4000000 in
theorem c_X7_questionOf (l : Launch) (G : gT) (m : Nat) (A : Nat → Nat) (τ : tT) (y : Nat → Int32) (q : Int32) (k : Int32) (rr : Nat → Int32) (hT : TI τ) : WI l yX7_questionOf cX7_questionOf 3 (some .int) 12 0 0 G [.ref m, .int q, .int k] (wN G m A τ y ++ ([iC G (A 11) 8 rr])) (S := Unit) (fun r _ => r = if rcQo τ q k = 0 then qoV τ (nx q) k else -10000 + (rcQo τ q k)) (fun _ => wN G m A τ y ++ ([iC G (A 11) 8 (rfI rr (rcQo τ q k))])) := by
  have hg10 := hT.g10
  have hq8 := hT.q8
  intro sz9
  refine start_W (by decide) (Nat.le_of_ble_eq_true rfl) (fun p9 e9 s9 m9 a9 b9 t9 c9 C => ?_)
  refine g_lv (lv' := [(0, .ref m), (1, .int q), (2, .int k)]) rfl ?_
  refine g_aload_n (pc := 0) C dX7_questionOf_0 0 rfl ?_
  refine g_iload_n (pc := 1) C dX7_questionOf_1 1 rfl ?_
  refine g_rdVI (pc := 2) (val := bI (0 ≤ q ∧ q ≤ nI (tQ τ) - 1)) (rest := []) C k_X7_isQuestion (c_X7_isQuestion l G m A τ y q (by first | assumption | omega | decide)) ml_X7_102 rfl ⟨Nat.le_of_ble_eq_true rfl, Nat.le_of_ble_eq_true rfl⟩ rfl [0, 1, 2, 3, 4, 5, 6, 7, 8] rfl 0 rfl rfl rfl rfl (Nat.le_of_ble_eq_true rfl) ⟨by decide, by decide⟩ dX7_questionOf_2 ?_
  refine g_ifb_ne (pc := 5) (tgt := 15) C dX7_questionOf_5 (by decide) (fun h5 => ?_) (fun h5 => ?_)
  · obtain ⟨q8, hq8, rfl⟩ := isQ_nI hT h5
    have eq8 : nx (nI q8) = q8 := nx_nI (by omega)
    refine g_iload_n (pc := 15) C dX7_questionOf_15 2 rfl ?_
    by_cases h16_0 : k = 0
    · refine g_top (z := 0) h16_0 ?_
      refine g_tsIn (pc := 16) (off := 36) (tgt := 52) C dX7_questionOf_16 (by decide) (by decide) (by decide) (by decide) ?_
      refine g_aload_n (pc := 52) C dX7_questionOf_52 0 rfl ?_
      refine g_get (pc := 53) (T := TX7) (N := 33) (v := .ref (A 3)) C ib_X7 0 rfl rfl 4 (by decide) mf_X7_20 rfl rfl rfl dX7_questionOf_53 ?_
      refine g_iload_n (pc := 56) C dX7_questionOf_56 1 rfl ?_
      refine g_iald (pc := 57) (v := (τ 0) q8) C 1 rfl q8 (rfl) ⟨by omega, by decide⟩ (rfl) dX7_questionOf_57 ?_
      exact g_retIW (pc := 58) C rfl rfl () (rfl) (by have e9 : rcQo τ (nI q8) k = 0 := (by first | (simp [rcQo, *]; done) | (grind [rcQo])); rw [if_pos e9] <;> (simp [qoV, eq8, *])) (by have e9 : rcQo τ (nI q8) k = 0 := (by first | (simp [rcQo, *]; done) | (grind [rcQo])); rw [e9, rfI_0] <;> (rfl)) dX7_questionOf_58
    by_cases h16_1 : k = 1
    · refine g_top (z := 1) h16_1 ?_
      refine g_tsIn (pc := 16) (off := 43) (tgt := 59) C dX7_questionOf_16 (by decide) (by decide) (by decide) (by decide) ?_
      refine g_aload_n (pc := 59) C dX7_questionOf_59 0 rfl ?_
      refine g_get (pc := 60) (T := TX7) (N := 33) (v := .ref (A 4)) C ib_X7 0 rfl rfl 5 (by decide) mf_X7_23 rfl rfl rfl dX7_questionOf_60 ?_
      refine g_iload_n (pc := 63) C dX7_questionOf_63 1 rfl ?_
      refine g_iald (pc := 64) (v := (τ 1) q8) C 2 rfl q8 (rfl) ⟨by omega, by decide⟩ (rfl) dX7_questionOf_64 ?_
      exact g_retIW (pc := 65) C rfl rfl () (rfl) (by have e9 : rcQo τ (nI q8) k = 0 := (by first | (simp [rcQo, *]; done) | (grind [rcQo])); rw [if_pos e9] <;> (simp [qoV, eq8, *])) (by have e9 : rcQo τ (nI q8) k = 0 := (by first | (simp [rcQo, *]; done) | (grind [rcQo])); rw [e9, rfI_0] <;> (rfl)) dX7_questionOf_65
    by_cases h16_2 : k = 2
    · refine g_top (z := 2) h16_2 ?_
      refine g_tsIn (pc := 16) (off := 50) (tgt := 66) C dX7_questionOf_16 (by decide) (by decide) (by decide) (by decide) ?_
      refine g_aload_n (pc := 66) C dX7_questionOf_66 0 rfl ?_
      refine g_iload_n (pc := 67) C dX7_questionOf_67 1 rfl ?_
      refine g_rdVI (pc := 68) (val := allN τ q8) (rest := []) C k_X7_all (c_X7_all l G m A τ y q8 (by first | assumption | omega | decide) (by first | assumption | omega | decide)) ml_X7_130 rfl ⟨Nat.le_of_ble_eq_true rfl, Nat.le_of_ble_eq_true rfl⟩ rfl [0, 1, 2, 3, 4, 5, 6, 7, 8] rfl 0 rfl rfl rfl rfl (Nat.le_of_ble_eq_true rfl) ⟨by decide, by decide⟩ dX7_questionOf_68 ?_
      exact g_retIW (pc := 71) C rfl rfl () (rfl) (by have e9 : rcQo τ (nI q8) k = 0 := (by first | (simp [rcQo, *]; done) | (grind [rcQo])); rw [if_pos e9] <;> (simp [qoV, eq8, *])) (by have e9 : rcQo τ (nI q8) k = 0 := (by first | (simp [rcQo, *]; done) | (grind [rcQo])); rw [e9, rfI_0] <;> (rfl)) dX7_questionOf_71
    by_cases h16_3 : k = 3
    · refine g_top (z := 3) h16_3 ?_
      refine g_tsIn (pc := 16) (off := 56) (tgt := 72) C dX7_questionOf_16 (by decide) (by decide) (by decide) (by decide) ?_
      refine g_aload_n (pc := 72) C dX7_questionOf_72 0 rfl ?_
      refine g_iload_n (pc := 73) C dX7_questionOf_73 1 rfl ?_
      refine g_rdVI (pc := 74) (val := share τ q8) (rest := []) C k_X7_shareOf (c_X7_shareOf l G m A τ y q8 (by first | assumption | omega | decide) (by first | assumption | omega | decide)) ml_X7_112 rfl ⟨Nat.le_of_ble_eq_true rfl, Nat.le_of_ble_eq_true rfl⟩ rfl [0, 1, 2, 3, 4, 5, 6, 7, 8] rfl 0 rfl rfl rfl rfl (Nat.le_of_ble_eq_true rfl) ⟨by decide, by decide⟩ dX7_questionOf_74 ?_
      exact g_retIW (pc := 77) C rfl rfl () (rfl) (by have e9 : rcQo τ (nI q8) k = 0 := (by first | (simp [rcQo, *]; done) | (grind [rcQo])); rw [if_pos e9] <;> (simp [qoV, eq8, *])) (by have e9 : rcQo τ (nI q8) k = 0 := (by first | (simp [rcQo, *]; done) | (grind [rcQo])); rw [e9, rfI_0] <;> (rfl)) dX7_questionOf_77
    by_cases h16_4 : k = 4
    · refine g_top (z := 4) h16_4 ?_
      refine g_tsIn (pc := 16) (off := 62) (tgt := 78) C dX7_questionOf_16 (by decide) (by decide) (by decide) (by decide) ?_
      refine g_aload_n (pc := 78) C dX7_questionOf_78 0 rfl ?_
      refine g_iload_n (pc := 79) C dX7_questionOf_79 1 rfl ?_
      refine g_rdVI (pc := 80) (val := wrong τ q8) (rest := []) C k_X7_wrongOf (c_X7_wrongOf l G m A τ y q8 (by first | assumption | omega | decide) (by first | assumption | omega | decide)) ml_X7_133 rfl ⟨Nat.le_of_ble_eq_true rfl, Nat.le_of_ble_eq_true rfl⟩ rfl [0, 1, 2, 3, 4, 5, 6, 7, 8] rfl 0 rfl rfl rfl rfl (Nat.le_of_ble_eq_true rfl) ⟨by decide, by decide⟩ dX7_questionOf_80 ?_
      exact g_retIW (pc := 83) C rfl rfl () (rfl) (by have e9 : rcQo τ (nI q8) k = 0 := (by first | (simp [rcQo, *]; done) | (grind [rcQo])); rw [if_pos e9] <;> (simp [qoV, eq8, *])) (by have e9 : rcQo τ (nI q8) k = 0 := (by first | (simp [rcQo, *]; done) | (grind [rcQo])); rw [e9, rfI_0] <;> (rfl)) dX7_questionOf_83
    refine g_tsOut (pc := 16) (tgt := 84) C dX7_questionOf_16 (by have a0 := lv_neT h16_0 (a := 0) rfl; have a1 := lv_neT h16_1 (a := 1) rfl; have a2 := lv_neT h16_2 (a := 2) rfl; have a3 := lv_neT h16_3 (a := 3) rfl; have a4 := lv_neT h16_4 (a := 4) rfl; omega) (by decide) ?_
    refine g_aload_n (pc := 84) C dX7_questionOf_84 0 rfl ?_
    refine g_bipush (pc := 85) (v := (-5)) C dX7_questionOf_85 (by decide) ?_
    refine g_wrVI (pc := 87) (rest := []) (wr := []) C (fun _ => wN G m A τ y ++ ([iC G (A 11) 8 (rfI rr (-5))])) rfl k_X7_noMuch (c_X7_noMuch l G m A τ y rr (-5) (by first | assumption | omega | decide)) ml_X7_127 rfl ⟨Nat.le_of_ble_eq_true rfl, Nat.le_of_ble_eq_true rfl⟩ rfl [0, 1, 2, 3, 4, 5, 6, 7, 8, 9] [] [0, 1, 2, 3, 4, 5, 6, 7, 8, 9] rfl (by decide) rfl (by decide) (by decide) (by decide) (fun _ => rfl) 0 rfl rfl rfl rfl (Nat.le_of_ble_eq_true rfl) ⟨by decide, by decide⟩ dX7_questionOf_87 (fun r87 _ e87 => ?_)
    subst e87
    exact g_retIW (pc := 90) C rfl rfl () (rfl) (by have e9 : rcQo τ (nI q8) k = (-5) := (by first | (simp [rcQo, *]; done) | (grind [rcQo])); rw [if_neg (by rw [e9] <;> (first | done | decide)), e9]) (by have e9 : rcQo τ (nI q8) k = (-5) := (by first | (simp [rcQo, *]; done) | (grind [rcQo])); rw [e9] <;> (first | done | rfl | (rw [if_neg (by decide)] <;> (first | done | rfl)))) dX7_questionOf_90
  · refine g_aload_n (pc := 8) C dX7_questionOf_8 0 rfl ?_
    refine g_bipush (pc := 9) (v := (-5)) C dX7_questionOf_9 (by decide) ?_
    refine g_wrVI (pc := 11) (rest := []) (wr := []) C (fun _ => wN G m A τ y ++ ([iC G (A 11) 8 (rfI rr (-5))])) rfl k_X7_noMuch (c_X7_noMuch l G m A τ y rr (-5) (by first | assumption | omega | decide)) ml_X7_127 rfl ⟨Nat.le_of_ble_eq_true rfl, Nat.le_of_ble_eq_true rfl⟩ rfl [0, 1, 2, 3, 4, 5, 6, 7, 8, 9] [] [0, 1, 2, 3, 4, 5, 6, 7, 8, 9] rfl (by decide) rfl (by decide) (by decide) (by decide) (fun _ => rfl) 0 rfl rfl rfl rfl (Nat.le_of_ble_eq_true rfl) ⟨by decide, by decide⟩ dX7_questionOf_11 (fun r11 _ e11 => ?_)
    subst e11
    exact g_retIW (pc := 14) C rfl rfl () (rfl) (by have e9 : rcQo τ q k = (-5) := (by first | (simp [rcQo, *]; done) | (grind [rcQo])); rw [if_neg (by rw [e9] <;> (first | done | decide)), e9]) (by have e9 : rcQo τ q k = (-5) := (by first | (simp [rcQo, *]; done) | (grind [rcQo])); rw [e9] <;> (first | done | rfl | (rw [if_neg (by decide)] <;> (first | done | rfl)))) dX7_questionOf_14
set_option maxRecDepth 20000 in
set_option maxHeartbeats 4000000 in
theorem c_X7_groupOf (l : Launch) (G : gT) (m : Nat) (A : Nat → Nat) (τ : tT) (y : Nat → Int32) (g : Int32) (k : Int32) (rr : Nat → Int32) (hT : TI τ) : WI l yX7_groupOf cX7_groupOf 3 (some .int) 12 0 0 G [.ref m, .int g, .int k] (wN G m A τ y ++ ([iC G (A 11) 8 rr])) (S := Unit) (fun r _ => r = if rcGo τ g k = 0 then goV τ (nx g) k else (rcGo τ g k)) (fun _ => wN G m A τ y ++ ([iC G (A 11) 8 (rfI rr (rcGo τ g k))])) := by
  have hg10 := hT.g10
  have hq8 := hT.q8
  intro sz9
  refine start_W (by decide) (Nat.le_of_ble_eq_true rfl) (fun p9 e9 s9 m9 a9 b9 t9 c9 C => ?_)
  refine g_lv (lv' := [(0, .ref m), (1, .int g), (2, .int k)]) rfl ?_
  refine g_aload_n (pc := 0) C dX7_groupOf_0 0 rfl ?_
  refine g_iload_n (pc := 1) C dX7_groupOf_1 1 rfl ?_
  refine g_rdVI (pc := 2) (val := bI (0 ≤ g ∧ g ≤ nI (tG τ) - 1)) (rest := []) C k_X7_isGroup (c_X7_isGroup l G m A τ y g (by first | assumption | omega | decide)) ml_X7_136 rfl ⟨Nat.le_of_ble_eq_true rfl, Nat.le_of_ble_eq_true rfl⟩ rfl [0, 1, 2, 3, 4, 5, 6, 7, 8] rfl 0 rfl rfl rfl rfl (Nat.le_of_ble_eq_true rfl) ⟨by decide, by decide⟩ dX7_groupOf_2 ?_
  refine g_ifb_ne (pc := 5) (tgt := 15) C dX7_groupOf_5 (by decide) (fun h5 => ?_) (fun h5 => ?_)
  · obtain ⟨g8, hg8, rfl⟩ := isG_nI hT h5
    have eg8 : nx (nI g8) = g8 := nx_nI (by omega)
    refine g_iload_n (pc := 15) C dX7_groupOf_15 2 rfl ?_
    by_cases h16_0 : k = 0
    · refine g_top (z := 0) h16_0 ?_
      refine g_tsIn (pc := 16) (off := 36) (tgt := 52) C dX7_groupOf_16 (by decide) (by decide) (by decide) (by decide) ?_
      refine g_aload_n (pc := 52) C dX7_groupOf_52 0 rfl ?_
      refine g_get (pc := 53) (T := TX7) (N := 33) (v := .ref (A 6)) C ib_X7 0 rfl rfl 8 (by decide) mf_X7_29 rfl rfl rfl dX7_groupOf_53 ?_
      refine g_iload_n (pc := 56) C dX7_groupOf_56 1 rfl ?_
      refine g_iald (pc := 57) (v := (τ 3) g8) C 4 rfl g8 (rfl) ⟨by omega, by decide⟩ (rfl) dX7_groupOf_57 ?_
      exact g_retIW (pc := 58) C rfl rfl () (rfl) (by have e9 : rcGo τ (nI g8) k = 0 := (by first | (simp [rcGo, *]; done) | (grind [rcGo])); rw [if_pos e9] <;> (simp [goV, eg8, *])) (by have e9 : rcGo τ (nI g8) k = 0 := (by first | (simp [rcGo, *]; done) | (grind [rcGo])); rw [e9, rfI_0] <;> (rfl)) dX7_groupOf_58
    by_cases h16_1 : k = 1
    · refine g_top (z := 1) h16_1 ?_
      refine g_tsIn (pc := 16) (off := 43) (tgt := 59) C dX7_groupOf_16 (by decide) (by decide) (by decide) (by decide) ?_
      refine g_aload_n (pc := 59) C dX7_groupOf_59 0 rfl ?_
      refine g_get (pc := 60) (T := TX7) (N := 33) (v := .ref (A 7)) C ib_X7 0 rfl rfl 9 (by decide) mf_X7_32 rfl rfl rfl dX7_groupOf_60 ?_
      refine g_iload_n (pc := 63) C dX7_groupOf_63 1 rfl ?_
      refine g_iald (pc := 64) (v := (τ 4) g8) C 5 rfl g8 (rfl) ⟨by omega, by decide⟩ (rfl) dX7_groupOf_64 ?_
      exact g_retIW (pc := 65) C rfl rfl () (rfl) (by have e9 : rcGo τ (nI g8) k = 0 := (by first | (simp [rcGo, *]; done) | (grind [rcGo])); rw [if_pos e9] <;> (simp [goV, eg8, *])) (by have e9 : rcGo τ (nI g8) k = 0 := (by first | (simp [rcGo, *]; done) | (grind [rcGo])); rw [e9, rfI_0] <;> (rfl)) dX7_groupOf_65
    by_cases h16_2 : k = 2
    · refine g_top (z := 2) h16_2 ?_
      refine g_tsIn (pc := 16) (off := 50) (tgt := 66) C dX7_groupOf_16 (by decide) (by decide) (by decide) (by decide) ?_
      refine g_aload_n (pc := 66) C dX7_groupOf_66 0 rfl ?_
      refine g_get (pc := 67) (T := TX7) (N := 33) (v := .ref (A 8)) C ib_X7 0 rfl rfl 10 (by decide) mf_X7_35 rfl rfl rfl dX7_groupOf_67 ?_
      refine g_iload_n (pc := 70) C dX7_groupOf_70 1 rfl ?_
      refine g_iald (pc := 71) (v := (τ 5) g8) C 6 rfl g8 (rfl) ⟨by omega, by decide⟩ (rfl) dX7_groupOf_71 ?_
      exact g_retIW (pc := 72) C rfl rfl () (rfl) (by have e9 : rcGo τ (nI g8) k = 0 := (by first | (simp [rcGo, *]; done) | (grind [rcGo])); rw [if_pos e9] <;> (simp [goV, eg8, *])) (by have e9 : rcGo τ (nI g8) k = 0 := (by first | (simp [rcGo, *]; done) | (grind [rcGo])); rw [e9, rfI_0] <;> (rfl)) dX7_groupOf_72
    by_cases h16_3 : k = 3
    · refine g_top (z := 3) h16_3 ?_
      refine g_tsIn (pc := 16) (off := 57) (tgt := 73) C dX7_groupOf_16 (by decide) (by decide) (by decide) (by decide) ?_
      refine g_aload_n (pc := 73) C dX7_groupOf_73 0 rfl ?_
      refine g_get (pc := 74) (T := TX7) (N := 33) (v := .ref (A 9)) C ib_X7 0 rfl rfl 11 (by decide) mf_X7_38 rfl rfl rfl dX7_groupOf_74 ?_
      refine g_iload_n (pc := 77) C dX7_groupOf_77 1 rfl ?_
      refine g_iald (pc := 78) (v := (τ 6) g8) C 7 rfl g8 (rfl) ⟨by omega, by decide⟩ (rfl) dX7_groupOf_78 ?_
      exact g_retIW (pc := 79) C rfl rfl () (rfl) (by have e9 : rcGo τ (nI g8) k = 0 := (by first | (simp [rcGo, *]; done) | (grind [rcGo])); rw [if_pos e9] <;> (simp [goV, eg8, *])) (by have e9 : rcGo τ (nI g8) k = 0 := (by first | (simp [rcGo, *]; done) | (grind [rcGo])); rw [e9, rfI_0] <;> (rfl)) dX7_groupOf_79
    by_cases h16_4 : k = 4
    · refine g_top (z := 4) h16_4 ?_
      refine g_tsIn (pc := 16) (off := 64) (tgt := 80) C dX7_groupOf_16 (by decide) (by decide) (by decide) (by decide) ?_
      refine g_aload_n (pc := 80) C dX7_groupOf_80 0 rfl ?_
      refine g_get (pc := 81) (T := TX7) (N := 33) (v := .ref (A 10)) C ib_X7 0 rfl rfl 12 (by decide) mf_X7_41 rfl rfl rfl dX7_groupOf_81 ?_
      refine g_iload_n (pc := 84) C dX7_groupOf_84 1 rfl ?_
      refine g_iald (pc := 85) (v := (τ 7) g8) C 8 rfl g8 (rfl) ⟨by omega, by decide⟩ (rfl) dX7_groupOf_85 ?_
      exact g_retIW (pc := 86) C rfl rfl () (rfl) (by have e9 : rcGo τ (nI g8) k = 0 := (by first | (simp [rcGo, *]; done) | (grind [rcGo])); rw [if_pos e9] <;> (simp [goV, eg8, *])) (by have e9 : rcGo τ (nI g8) k = 0 := (by first | (simp [rcGo, *]; done) | (grind [rcGo])); rw [e9, rfI_0] <;> (rfl)) dX7_groupOf_86
    refine g_tsOut (pc := 16) (tgt := 87) C dX7_groupOf_16 (by have a0 := lv_neT h16_0 (a := 0) rfl; have a1 := lv_neT h16_1 (a := 1) rfl; have a2 := lv_neT h16_2 (a := 2) rfl; have a3 := lv_neT h16_3 (a := 3) rfl; have a4 := lv_neT h16_4 (a := 4) rfl; omega) (by decide) ?_
    refine g_aload_n (pc := 87) C dX7_groupOf_87 0 rfl ?_
    refine g_bipush (pc := 88) (v := (-5)) C dX7_groupOf_88 (by decide) ?_
    refine g_wrVI (pc := 90) (rest := []) (wr := []) C (fun _ => wN G m A τ y ++ ([iC G (A 11) 8 (rfI rr (-5))])) rfl k_X7_no (c_X7_no l G m A τ y rr (-5) (by first | assumption | omega | decide)) ml_X7_81 rfl ⟨Nat.le_of_ble_eq_true rfl, Nat.le_of_ble_eq_true rfl⟩ rfl [0, 1, 2, 3, 4, 5, 6, 7, 8, 9] [] [0, 1, 2, 3, 4, 5, 6, 7, 8, 9] rfl (by decide) rfl (by decide) (by decide) (by decide) (fun _ => rfl) 0 rfl rfl rfl rfl (Nat.le_of_ble_eq_true rfl) ⟨by decide, by decide⟩ dX7_groupOf_90 (fun r90 _ e90 => ?_)
    subst e90
    exact g_retIW (pc := 93) C rfl rfl () (rfl) (by have e9 : rcGo τ (nI g8) k = (-5) := (by first | (simp [rcGo, *]; done) | (grind [rcGo])); rw [if_neg (by rw [e9] <;> (first | done | decide)), e9]) (by have e9 : rcGo τ (nI g8) k = (-5) := (by first | (simp [rcGo, *]; done) | (grind [rcGo])); rw [e9] <;> (first | done | rfl | (rw [if_neg (by decide)] <;> (first | done | rfl)))) dX7_groupOf_93
  · refine g_aload_n (pc := 8) C dX7_groupOf_8 0 rfl ?_
    refine g_bipush (pc := 9) (v := (-5)) C dX7_groupOf_9 (by decide) ?_
    refine g_wrVI (pc := 11) (rest := []) (wr := []) C (fun _ => wN G m A τ y ++ ([iC G (A 11) 8 (rfI rr (-5))])) rfl k_X7_no (c_X7_no l G m A τ y rr (-5) (by first | assumption | omega | decide)) ml_X7_81 rfl ⟨Nat.le_of_ble_eq_true rfl, Nat.le_of_ble_eq_true rfl⟩ rfl [0, 1, 2, 3, 4, 5, 6, 7, 8, 9] [] [0, 1, 2, 3, 4, 5, 6, 7, 8, 9] rfl (by decide) rfl (by decide) (by decide) (by decide) (fun _ => rfl) 0 rfl rfl rfl rfl (Nat.le_of_ble_eq_true rfl) ⟨by decide, by decide⟩ dX7_groupOf_11 (fun r11 _ e11 => ?_)
    subst e11
    exact g_retIW (pc := 14) C rfl rfl () (rfl) (by have e9 : rcGo τ g k = (-5) := (by first | (simp [rcGo, *]; done) | (grind [rcGo])); rw [if_neg (by rw [e9] <;> (first | done | decide)), e9]) (by have e9 : rcGo τ g k = (-5) := (by first | (simp [rcGo, *]; done) | (grind [rcGo])); rw [e9] <;> (first | done | rfl | (rw [if_neg (by decide)] <;> (first | done | rfl)))) dX7_groupOf_14
