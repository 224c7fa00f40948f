/-! the two states side by side -/
def hDp (τ : tT) (hd : Nat → Int32) : Prop := ∀ s, s < 8 → isQn (hd s) → ∃ q, q < tQ τ ∧ hd s = nI q
def hEq (sz : Nat → Int32) (el el2 : Nat → Int64) : Prop := ∀ s, s < 8 → ∀ k, k < zN sz s → el (s * 160 + k) = el2 (s * 160 + k)
def LI (it lf : Int32) (τ σ σ2 : tT) (lr hd sz : Nat → Int32) (el el2 : Nat → Int64) (bc : Nat) (y od : Nat → Int32) : Prop :=
  (TI τ ∧ TI σ ∧ TI σ2 ∧ kR od σ2 ∧ (¬ it = 0 → σ2 = σ)) ∧ (SI hd sz ∧ hDp τ hd ∧ hEq sz el el2) ∧ lr 0 = 0 ∧ bc < 1000 ∧ y 0 = lf ∧ y 1 = nI bc ∧ y 2 = it
theorem LI.twn {it lf : Int32} {τ σ σ2 : tT} {lr hd sz : Nat → Int32} {el el2 : Nat → Int64} {bc : Nat} {y od : Nat → Int32} (h : LI it lf τ σ σ2 lr hd sz el el2 bc y od) {τ' : tT} (hT : TI τ' ∧ tQ τ ≤ tQ τ') : LI it lf τ' σ σ2 lr hd sz el el2 bc y od :=
  ⟨⟨hT.1, h.1.2⟩, ⟨h.2.1.1, fun s hs hq => by obtain ⟨q, h1, h2⟩ := h.2.1.2.1 s hs hq; exact ⟨q, Nat.lt_of_lt_of_le h1 hT.2, h2⟩, h.2.1.2.2⟩, h.2.2⟩
/-! towns that calls leave behind -/
theorem rngI {x : Int32} {lo hi : Int32} (h : lo ≤ x ∧ x ≤ hi) : rng x lo.toInt hi.toInt := rng_i h rfl rfl
theorem lt_qu {τ : tT} (hT : TI τ) (k a : Int32) : TI (if rcQu τ k a = 0 then aQu τ k a else τ) ∧ tQ τ ≤ tQ (if rcQu τ k a = 0 then aQu τ k a else τ) := by
  by_cases h : rcQu τ k a = 0
  · rw [if_pos h]
    unfold rcQu at h
    split at h
    · exact absurd h (by decide)
    · rename_i h1
      split at h
      · exact absurd h (by decide)
      · rename_i h2
        split at h
        · exact absurd h (by decide)
        · rename_i h3
          have hQ : tQ τ < 8 := Classical.not_not.mp h3
          refine ⟨hT.iQu hQ (rngI (Classical.not_not.mp h1)) (rngI (Classical.not_not.mp h2)), ?_⟩
          have e : tQ (aQu τ k a) = tQ τ + 1 := by
            have e80 : aQu τ k a 8 0 = nI (tQ τ + 1) := by simp [aQu, up2]
            unfold tQ; rw [e80]; exact nI_clamp (by unfold tQ at hQ; omega)
          omega
  · rw [if_neg h]; exact ⟨hT, Nat.le_refl _⟩
theorem tQ_gr (τ : tT) (n v g h w : Int32) : tQ (aGr τ n v g h w) = tQ τ := tQ_of (by simp [aGr, up2])
theorem lt_gr {τ : tT} (hT : TI τ) (n v g h w : Int32) : TI (if rcGr τ n v g h w = 0 then aGr τ n v g h w else τ) ∧ tQ τ ≤ tQ (if rcGr τ n v g h w = 0 then aGr τ n v g h w else τ) := by
  by_cases hh : rcGr τ n v g h w = 0
  · rw [if_pos hh]
    unfold rcGr at hh
    split at hh
    · exact absurd hh (by decide)
    · rename_i h1
      split at hh
      · exact absurd hh (by decide)
      · rename_i h2
        have h3 := Classical.not_not.mp h1
        exact ⟨hT.iGr (Classical.not_not.mp h2) (rngI h3.1) (rngI h3.2.1) (rngI h3.2.2.1) (rngI h3.2.2.2.1) (rngI h3.2.2.2.2), by rw [tQ_gr]; exact Nat.le_refl _⟩
  · rw [if_neg hh]; exact ⟨hT, Nat.le_refl _⟩
theorem lt_be {τ : tT} (hT : TI τ) (q p n : Int32) : TI (if rcBe τ q p n = 0 then aBe τ (nx q) (nx p) n else τ) ∧ tQ τ ≤ tQ (if rcBe τ q p n = 0 then aBe τ (nx q) (nx p) n else τ) := by
  by_cases h : rcBe τ q p n = 0
  · rw [if_pos h]
    unfold rcBe at h
    split at h
    · exact absurd h (by decide)
    · rename_i h1
      split at h
      · exact absurd h (by decide)
      · rename_i h2
        have a1 : isQ τ q := Classical.not_not.mp (fun z => h1 (Or.inl z))
        have a2 : isQ τ p := Classical.not_not.mp (fun z => h1 (Or.inr z))
        have a3 : -9 ≤ n ∧ n ≤ 9 := Classical.not_not.mp (fun z => h2 (Or.inr z))
        obtain ⟨q8, l1, rfl⟩ := isQ_nI hT a1
        obtain ⟨p8, l2, rfl⟩ := isQ_nI hT a2
        have hq8 := hT.q8
        rw [nx_nI (by omega), nx_nI (by omega)]
        exact ⟨hT.iBe l1 l2 (rngI a3), by rw [tQ_of (show aBe τ q8 p8 n 8 0 = τ 8 0 from by simp [aBe, up2])]; exact Nat.le_refl _⟩
  · rw [if_neg h]; exact ⟨hT, Nat.le_refl _⟩
theorem lt_as {τ : tT} (hT : TI τ) (k v : Int32) : TI (if rcAsk k v = 0 then (if k = 0 then aSc τ 2 v else aSc τ 3 v) else τ) ∧ tQ τ ≤ tQ (if rcAsk k v = 0 then (if k = 0 then aSc τ 2 v else aSc τ 3 v) else τ) := by
  by_cases h : rcAsk k v = 0
  · rw [if_pos h]
    unfold rcAsk at h
    split at h
    · rename_i h1
      rw [if_pos h1.1]
      exact ⟨hT.sc2 (rngI h1.2), by rw [tQ_of (aSc_s τ v (by decide))]; exact Nat.le_refl _⟩
    · split at h
      · rename_i h1
        rw [if_neg (by rw [h1.1]; decide)]
        exact ⟨hT.sc3 (rngI h1.2), by rw [tQ_of (aSc_s τ v (by decide))]; exact Nat.le_refl _⟩
      · exact absurd h (by decide)
  · rw [if_neg h]; exact ⟨hT, Nat.le_refl _⟩
theorem rng_of_le {x a b : Int32} (h : a ≤ x ∧ x ≤ b) : a.toInt ≤ x.toInt ∧ x.toInt ≤ b.toInt := ⟨Int32.le_iff_toInt_le.mp h.1, Int32.le_iff_toInt_le.mp h.2⟩
theorem lt_ch {τ : tT} (hT : TI τ) (g v n : Int32) : TI (if rcCh τ g v n = 0 then chT τ g v n else τ) ∧ tQ τ ≤ tQ (if rcCh τ g v n = 0 then chT τ g v n else τ) := by
  by_cases h : rcCh τ g v n = 0
  · rw [if_pos h]
    unfold rcCh at h
    split at h
    · exact absurd h (by decide)
    · rename_i h1
      split at h
      · exact absurd h (by decide)
      · rename_i h2
        have a1 : isG τ g := Classical.not_not.mp h1
        obtain ⟨g8, l1, rfl⟩ := isG_nI hT a1
        have hg10 := hT.g10
        rw [nx_nI (by omega)] at h2 h
        have a2 : 0 ≤ v ∧ v ≤ 2 := Classical.not_not.mp (fun z => h2 (Or.inl z))
        have a3 : 1 ≤ n ∧ n ≤ τ 3 g8 := Classical.not_not.mp (fun z => h2 (Or.inr (Or.inr z)))
        unfold chT
        rw [nx_nI (by omega)]
        by_cases h3 : n = τ 3 g8
        · rw [if_pos h3]
          exact ⟨hT.iVi (rngI a2), by rw [tQ_of (show aVi τ g8 v 8 0 = τ 8 0 from by simp [aVi, up2])]; exact Nat.le_refl _⟩
        · rw [if_neg h3] at h ⊢
          split at h
          · exact absurd h (by decide)
          · rename_i h4
            have hG : tG τ < 10 := Classical.not_not.mp h4
            have hc := TI_cut hT l1 a3 h3
            have eG : tG (up2 τ 3 g8 (τ 3 g8 - n)) = tG τ := tG_of (by simp [up2])
            have r := hT.2.2.2.2.1 g8 l1
            have hn : rng n 1 999 := by
              have b1 := rng_of_le a3
              have b2 := r.1.2
              exact ⟨b1.1, Int.le_trans b1.2 b2⟩
            refine ⟨?_, ?_⟩
            · exact hc.iGr (by rw [eG]; exact hG) hn (rngI a2) r.2.2.1 r.2.2.2.1 r.2.2.2.2
            · show tQ τ ≤ tQ (aGr _ _ _ _ _ _)
              rw [tQ_gr, tQ_of (show up2 τ 3 g8 (τ 3 g8 - n) 8 0 = τ 8 0 from by simp [up2])]; exact Nat.le_refl _
  · rw [if_neg h]; exact ⟨hT, Nat.le_refl _⟩
theorem lt_do {τ : tT} (hT : TI τ) (n : Int32) : TI (if rcDo τ n = 0 then knN τ (nx n) else τ) ∧ tQ τ ≤ tQ (if rcDo τ n = 0 then knN τ (nx n) else τ) := by
  by_cases h : rcDo τ n = 0
  · rw [if_pos h]
    have := hT.kN (nx n)
    exact ⟨this.1, by rw [this.2.1]; exact Nat.le_refl _⟩
  · rw [if_neg h]; exact ⟨hT, Nat.le_refl _⟩
theorem lt_se {τ : tT} (hT : TI τ) (v : Int32) : TI (aSc τ 4 v) ∧ tQ τ ≤ tQ (aSc τ 4 v) := ⟨hT.sc v (by decide), by rw [tQ_sc τ v (by decide)]; exact Nat.le_refl _⟩
/-! shelves that calls leave behind -/
theorem LI.row {it lf : Int32} {τ σ σ2 : tT} {lr hd sz : Nat → Int32} {el el2 : Nat → Int64} {bc : Nat} {y od : Nat → Int32} (h : LI it lf τ σ σ2 lr hd sz el el2 bc y od) (s k n : Int32) : LI it lf τ σ σ2 lr (if rcRow s k n = 0 then upd hd (nx s) (100 + k) else hd) (if rcRow s k n = 0 then upd sz (nx s) n else sz) (if rcRow s k n = 0 then clr el (nx s) (nx n) else el) (if rcRow s k n = 0 then clr el2 (nx s) 160 else el2) bc y od := by
  obtain ⟨h1, ⟨hS, hD, hE⟩, h3⟩ := h
  refine ⟨h1, ?_, h3⟩
  by_cases h : rcRow s k n = 0
  · simp only [if_pos h]
    unfold rcRow at h
    split at h
    · exact absurd h (by decide)
    · rename_i c1
      split at h
      · exact absurd h (by decide)
      · rename_i c2
        split at h
        · exact absurd h (by decide)
        · rename_i c3
          split at h
          · exact absurd h (by decide)
          · rename_i c4
            obtain ⟨s8, hs8, rfl⟩ := in8_nI (Classical.not_not.mp c1)
            obtain ⟨n8, hn8, rfl⟩ := nI_of2 (M := 160) (n := 160) rfl c2 (Int32.not_lt.mp c4)
            obtain ⟨k8, hk8, rfl⟩ := (lt_Q (n := 4) (by decide)).mp (Classical.not_not.mp c3)
            rw [nx_nI (by omega), nx_nI (by omega), show (100 : Int32) + nI k8 = nI (100 + k8) from nI_add 100 k8]
            have hz : ∀ s', s' < 8 → zN (upd sz s8 (nI n8)) s' = if s' = s8 then n8 else zN sz s' := fun s' _ => by
              unfold zN upd
              by_cases e : s' = s8
              · rw [if_pos e, if_pos e]; exact nI_clamp (by omega)
              · rw [if_neg e, if_neg e]
            refine ⟨fun s' hs' => ?_, fun s' hs' hq => ?_, fun s' hs' j hj => ?_⟩
            · unfold upd
              by_cases e : s' = s8
              · rw [if_pos e, if_pos e]
                refine ⟨⟨?_, ?_⟩, ⟨?_, ?_⟩⟩
                · rw [nI_toInt (by omega)]; omega
                · rw [nI_toInt (by omega)]; omega
                · rw [nI_toInt (by omega)]; omega
                · rw [nI_toInt (by omega)]; omega
              · rw [if_neg e, if_neg e]; exact hS s' hs'
            · unfold upd at hq ⊢
              by_cases e : s' = s8
              · rw [if_pos e] at hq
                exact absurd ((nI_leI (a := 100) (by decide) (by omega)).mpr (by omega)) hq.2
              · rw [if_neg e] at hq ⊢; exact hD s' hs' hq
            · rw [hz s' hs'] at hj
              unfold clr
              by_cases e : s' = s8
              · rw [if_pos e] at hj
                subst e
                rw [if_pos (by omega), if_pos (by omega)]
              · rw [if_neg e] at hj
                have := (hS.z hs').2
                rw [if_neg (by omega), if_neg (by omega)]
                exact hE s' hs' j hj
  · simp only [if_neg h]; exact ⟨hS, hD, hE⟩
theorem set_ok {hd sz : Nat → Int32} (hS : SI hd sz) {s i : Int32} (h : rcSet hd sz s i = 0) : ∃ s8 i8, s = nI s8 ∧ s8 < 8 ∧ i = nI i8 ∧ i8 < zN sz s8 := by
  unfold rcSet at h
  split at h
  · rename_i c; exact absurd h c
  · rename_i c
    split at h
    · exact absurd h (by decide)
    · rename_i c2
      obtain ⟨s8, hs8, rfl⟩ := in8_nI (rf_in (Classical.not_not.mp c)).1
      rw [nx_nI (by omega)] at c2
      obtain ⟨i8, hi8, rfl⟩ := has_nI (n := 1) hS hs8 (by decide) (Classical.not_not.mp c2)
      exact ⟨s8, i8, rfl, hs8, rfl, by omega⟩
theorem LI.els {it lf : Int32} {τ σ σ2 : tT} {lr hd sz : Nat → Int32} {el el2 : Nat → Int64} {bc : Nat} {y od : Nat → Int32} (h : LI it lf τ σ σ2 lr hd sz el el2 bc y od) {e1 e2 : Nat → Int64} (hE : hEq sz e1 e2) : LI it lf τ σ σ2 lr hd sz e1 e2 bc y od := ⟨h.1, ⟨h.2.1.1, h.2.1.2.1, hE⟩, h.2.2⟩
theorem eq_set {hd sz : Nat → Int32} {el el2 : Nat → Int64} (hE : hEq sz el el2) (s i : Int32) (x : Int64) : hEq sz (if rcSet hd sz s i = 0 then vp_updL el (nx s * 160 + nx i) x else el) (if rcSet hd sz s i = 0 then vp_updL el2 (nx s * 160 + nx i) x else el2) := by
  intro s' hs' k hk
  split
  · unfold vp_updL
    split
    · rfl
    · exact hE s' hs' k hk
  · exact hE s' hs' k hk
theorem eq_cpy {hd sz : Nat → Int32} (hS : SI hd sz) {el el2 : Nat → Int64} (hE : hEq sz el el2) (p q i j n : Int32) : hEq sz (if rcCopy hd sz p q i j n = 0 then va_cpy el el (nx p * 160 + nx i) (nx q * 160 + nx j) (nx n) else el) (if rcCopy hd sz p q i j n = 0 then va_cpy el2 el2 (nx p * 160 + nx i) (nx q * 160 + nx j) (nx n) else el2) := by
  by_cases h : rcCopy hd sz p q i j n = 0
  · simp only [if_pos h]
    unfold rcCopy at h
    split at h
    · rename_i c; exact absurd h c
    · rename_i c
      split at h
      · exact absurd h (by decide)
      · rename_i c2
        split at h
        · exact absurd h (by decide)
        · rename_i c3
          have hr := rf_in (Classical.not_not.mp c)
          obtain ⟨p8, hp8, rfl⟩ := in8_nI hr.1
          obtain ⟨q8, hq8, rfl⟩ := in8_nI hr.2.1
          obtain ⟨n8, hn8, rfl⟩ := nI_of c2
          rw [nx_nI (by omega), nx_nI (by omega)] at c3
          obtain ⟨i8, hi8, rfl⟩ := has_nI hS hp8 hn8 (Classical.not_not.mp (fun z => c3 (Or.inl z)))
          obtain ⟨j8, hj8, rfl⟩ := has_nI hS hq8 hn8 (Classical.not_not.mp (fun z => c3 (Or.inr z)))
          have z1 := (hS.z hp8).2
          have z2 := (hS.z hq8).2
          rw [nx_nI (by omega), nx_nI (by omega), nx_nI (by omega), nx_nI (by omega), nx_nI (by omega)]
          intro s' hs' k hk
          unfold va_cpy
          by_cases c4 : q8 * 160 + j8 ≤ s' * 160 + k ∧ s' * 160 + k < q8 * 160 + j8 + n8
          · rw [if_pos c4, if_pos c4]
            have := hE p8 hp8 (i8 + (s' * 160 + k - (q8 * 160 + j8))) (by omega)
            rw [← Nat.add_assoc] at this
            exact this
          · rw [if_neg c4, if_neg c4]; exact hE s' hs' k hk
  · simp only [if_neg h]; exact hE
theorem eq_el {hd sz : Nat → Int32} (hS : SI hd sz) {el el2 : Nat → Int64} (hE : hEq sz el el2) (s i : Int32) : elV hd sz el s i = elV hd sz el2 s i := by
  unfold elV
  by_cases h : rfRows hd s s = 0 ∧ ¬ i < 0 ∧ ¬ sz (nx s) - 1 < i
  · rw [if_pos h, if_pos h]
    obtain ⟨s8, hs8, rfl⟩ := in8_nI (rf_in h.1).1
    have h2 := h.2
    rw [nx_nI (by omega)] at h2
    obtain ⟨i8, hi8, rfl⟩ := has_nI (n := 1) hS hs8 (by decide) h2
    have := (hS.z hs8).2
    rw [nx_nI (by omega), nx_nI (by omega)]
    exact hE s8 hs8 i8 (by omega)
  · rw [if_neg h, if_neg h]
theorem LI.shw {it lf : Int32} {τ σ σ2 : tT} {lr hd sz : Nat → Int32} {el el2 : Nat → Int64} {bc : Nat} {y od : Nat → Int32} (h : LI it lf τ σ σ2 lr hd sz el el2 bc y od) (s q : Int32) : LI it lf τ σ σ2 lr (if rcShow τ s q = 0 then upd hd (nx s) q else hd) sz el el2 bc y od := by
  obtain ⟨h1, ⟨hS, hD, hE⟩, h3⟩ := h
  refine ⟨h1, ?_, h3⟩
  by_cases h : rcShow τ s q = 0
  · simp only [if_pos h]
    unfold rcShow at h
    split at h
    · exact absurd h (by decide)
    · rename_i c1
      split at h
      · exact absurd h (by decide)
      · rename_i c2
        obtain ⟨s8, hs8, rfl⟩ := in8_nI (Classical.not_not.mp c1)
        rw [nx_nI (by omega)]
        have hT := h1.1
        have hq8 := hT.q8
        have hq : q = -1 ∨ ∃ q8, q8 < tQ τ ∧ q = nI q8 := by
          by_cases e : q = -1
          · exact Or.inl e
          · exact Or.inr (isQ_nI hT (Classical.not_not.mp (fun z => c2 ⟨e, z⟩)))
        refine ⟨fun s' hs' => ?_, fun s' hs' hz => ?_, hE⟩
        · unfold upd
          by_cases e : s' = s8
          · rw [if_pos e]
            refine ⟨?_, (hS s' hs').2⟩
            rcases hq with rfl | ⟨q8, l, rfl⟩
            · exact ⟨by decide, by decide⟩
            · unfold rng; rw [nI_toInt (by omega)]; omega
          · rw [if_neg e]; exact hS s' hs'
        · unfold upd at hz ⊢
          by_cases e : s' = s8
          · rw [if_pos e] at hz ⊢
            rcases hq with rfl | ⟨q8, l, rfl⟩
            · exact absurd rfl hz.1
            · exact ⟨q8, l, rfl⟩
          · rw [if_neg e] at hz ⊢; exact hD s' hs' hz
  · simp only [if_neg h]; exact ⟨hS, hD, hE⟩
/-! told rounds, the same from both rows -/
theorem tol_eq {sz : Nat → Int32} {el el2 : Nat → Int64} (hE : hEq sz el el2) {s k : Nat} (hs : s < 8) (hk : k < zN sz s) : tol el s k = tol el2 s k := by unfold tol; rw [hE s hs k hk]
theorem thr_eq {el el2 : Nat → Int64} {s n : Nat} (h : ∀ k, k < n → tol el s k = tol el2 s k) : ∀ i, i ≤ n → thr el s i = thr el2 s i
  | 0, _ => rfl
  | i + 1, hi => by rw [thr, thr, thr_eq h i (by omega), h i (by omega)]
theorem bad_eq (τ : tT) {el el2 : Nat → Int64} {s n : Nat} (h : ∀ k, k < n → tol el s k = tol el2 s k) {i : Nat} (hi : i < n) : bad τ el s i ↔ bad τ el2 s i := by
  unfold bad; rw [h i hi, thr_eq h i (by omega)]
theorem wrF_eq (τ : tT) {el el2 : Nat → Int64} {s n : Nat} (h : ∀ k, k < n → tol el s k = tol el2 s k) : ∀ m i, i + m ≤ n → wrF τ el s m i = wrF τ el2 s m i
  | 0, _, _ => rfl
  | m + 1, i, hi => by
    rw [wrF, wrF, wrF_eq τ h m (i + 1) (by omega)]
    have := bad_eq τ h (i := i) (by omega)
    by_cases c : bad τ el s i
    · rw [if_pos c, if_pos (this.mp c)]
    · rw [if_neg c, if_neg (fun z => c (this.mpr z))]
theorem srV_eq (τ : tT) {el el2 : Nat → Int64} {s n : Nat} (h : ∀ k, k < n → tol el s k = tol el2 s k) {i : Nat} (hi : i < n) : srV τ el s i = srV τ el2 s i := by
  unfold srV; rw [h i hi, thr_eq h i (by omega)]
theorem lrN_eq (τ : tT) {el el2 : Nat → Int64} {s n : Nat} (h : ∀ k, k < n → tol el s k = tol el2 s k) : ∀ i, i ≤ n → lrN τ el s i = lrN τ el2 s i
  | 0, _ => rfl
  | i + 1, hi => by rw [lrN, lrN, lrN_eq τ h i (by omega), h i (by omega), thr_eq h i (by omega)]
theorem eq_jud {τ : tT} {hd sz : Nat → Int32} (hS : SI hd sz) {el el2 : Nat → Int64} (hE : hEq sz el el2) (s n : Int32) : (if rcRd hd sz s n (-1) = 0 then wrF τ el (nx s) (nx n) 0 else -10 + rcRd hd sz s n (-1)) = (if rcJu hd sz s n = 0 then wrF τ el2 (nx s) (nx n) 0 else -10 + rcJu hd sz s n) := by
  show _ = (if rcRd hd sz s n (-1) = 0 then wrF τ el2 (nx s) (nx n) 0 else -10 + rcRd hd sz s n (-1))
  by_cases h : rcRd hd sz s n (-1) = 0
  · rw [if_pos h, if_pos h]
    obtain ⟨s8, n8, rfl, hs8, rfl, hn8, hn20, -, -⟩ := rcRd_0 hS h
    rw [nx_nI (by omega), nx_nI (by omega)]
    exact wrF_eq τ (n := n8) (fun k hk => tol_eq hE hs8 (by omega)) n8 0 (by omega)
  · rw [if_neg h, if_neg h]
theorem ro_eq {τ : tT} {hd sz : Nat → Int32} (hS : SI hd sz) {el el2 : Nat → Int64} (hE : hEq sz el el2) (s n i : Int32) : rcRo τ hd sz el s n i = rcRo τ hd sz el2 s n i ∧ (rcRo τ hd sz el s n i = 0 → roV τ el s n i = roV τ el2 s n i) := by
  unfold rcRo
  by_cases h : rcRd hd sz s n i = 0
  · obtain ⟨s8, n8, rfl, hs8, rfl, hn8, hn20, hi9, -⟩ := rcRd_0 hS h
    have hk : ∀ k, k < n8 → tol el s8 k = tol el2 s8 k := fun k hk => tol_eq hE hs8 (by omega)
    rw [nx_nI (by omega), nx_nI (by omega), wrF_eq τ hk n8 0 (by omega)]
    refine ⟨rfl, fun _ => ?_⟩
    unfold roV
    rw [nx_nI (by omega), nx_nI (by omega)]
    rcases hi9 with rfl | ⟨j, hj, rfl⟩
    · rw [if_pos rfl, if_pos rfl]; exact lrN_eq τ hk n8 (Nat.le_refl _)
    · rw [if_neg (tw_n (by omega)), if_neg (tw_n (by omega)), nx_nI (by omega)]; exact srV_eq τ hk hj
  · rw [if_pos h, if_pos h]; exact ⟨rfl, fun z => absurd z h⟩
theorem eq_rou {τ : tT} {hd sz : Nat → Int32} (hS : SI hd sz) {el el2 : Nat → Int64} (hE : hEq sz el el2) (s n i : Int32) : (if rcRo τ hd sz el s n i = 0 then roV τ el s n i else rcRo τ hd sz el s n i) = (if rcRo τ hd sz el2 s n i = 0 then roV τ el2 s n i else rcRo τ hd sz el2 s n i) := by
  obtain ⟨h1, h2⟩ := ro_eq (τ := τ) hS hE s n i
  rw [← h1]
  by_cases h : rcRo τ hd sz el s n i = 0
  · rw [if_pos h, if_pos h, h2 h]
  · rw [if_neg h, if_neg h]
/-! acts, images -/
theorem acL_len : ∀ k act, (acL k act).length < 1000 := by
  intro k act
  have hk : (akL k).length ≤ 3 := by unfold akL; repeat (first | decide | split)
  have hl : (lnL k).length ≤ 5 := by
    unfold lnL
    by_cases h1 : k = 2 ∨ k = 5
    · rw [if_pos h1]; simp only [List.length_cons]; omega
    · rw [if_neg h1]
      by_cases h2 : k = 3
      · rw [if_pos h2]; simp only [List.length_cons]; omega
      · rw [if_neg h2]
        by_cases h3 : k = 6
        · rw [if_pos h3]; simp only [List.length_cons]; omega
        · rw [if_neg h3]; simp only [List.length_cons]; omega
  have hs : (smL k).length ≤ 10 := by
    unfold smL
    by_cases h1 : k = 4 ∨ k = 6
    · rw [if_pos h1]; simp only [List.length_cons, List.length_append]; omega
    · rw [if_neg h1]
      by_cases h2 : k = 5
      · rw [if_pos h2]; simp only [List.length_cons, List.length_append]; omega
      · rw [if_neg h2]; simp only [List.length_cons, List.length_append]; omega
  unfold acL
  by_cases h1 : act = 0
  · rw [if_pos h1]; omega
  · rw [if_neg h1]
    by_cases h2 : act = 1
    · rw [if_pos h2]; omega
    · rw [if_neg h2]
      by_cases h3 : act = 2
      · rw [if_pos h3]; omega
      · rw [if_neg h3]; decide
theorem LI.act {it lf : Int32} {τ σ σ2 : tT} {lr hd sz : Nat → Int32} {el el2 : Nat → Int64} {bc : Nat} {y od : Nat → Int32} (h : LI it lf τ σ σ2 lr hd sz el el2 bc y od) {b : Nat} (hb : b < 1000) : LI it lf τ σ σ2 lr hd sz el el2 b (upd y 1 (nI b)) od :=
  ⟨h.1, h.2.1, h.2.2.1, hb, h.2.2.2.2.1, rfl, h.2.2.2.2.2.2⟩
theorem b_act {τ : tT} {q act : Int32} : (if isQ τ q then (acL (tK τ (nx q)) act).length else 0) < 1000 := by
  split
  · exact acL_len _ _
  · decide
theorem eq_act {τ : tT} (hT : TI τ) (q act x : Int32) : (if isQ τ q then acV (tK τ (nx q)) act q (τ 1 (nx q)) x else 0) = (if isQ τ q then acV (tK τ (nx q)) act (nI (nx q)) (τ 1 (nx q)) x else 0) := by
  by_cases h : isQ τ q
  · rw [if_pos h, if_pos h]
    obtain ⟨q8, l, rfl⟩ := isQ_nI hT h
    have := hT.q8
    rw [nx_nI (by omega)]
  · rw [if_neg h, if_neg h]
theorem LI.img {it lf : Int32} {τ σ σ2 : tT} {lr hd sz : Nat → Int32} {el el2 : Nat → Int64} {bc : Nat} {y od : Nat → Int32} (h : LI it lf τ σ σ2 lr hd sz el el2 bc y od) : LI 1 lf τ τ τ lr hd sz el el2 bc (upd y 2 1) (kF τ od) :=
  ⟨⟨h.1.1, h.1.1, h.1.1, kF_ok τ od, fun _ => rfl⟩, h.2.1, h.2.2.1, h.2.2.2.1, h.2.2.2.2.1, h.2.2.2.2.2.1, rfl⟩
theorem LI.ord {it lf : Int32} {τ σ σ2 : tT} {lr hd sz : Nat → Int32} {el el2 : Nat → Int64} {bc : Nat} {y od : Nat → Int32} (h : LI it lf τ σ σ2 lr hd sz el el2 bc y od) {P : Prop} [Decidable P] (S : Nat) (x : Int32) : LI it lf τ σ σ2 (if P then oLr τ S lr 256 else lr) hd sz el el2 bc (upd y 5 x) od := by
  refine ⟨h.1, h.2.1, ?_, h.2.2.2.1, h.2.2.2.2.1, h.2.2.2.2.2.1, h.2.2.2.2.2.2⟩
  split
  · unfold oLr; rw [if_neg (by omega)]; exact h.2.2.1
  · exact h.2.2.1
theorem re_0 {it : Int32} (h : it = 0) : ¬ rcRe it = 0 := by unfold rcRe; rw [if_pos h]; decide
theorem re_1 {it : Int32} (h : ¬ it = 0) : rcRe it = 0 := if_neg h
theorem eq_re {α : Type} {it y2 : Int32} {a a2 b : α} (hy : y2 = it) (h : ¬ it = 0 → a2 = a) : (if rcRe y2 = 0 then a2 else b) = (if rcRe it = 0 then a else b) := by
  rw [hy]
  by_cases h0 : it = 0
  · rw [if_neg (re_0 h0), if_neg (re_0 h0)]
  · rw [if_pos (re_1 h0), if_pos (re_1 h0), h h0]
theorem eq_rev {it y2 : Int32} {a a2 : Int32} (hy : y2 = it) (h : ¬ it = 0 → a2 = a) : (if rcRe it = 0 then a else rcRe it) = (if rcRe y2 = 0 then a2 else rcRe y2) := by
  rw [hy]
  by_cases h0 : it = 0
  · rw [if_neg (re_0 h0), if_neg (re_0 h0)]
  · rw [if_pos (re_1 h0), if_pos (re_1 h0), h h0]
theorem LI.res {it lf : Int32} {τ σ σ2 : tT} {lr hd sz : Nat → Int32} {el el2 : Nat → Int64} {bc : Nat} {y od : Nat → Int32} (h : LI it lf τ σ σ2 lr hd sz el el2 bc y od) : LI it lf (if rcRe it = 0 then σ else τ) σ σ2 lr (if rcRe it = 0 then drp hd (nI (tQ σ)) 8 else hd) sz el el2 bc y od := by
  by_cases h0 : it = 0
  · simp only [if_neg (re_0 h0)]; exact h
  · simp only [if_pos (re_1 h0)]
    obtain ⟨⟨hT, hT2, h12⟩, ⟨hS, hD, hE⟩, h3⟩ := h
    refine ⟨⟨hT2, hT2, h12⟩, ⟨fun s hs => ?_, fun s hs hq => ?_, hE⟩, h3⟩
    · refine ⟨?_, (hS s hs).2⟩
      unfold drp
      split
      · exact ⟨by decide, by decide⟩
      · exact (hS s hs).1
    · unfold drp at hq ⊢
      split at hq
      · exact absurd rfl hq.1
      · rename_i c
        rw [if_neg c]
        have c2 : hd s < nI (tQ σ) := Classical.not_not.mp (fun z => c ⟨hs, hq, z⟩)
        have h9 := (isQn_iff (hd_ge hS hs)).mp hq
        obtain ⟨q, hq9, e⟩ := nI_of2 (M := 100) (n := 100) rfl (Int32.not_lt.mpr h9.1) (Int32.le_of_lt h9.2)
        rw [e] at c2
        have := hT2.q8
        exact ⟨q, (nI_ltI (by omega) (by omega)).mp c2, e⟩
/-! towns read from both rows -/
theorem rl_cg {lt lt' : Nat → Int32} {n : Nat} (e : ltr lt n = ltr lt' n) (c : Int32) (z : Nat × Int32) : rlS lt n c z = rlS lt' n c z := by unfold rlS; rw [e]
theorem rw_cg {lt lt' : Nat → Int32} {n : Nat} (e : ltr lt n = ltr lt' n) (w : Nat) (z : Nat × Int32) : ∀ k, rwS lt n w z k = rwS lt' n w z k
  | 0 => rfl
  | k + 1 => by rw [rwS, rwS, rw_cg e w z k, rl_cg e]
theorem dg_cg {lt lt' : Nat → Int32} {n : Nat} (e : ltr lt n = ltr lt' n) : ∀ k p v, dgS lt n k p v = dgS lt' n k p v
  | 0, _, _ => rfl
  | k + 1, p, v => by rw [dgS, dgS, e, dg_cg e k]
theorem dz_cg {lt lt' : Nat → Int32} {n : Nat} (e : ltr lt n = ltr lt' n) (z : Nat × Int32) : dgZ lt n z = dgZ lt' n z := by unfold dgZ; rw [dg_cg e]
theorem nv_cg {lt lt' : Nat → Int32} {n : Nat} (e : ltr lt n = ltr lt' n) (z : Nat × Int32) : nuV lt n z = nuV lt' n z := by unfold nuV; rw [rl_cg e, dz_cg e]
theorem na_cg {lt lt' : Nat → Int32} {n : Nat} (e : ltr lt n = ltr lt' n) (z : Nat × Int32) : nuA lt n z = nuA lt' n z := by unfold nuA; rw [rl_cg e, dz_cg e]
theorem ns_cg {lt lt' : Nat → Int32} {n : Nat} (e : ltr lt n = ltr lt' n) (lo hi : Int32) (z : Nat × Int32) : nuS lt n lo hi z = nuS lt' n lo hi z := by unfold nuS; rw [na_cg e, nv_cg e, rl_cg e]
theorem gr_cg {lt lt' : Nat → Int32} {n : Nat} (e : ltr lt n = ltr lt' n) (ν : tT) (z : Nat × Int32) : ∀ k, grS lt n ν z k = grS lt' n ν z k
  | 0 => by rw [grS_0, grS_0, rw_cg e]
  | 1 => by
    show nuS lt n 1 999 (grS lt n ν z 0) = nuS lt' n 1 999 (grS lt' n ν z 0)
    rw [gr_cg e ν z 0, ns_cg e]
  | 2 => by
    show nuS lt n 0 2 (grS lt n ν z 1) = nuS lt' n 0 2 (grS lt' n ν z 1)
    rw [gr_cg e ν z 1, ns_cg e]
  | k + 3 => by
    show nuS lt n 0 10 (grS lt n ν z (k + 2)) = nuS lt' n 0 10 (grS lt' n ν z (k + 2))
    rw [gr_cg e ν z (k + 2), ns_cg e]
theorem qu_cg {lt lt' : Nat → Int32} {n : Nat} (e : ltr lt n = ltr lt' n) (ν : tT) (z : Nat × Int32) : ∀ k, quS lt n ν z k = quS lt' n ν z k
  | 0 => by rw [quS_0, quS_0, rw_cg e]
  | 1 => by
    show nuS lt n 0 6 (quS lt n ν z 0) = nuS lt' n 0 6 (quS lt' n ν z 0)
    rw [qu_cg e ν z 0, ns_cg e]
  | k + 2 => by
    show nuS lt n 0 9 (quS lt n ν z (k + 1)) = nuS lt' n 0 9 (quS lt' n ν z (k + 1))
    rw [qu_cg e ν z (k + 1), ns_cg e]
theorem be_cg {lt lt' : Nat → Int32} {n : Nat} (e : ltr lt n = ltr lt' n) (ν : tT) (z : Nat × Int32) : ∀ k, beS lt n ν z k = beS lt' n ν z k
  | 0 => rfl
  | 1 => by
    show nuS lt n 0 (nI (tQ ν) - 1) z = nuS lt' n 0 (nI (tQ ν) - 1) z
    rw [ns_cg e]
  | 2 => by rw [be_2, be_2, be_cg e ν z 1, ns_cg e]
  | 3 => by rw [beS_3, beS_3, be_cg e ν z 1, be_cg e ν z 2, nv_cg e, nv_cg e]
  | k + 4 => by
    show nuS lt n 0 9 (beS lt n ν z (k + 3)) = nuS lt' n 0 9 (beS lt' n ν z (k + 3))
    rw [be_cg e ν z (k + 3), ns_cg e]
theorem grT_cg {lt lt' : Nat → Int32} {n : Nat} (e : ltr lt n = ltr lt' n) (ν : tT) (z : Nat × Int32) : grT lt n ν z = grT lt' n ν z := by
  unfold grT grV; simp only [gr_cg e, nv_cg e]
theorem quT_cg {lt lt' : Nat → Int32} {n : Nat} (e : ltr lt n = ltr lt' n) (ν : tT) (z : Nat × Int32) : quT lt n ν z = quT lt' n ν z := by
  unfold quT quV; simp only [qu_cg e, nv_cg e]
theorem beT_cg {lt lt' : Nat → Int32} {n : Nat} (e : ltr lt n = ltr lt' n) (ν : tT) (z : Nat × Int32) (sg : Int32) : beT lt n ν z sg = beT lt' n ν z sg := by
  unfold beT; simp only [be_cg e, nv_cg e]
theorem itS_cg {lt lt' : Nat → Int32} {n : Nat} (e : ltr lt n = ltr lt' n) (ν : tT) (z : Nat × Int32) : itS lt n ν z = itS lt' n ν z := by
  unfold itS; simp only [e, gr_cg e, qu_cg e, rw_cg e, be_cg e, ns_cg e]
theorem itT_cg {lt lt' : Nat → Int32} {n : Nat} (e : ltr lt n = ltr lt' n) (ν : tT) (z : Nat × Int32) : itT lt n ν z = itT lt' n ν z := by
  unfold itT; simp only [e, grT_cg e, quT_cg e, rw_cg e, beT_cg e, nv_cg e]
theorem rd_cg {lt lt' : Nat → Int32} {n : Nat} (e : ltr lt n = ltr lt' n) : ∀ m z ν k, rdS lt n m z ν k = rdS lt' n m z ν k
  | 0, _, _, _ => rfl
  | m + 1, z, ν, k => by rw [rdS, rdS, rl_cg e, itS_cg e, itT_cg e, rd_cg e m]
theorem tz_eq {hd sz : Nat → Int32} {el el2 : Nat → Int64} (hE : hEq sz el el2) (lt : Nat → Int32) (τ : tT) {s : Int32} (h : in8 s) : toZ hd sz el lt τ s = tzR sz el2 τ s := by
  obtain ⟨s8, hs8, rfl⟩ := in8_nI h
  unfold toZ tzR
  rw [nx_nI (by omega)]
  have e : ltr (toL hd sz el lt (nI s8)) (zN sz s8) = ltr (tol el2 s8) (zN sz s8) := by
    funext p
    unfold ltr
    by_cases hp : p < zN sz s8
    · rw [if_pos hp, if_pos hp]
      unfold toL txt
      rw [nx_nI (by omega), if_pos hp]
      unfold tol
      rw [hE s8 hs8 p hp]
    · rw [if_neg hp, if_neg hp]
  unfold rdZ
  rw [rd_cg e, itS_cg e, itT_cg e]
theorem it_q {lt : Nat → Int32} {n : Nat} {ν : tT} (hT : TI ν) (hn : n ≤ 160) {z : Nat × Int32} (hz : z.1 ≤ n) : tQ ν ≤ tQ (itT lt n ν z) := by
  have hb : ∀ z9 sg, tQ ν ≤ tQ (beT lt n ν z9 sg) := fun z9 sg => by
    unfold beT; split
    · rw [tQ_of (show aBe ν _ _ _ 8 0 = ν 8 0 from by simp [aBe, up2])]; exact Nat.le_refl _
    · exact Nat.le_refl _
  unfold itT
  split
  · unfold grT; split
    · rw [tQ_gr]; exact Nat.le_refl _
    · exact Nat.le_refl _
  · split
    · unfold quT; split
      · rename_i h
        have hQ := (quS_ok hn hz h).1
        have e80 : aQu ν (quV lt n ν z 0) (quV lt n ν z 1) 8 0 = nI (tQ ν + 1) := by simp [aQu, up2]
        have e : tQ (aQu ν (quV lt n ν z 0) (quV lt n ν z 1)) = tQ ν + 1 := by
          show (aQu ν (quV lt n ν z 0) (quV lt n ν z 1) 8 0).toNatClampNeg = _
          rw [e80]; exact nI_clamp (by omega)
        omega
      · exact Nat.le_refl _
    · split
      · exact hb _ _
      · split
        · exact hb _ _
        · split
          · rw [tQ_of (aSc_s ν _ (by decide))]; exact Nat.le_refl _
          · split
            · rw [tQ_of (aSc_s ν _ (by decide))]; exact Nat.le_refl _
            · exact Nat.le_refl _
theorem rd_ok {lt : Nat → Int32} {n : Nat} (hn : n ≤ 160) (Q : Nat) : ∀ (m : Nat) (z : Nat × Int32) (ν : tT) (k : Nat), z.1 ≤ n → (z.2 = -1 → TI ν ∧ Q ≤ tQ ν) → (rdS lt n m z ν k).1.2 = -1 → TI (rdS lt n m z ν k).2.1 ∧ Q ≤ tQ (rdS lt n m z ν k).2.1
  | 0, z, ν, k, _, h, h2 => h h2
  | m + 1, z, ν, k, hz, h, h2 => by
    rw [rdS] at h2 ⊢
    by_cases c : z.2 = -1 ∧ z.1 < n
    · rw [if_pos c] at h2 ⊢
      have h1 := h c.1
      have hz2 : (rlS lt n 59 z).1 ≤ n := rlS_le ne59 hz
      exact rd_ok hn Q m _ _ _ (itS_le hz2) (fun h3 => ⟨itT_ok h1.1 hn hz2 h3, Nat.le_trans h1.2 (it_q h1.1 hn hz2)⟩) h2
    · rw [if_neg c] at h2 ⊢; exact h h2
theorem tz_ok {sz : Nat → Int32} {el2 : Nat → Int64} {τ : tT} (hT : TI τ) {s : Int32} (hz : zN sz (nx s) ≤ 160) (h : (tzR sz el2 τ s).1.2 = -1) : TI (tzR sz el2 τ s).2.1 ∧ tQ τ ≤ tQ (tzR sz el2 τ s).2.1 := by
  unfold tzR rdZ at h ⊢
  exact rd_ok hz (tQ τ) _ _ _ _ (itS_le (Nat.zero_le _)) (fun h3 => ⟨itT_ok hT hz (Nat.zero_le _) h3, it_q hT hz (Nat.zero_le _)⟩) h
theorem rct_eq {hd sz : Nat → Int32} {el el2 : Nat → Int64} (hE : hEq sz el el2) (lt : Nat → Int32) (τ : tT) (s : Int32) : rcTo hd sz el lt τ s = rcTr hd sz el2 τ s := by
  unfold rcTo rcTr
  by_cases h : rfRows hd s s = 0
  · rw [if_neg (c := ¬ rfRows hd s s = 0) (fun q => q h), if_neg (c := ¬ rfRows hd s s = 0) (fun q => q h), tz_eq hE lt τ (rf_in h).1]
  · rw [if_pos h, if_pos h]
theorem rct_0 {hd sz : Nat → Int32} {el2 : Nat → Int64} {τ : tT} {s : Int32} (h : rcTr hd sz el2 τ s = 0) : rfRows hd s s = 0 ∧ (tzR sz el2 τ s).1.2 = -1 := by
  unfold rcTr at h
  by_cases c : rfRows hd s s = 0
  · rw [if_neg (fun q => q c)] at h
    by_cases c2 : (tzR sz el2 τ s).1.2 = -1
    · exact ⟨c, c2⟩
    · rw [if_pos c2] at h; exact absurd h (by decide)
  · rw [if_pos c] at h; exact absurd h c
theorem eq_tov {hd sz : Nat → Int32} {el el2 : Nat → Int64} (hE : hEq sz el el2) (lt : Nat → Int32) (τ : tT) (s : Int32) : (if rcTo hd sz el lt τ s = 0 then nI (toZ hd sz el lt τ s).2.2 else rcTo hd sz el lt τ s) = (if rcTr hd sz el2 τ s = 0 then nI (tzR sz el2 τ s).2.2 else rcTr hd sz el2 τ s) := by
  rw [rct_eq hE]
  by_cases h : rcTr hd sz el2 τ s = 0
  · rw [if_pos h, if_pos h, tz_eq hE lt τ (rf_in (rct_0 h).1).1]
  · rw [if_neg h, if_neg h]
theorem eq_tot {hd sz : Nat → Int32} {el el2 : Nat → Int64} (hE : hEq sz el el2) (lt : Nat → Int32) (τ : tT) (s : Int32) : (if rcTr hd sz el2 τ s = 0 then (tzR sz el2 τ s).2.1 else τ) = (if rcTo hd sz el lt τ s = 0 then (toZ hd sz el lt τ s).2.1 else τ) := by
  rw [rct_eq hE]
  by_cases h : rcTr hd sz el2 τ s = 0
  · rw [if_pos h, if_pos h, tz_eq hE lt τ (rf_in (rct_0 h).1).1]
  · rw [if_neg h, if_neg h]
theorem LI.tow {it lf : Int32} {τ σ σ2 : tT} {lr hd sz : Nat → Int32} {el el2 : Nat → Int64} {bc : Nat} {y od : Nat → Int32} (h : LI it lf τ σ σ2 lr hd sz el el2 bc y od) (lt : Nat → Int32) (s x3 x4 : Int32) : LI it (if rfRows hd s s = 0 then (toZ hd sz el lt τ s).1.2 else lf) (if rcTo hd sz el lt τ s = 0 then (toZ hd sz el lt τ s).2.1 else τ) σ σ2 lr hd sz el el2 bc (upd (upd (upd y 3 x3) 4 x4) 0 (if rfRows hd s s = 0 then (tzR sz el2 τ s).1.2 else y 0)) od := by
  have hE := h.2.1.2.2
  have h2 : LI it lf (if rcTo hd sz el lt τ s = 0 then (toZ hd sz el lt τ s).2.1 else τ) σ σ2 lr hd sz el el2 bc y od := by
    refine h.twn ?_
    rw [← eq_tot hE lt τ s]
    by_cases c : rcTr hd sz el2 τ s = 0
    · rw [if_pos c]
      obtain ⟨c1, c2⟩ := rct_0 c
      obtain ⟨s8, hs8, e⟩ := in8_nI (rf_in c1).1
      exact tz_ok h.1.1 (by rw [e, nx_nI (by omega)]; exact (h.2.1.1.z hs8).2) c2
    · rw [if_neg c]; exact ⟨h.1.1, Nat.le_refl _⟩
  refine ⟨h2.1, h2.2.1, h2.2.2.1, h2.2.2.2.1, ?_, h2.2.2.2.2.2.1, h2.2.2.2.2.2.2⟩
  show (if rfRows hd s s = 0 then (tzR sz el2 τ s).1.2 else y 0) = _
  by_cases c : rfRows hd s s = 0
  · rw [if_pos c, if_pos c, tz_eq hE lt τ (rf_in c).1]
  · rw [if_neg c, if_neg c]; exact h.2.2.2.2.1
