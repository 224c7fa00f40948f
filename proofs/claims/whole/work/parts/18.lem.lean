/-! small facts for the calls -/
theorem nI_z {n : Nat} (h : n < 2 ^ 31) : nI n = 0 ↔ n = 0 := nI_eq (b := 0) h (by decide)
theorem not_bad {τ : tT} (hT : TI τ) {el : Nat → Int64} {s i : Nat} (h : ¬ bad τ el s i) : tol el s i = nI (nx (tol el s i)) ∧ nx (tol el s i) < tQ τ := by
  have h1 : isQ τ (tol el s i) := Classical.not_not.mp (fun q => h (Or.inl q))
  obtain ⟨q, hq, e⟩ := isQ_nI hT h1
  have hq8 := hT.q8
  rw [e, nx_nI (by omega)]
  exact ⟨rfl, hq⟩
theorem rcRd_0 {hd sz : Nat → Int32} (hS : SI hd sz) {s n i : Int32} (h : rcRd hd sz s n i = 0) : ∃ s' n' : Nat, s = nI s' ∧ s' < 8 ∧ n = nI n' ∧ n' ≤ zN sz s' ∧ n' ≤ 20 ∧ (i = -1 ∨ ∃ j, j < n' ∧ i = nI j) ∧ rfRows hd s s = 0 := by
  unfold rcRd at h
  by_cases h1 : ¬ rfRows hd s s = 0
  · rw [if_pos h1] at h; exact absurd h h1
  · rw [if_neg h1] at h
    have h1' := Classical.not_not.mp h1
    obtain ⟨s', hs, rfl⟩ := in8_nI (rf_in h1').1
    have es : nx (nI s') = s' := nx_nI (by omega)
    rw [es] at h
    by_cases h2 : n < 0
    · rw [if_pos h2] at h; exact absurd h (by decide)
    · rw [if_neg h2] at h
      obtain ⟨n', hn, rfl⟩ := nI_of h2
      by_cases h3 : sz s' < nI n' ∨ ¬ (-1 ≤ i ∧ i ≤ nI n' - 1)
      · rw [if_pos h3] at h; exact absurd h (by decide)
      · rw [if_neg h3] at h
        by_cases h4 : (20 : Int32) < nI n'
        · rw [if_pos h4] at h; exact absurd h (by decide)
        · obtain ⟨ez, hz⟩ := hS.z hs
          have a1 : ¬ sz s' < nI n' := fun q => h3 (Or.inl q)
          have a2 : -1 ≤ i ∧ i ≤ nI n' - 1 := Classical.not_not.mp (fun q => h3 (Or.inr q))
          rw [ez] at a1
          have a3 : n' ≤ zN sz s' := Nat.not_lt.mp (fun q => a1 ((nI_ltI (by omega) hn).mpr q))
          have a4 : n' ≤ 20 := Nat.not_lt.mp (fun q => h4 ((nI_ltI (a := 20) (by decide) hn).mpr q))
          refine ⟨s', n', rfl, hs, rfl, a3, a4, ?_, h1'⟩
          by_cases h5 : i = -1
          · exact Or.inl h5
          · right
            have b1 : (-1 : Int) ≤ i.toInt := Int32.le_iff_toInt_le.mp a2.1
            have b2 : ¬ i.toInt = -1 := fun q => h5 (Int32.toInt_inj.mp q)
            exact (lt_Q hn).mp ⟨Int32.le_iff_toInt_le.mpr (show (0 : Int) ≤ i.toInt by omega), a2.2⟩
theorem rng_le {x : Int32} {a b c d : Int} (h : rng x a b) (h1 : c ≤ a) (h2 : b ≤ d) : rng x c d := ⟨Int.le_trans h1 h.1, Int.le_trans h.2 h2⟩
/-- what two towns that agree in the rest have in common -/
theorem TI.upd3 {τ : tT} (h : TI τ) {g : Nat} {x : Int32} (hx : rng x 1 999) : TI (up2 τ 3 g x) := by
  obtain ⟨h1, h2, h3, h4, h5, h6, h7⟩ := h
  have r8 : up2 τ 3 g x 8 = τ 8 := up2_n _ _ (by decide)
  have eQ : tQ (up2 τ 3 g x) = tQ τ := by unfold tQ; rw [r8]
  have eG : tG (up2 τ 3 g x) = tG τ := by unfold tG; rw [r8]
  unfold TI
  rw [eQ, eG, r8, up2_n _ _ (show (0 : Nat) ≠ 3 by decide), up2_n _ _ (show (1 : Nat) ≠ 3 by decide), up2_n _ _ (show (2 : Nat) ≠ 3 by decide), up2_n _ _ (show (4 : Nat) ≠ 3 by decide), up2_n _ _ (show (5 : Nat) ≠ 3 by decide), up2_n _ _ (show (6 : Nat) ≠ 3 by decide), up2_n _ _ (show (7 : Nat) ≠ 3 by decide)]
  refine ⟨h1, h2, h3, h4, fun k hk => ?_, h6, h7⟩
  refine ⟨?_, (h5 k hk).2⟩
  unfold up2
  rw [if_pos rfl]
  by_cases hkg : k = g
  · rw [if_pos hkg]; exact hx
  · rw [if_neg hkg]; exact (h5 k hk).1
theorem TI_cut {τ : tT} (h : TI τ) {g : Nat} (hg : g < tG τ) {n : Int32} (h1 : 1 ≤ n ∧ n ≤ τ 3 g) (h2 : ¬ n = τ 3 g) : TI (up2 τ 3 g (τ 3 g - n)) := by
  have h0 := (h.2.2.2.2.1 g hg).1
  have a1 : (1 : Int) ≤ n.toInt := Int32.le_iff_toInt_le.mp h1.1
  have a2 : n.toInt ≤ (τ 3 g).toInt := Int32.le_iff_toInt_le.mp h1.2
  have a3 : ¬ n.toInt = (τ 3 g).toInt := fun q => h2 (Int32.toInt_inj.mp q)
  have b := h0.2
  refine h.upd3 ?_
  have e : (τ 3 g - n).toInt = (τ 3 g).toInt - n.toInt := by rw [Int32.toInt_sub, Int.bmod_def]; omega
  exact ⟨by rw [e]; omega, by rw [e]; omega⟩
/-- scalars that TI doesn't speak of -/
theorem TI.sc {τ : tT} (h : TI τ) {k : Nat} (x : Int32) (hk : 4 ≤ k) : TI (aSc τ k x) := by
  have e : ∀ j, j < 4 → aSc τ k x 8 j = τ 8 j := fun j hj => aSc_s τ x (by omega)
  have eQ : tQ (aSc τ k x) = tQ τ := by unfold tQ; rw [e 0 (by decide)]
  have eG : tG (aSc τ k x) = tG τ := by unfold tG; rw [e 1 (by decide)]
  unfold TI
  rw [eQ, eG, e 0 (by decide), e 1 (by decide), e 2 (by decide), e 3 (by decide), aSc_r _ _ _ (show (0 : Nat) ≠ 8 by decide), aSc_r _ _ _ (show (1 : Nat) ≠ 8 by decide), aSc_r _ _ _ (show (2 : Nat) ≠ 8 by decide), aSc_r _ _ _ (show (3 : Nat) ≠ 8 by decide), aSc_r _ _ _ (show (4 : Nat) ≠ 8 by decide), aSc_r _ _ _ (show (5 : Nat) ≠ 8 by decide), aSc_r _ _ _ (show (6 : Nat) ≠ 8 by decide), aSc_r _ _ _ (show (7 : Nat) ≠ 8 by decide)]
  exact h
theorem tQ_sc (τ : tT) {k : Nat} (x : Int32) (hk : 4 ≤ k) : tQ (aSc τ k x) = tQ τ := by unfold tQ; rw [aSc_s τ x (by omega)]
theorem tG_sc (τ : tT) {k : Nat} (x : Int32) (hk : 4 ≤ k) : tG (aSc τ k x) = tG τ := by unfold tG; rw [aSc_s τ x (by omega)]
theorem TI.kn {τ : tT} (h : TI τ) : TI (kn1 τ) := h.sc _ (by decide)
theorem tQ_kn (τ : tT) : tQ (kn1 τ) = tQ τ := tQ_sc τ _ (by decide)
theorem tG_kn (τ : tT) : tG (kn1 τ) = tG τ := tG_sc τ _ (by decide)
theorem TI.kk {τ : tT} (h : TI τ) : TI (knk τ) ∧ tQ (knk τ) = tQ τ ∧ tG (knk τ) = tG τ := by
  have k3 := h.kn.kn.kn
  have kt : TI (kT τ) := k3.sc _ (by decide)
  have q3 : tQ (kT τ) = tQ τ := by unfold kT; rw [tQ_sc _ _ (by decide), tQ_kn, tQ_kn, tQ_kn]
  have g3 : tG (kT τ) = tG τ := by unfold kT; rw [tG_sc _ _ (by decide), tG_kn, tG_kn, tG_kn]
  unfold knk
  split
  · exact ⟨h.kn.kn, by rw [tQ_kn, tQ_kn], by rw [tG_kn, tG_kn]⟩
  · split
    · exact ⟨k3, by rw [tQ_kn, tQ_kn, tQ_kn], by rw [tG_kn, tG_kn, tG_kn]⟩
    · split
      · exact ⟨kt.kn.kn, by rw [tQ_kn, tQ_kn, q3], by rw [tG_kn, tG_kn, g3]⟩
      · exact ⟨kt.kn.kn.sc _ (by decide), by rw [tQ_sc _ _ (by decide), tQ_kn, tQ_kn, q3], by rw [tG_sc _ _ (by decide), tG_kn, tG_kn, g3]⟩
theorem TI.kN {τ : tT} (h : TI τ) : ∀ n, TI (knN τ n) ∧ tQ (knN τ n) = tQ τ ∧ tG (knN τ n) = tG τ
  | 0 => ⟨h, rfl, rfl⟩
  | n + 1 => by
    obtain ⟨a, b, c⟩ := h.kN n
    have d := a.kk
    exact ⟨d.1, d.2.1.trans b, d.2.2.trans c⟩
theorem st_ix {k : Int32} (h : 11 ≤ k ∧ k ≤ 17) : k - 10 = nI (nx (k - 10)) ∧ nx (k - 10) < 8 := by
  have h1 : (11 : Int) ≤ k.toInt := Int32.le_iff_toInt_le.mp h.1
  have h2 : k.toInt ≤ 17 := Int32.le_iff_toInt_le.mp h.2
  have h3 : (k - 10).toInt = k.toInt - 10 := by
    rw [Int32.toInt_sub, show Int32.toInt 10 = 10 from rfl, Int.bmod_def]; omega
  have h4 := rng_nI (x := k - 10) (b := 7) ⟨by omega, by omega⟩
  exact ⟨h4.1, by have := h4.2; show (k - 10).toNatClampNeg < 8; omega⟩
theorem in19_nI {x : Int32} (h : 1 ≤ x ∧ x ≤ 9) : ∃ u, (1 ≤ u ∧ u ≤ 9) ∧ x = nI u := by
  have h1 : (1 : Int) ≤ x.toInt := Int32.le_iff_toInt_le.mp h.1
  obtain ⟨u, hu, rfl⟩ := (lt_Q (n := 10) (by decide)).mp ⟨Int32.le_iff_toInt_le.mpr (show (0 : Int) ≤ x.toInt by omega), h.2⟩
  rw [nI_toInt (by omega)] at h1
  exact ⟨u, ⟨by omega, by omega⟩, rfl⟩
