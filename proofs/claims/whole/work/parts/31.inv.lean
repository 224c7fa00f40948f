/-! what is added keeps what holds of every town -/
theorem rng_i {x lo hi : Int32} {a b : Int} (h : lo ≤ x ∧ x ≤ hi) (ea : lo.toInt = a) (eb : hi.toInt = b) : rng x a b := by
  subst ea; subst eb
  exact ⟨Int32.le_iff_toInt_le.mp h.1, Int32.le_iff_toInt_le.mp h.2⟩
theorem tQ_of {τ σ : tT} (h : σ 8 0 = τ 8 0) : tQ σ = tQ τ := by unfold tQ; rw [h]
theorem tG_of {τ σ : tT} (h : σ 8 1 = τ 8 1) : tG σ = tG τ := by unfold tG; rw [h]
theorem TI.iGr {τ : tT} (hT : TI τ) (hG : tG τ < 10) {n v g h w : Int32} (h1 : rng n 1 999) (h2 : rng v 0 2) (h3 : rng g 0 10) (h4 : rng h 0 10) (h5 : rng w 0 10) : TI (aGr τ n v g h w) := by
  obtain ⟨t1, t2, t3, t4, t5, t6, t7⟩ := hT
  have e80 : aGr τ n v g h w 8 0 = τ 8 0 := by simp [aGr, up2]
  have e81 : aGr τ n v g h w 8 1 = nI (tG τ + 1) := by simp [aGr, up2]
  have e82 : aGr τ n v g h w 8 2 = τ 8 2 := by simp [aGr, up2]
  have e83 : aGr τ n v g h w 8 3 = τ 8 3 := by simp [aGr, up2]
  have eG : tG (aGr τ n v g h w) = tG τ + 1 := by unfold tG; rw [e81]; exact nI_clamp (by have := t2.2; omega)
  unfold TI
  rw [tQ_of e80, eG, e80, e81, e82, e83]
  refine ⟨t1, ⟨rfl, by omega⟩, fun q hq => ?_, fun i j hi hj => ?_, fun k hk => ?_, t6, t7⟩
  · have := t3 q hq
    simpa [aGr, up2] using this
  · have := t4 i j hi hj
    simpa [aGr, up2] using this
  · by_cases hkg : k = tG τ
    · subst hkg
      simp only [aGr, up2]
      simp
      exact ⟨h1, h2, h3, h4, h5⟩
    · have := t5 k (by omega)
      simpa [aGr, up2, hkg] using this
theorem TI.iQu {τ : tT} (hT : TI τ) (hQ : tQ τ < 8) {k a : Int32} (h1 : rng k 0 6) (h2 : rng a 0 9) : TI (aQu τ k a) := by
  obtain ⟨t1, t2, t3, t4, t5, t6, t7⟩ := hT
  have e80 : aQu τ k a 8 0 = nI (tQ τ + 1) := by simp [aQu, up2]
  have e81 : aQu τ k a 8 1 = τ 8 1 := by simp [aQu, up2]
  have e82 : aQu τ k a 8 2 = τ 8 2 := by simp [aQu, up2]
  have e83 : aQu τ k a 8 3 = τ 8 3 := by simp [aQu, up2]
  have eQ : tQ (aQu τ k a) = tQ τ + 1 := by unfold tQ; rw [e80]; exact nI_clamp (by have := t1.2; omega)
  unfold TI
  rw [tG_of e81, eQ, e80, e81, e82, e83]
  refine ⟨⟨rfl, by omega⟩, t2, fun q hq => ?_, fun i j hi hj => ?_, fun g hg => ?_, t6, t7⟩
  · by_cases hqq : q = tQ τ
    · subst hqq
      simp [aQu, up2]
      exact ⟨h1, h2⟩
    · have := t3 q hq
      simpa [aQu, up2, hqq] using this
  · have := t4 i j hi hj
    have e : aQu τ k a 2 (i * 8 + j) = τ 2 (i * 8 + j) := by simp [aQu, up2]
    rw [e]
    exact ⟨this.1, fun q => this.2 (by omega)⟩
  · have := t5 g hg
    simpa [aQu, up2] using this
theorem TI.iBe {τ : tT} (hT : TI τ) {p q : Nat} (hp : p < tQ τ) (hq : q < tQ τ) {x : Int32} (hx : rng x (-9) 9) : TI (aBe τ p q x) := by
  have hq8 := hT.q8
  obtain ⟨t1, t2, t3, t4, t5, t6, t7⟩ := hT
  have e8 : aBe τ p q x 8 = τ 8 := by unfold aBe; exact up2_n _ _ (by decide)
  unfold TI
  rw [tQ_of (by rw [e8]), tG_of (by rw [e8]), e8]
  refine ⟨t1, t2, fun k hk => ?_, fun i j hi hj => ?_, fun g hg => ?_, t6, t7⟩
  · have := t3 k hk
    simpa [aBe, up2] using this
  · have := t4 i j hi hj
    by_cases he : i * 8 + j = p * 8 + q
    · have e : aBe τ p q x 2 (i * 8 + j) = x := by simp [aBe, up2, he]
      rw [e]
      exact ⟨hx, fun z => by omega⟩
    · have e : aBe τ p q x 2 (i * 8 + j) = τ 2 (i * 8 + j) := by simp [aBe, up2, he]
      rw [e]; exact this
  · have := t5 g hg
    simpa [aBe, up2] using this
theorem TI.sc2 {τ : tT} (hT : TI τ) {x : Int32} (hx : rng x 0 99) : TI (aSc τ 2 x) := by
  obtain ⟨t1, t2, t3, t4, t5, t6, t7⟩ := hT
  have e : ∀ j, j ≠ 2 → aSc τ 2 x 8 j = τ 8 j := fun j hj => aSc_s τ x hj
  unfold TI
  rw [tQ_of (e 0 (by decide)), tG_of (e 1 (by decide)), e 0 (by decide), e 1 (by decide), e 3 (by decide), aSc_r _ _ _ (show (0 : Nat) ≠ 8 by decide), aSc_r _ _ _ (show (1 : Nat) ≠ 8 by decide), aSc_r _ _ _ (show (2 : Nat) ≠ 8 by decide), aSc_r _ _ _ (show (3 : Nat) ≠ 8 by decide), aSc_r _ _ _ (show (4 : Nat) ≠ 8 by decide), aSc_r _ _ _ (show (5 : Nat) ≠ 8 by decide), aSc_r _ _ _ (show (6 : Nat) ≠ 8 by decide), aSc_r _ _ _ (show (7 : Nat) ≠ 8 by decide)]
  exact ⟨t1, t2, t3, t4, t5, by rw [show aSc τ 2 x 8 2 = x from by simp [aSc, up2]]; exact hx, t7⟩
theorem TI.sc3 {τ : tT} (hT : TI τ) {x : Int32} (hx : rng x 0 7) : TI (aSc τ 3 x) := by
  obtain ⟨t1, t2, t3, t4, t5, t6, t7⟩ := hT
  have e : ∀ j, j ≠ 3 → aSc τ 3 x 8 j = τ 8 j := fun j hj => aSc_s τ x hj
  unfold TI
  rw [tQ_of (e 0 (by decide)), tG_of (e 1 (by decide)), e 0 (by decide), e 1 (by decide), e 2 (by decide), aSc_r _ _ _ (show (0 : Nat) ≠ 8 by decide), aSc_r _ _ _ (show (1 : Nat) ≠ 8 by decide), aSc_r _ _ _ (show (2 : Nat) ≠ 8 by decide), aSc_r _ _ _ (show (3 : Nat) ≠ 8 by decide), aSc_r _ _ _ (show (4 : Nat) ≠ 8 by decide), aSc_r _ _ _ (show (5 : Nat) ≠ 8 by decide), aSc_r _ _ _ (show (6 : Nat) ≠ 8 by decide), aSc_r _ _ _ (show (7 : Nat) ≠ 8 by decide)]
  exact ⟨t1, t2, t3, t4, t5, t6, by rw [show aSc τ 3 x 8 3 = x from by simp [aSc, up2]]; exact hx⟩
theorem TI.iVi {τ : tT} (hT : TI τ) {g : Nat} {x : Int32} (hx : rng x 0 2) : TI (aVi τ g x) := by
  obtain ⟨t1, t2, t3, t4, t5, t6, t7⟩ := hT
  have r8 : aVi τ g x 8 = τ 8 := up2_n _ _ (by decide)
  unfold TI
  rw [tQ_of (by rw [r8]), tG_of (by rw [r8]), r8]
  refine ⟨t1, t2, fun k hk => ?_, fun i j hi hj => ?_, fun k hk => ?_, t6, t7⟩
  · have := t3 k hk
    simpa [aVi, up2] using this
  · have := t4 i j hi hj
    simpa [aVi, up2] using this
  · have := t5 k hk
    by_cases hkg : k = g
    · subst hkg
      have e : aVi τ k x 4 k = x := by simp [aVi, up2]
      rw [e]
      refine ⟨?_, hx, ?_⟩
      · simpa [aVi, up2] using this.1
      · simpa [aVi, up2] using this.2.2
    · simpa [aVi, up2, hkg] using this
/-- an item that is well told -/
theorem grS_ok {lt : Nat → Int32} {n : Nat} {ν : tT} {z : Nat × Int32} (hn : n ≤ 160) (hz : z.1 ≤ n) (h : (grS lt n ν z 5).2 = -1) : tG ν < 10 ∧ rng (grV lt n ν z 0) 1 999 ∧ rng (grV lt n ν z 1) 0 2 ∧ rng (grV lt n ν z 2) 0 10 ∧ rng (grV lt n ν z 3) 0 10 ∧ rng (grV lt n ν z 4) 0 10 := by
  have h5 := nuS_ok (lt := lt) (n := n) (by omega) (grZ_le (lt := lt) (ν := ν) hz 4) h
  have h4 := nuS_ok (lt := lt) (n := n) (by omega) (grZ_le (lt := lt) (ν := ν) hz 3) h5.2
  have h3 := nuS_ok (lt := lt) (n := n) (by omega) (grZ_le (lt := lt) (ν := ν) hz 2) h4.2
  have h2 := nuS_ok (lt := lt) (n := n) (by omega) (grZ_le (lt := lt) (ν := ν) hz 1) h3.2
  have h1 := nuS_ok (lt := lt) (n := n) (by omega) (grZ_le (lt := lt) (ν := ν) hz 0) h2.2
  refine ⟨?_, rng_i h1.1 rfl rfl, rng_i h2.1 rfl rfl, rng_i h3.1 rfl rfl, rng_i h4.1 rfl rfl, rng_i h5.1 rfl rfl⟩
  have h0 : (grZ lt n ν z).2 = -1 := h1.2
  unfold grZ at h0
  by_cases hg : tG ν < 10
  · exact hg
  · rw [if_neg hg] at h0
    exact (ftS_f (by omega) h0).elim
theorem quS_ok {lt : Nat → Int32} {n : Nat} {ν : tT} {z : Nat × Int32} (hn : n ≤ 160) (hz : z.1 ≤ n) (h : (quS lt n ν z 2).2 = -1) : tQ ν < 8 ∧ rng (quV lt n ν z 0) 0 6 ∧ rng (quV lt n ν z 1) 0 9 := by
  have h2 := nuS_ok (lt := lt) (n := n) (by omega) (quS_le (lt := lt) (ν := ν) hz 1) h
  have h1 := nuS_ok (lt := lt) (n := n) (by omega) (quS_le (lt := lt) (ν := ν) hz 0) h2.2
  refine ⟨?_, rng_i h1.1 rfl rfl, rng_i h2.1 rfl rfl⟩
  have h0 := h1.2
  rw [quS] at h0
  by_cases hg : tQ ν < 8
  · exact hg
  · rw [if_neg hg] at h0
    exact (ftS_f (by omega) h0).elim
theorem beS_ok {lt : Nat → Int32} {n : Nat} {ν : tT} (hT : TI ν) {z : Nat × Int32} (hn : n ≤ 160) (hz : z.1 ≤ n) (h : (beS lt n ν z 4).2 = -1) : (nuV lt n z = nI (nx (nuV lt n z)) ∧ nx (nuV lt n z) < tQ ν) ∧ (nuV lt n (beS lt n ν z 1) = nI (nx (nuV lt n (beS lt n ν z 1))) ∧ nx (nuV lt n (beS lt n ν z 1)) < tQ ν) ∧ rng (nuV lt n (beS lt n ν z 3)) 0 9 := by
  have hq8 := hT.q8
  have h4 := nuS_ok (lt := lt) (n := n) (by omega) (beS_le (lt := lt) (ν := ν) hz 3) h
  have h3 : (beS lt n ν z 2).2 = -1 := by
    have := h4.2
    rw [beS] at this
    by_cases he : nuV lt n (nuS lt n 0 (nI (tQ ν) - 1) z) = nuV lt n z
    · rw [if_pos he] at this
      exact (ftS_f (by have := beS_le (lt := lt) (ν := ν) hz 1; have e : (beS lt n ν z 1).1 = (nuS lt n 0 (nI (tQ ν) - 1) z).1 := rfl; omega) this).elim
    · rw [if_neg he] at this; exact this
  have h2 := nuS_ok (lt := lt) (n := n) (by omega) (beS_le (lt := lt) (ν := ν) hz 1) h3
  have h1 := nuS_ok (lt := lt) (n := n) (by omega) hz h2.2
  obtain ⟨a, ha, ea⟩ := (lt_Q (n := tQ ν) (by omega)).mp h1.1
  obtain ⟨b, hb, eb⟩ := (lt_Q (n := tQ ν) (by omega)).mp h2.1
  refine ⟨?_, ?_, rng_i h4.1 rfl rfl⟩
  · rw [ea, nx_nI (by omega)]; exact ⟨rfl, ha⟩
  · rw [eb, nx_nI (by omega)]; exact ⟨rfl, hb⟩
theorem rng_mul {x : Int32} (h : rng x 0 9) : rng (1 * x) (-9) 9 ∧ rng (-1 * x) (-9) 9 := by
  obtain ⟨h1, h2⟩ := h
  have e1 : (1 * x).toInt = x.toInt := by rw [Int32.one_mul]
  have e2 : (-1 * x).toInt = -x.toInt := by
    have : -1 * x = -x := by rw [Int32.neg_mul, Int32.one_mul]
    rw [this, Int32.toInt_neg, Int.bmod_def]; omega
  exact ⟨⟨by rw [e1]; omega, by rw [e1]; omega⟩, ⟨by rw [e2]; omega, by rw [e2]; omega⟩⟩
theorem grT_ok {lt : Nat → Int32} {n : Nat} {ν : tT} (hT : TI ν) {z : Nat × Int32} (hn : n ≤ 160) (hz : z.1 ≤ n) : TI (grT lt n ν z) := by
  unfold grT
  by_cases h : (grS lt n ν z 5).2 = -1
  · rw [if_pos h]
    obtain ⟨h0, h1, h2, h3, h4, h5⟩ := grS_ok hn hz h
    exact hT.iGr h0 h1 h2 h3 h4 h5
  · rw [if_neg h]; exact hT
theorem quT_ok {lt : Nat → Int32} {n : Nat} {ν : tT} (hT : TI ν) {z : Nat × Int32} (hn : n ≤ 160) (hz : z.1 ≤ n) : TI (quT lt n ν z) := by
  unfold quT
  by_cases h : (quS lt n ν z 2).2 = -1
  · rw [if_pos h]
    obtain ⟨h0, h1, h2⟩ := quS_ok hn hz h
    exact hT.iQu h0 h1 h2
  · rw [if_neg h]; exact hT
theorem beT_ok {lt : Nat → Int32} {n : Nat} {ν : tT} (hT : TI ν) {z : Nat × Int32} (hn : n ≤ 160) (hz : z.1 ≤ n) : TI (beT lt n ν z 1) ∧ TI (beT lt n ν z (-1)) := by
  unfold beT
  by_cases h : (beS lt n ν z 4).2 = -1
  · rw [if_pos h, if_pos h]
    obtain ⟨h0, h1, h2⟩ := beS_ok hT hn hz h
    exact ⟨hT.iBe h0.2 h1.2 (rng_mul h2).1, hT.iBe h0.2 h1.2 (rng_mul h2).2⟩
  · rw [if_neg h, if_neg h]; exact ⟨hT, hT⟩
theorem itS_le {lt : Nat → Int32} {n : Nat} {ν : tT} {z : Nat × Int32} (hz : z.1 ≤ n) : (itS lt n ν z).1 ≤ n := by
  have h2 := rwS_le (lt := lt) (w := 2) (by decide) hz (kwn 2) (Nat.le_refl _)
  have h3 := rwS_le (lt := lt) (w := 3) (by decide) hz (kwn 3) (Nat.le_refl _)
  have h4 := rwS_le (lt := lt) (w := 4) (by decide) hz (kwn 4) (Nat.le_refl _)
  have h5 := rwS_le (lt := lt) (w := 5) (by decide) hz (kwn 5) (Nat.le_refl _)
  unfold itS
  split
  · exact grZ_le hz 5
  · split
    · exact quS_le hz 2
    · split
      · exact beS_le h2 4
      · split
        · exact beS_le h3 4
        · split
          · exact nuS_le h4
          · split
            · exact nuS_le h5
            · exact hz
theorem itT_ok {lt : Nat → Int32} {n : Nat} {ν : tT} (hT : TI ν) {z : Nat × Int32} (hn : n ≤ 160) (hz : z.1 ≤ n) (h : (itS lt n ν z).2 = -1) : TI (itT lt n ν z) := by
  have h2 := rwS_le (lt := lt) (w := 2) (by decide) hz (kwn 2) (Nat.le_refl _)
  have h3 := rwS_le (lt := lt) (w := 3) (by decide) hz (kwn 3) (Nat.le_refl _)
  have h4 := rwS_le (lt := lt) (w := 4) (by decide) hz (kwn 4) (Nat.le_refl _)
  have h5 := rwS_le (lt := lt) (w := 5) (by decide) hz (kwn 5) (Nat.le_refl _)
  unfold itS at h
  unfold itT
  by_cases c1 : ltr lt n z.1 = 103
  · rw [if_pos c1]; exact grT_ok hT hn hz
  · rw [if_neg c1] at h ⊢
    by_cases c2 : ltr lt n z.1 = 113
    · rw [if_pos c2]; exact quT_ok hT hn hz
    · rw [if_neg c2] at h ⊢
      by_cases c3 : ltr lt n z.1 = 98
      · rw [if_pos c3]; exact (beT_ok hT hn h2).1
      · rw [if_neg c3] at h ⊢
        by_cases c4 : ltr lt n z.1 = 97
        · rw [if_pos c4]; exact (beT_ok hT hn h3).2
        · rw [if_neg c4] at h ⊢
          by_cases c5 : ltr lt n z.1 = 112
          · rw [if_pos c5] at h ⊢
            exact hT.sc2 (rng_i (nuS_ok (by omega) h4 h).1 rfl rfl)
          · rw [if_neg c5] at h ⊢
            by_cases c6 : ltr lt n z.1 = 104
            · rw [if_pos c6] at h ⊢
              exact hT.sc3 (rng_i (nuS_ok (by omega) h5 h).1 rfl rfl)
            · rw [if_neg c6] at h
              exact (ftS_f (by omega) h).elim
/-- items one behind the other: where it ends, the town, how many -/
def rdS (lt : Nat → Int32) (n : Nat) : Nat → (Nat × Int32) → tT → Nat → ((Nat × Int32) × tT × Nat)
  | 0, z, ν, k => (z, ν, k)
  | m + 1, z, ν, k => if z.2 = -1 ∧ z.1 < n then rdS lt n m (itS lt n ν (rlS lt n 59 z)) (itT lt n ν (rlS lt n 59 z)) (k + 1) else (z, ν, k)
def rdZ (lt : Nat → Int32) (n : Nat) (τ : tT) : (Nat × Int32) × tT × Nat := rdS lt n n (itS lt n τ (0, -1)) (itT lt n τ (0, -1)) 1
