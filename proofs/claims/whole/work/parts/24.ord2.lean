/-! sets of questions as numbers -/
def ush (x n : Int32) : Int32 := (x.toUInt32 >>> (Int32.toUInt32 n &&& Int32.toUInt32 31)).toInt32
def bc1 (x : Int32) : Int32 := x - (ush x 1 &&& 1431655765)
def bc2 (x : Int32) : Int32 := (x &&& 858993459) + (ush x 2 &&& 858993459)
def bc3 (x : Int32) : Int32 := x + ush x 4 &&& 252645135
def bc4 (x : Int32) : Int32 := x + ush x 8
def bc5 (x : Int32) : Int32 := x + ush x 16
def bcV (x : Int32) : Int32 := bc5 (bc4 (bc3 (bc2 (bc1 x)))) &&& 63
theorem bcV_nI : ∀ S, S < 256 → bcV (nI S) = nI (memL S).length := by decide +kernel
theorem nI_bit (a i : Nat) (hi : i < 32) : (nI a).toBitVec.getLsbD i = a.testBit i := by
  show (BitVec.ofNat 32 a).getLsbD i = a.testBit i
  rw [BitVec.getLsbD_ofNat]; simp [hi]
theorem p28 {n : Nat} (h : n ≤ 8) : 2 ^ n ≤ 256 := (Nat.pow_le_pow_right (by decide) h : 2 ^ n ≤ 2 ^ 8)
theorem bit_hi {a i : Nat} (ha : a < 256) (hi : 8 ≤ i) : a.testBit i = false := Nat.testBit_lt_two_pow (Nat.lt_of_lt_of_le ha (Nat.pow_le_pow_right (by decide) hi : 2 ^ 8 ≤ 2 ^ i))
theorem bit_255 : ∀ i, i < 8 → (255 : Nat).testBit i = true := by decide
theorem difB_bit (a b i : Nat) : (difB a b).testBit i = (a.testBit i && ((255 : Nat).testBit i ^^ b.testBit i)) := by
  unfold difB; rw [Nat.testBit_and, Nat.testBit_xor]
theorem difB_lt {a b : Nat} (ha : a < 256) : difB a b < 256 := Nat.lt_of_le_of_lt Nat.and_le_left ha
theorem difB_nI {a b : Nat} (ha : a < 256) (hb : b < 256) : nI a &&& (nI b ^^^ (-1)) = nI (difB a b) := by
  apply Int32.toBitVec_inj.mp
  apply BitVec.eq_of_getLsbD_eq
  intro i hi
  rw [nI_bit _ _ hi, difB_bit]
  show ((nI a).toBitVec &&& ((nI b).toBitVec ^^^ (-1 : Int32).toBitVec)).getLsbD i = _
  rw [BitVec.getLsbD_and, BitVec.getLsbD_xor, nI_bit _ _ hi, nI_bit _ _ hi]
  have e : (-1 : Int32).toBitVec.getLsbD i = true := by
    have : (-1 : Int32).toBitVec = BitVec.allOnes 32 := by decide
    rw [this, BitVec.getLsbD_allOnes]; simp [hi]
  rw [e]
  by_cases h8 : i < 8
  · rw [bit_255 i h8, Bool.xor_comm]
  · rw [bit_hi ha (by omega)]; rfl
theorem bitP_nI : ∀ D, D < 256 → ∀ p, p < 8 → (bitP (nI D) p ↔ D.testBit p = true) := by decide +kernel
def sub8 (R S : Nat) : Prop := ∀ q, q < 8 → R.testBit q = true → S.testBit q = true
theorem sub_iff {R S : Nat} (hR : R < 256) (hS : S < 256) : nI R &&& (nI S ^^^ (-1)) = 0 ↔ sub8 R S := by
  rw [difB_nI hR hS, nI_z (by have := difB_lt (b := S) hR; omega)]
  constructor
  · intro h q hq hr
    have : (difB R S).testBit q = false := by rw [h]; exact Nat.zero_testBit q
    rw [difB_bit, bit_255 q hq, hr] at this
    revert this; cases S.testBit q <;> simp
  · intro h
    apply Nat.eq_of_testBit_eq
    intro i
    rw [difB_bit, Nat.zero_testBit]
    by_cases h8 : i < 8
    · rw [bit_255 i h8]
      cases hr : R.testBit i
      · rfl
      · rw [h i h8 hr]; rfl
    · rw [bit_hi hR (by omega)]; rfl
theorem ush_0 : ∀ n, n < 9 → ∀ S, S < 256 → ((ush (nI S) (nI n) = 0) ↔ S < 2 ^ n) := by decide +kernel
theorem mem_n : ∀ n, n < 9 → ∀ R, R < 256 → R < 2 ^ n → (List.range n).filter (fun q => R.testBit q) = memL R := by decide +kernel
theorem bit_n {n R p : Nat} (h : R < 2 ^ n) (hp : n ≤ p) : R.testBit p = false := Nat.testBit_lt_two_pow (Nat.lt_of_lt_of_le h (Nat.pow_le_pow_right (by decide) hp))
theorem sum_cut {f : Nat → Int32} {n : Nat} : ∀ m, n ≤ m → (∀ k, n ≤ k → k < m → f k = 0) → sumN f m = sumN f n
  | 0, h, _ => by rw [show n = 0 from by omega]
  | m + 1, h, hk => by
    by_cases e : n = m + 1
    · rw [e]
    · rw [sumN, hk m (by omega) (Nat.lt_succ_self m), Int32.add_zero]
      exact sum_cut m (by omega) (fun k h1 h2 => hk k h1 (by omega))
theorem brS_L {τ : tT} (hT : TI τ) {D : Nat} (hD : D < 2 ^ tQ τ) (q : Nat) : brS τ q (nI D) = brL τ q (memL D) := by
  have hq8 := hT.q8
  have hD8 : D < 256 := Nat.lt_of_lt_of_le hD (p28 hq8)
  rw [brL_mem, sum_cut (n := tQ τ) 8 hq8 (fun k h1 h2 => by rw [bit_n hD h1]; rfl)]
  refine sumN_congr _ (fun p hp => ?_)
  by_cases h : D.testBit p = true
  · rw [if_pos h, if_pos ((bitP_nI D hD8 p (by omega)).mpr h)]
  · rw [if_neg h, if_neg (fun z => h ((bitP_nI D hD8 p (by omega)).mp z))]
def BS (τ : tT) (S R : Nat) : Nat × List Nat := bstN τ (memL R).length (memL (difB S R)) (memL R)
theorem ch_S {τ : tT} (hT : TI τ) {S R : Nat} (hS : S < 2 ^ tQ τ) (hR : R < 256) {q : Nat} (hq : q < 8) : mAbs (shB τ q (share τ q) (nI S &&& (nI R ^^^ (-1))) - share τ q) = nI (chN τ (memL (difB S R)) q) := by
  have hS8 : S < 256 := Nat.lt_of_lt_of_le hS (p28 hT.q8)
  rw [difB_nI hS8 hR, ← chL_nI hT _ hq, shB, brS_L hT (D := difB S R) (Nat.lt_of_le_of_lt Nat.and_le_left hS), chL]
theorem dif_clr {S R : Nat} (hS : S < 256) (hR : R < 256) (hs : sub8 R S) {q : Nat} (hq : q < 8) (hb : R.testBit q = true) (τ : tT) (z : Nat) : brL τ z (q :: memL (difB S R)) = brL τ z (memL (difB S (clrB R q))) := by
  have h := sum_at (f := fun p => if (difB S R).testBit p = true then τ 2 (p * 8 + z) else 0) (f' := fun p => if (difB S (clrB R q)).testBit p = true then τ 2 (p * 8 + z) else 0) (g := q) 8 hq (fun k hk hne => by
    show (if _ then _ else _) = (if _ then _ else _)
    rw [difB_bit, difB_bit, clrB_bit R hR q hq k hk]
    have : (k == q) = false := by simp [hne]
    rw [this]; simp)
  rw [brL, brL_mem, brL_mem, h]
  have e1 : (difB S R).testBit q = false := by rw [difB_bit, hb, bit_255 q hq]; simp
  have e2 : (difB S (clrB R q)).testBit q = true := by rw [difB_bit, clrB_bit R hR q hq q hq, bit_255 q hq, hs q hq hb]; simp
  simp only [e1, e2]
  grind
def bsF (τ : tT) (S R q : Nat) : Nat × List Nat := (chN τ (memL (difB S R)) q + (BS τ S (clrB R q)).1, q :: (BS τ S (clrB R q)).2)
theorem BS_step (τ : tT) {S R : Nat} (hS : S < 256) (hR : R < 256) (hs : sub8 R S) (h0 : R ≠ 0) : BS τ S R = fm ((memL R).map (bsF τ S R)) (1000000, []) := by
  have hne : ∀ R, R < 256 → R ≠ 0 → (memL R).length ≠ 0 := by decide +kernel
  unfold BS
  obtain ⟨n, hn⟩ := Nat.exists_eq_succ_of_ne_zero (hne R hR h0)
  rw [hn, bstN, selL_mem R hR, List.map_map]
  refine congrArg (fun z => fm z (1000000, [])) (List.map_congr_left (fun q hq => ?_))
  obtain ⟨hq8, hb⟩ := mem_iff.mp hq
  have hl := (mem_len R hR q hq8 hb).1
  have e : bstN τ n (q :: memL (difB S R)) (memL (clrB R q)) = BS τ S (clrB R q) := by
    unfold BS
    rw [show (memL (clrB R q)).length = n from by omega]
    exact bst_cg τ n _ _ _ (dif_clr hS hR hs hq8 hb τ)
  show (chN τ (memL (difB S R)) q + (bstN τ n (q :: memL (difB S R)) (memL (clrB R q))).1, q :: (bstN τ n (q :: memL (difB S R)) (memL (clrB R q))).2) = bsF τ S R q
  rw [e]; rfl
/-- the least of the first so many -/
def lsN (τ : tT) (S R i : Nat) : Nat := (fm (((List.range i).filter (fun q => R.testBit q)).map (bsF τ S R)) (1000000, [])).1
theorem lsN_le (τ : tT) (S R i : Nat) : lsN τ S R i ≤ 1000000 := fm_le _ _
theorem lsN_t (τ : tT) {S R i : Nat} (h : R.testBit i = true) : lsN τ S R (i + 1) = min (lsN τ S R i) (bsF τ S R i).1 := by
  unfold lsN
  rw [List.range_succ, List.filter_append, List.map_append, fm_app, List.filter_cons_of_pos h]
  show (if _ then _ else _ : Nat × List Nat).1 = _
  split <;> omega
theorem lsN_f (τ : tT) {S R i : Nat} (h : ¬ R.testBit i = true) : lsN τ S R (i + 1) = lsN τ S R i := by
  unfold lsN
  rw [List.range_succ, List.filter_append, List.map_append, fm_app, List.filter_cons_of_neg h]
  rfl
theorem lsN_end (τ : tT) {S R n : Nat} (hS : S < 256) (hR : R < 256) (hs : sub8 R S) (h0 : R ≠ 0) (hn : n ≤ 8) (hRn : R < 2 ^ n) : lsN τ S R n = (BS τ S R).1 := by
  unfold lsN
  rw [mem_n n (by omega) R hR hRn, BS_step τ hS hR hs h0]
theorem fm_self {l : List (Nat × List Nat)} {e : Nat × List Nat} (h : (fm l e).1 = e.1) : fm l e = e := by
  have := fm_b l e e (Nat.le_refl _)
  rw [if_neg (by omega)] at this
  exact this
theorem fm_first {l1 l2 : List (Nat × List Nat)} {e b : Nat × List Nat} (h1 : ∀ x, x ∈ l1 → x.1 ≠ (fm (l1 ++ e :: l2) b).1) (he : e.1 = (fm (l1 ++ e :: l2) b).1) (hb : (fm (l1 ++ e :: l2) b).1 < b.1) : fm (l1 ++ e :: l2) b = e := by
  rw [fm_app, fm] at h1 he hb ⊢
  have h2 : (fm l1 b).1 ≠ e.1 := by
    rcases fm_in l1 b with h | h
    · rw [h]; omega
    · intro q; exact h1 _ h (q.trans he)
  by_cases h3 : e.1 < (fm l1 b).1
  · rw [if_pos h3] at he ⊢
    exact fm_self he.symm
  · rw [if_neg h3] at he
    have := fm_le l2 (fm l1 b)
    omega
theorem BS_len (τ : tT) {S R : Nat} (hR : R < 256) : (BS τ S R).1 ≤ 8000 ∧ (BS τ S R).2.length = (memL R).length ∧ ∀ z, z ∈ (BS τ S R).2 → z ∈ memL R := by
  have h8 : (memL R).length ≤ 8 := by unfold memL; exact Nat.le_trans (List.length_filter_le _ _) (by simp)
  have := bst_le τ (memL R).length (memL (difB S R)) (memL R) (by omega) rfl
  exact ⟨by have := this.1; unfold BS; omega, this.2⟩
theorem bs_hit (τ : tT) {S R q : Nat} (hS : S < 256) (hR : R < 256) (hs : sub8 R S) (hq : q < 8) (hb : R.testBit q = true) (he : (bsF τ S R q).1 = (BS τ S R).1) (hlt : ∀ p, p < q → R.testBit p = true → (bsF τ S R p).1 ≠ (BS τ S R).1) : BS τ S R = bsF τ S R q := by
  have h0 : R ≠ 0 := by intro z; rw [z, Nat.zero_testBit] at hb; exact absurd hb (by decide)
  have hsplit : ∀ R, R < 256 → ∀ q, q < 8 → R.testBit q = true → memL R = (List.range q).filter (fun p => R.testBit p) ++ q :: (memL R).drop (((List.range q).filter (fun p => R.testBit p)).length + 1) := by decide +kernel
  have h8 := (BS_len τ (S := S) hR).1
  have hst := BS_step τ hS hR hs h0
  rw [hst] at he hlt h8 ⊢
  rw [hsplit R hR q hq hb, List.map_append, List.map_cons] at he hlt h8 ⊢
  refine fm_first (fun x hx => ?_) he (Nat.lt_of_le_of_lt h8 (by decide))
  obtain ⟨p, hp, rfl⟩ := List.mem_map.mp hx
  have hp2 := List.mem_filter.mp hp
  exact hlt p (List.mem_range.mp hp2.1) hp2.2
theorem bs_some (τ : tT) {S R n : Nat} (hS : S < 256) (hR : R < 256) (hs : sub8 R S) (h0 : R ≠ 0) (hn : n ≤ 8) (hRn : R < 2 ^ n) (hlt : ∀ p, p < n → R.testBit p = true → (bsF τ S R p).1 ≠ (BS τ S R).1) : False := by
  have h8 := (BS_len τ (S := S) hR).1
  have hst := BS_step τ hS hR hs h0
  rcases fm_in ((memL R).map (bsF τ S R)) (1000000, []) with h | h
  · rw [hst, h] at h8; exact absurd h8 (by decide)
  · obtain ⟨p, hp, e⟩ := List.mem_map.mp h
    obtain ⟨hp8, hb⟩ := mem_iff.mp hp
    have hpn : p < n := Nat.not_le.mp (fun z => by rw [bit_n hRn z] at hb; exact absurd hb (by decide))
    exact hlt p hpn hb (by rw [hst, e])
