/-! what the walks of the order need -/
theorem set_nI {x : Int32} {n : Nat} (hn : n ≤ 8) (h : ush x (nI n) = 0) : ∃ S, S < 2 ^ n ∧ x = nI S := by
  have hk : ∀ n, n < 9 → (((nI n).toUInt32 &&& Int32.toUInt32 31).toBitVec % 32).toNat = n := by decide
  have h1 := pk_ushr x (nI n) n (hk n (by omega))
  have h2 : (x.toUInt32 >>> ((nI n).toUInt32 &&& Int32.toUInt32 31)).toInt32 = 0 := h
  rw [h2] at h1
  have h3 : x.toBitVec.toNat / 2 ^ n = 0 := h1.symm.trans rfl
  have h4 : x.toBitVec.toNat < 2 ^ n := by
    rcases Nat.div_eq_zero_iff.mp h3 with h5 | h5
    · have : 0 < 2 ^ n := Nat.two_pow_pos n
      omega
    · exact h5
  refine ⟨x.toBitVec.toNat, h4, ?_⟩
  apply Int32.toBitVec_inj.mp
  apply BitVec.eq_of_toNat_eq
  have := p28 hn
  show _ = (BitVec.ofNat 32 x.toBitVec.toNat).toNat
  rw [BitVec.toNat_ofNat, Nat.mod_eq_of_lt (by omega)]
theorem set_ush {S n : Nat} (hn : n ≤ 8) (h : S < 2 ^ n) : ush (nI S) (nI n) = 0 := by
  have := p28 hn
  exact (ush_0 n (by omega) S (by omega)).mpr h
theorem dif_0 {R S : Nat} (hR : R < 256) (hS : S < 256) : difB R S = 0 ↔ sub8 R S := by
  rw [← sub_iff hR hS, difB_nI hR hS, nI_z (by have := difB_lt (b := S) hR; omega)]
theorem mMin_nI {a b : Nat} (ha : a < 2 ^ 31) (hb : b < 2 ^ 31) : mMin (nI a) (nI b) = nI (min a b) := by
  unfold mMin
  by_cases h : b < a
  · rw [if_pos ((nI_ltI hb ha).mpr h), Nat.min_eq_right (by omega)]
  · rw [if_neg (fun q => h ((nI_ltI hb ha).mp q)), Nat.min_eq_left (by omega)]
theorem clr_le (R q : Nat) : clrB R q ≤ R := by
  unfold clrB; split
  · exact Nat.sub_le _ _
  · exact Nat.le_refl _
theorem clr_lt {R q : Nat} (hR : R < 256) : clrB R q < 256 := Nat.lt_of_le_of_lt (clr_le R q) hR
theorem bsF_le (τ : tT) {S R q : Nat} (hR : R < 256) : (bsF τ S R q).1 ≤ 9000 := by
  have h1 := chN_le τ (memL (difB S R)) q
  have h2 := (BS_len τ (S := S) (clr_lt (q := q) hR)).1
  show chN τ (memL (difB S R)) q + (BS τ S (clrB R q)).1 ≤ 9000
  omega
theorem sub_clr {R S q : Nat} (hR : R < 256) (hq : q < 8) (hs : sub8 R S) : sub8 (clrB R q) S := by
  intro p hp hb
  rw [clrB_bit R hR q hq p hp] at hb
  exact hs p hp (by revert hb; cases R.testBit p <;> simp)
def shOK (τ : tT) (sh : Nat → Int32) : Prop := ∀ k, k < tQ τ → sh k = share τ k
def lrOK (τ : tT) (S R : Nat) (lr : Nat → Int32) : Prop := ∀ k, k < R → sub8 k S → lr k = nI (BS τ S k).1
theorem ls_v {τ : tT} (hT : TI τ) {S R q : Nat} (hS : S < 2 ^ tQ τ) (hR : R < 256) (hs : sub8 R S) (hq : q < tQ τ) (hb : bitP (nI R) q) {sh lr : Nat → Int32} (hsh : shOK τ sh) (hlr : lrOK τ S R lr) : mAbs (shB τ q (sh q) (nI S &&& (nI R ^^^ (-1))) - sh q) + lr (clrB R q) = nI (bsF τ S R q).1 := by
  have hq8 : q < 8 := by have := hT.q8; omega
  have hb2 := (bitP_nI R hR q hq8).mp hb
  rw [hsh q hq, ch_S hT hS hR hq8, hlr _ (mem_len R hR q hq8 hb2).2 (sub_clr hR hq8 hs), nI_add]
  rfl
theorem BS_0 (τ : tT) (S : Nat) : BS τ S 0 = (0, []) := rfl
def oSh (τ : tT) (sh : Nat → Int32) (i : Nat) : Nat → Int32 := fun k => if k < i then share τ k else sh k
def oLr (τ : tT) (S : Nat) (lr : Nat → Int32) (i : Nat) : Nat → Int32 := fun k => if 1 ≤ k ∧ k < i ∧ difB k S = 0 then nI (BS τ S k).1 else lr k
theorem oSh_0 (τ : tT) (sh : Nat → Int32) : oSh τ sh 0 = sh := by funext k; unfold oSh; rw [if_neg (by omega)]
theorem oSh_s (τ : tT) (sh : Nat → Int32) (i : Nat) : upd (oSh τ sh i) i (share τ i) = oSh τ sh (i + 1) := by
  funext k; unfold oSh upd; dsimp only
  by_cases h : k = i
  · subst h; rw [if_pos rfl, if_pos (by omega)]
  · rw [if_neg h]; by_cases h2 : k < i
    · rw [if_pos h2, if_pos (by omega)]
    · rw [if_neg h2, if_neg (by omega)]
theorem oSh_ok (τ : tT) (sh : Nat → Int32) : shOK τ (oSh τ sh (tQ τ)) := fun k hk => if_pos hk
theorem oLr_1 (τ : tT) (S : Nat) (lr : Nat → Int32) : oLr τ S lr 1 = lr := by funext k; unfold oLr; rw [if_neg (by omega)]
theorem oLr_s (τ : tT) {S : Nat} (lr : Nat → Int32) {i : Nat} (h1 : 1 ≤ i) (h : difB i S = 0) : upd (oLr τ S lr i) i (nI (BS τ S i).1) = oLr τ S lr (i + 1) := by
  funext k; unfold oLr upd; dsimp only
  by_cases hk : k = i
  · subst hk; rw [if_pos rfl, if_pos ⟨h1, by omega, h⟩]
  · rw [if_neg hk]; by_cases h2 : 1 ≤ k ∧ k < i ∧ difB k S = 0
    · rw [if_pos h2, if_pos ⟨h2.1, by omega, h2.2.2⟩]
    · rw [if_neg h2, if_neg (fun q => h2 ⟨q.1, by omega, q.2.2⟩)]
theorem oLr_f (τ : tT) {S : Nat} (lr : Nat → Int32) {i : Nat} (h : ¬ difB i S = 0) : oLr τ S lr i = oLr τ S lr (i + 1) := by
  funext k; unfold oLr
  by_cases h2 : 1 ≤ k ∧ k < i ∧ difB k S = 0
  · rw [if_pos h2, if_pos ⟨h2.1, by omega, h2.2.2⟩]
  · rw [if_neg h2, if_neg (fun q => ?_)]
    have hne : k ≠ i := fun z => h (by rw [← z]; exact q.2.2)
    exact h2 ⟨q.1, by omega, q.2.2⟩
theorem oLr_ok (τ : tT) {S : Nat} (hS : S < 256) {lr : Nat → Int32} (h0 : lr 0 = 0) {i : Nat} (hi : i ≤ 256) : lrOK τ S i (oLr τ S lr i) := by
  intro k hk hs
  unfold oLr
  by_cases h1 : 1 ≤ k
  · rw [if_pos ⟨h1, hk, (dif_0 (by omega) hS).mpr hs⟩]
  · rw [if_neg (by omega), show k = 0 from by omega, h0, BS_0]; rfl
/-- the first of a set -/
def fiO (τ : tT) (S R : Nat) : Nat := (BS τ S R).2.headD 0
theorem bs_cons (τ : tT) {S R : Nat} (hS : S < 256) (hR : R < 256) (hs : sub8 R S) (h0 : R ≠ 0) : fiO τ S R < 8 ∧ R.testBit (fiO τ S R) = true ∧ BS τ S R = bsF τ S R (fiO τ S R) := by
  have h8 := (BS_len τ (S := S) hR).1
  have hst := BS_step τ hS hR hs h0
  rcases fm_in ((memL R).map (bsF τ S R)) (1000000, []) with h | h
  · rw [hst, h] at h8; exact absurd h8 (by decide)
  · obtain ⟨p, hp, e⟩ := List.mem_map.mp h
    rw [← hst] at e
    have e2 : fiO τ S R = p := by unfold fiO; rw [← e]; rfl
    rw [e2]
    exact ⟨(mem_iff.mp hp).1, (mem_iff.mp hp).2, e.symm⟩
theorem fiO_of (τ : tT) {S R q : Nat} (h : BS τ S R = bsF τ S R q) : fiO τ S R = q := by unfold fiO; rw [h]; rfl
theorem bs_drop (τ : tT) {S R k : Nat} (hS : S < 256) (hR : R < 256) (hs : sub8 R S) (h0 : R ≠ 0) (hl : (BS τ S S).2.drop k = (BS τ S R).2) : (BS τ S S).2.drop (k + 1) = (BS τ S (clrB R (fiO τ S R))).2 := by
  rw [← List.drop_drop, hl, (bs_cons τ hS hR hs h0).2.2]
  rfl
theorem bs_ne (τ : tT) {S R k : Nat} (hS : S < 256) (hR : R < 256) (hl : (BS τ S S).2.drop k = (BS τ S R).2) (hk : k < (memL S).length) : R ≠ 0 := by
  intro z
  subst z
  have h1 := (BS_len τ (S := S) hS).2.1
  have h2 := congrArg List.length hl
  rw [List.length_drop, h1, BS_0] at h2
  simp at h2
  omega
theorem bs_get (τ : tT) {S R k : Nat} (hl : (BS τ S S).2.drop k = (BS τ S R).2) : (BS τ S S).2.getD k 0 = fiO τ S R := by
  unfold fiO
  rw [← hl, List.headD_eq_head?_getD, List.head?_drop, List.getD_eq_getElem?_getD]
def rcOr (τ : tT) (set i : Int32) : Int32 := if ¬ (-1 ≤ i ∧ i ≤ bcV set - 1) then -5 else if 6 < bcV set ∨ ¬ ush set (nI (tQ τ)) = 0 then -6 else 0
def orV (τ : tT) (S : Nat) (i : Int32) : Int32 := if i = -1 then nI (BS τ S S).1 else nI ((BS τ S S).2.getD (nx i) 0)
theorem ix_nI {i : Int32} {n : Nat} (hn : n < 2 ^ 31) (h : -1 ≤ i ∧ i ≤ nI n - 1) (h2 : ¬ i = -1) : ∃ j, j < n ∧ i = nI j := by
  have b1 : (-1 : Int) ≤ i.toInt := Int32.le_iff_toInt_le.mp h.1
  have b2 : ¬ i.toInt = -1 := fun q => h2 (Int32.toInt_inj.mp q)
  exact (lt_Q hn).mp ⟨Int32.le_iff_toInt_le.mpr (show (0 : Int) ≤ i.toInt by omega), h.2⟩
theorem sub_self8 (S : Nat) : sub8 S S := fun _ _ h => h
theorem sub_le8 {R S : Nat} (hR : R < 256) (hs : sub8 R S) : R ≤ S := by
  have e : R &&& S = R := by
    apply Nat.eq_of_testBit_eq
    intro i
    rw [Nat.testBit_and]
    by_cases hi : i < 8
    · cases hb : R.testBit i
      · rfl
      · rw [hs i hi hb]; rfl
    · rw [bit_hi hR (by omega)]; rfl
  exact Nat.le_trans (Nat.le_of_eq e.symm) Nat.and_le_right
theorem clr_pow {R q n : Nat} (h : R < 2 ^ n) : clrB R q < 2 ^ n := Nat.lt_of_le_of_lt (clr_le R q) h
