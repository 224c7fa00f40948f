/-! what is said, and what comes of it: the values that both programs tell -/
def sPl (v n : Int32) : Int32 := if v = 0 then n else if v = 1 then 0 else n / 2
def sTu (v n : Int32) : Int32 := if v = 1 then n else if v = 0 then 0 else n / 2
def sLd (g a : Int32) : Int32 := if g + a ≤ 10 then g + a else 10
def sYes (k a v g n : Int32) : Int32 := if k = 1 then sPl v n + (n - sPl v n) * g / 10 else if k = 2 then sTu v n else if k = 3 then sPl v n + (n - sPl v n) * sLd g a / 10 else if k = 4 then sPl v n * (10 - a) / 10 else if k = 5 then sTu v n * (10 - a) / 10 else if k = 6 then n / 2 * (10 - a) / 10 else sPl v n
def yQ (τ : tT) (q : Nat) (v g n : Int32) : Int32 := sYes (τ 0 q) (τ 1 q) v g n
def yG (τ : tT) (q g : Nat) (n : Int32) : Int32 := yQ τ q (τ 4 g) (τ 5 g) n
def sumN (f : Nat → Int32) : Nat → Int32
  | 0 => 0
  | n + 1 => sumN f n + f n
theorem sumN_congr {f g : Nat → Int32} : ∀ n, (∀ k, k < n → f k = g k) → sumN f n = sumN g n
  | 0, _ => rfl
  | n + 1, h => by rw [sumN, sumN, sumN_congr n (fun k hk => h k (Nat.lt_succ_of_lt hk)), h n (Nat.lt_succ_self n)]
abbrev bitP (s : Int32) (g : Nat) : Prop := ¬ s &&& (1 <<< (nI g &&& 31)) = 0
def pplS (τ : tT) (s : Int32) : Int32 := sumN (fun g => if bitP s g then τ 3 g else 0) (tG τ)
def allS (τ : tT) (q : Nat) (s : Int32) : Int32 := sumN (fun g => if bitP s g then yG τ q g (τ 3 g) else 0) (tG τ)
def shS (τ : tT) (q : Nat) (s : Int32) : Int32 := sTh (allS τ q s) (pplS τ s)
def ppl (τ : tT) : Int32 := sumN (τ 3) (tG τ)
def allN (τ : tT) (q : Nat) : Int32 := sumN (fun g => yG τ q g (τ 3 g)) (tG τ)
def share (τ : tT) (q : Nat) : Int32 := sTh (allN τ q) (ppl τ)
theorem bit_all : ∀ g, g < 10 → bitP 1023 g := by decide
theorem pplS_all {τ : tT} (hT : TI τ) : pplS τ 1023 = ppl τ := sumN_congr _ (fun g hg => if_pos (bit_all g (by have := hT.g10; omega)))
theorem allS_all {τ : tT} (hT : TI τ) (q : Nat) : allS τ q 1023 = allN τ q := sumN_congr _ (fun g hg => if_pos (bit_all g (by have := hT.g10; omega)))
theorem shS_all {τ : tT} (hT : TI τ) (q : Nat) : shS τ q 1023 = share τ q := by rw [shS, pplS_all hT, allS_all hT, share]
def holdN (τ : tT) : Int32 := sumN (fun g => if τ 4 g = 0 then τ 3 g else 0) (tG τ)
def hold (τ : tT) : Int32 := sTh (holdN τ) (ppl τ)
def brS (τ : tT) (q : Nat) (s : Int32) : Int32 := sumN (fun p => if bitP s p then τ 2 (p * 8 + q) else 0) (tQ τ)
def shB (τ : tT) (q : Nat) (x s : Int32) : Int32 := mMax 0 (mMin 1000 (x + 10 * brS τ q s))
abbrev undr (k : Nat) (w : Int32) : Prop := w = nI k ∨ w = 0 ∨ (k = 3 ∧ w = 1) ∨ (k = 5 ∧ w = 2) ∨ (k = 6 ∧ w = 4)
def tK (τ : tT) (q : Nat) : Nat := (τ 0 q).toNatClampNeg
def tC (τ : tT) (g : Nat) : Nat := (τ 3 g).toNatClampNeg
theorem TI.k {τ : tT} (h : TI τ) {q : Nat} (hq : q < 8) : τ 0 q = nI (tK τ q) ∧ tK τ q ≤ 6 := by
  have h1 := rng_nI (h.2.2.1 q hq).1
  exact ⟨h1.1, by have := h1.2; show (τ 0 q).toNatClampNeg ≤ 6; omega⟩
theorem TI.c {τ : tT} (h : TI τ) {g : Nat} (hg : g < tG τ) : τ 3 g = nI (tC τ g) ∧ tC τ g ≤ 999 ∧ 0 < tC τ g := by
  have h0 := (h.2.2.2.2.1 g hg).1
  have h1 := rng_nI (x := τ 3 g) (b := 999) ⟨by have := h0.1; omega, h0.2⟩
  refine ⟨h1.1, by have := h1.2; show (τ 3 g).toNatClampNeg ≤ 999; omega, ?_⟩
  have h2 : (((τ 3 g).toNatClampNeg : Nat) : Int) = (τ 3 g).toInt := by
    show (((τ 3 g).toInt.toNat : Nat) : Int) = _
    have := h0.1; omega
  have := h0.1
  show 0 < (τ 3 g).toNatClampNeg
  omega
def wrong (τ : tT) (q : Nat) : Int32 := (if undr (tK τ q) 2 then 1000 - share τ q else share τ q) - hold τ
/-- left after so many tries; who has answered by then -/
def lfN (τ : tT) (g : Nat) : Nat → Int32
  | 0 => τ 3 g
  | t + 1 => lfN τ g t - lfN τ g t * τ 6 g / 10
def anN (τ : tT) (g : Nat) : Nat → Int32
  | 0 => 0
  | t + 1 => anN τ g t + lfN τ g t * τ 6 g / 10 * τ 7 g / 10
def lfB (τ : tT) (t : Nat) : Int32 := sumN (fun g => lfN τ g t) (tG τ)
def anB (τ : tT) (t u : Nat) : Int32 := sumN (fun g => anN τ g u - anN τ g t) (tG τ)
def shA (τ : tT) (q t u : Nat) : Int32 := sTh (sumN (fun g => yG τ q g (anN τ g u - anN τ g t)) (tG τ)) (anB τ t u)
def off (τ : tT) (q t : Nat) : Int32 := shA τ q 0 t - share τ q
def cost (τ : tT) (t : Nat) : Int32 := τ 8 2 * sumN (lfB τ) t
def enF (τ : tT) (q : Nat) (v : Int32) : Nat → Nat → Int32
  | 0, _ => -1
  | n + 1, t => if mAbs (off τ q t) ≤ v then nI t else enF τ q v n (t + 1)
def fiN (τ : tT) (q : Nat) (c : Int32) : Nat → Nat
  | 0 => 0
  | t + 1 => if cost τ (t + 1) ≤ c ∧ mAbs (off τ q (t + 1)) < mAbs (off τ q (fiN τ q c t)) then t + 1 else fiN τ q c t
def nvN (τ : tT) : Nat → Int32
  | 0 => 0
  | g + 1 => if anN τ g 9 = 0 then nvN τ g ||| (1 <<< (nI g &&& 31)) else nvN τ g
