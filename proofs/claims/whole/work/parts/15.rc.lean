/-! refusals, a code a call (0: none), and the answers of what isn't refused -/
def rfI (rr : Nat → Int32) (k : Int32) : Nat → Int32 := if -7 ≤ k ∧ k ≤ -1 then upd rr (nx (-k)) (rr (nx (-k)) + 1) else rr
theorem rfI_0 (rr : Nat → Int32) : rfI rr 0 = rr := if_neg (by decide)
abbrev isQ (τ : tT) (x : Int32) : Prop := 0 ≤ x ∧ x ≤ nI (tQ τ) - 1
abbrev isG (τ : tT) (x : Int32) : Prop := 0 ≤ x ∧ x ≤ nI (tG τ) - 1
theorem isQ_nI {τ : tT} (h : TI τ) {x : Int32} (hx : isQ τ x) : ∃ q, q < tQ τ ∧ x = nI q := (lt_Q (by have := h.q8; omega)).mp hx
theorem isG_nI {τ : tT} (h : TI τ) {x : Int32} (hx : isG τ x) : ∃ g, g < tG τ ∧ x = nI g := (lt_Q (by have := h.g10; omega)).mp hx
theorem nI_isQ {τ : tT} (h : TI τ) {q : Nat} (hq : q < tQ τ) : isQ τ (nI q) := (lt_Q (by have := h.q8; omega)).mpr ⟨q, hq, rfl⟩
theorem nI_isG {τ : tT} (h : TI τ) {g : Nat} (hg : g < tG τ) : isG τ (nI g) := (lt_Q (by have := h.g10; omega)).mpr ⟨g, hg, rfl⟩
def rcRow (s k n : Int32) : Int32 := if ¬ in8 s then -1 else if n < 0 then -4 else if ¬ (0 ≤ k ∧ k ≤ 3) then -6 else if 160 < n then -7 else 0
def rcSet (hd sz : Nat → Int32) (s i : Int32) : Int32 := if ¬ rfRows hd s s = 0 then rfRows hd s s else if ¬ (¬ i < 0 ∧ ¬ sz (nx s) - 1 < i) then -5 else 0
def rcCopy (hd sz : Nat → Int32) (p q i j n : Int32) : Int32 := if ¬ rfRows hd p q = 0 then rfRows hd p q else if n < 0 then -4 else if ¬ (¬ i < 0 ∧ ¬ sz (nx p) - n < i) ∨ ¬ (¬ j < 0 ∧ ¬ sz (nx q) - n < j) then -5 else 0
def elV (hd sz : Nat → Int32) (el : Nat → Int64) (s i : Int32) : Int64 := if rfRows hd s s = 0 ∧ ¬ i < 0 ∧ ¬ sz (nx s) - 1 < i then el (nx s * 160 + nx i) else 0
def rcShow (τ : tT) (s q : Int32) : Int32 := if ¬ in8 s then -1 else if ¬ q = -1 ∧ ¬ isQ τ q then -1 else 0
def rcSays (τ : tT) (hd : Nat → Int32) (s k : Int32) : Int32 := if ¬ in8 s ∨ ¬ (0 ≤ k ∧ k ≤ 6) then -1 else if hd (nx s) = -1 then -3 else if ¬ isQ τ (hd (nx s)) ∨ ¬ undr (tK τ (nx (hd (nx s)))) k then -2 else 0
def saV (τ : tT) (q : Nat) (k : Int32) : Int32 := if k = 0 then share τ q else if k = 4 ∨ k = 6 then yQ τ q 0 0 100 else yQ τ q 1 5 100
def rcQu (τ : tT) (k a : Int32) : Int32 := if ¬ (0 ≤ k ∧ k ≤ 6) then -1 else if ¬ (0 ≤ a ∧ a ≤ 9) then -6 else if ¬ tQ τ < 8 then -7 else 0
abbrev okGr (n v g h w : Int32) : Prop := (1 ≤ n ∧ n ≤ 999) ∧ (0 ≤ v ∧ v ≤ 2) ∧ (0 ≤ g ∧ g ≤ 10) ∧ (0 ≤ h ∧ h ≤ 10) ∧ (0 ≤ w ∧ w ≤ 10)
def rcGr (τ : tT) (n v g h w : Int32) : Int32 := if ¬ okGr n v g h w then -6 else if ¬ tG τ < 10 then -7 else 0
abbrev in04 (x : Int32) : Prop := x = 0 ∨ x = 1 ∨ x = 2 ∨ x = 3 ∨ x = 4
def rcQo (τ : tT) (q k : Int32) : Int32 := if ¬ isQ τ q then -5 else if ¬ in04 k then -5 else 0
def qoV (τ : tT) (q : Nat) (k : Int32) : Int32 := if k = 0 then τ 0 q else if k = 1 then τ 1 q else if k = 2 then allN τ q else if k = 3 then share τ q else wrong τ q
def rcGo (τ : tT) (g k : Int32) : Int32 := if ¬ isG τ g then -5 else if ¬ in04 k then -5 else 0
def goV (τ : tT) (g : Nat) (k : Int32) : Int32 := if k = 0 then τ 3 g else if k = 1 then τ 4 g else if k = 2 then τ 5 g else if k = 3 then τ 6 g else τ 7 g
def rcBe (τ : tT) (q r n : Int32) : Int32 := if ¬ isQ τ q ∨ ¬ isQ τ r then -1 else if q = r ∨ ¬ (-9 ≤ n ∧ n ≤ 9) then -6 else 0
def rcAsk (k v : Int32) : Int32 := if k = 0 ∧ (0 ≤ v ∧ v ≤ 99) then 0 else if k = 1 ∧ (0 ≤ v ∧ v ≤ 7) then 0 else -6
def rcYes (τ : tT) (q g n : Int32) : Int32 := if ¬ isQ τ q ∨ ¬ isG τ g then -1 else if ¬ (0 ≤ n ∧ n ≤ 999) then -6 else 0
def rcAn (t k : Int32) : Int32 := if ¬ (0 ≤ k ∧ k ≤ 1) then -5 else if ¬ (0 ≤ t ∧ t ≤ 9) then -6 else 0
def rcBy (τ : tT) (q t k : Int32) : Int32 := if ¬ isQ τ q then -1 else if ¬ (0 ≤ k ∧ k ≤ 1) then -5 else if ¬ (0 ≤ t ∧ t ≤ 9) then -6 else 0
def rcNo (τ : tT) (q r : Int32) : Int32 := if ¬ isQ τ q ∨ ¬ isQ τ r then -1 else 0
def rcEn (τ : tT) (q v : Int32) : Int32 := if ¬ isQ τ q then -1 else if ¬ (0 ≤ v ∧ v ≤ 1000) then -6 else 0
def rcCo (t : Int32) : Int32 := if ¬ (0 ≤ t ∧ t ≤ 9) then -6 else 0
def rcFi (τ : tT) (q c : Int32) : Int32 := if ¬ isQ τ q then -1 else if c < 0 then -6 else 0
def rcLa (τ : tT) (q t : Int32) : Int32 := if ¬ q = -1 ∧ ¬ isQ τ q then -1 else if ¬ (1 ≤ t ∧ t ≤ 9) then -6 else 0
def laV (τ : tT) (q t : Int32) : Int32 := if q = -1 then anB τ (nx t - 1) (nx t) else shA τ (nx q) (nx t - 1) (nx t)
def rcFt (v w : Int32) : Int32 := if ¬ (0 ≤ v ∧ v ≤ 1000) ∨ ¬ (0 ≤ w ∧ w ≤ 1000) then -6 else 0
def ftN (τ : tT) (v w : Int32) : Nat → Int32
  | 0 => 0
  | q + 1 => if mAbs (share τ q - v) ≤ w then ftN τ v w q ||| (1 <<< (nI q &&& 31)) else ftN τ v w q
def tH (τ : tT) : Nat := nx (τ 8 3)
theorem TI.h {τ : tT} (h : TI τ) : τ 8 3 = nI (tH τ) ∧ tH τ ≤ 7 := by
  have h1 := rng_nI h.2.2.2.2.2.2
  exact ⟨h1.1, by have := h1.2; show (τ 8 3).toNatClampNeg ≤ 7; omega⟩
def rcHa (τ : tT) (q : Int32) : Int32 := if ¬ isQ τ q ∨ ¬ isQ τ (nI (tH τ)) then -1 else 0
def haV (τ : tT) (q : Nat) : Int32 := shS τ q 341 - shS τ (tH τ) 682
def rcQ1 (τ : tT) (q : Int32) : Int32 := if ¬ isQ τ q then -1 else 0
def rcNe (τ : tT) : Int32 := if tQ τ = 0 then -5 else 0
/-- the first of several that is nearest: who, by how much -/
def twN (τ : tT) (q : Nat) : Nat → Int32 × Int32
  | 0 => (-1, 1000000)
  | p + 1 => if ¬ p = q ∧ mAbs (share τ q + share τ p - 1000) < (twN τ q p).2 then (nI p, mAbs (share τ q + share τ p - 1000)) else twN τ q p
def neN (τ : tT) : Nat → Int32 × Int32
  | 0 => (-1, 1000000)
  | p + 1 => if mAbs (wrong τ p) < (neN τ p).2 then (nI p, mAbs (wrong τ p)) else neN τ p
/-- blame: most so far, of whom -/
def blI (τ : tT) (p : Nat) (u : Int32 × Int32) : Nat → Int32 × Int32
  | 0 => u
  | q + 1 => if (blI τ p u q).1 < mAbs (τ 2 (p * 8 + q)) then (mAbs (τ 2 (p * 8 + q)), nI (100 * p + q)) else blI τ p u q
def blN (τ : tT) : Nat → Int32 × Int32
  | 0 => (0, -1)
  | p + 1 => blI τ p (blN τ p) (tQ τ)
def rcCh (τ : tT) (g v n : Int32) : Int32 := if ¬ isG τ g then -1 else if ¬ (0 ≤ v ∧ v ≤ 2) ∨ v = τ 4 (nx g) ∨ ¬ (1 ≤ n ∧ n ≤ τ 3 (nx g)) then -6 else if n = τ 3 (nx g) then 0 else if ¬ tG τ < 10 then -7 else 0
def chV (τ : tT) (g v n : Int32) : Int32 := if n = τ 3 (nx g) then g else nI (tG τ)
def chT (τ : tT) (g v n : Int32) : tT := if n = τ 3 (nx g) then aVi τ (nx g) v else aSp τ (nx g) v n
def rcDo (τ : tT) (n : Int32) : Int32 := if tG τ = 0 ∨ tQ τ = 0 then -5 else if ¬ (1 ≤ n ∧ n ≤ 200) then -6 else 0
def rcRe (it : Int32) : Int32 := if it = 0 then -6 else 0
def rcRd (hd sz : Nat → Int32) (s n i : Int32) : Int32 := if ¬ rfRows hd s s = 0 then rfRows hd s s else if n < 0 then -4 else if sz (nx s) < n ∨ ¬ (-1 ≤ i ∧ i ≤ n - 1) then -5 else if 20 < n then -6 else 0
/-- a told round: what is told, the first that is wrong -/
def tol (el : Nat → Int64) (s i : Nat) : Int32 := (el (s * 160 + i)).toInt32
def thr (el : Nat → Int64) (s : Nat) : Nat → Int32
  | 0 => 0
  | i + 1 => thr el s i ||| (1 <<< (tol el s i &&& 31))
abbrev bad (τ : tT) (el : Nat → Int64) (s i : Nat) : Prop := ¬ isQ τ (tol el s i) ∨ ¬ thr el s i &&& (1 <<< (tol el s i &&& 31)) = 0
def wrF (τ : tT) (el : Nat → Int64) (s : Nat) : Nat → Nat → Int32
  | 0, _ => -1
  | n + 1, i => if bad τ el s i then nI i else wrF τ el s n (i + 1)
def lrN (τ : tT) (el : Nat → Int64) (s : Nat) : Nat → Int32
  | 0 => 0
  | i + 1 => lrN τ el s i + mAbs (shB τ (nx (tol el s i)) (share τ (nx (tol el s i))) (thr el s i) - share τ (nx (tol el s i)))
def srV (τ : tT) (el : Nat → Int64) (s i : Nat) : Int32 := shB τ (nx (tol el s i)) (share τ (nx (tol el s i))) (thr el s i)
theorem wrF_all {τ : tT} {el : Nat → Int64} {s : Nat} : ∀ (n i : Nat), i + n < 2 ^ 31 → wrF τ el s n i = -1 → ∀ k, i ≤ k → k < i + n → ¬ bad τ el s k
  | 0, i, _, _, k, h1, h2 => by omega
  | n + 1, i, hb, h, k, h1, h2 => by
    rw [wrF] at h
    by_cases hh : bad τ el s i
    · rw [if_pos hh] at h
      have := nI_pos (n := i) (by omega)
      rw [h] at this
      exact absurd this (by decide)
    · rw [if_neg hh] at h
      by_cases hk : k = i
      · subst hk; exact hh
      · exact wrF_all n (i + 1) (by omega) h k (by omega) (by omega)
/-- doors by draws: the town behind one, and behind n -/
def kG (τ : tT) : Nat := nx (drV (τ 8 4) (nI (tG τ)))
def kT (τ : tT) : tT := aSc (kn1 (kn1 (kn1 τ))) 5 (τ 8 5 + 1)
def kQ (τ : tT) : Nat := nx (drV (kT τ 8 4) (nI (tQ τ)))
def knk (τ : tT) : tT := if τ 6 (kG τ) ≤ drV (kn1 τ 8 4) 10 then kn1 (kn1 τ) else if ¬ drV (kn1 (kn1 τ) 8 4) 10 < τ 7 (kG τ) then kn1 (kn1 (kn1 τ)) else if yG τ (kQ τ) (kG τ) (τ 3 (kG τ)) ≤ drV (kn1 (kT τ) 8 4) (τ 3 (kG τ)) then kn1 (kn1 (kT τ)) else aSc (kn1 (kn1 (kT τ))) 6 (τ 8 6 + 1)
theorem yG_kn (τ : tT) (q g : Nat) (n : Int32) : yG (kn1 τ) q g n = yG τ q g n := by
  unfold yG yQ; rw [kn1_r _ (by decide), kn1_r _ (by decide), kn1_r _ (by decide), kn1_r _ (by decide)]
theorem yG_aSc (τ : tT) (k : Nat) (x : Int32) (q g : Nat) (n : Int32) : yG (aSc τ k x) q g n = yG τ q g n := by
  unfold yG yQ; rw [aSc_r _ _ _ (by decide), aSc_r _ _ _ (by decide), aSc_r _ _ _ (by decide), aSc_r _ _ _ (by decide)]
theorem yG_kT (τ : tT) (q g : Nat) (n : Int32) : yG (kT τ) q g n = yG τ q g n := by
  unfold kT; rw [yG_aSc, yG_kn, yG_kn, yG_kn]
theorem kT_r (τ : tT) {a : Nat} (h : a ≠ 8) : kT τ a = τ a := by
  unfold kT; rw [aSc_r _ _ _ h, kn1_r _ h, kn1_r _ h, kn1_r _ h]
def knN (τ : tT) : Nat → tT
  | 0 => τ
  | n + 1 => knk (knN τ n)
def stV (τ : tT) (rr : Nat → Int32) (b : Nat) (k : Int32) : Int32 := if k = 0 then nI (tQ τ) else if k = 1 then nI (tG τ) else if k = 2 then ppl τ else if k = 3 then τ 8 2 else if k = 4 then τ 8 3 else if k = 5 then τ 8 5 else if k = 6 then τ 8 6 else if k = 7 then τ 8 4 else if k = 8 then nI b else if 11 ≤ k ∧ k ≤ 17 then rr (nx (k - 10)) else -1
def wX (x t im : Nat) (it : Int32) (o sv tx ac rf : Nat) (lf : Int32) : Nat × va_E := oC x 5 [.ref t, .ref im, .int it, .ref o, .ref sv, .ref tx, .ref ac, .ref rf, .int lf]
