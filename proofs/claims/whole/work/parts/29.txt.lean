/-! reading a town out of a row: letters, place and first fault -/
def ltr (lt : Nat → Int32) (n p : Nat) : Int32 := if p < n then lt p else -1
def ftS (z : Nat × Int32) (x : Int32) : Nat × Int32 := (z.1, if z.2 = -1 then x else z.2)
def rlS (lt : Nat → Int32) (n : Nat) (c : Int32) (z : Nat × Int32) : Nat × Int32 := if ltr lt n z.1 = c ∧ z.2 = -1 then (z.1 + 1, -1) else ftS z (nI z.1)
def rwS (lt : Nat → Int32) (n w : Nat) (z : Nat × Int32) : Nat → Nat × Int32
  | 0 => z
  | k + 1 => rlS lt n (kwc w k) (rwS lt n w z k)
def dgS (lt : Nat → Int32) (n : Nat) : Nat → Nat → Int32 → Nat × Int32
  | 0, p, v => (p, v)
  | k + 1, p, v => if 48 ≤ ltr lt n p ∧ ltr lt n p ≤ 57 then dgS lt n k (p + 1) (10 * v + ltr lt n p - 48) else (p, v)
def dgZ (lt : Nat → Int32) (n : Nat) (z : Nat × Int32) : Nat × Int32 := if z.2 = -1 then dgS lt n 3 z.1 0 else (z.1, 0)
def nuV (lt : Nat → Int32) (n : Nat) (z : Nat × Int32) : Int32 := (dgZ lt n (rlS lt n 32 z)).2
def nuA (lt : Nat → Int32) (n : Nat) (z : Nat × Int32) : Nat × Int32 := if (dgZ lt n (rlS lt n 32 z)).1 = (rlS lt n 32 z).1 then ftS ((dgZ lt n (rlS lt n 32 z)).1, (rlS lt n 32 z).2) (nI (dgZ lt n (rlS lt n 32 z)).1) else ((dgZ lt n (rlS lt n 32 z)).1, (rlS lt n 32 z).2)
def nuS (lt : Nat → Int32) (n : Nat) (lo hi : Int32) (z : Nat × Int32) : Nat × Int32 := if lo ≤ nuV lt n z ∧ nuV lt n z ≤ hi then nuA lt n z else ftS (nuA lt n z) (nI (rlS lt n 32 z).1)
theorem ftS_f {z : Nat × Int32} {m : Nat} (hm : m < 2 ^ 31) : (ftS z (nI m)).2 = -1 → False := by
  unfold ftS
  intro h
  by_cases h1 : z.2 = -1
  · simp only [if_pos h1] at h
    have := nI_pos (n := m) hm
    rw [h] at this; exact this (by decide)
  · simp only [if_neg h1] at h; exact h1 h
theorem rlS_ok {lt : Nat → Int32} {n : Nat} {c : Int32} {z : Nat × Int32} (hp : z.1 < 2 ^ 31) : (rlS lt n c z).2 = -1 ↔ ltr lt n z.1 = c ∧ z.2 = -1 := by
  unfold rlS
  by_cases h : ltr lt n z.1 = c ∧ z.2 = -1
  · rw [if_pos h]; exact ⟨fun _ => h, fun _ => rfl⟩
  · rw [if_neg h]; exact ⟨fun q => (ftS_f hp q).elim, fun q => absurd q h⟩
theorem rlS_le {lt : Nat → Int32} {n : Nat} {c : Int32} {z : Nat × Int32} (hc : ¬ c = -1) (hz : z.1 ≤ n) : (rlS lt n c z).1 ≤ n := by
  unfold rlS
  by_cases h : ltr lt n z.1 = c ∧ z.2 = -1
  · rw [if_pos h]
    have : z.1 < n := Nat.not_le.mp (fun q => hc (by rw [← h.1, ltr, if_neg (by omega)]))
    exact this
  · rw [if_neg h]; exact hz
theorem rwS_le {lt : Nat → Int32} {n w : Nat} {z : Nat × Int32} (hw : w < 6) (hz : z.1 ≤ n) : ∀ k, k ≤ kwn w → (rwS lt n w z k).1 ≤ n
  | 0, _ => hz
  | k + 1, h => rlS_le (kwc_ch w hw k (by omega)).2.2 (rwS_le hw hz k (by omega))
theorem dgS_le {lt : Nat → Int32} {n : Nat} : ∀ k p v, p ≤ n → (dgS lt n k p v).1 ≤ n ∧ p ≤ (dgS lt n k p v).1
  | 0, p, v, h => ⟨h, Nat.le_refl _⟩
  | k + 1, p, v, h => by
    rw [dgS]
    by_cases h1 : 48 ≤ ltr lt n p ∧ ltr lt n p ≤ 57
    · rw [if_pos h1]
      have hlt : p < n := Nat.not_le.mp (fun q => by
        rw [ltr, if_neg (by omega)] at h1
        exact absurd h1.1 (by decide))
      have := dgS_le (lt := lt) k (p + 1) (10 * v + ltr lt n p - 48) hlt
      exact ⟨this.1, by omega⟩
    · rw [if_neg h1]; exact ⟨h, Nat.le_refl _⟩
theorem dgZ_le {lt : Nat → Int32} {n : Nat} {z : Nat × Int32} (h : z.1 ≤ n) : (dgZ lt n z).1 ≤ n := by
  unfold dgZ
  split
  · exact (dgS_le 3 z.1 0 h).1
  · exact h
theorem sp_ne : ¬ (32 : Int32) = -1 := by decide
theorem nuA_1 (lt : Nat → Int32) (n : Nat) (z : Nat × Int32) : (nuA lt n z).1 = (dgZ lt n (rlS lt n 32 z)).1 := by
  unfold nuA; split <;> rfl
theorem nuS_le {lt : Nat → Int32} {n : Nat} {lo hi : Int32} {z : Nat × Int32} (h : z.1 ≤ n) : (nuS lt n lo hi z).1 ≤ n := by
  have h1 := dgZ_le (lt := lt) (rlS_le (lt := lt) sp_ne h)
  unfold nuS
  split
  · rw [nuA_1]; exact h1
  · show (nuA lt n z).1 ≤ n
    rw [nuA_1]; exact h1
theorem nuS_ok {lt : Nat → Int32} {n : Nat} {lo hi : Int32} {z : Nat × Int32} (hn : n < 2 ^ 31) (h : z.1 ≤ n) (hf : (nuS lt n lo hi z).2 = -1) : (lo ≤ nuV lt n z ∧ nuV lt n z ≤ hi) ∧ z.2 = -1 := by
  have h1 := rlS_le (lt := lt) sp_ne h
  have h2 := dgZ_le (lt := lt) h1
  unfold nuS at hf
  by_cases hv : lo ≤ nuV lt n z ∧ nuV lt n z ≤ hi
  · rw [if_pos hv] at hf
    refine ⟨hv, ?_⟩
    unfold nuA at hf
    by_cases hd : (dgZ lt n (rlS lt n 32 z)).1 = (rlS lt n 32 z).1
    · rw [if_pos hd] at hf
      exact (ftS_f (by omega) hf).elim
    · rw [if_neg hd] at hf
      exact ((rlS_ok (by omega)).mp hf).2
  · rw [if_neg hv] at hf
    exact (ftS_f (by omega) hf).elim
/-! the items -/
def grZ (lt : Nat → Int32) (n : Nat) (ν : tT) (z : Nat × Int32) : Nat × Int32 := if tG ν < 10 then rwS lt n 0 z (kwn 0) else ftS (rwS lt n 0 z (kwn 0)) (nI z.1)
def grS (lt : Nat → Int32) (n : Nat) (ν : tT) (z : Nat × Int32) : Nat → Nat × Int32
  | 0 => grZ lt n ν z
  | 1 => nuS lt n 1 999 (grS lt n ν z 0)
  | 2 => nuS lt n 0 2 (grS lt n ν z 1)
  | k + 3 => nuS lt n 0 10 (grS lt n ν z (k + 2))
def grV (lt : Nat → Int32) (n : Nat) (ν : tT) (z : Nat × Int32) (k : Nat) : Int32 := nuV lt n (grS lt n ν z k)
def grT (lt : Nat → Int32) (n : Nat) (ν : tT) (z : Nat × Int32) : tT := if (grS lt n ν z 5).2 = -1 then aGr ν (grV lt n ν z 0) (grV lt n ν z 1) (grV lt n ν z 2) (grV lt n ν z 3) (grV lt n ν z 4) else ν
def quS (lt : Nat → Int32) (n : Nat) (ν : tT) (z : Nat × Int32) : Nat → Nat × Int32
  | 0 => if tQ ν < 8 then rwS lt n 1 z (kwn 1) else ftS (rwS lt n 1 z (kwn 1)) (nI z.1)
  | 1 => nuS lt n 0 6 (quS lt n ν z 0)
  | k + 2 => nuS lt n 0 9 (quS lt n ν z (k + 1))
def quV (lt : Nat → Int32) (n : Nat) (ν : tT) (z : Nat × Int32) (k : Nat) : Int32 := nuV lt n (quS lt n ν z k)
def quT (lt : Nat → Int32) (n : Nat) (ν : tT) (z : Nat × Int32) : tT := if (quS lt n ν z 2).2 = -1 then aQu ν (quV lt n ν z 0) (quV lt n ν z 1) else ν
def beS (lt : Nat → Int32) (n : Nat) (ν : tT) (z : Nat × Int32) : Nat → Nat × Int32
  | 0 => z
  | 1 => nuS lt n 0 (nI (tQ ν) - 1) z
  | 2 => nuS lt n 0 (nI (tQ ν) - 1) (nuS lt n 0 (nI (tQ ν) - 1) z)
  | 3 => if nuV lt n (nuS lt n 0 (nI (tQ ν) - 1) z) = nuV lt n z then ftS (nuS lt n 0 (nI (tQ ν) - 1) (nuS lt n 0 (nI (tQ ν) - 1) z)) (nI ((nuS lt n 0 (nI (tQ ν) - 1) z).1 + 1)) else nuS lt n 0 (nI (tQ ν) - 1) (nuS lt n 0 (nI (tQ ν) - 1) z)
  | k + 4 => nuS lt n 0 9 (beS lt n ν z (k + 3))
def beT (lt : Nat → Int32) (n : Nat) (ν : tT) (z : Nat × Int32) (sg : Int32) : tT := if (beS lt n ν z 4).2 = -1 then aBe ν (nx (nuV lt n z)) (nx (nuV lt n (beS lt n ν z 1))) (sg * nuV lt n (beS lt n ν z 3)) else ν
theorem grZ_le {lt : Nat → Int32} {n : Nat} {ν : tT} {z : Nat × Int32} (h : z.1 ≤ n) : ∀ k, (grS lt n ν z k).1 ≤ n
  | 0 => by
    have := rwS_le (lt := lt) (w := 0) (by decide) h (kwn 0) (Nat.le_refl _)
    show (grZ lt n ν z).1 ≤ n
    unfold grZ; split <;> exact this
  | 1 => nuS_le (grZ_le h 0)
  | 2 => nuS_le (grZ_le h 1)
  | k + 3 => nuS_le (grZ_le h (k + 2))
theorem quS_le {lt : Nat → Int32} {n : Nat} {ν : tT} {z : Nat × Int32} (h : z.1 ≤ n) : ∀ k, (quS lt n ν z k).1 ≤ n
  | 0 => by
    have := rwS_le (lt := lt) (w := 1) (by decide) h (kwn 1) (Nat.le_refl _)
    rw [quS]; split <;> exact this
  | 1 => nuS_le (quS_le h 0)
  | k + 2 => nuS_le (quS_le h (k + 1))
theorem beS_le {lt : Nat → Int32} {n : Nat} {ν : tT} {z : Nat × Int32} (h : z.1 ≤ n) : ∀ k, (beS lt n ν z k).1 ≤ n
  | 0 => h
  | 1 => nuS_le h
  | 2 => nuS_le (nuS_le h)
  | 3 => by rw [beS]; split <;> exact nuS_le (nuS_le h)
  | k + 4 => nuS_le (beS_le h (k + 3))
/-- an item: where it ends, what comes of the town -/
def itS (lt : Nat → Int32) (n : Nat) (ν : tT) (z : Nat × Int32) : Nat × Int32 :=
  if ltr lt n z.1 = 103 then grS lt n ν z 5 else if ltr lt n z.1 = 113 then quS lt n ν z 2 else if ltr lt n z.1 = 98 then beS lt n ν (rwS lt n 2 z (kwn 2)) 4 else if ltr lt n z.1 = 97 then beS lt n ν (rwS lt n 3 z (kwn 3)) 4 else if ltr lt n z.1 = 112 then nuS lt n 0 99 (rwS lt n 4 z (kwn 4)) else if ltr lt n z.1 = 104 then nuS lt n 0 7 (rwS lt n 5 z (kwn 5)) else ftS z (nI z.1)
def itT (lt : Nat → Int32) (n : Nat) (ν : tT) (z : Nat × Int32) : tT :=
  if ltr lt n z.1 = 103 then grT lt n ν z else if ltr lt n z.1 = 113 then quT lt n ν z else if ltr lt n z.1 = 98 then beT lt n ν (rwS lt n 2 z (kwn 2)) 1 else if ltr lt n z.1 = 97 then beT lt n ν (rwS lt n 3 z (kwn 3)) (-1) else if ltr lt n z.1 = 112 then aSc ν 2 (nuV lt n (rwS lt n 4 z (kwn 4))) else if ltr lt n z.1 = 104 then aSc ν 3 (nuV lt n (rwS lt n 5 z (kwn 5))) else ν
theorem ltr_lt {lt : Nat → Int32} {n p : Nat} (h : 48 ≤ ltr lt n p) : p < n := Nat.not_le.mp (fun q => by
  rw [ltr, if_neg (by omega)] at h
  exact absurd h (by decide))
def wP (G : gT) (tx al dr n : Nat) (z : Nat × Int32) (lt : Nat → Int32) : va_W := [oC tx 4 [.ref al, .ref dr, .int z.2, .int (nI n), .int (nI z.1)], iC G al 160 lt]
