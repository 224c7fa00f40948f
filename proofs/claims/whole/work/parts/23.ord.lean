/-! the order that leans least: the first of all orders, by what is ahead -/
def selL : List Nat → List (Nat × List Nat)
  | [] => []
  | x :: xs => (x, xs) :: (selL xs).map (fun p => (p.1, x :: p.2))
def prmL : Nat → List Nat → List (List Nat)
  | 0, _ => [[]]
  | n + 1, L => (selL L).flatMap (fun p => (prmL n p.2).map (fun z => p.1 :: z))
def brL (τ : tT) (q : Nat) : List Nat → Int32
  | [] => 0
  | x :: A => brL τ q A + τ 2 (x * 8 + q)
def chL (τ : tT) (A : List Nat) (q : Nat) : Int32 := mAbs (mMax 0 (mMin 1000 (share τ q + 10 * brL τ q A)) - share τ q)
def chN (τ : tT) (A : List Nat) (q : Nat) : Nat := min 1000 (nx (chL τ A q))
theorem chL_nI {τ : tT} (hT : TI τ) (A : List Nat) {q : Nat} (hq : q < 8) : chL τ A q = nI (chN τ A q) := by
  obtain ⟨s, hs, e⟩ := share_nI hT hq
  obtain ⟨m, hm, e2⟩ := mm_nI (share τ q + 10 * brL τ q A)
  obtain ⟨z, hz, e3⟩ := abs_nI (a := m) (b := s) (M := 1000) hm hs (by decide)
  have e4 : chL τ A q = nI z := by unfold chL; rw [e2, e, e3]
  unfold chN
  rw [e4, nx_nI (by omega), Nat.min_eq_right hz]
theorem chN_le (τ : tT) (A : List Nat) (q : Nat) : chN τ A q ≤ 1000 := Nat.min_le_left _ _
def coN (τ : tT) (A : List Nat) : List Nat → Nat
  | [] => 0
  | x :: r => chN τ A x + coN τ (x :: A) r
/-- the first of the least -/
def fm : List (Nat × List Nat) → Nat × List Nat → Nat × List Nat
  | [], b => b
  | e :: l, b => fm l (if e.1 < b.1 then e else b)
def bstN (τ : tT) : Nat → List Nat → List Nat → Nat × List Nat
  | 0, _, _ => (0, [])
  | n + 1, A, L => fm ((selL L).map (fun p => (chN τ A p.1 + (bstN τ n (p.1 :: A) p.2).1, p.1 :: (bstN τ n (p.1 :: A) p.2).2))) (1000000, [])
theorem fm_le : ∀ (l : List (Nat × List Nat)) (b : Nat × List Nat), (fm l b).1 ≤ b.1
  | [], b => Nat.le_refl _
  | e :: l, b => by
    have h := fm_le l (if e.1 < b.1 then e else b)
    rw [fm]
    split at h <;> split <;> omega
theorem fm_b (l : List (Nat × List Nat)) : ∀ (b s : Nat × List Nat), b.1 ≤ s.1 → fm l b = if (fm l s).1 < b.1 then fm l s else b := by
  induction l with
  | nil => intro b s h; rw [fm, fm, if_neg (by omega)]
  | cons e l ih =>
    intro b s h
    rw [fm, fm]
    by_cases h1 : e.1 < b.1
    · have h2 : e.1 < s.1 := Nat.lt_of_lt_of_le h1 h
      rw [if_pos h1, if_pos h2, if_pos (Nat.lt_of_le_of_lt (fm_le l e) h1)]
    · rw [if_neg h1]
      by_cases h2 : e.1 < s.1
      · rw [if_pos h2, ih b e (by omega)]
      · rw [if_neg h2, ih b s h]
theorem fm_sh (k x : Nat) : ∀ (l : List (Nat × List Nat)) (b : Nat × List Nat), fm (l.map (fun e => (k + e.1, x :: e.2))) (k + b.1, x :: b.2) = (k + (fm l b).1, x :: (fm l b).2)
  | [], b => rfl
  | e :: l, b => by
    rw [List.map_cons, fm, fm]
    by_cases h : e.1 < b.1
    · rw [if_pos h, if_pos (by show k + e.1 < k + b.1; omega)]; exact fm_sh k x l e
    · rw [if_neg h, if_neg (by show ¬ k + e.1 < k + b.1; omega)]; exact fm_sh k x l b
theorem fm_app : ∀ (l m : List (Nat × List Nat)) (b : Nat × List Nat), fm (l ++ m) b = fm m (fm l b)
  | [], _, _ => rfl
  | e :: l, m, b => by rw [List.cons_append, fm, fm]; exact fm_app l m _
theorem fm_prm (τ : tT) : ∀ (n : Nat) (A L : List Nat), fm ((prmL n L).map (fun z => (coN τ A z, z))) (1000000, []) = bstN τ n A L
  | 0, A, L => rfl
  | n + 1, A, L => by
    rw [prmL, bstN]
    have key : ∀ (sl : List (Nat × List Nat)) (b : Nat × List Nat), b.1 ≤ 1000000 → fm ((sl.flatMap (fun p => (prmL n p.2).map (fun z => p.1 :: z))).map (fun z => (coN τ A z, z))) b = fm (sl.map (fun p => (chN τ A p.1 + (bstN τ n (p.1 :: A) p.2).1, p.1 :: (bstN τ n (p.1 :: A) p.2).2))) b := by
      intro sl
      induction sl with
      | nil => intro b _; rfl
      | cons p sl ih =>
        intro b hb
        rw [List.flatMap_cons, List.map_append, fm_app, List.map_cons, fm]
        have e1 : ((prmL n p.2).map (fun z => p.1 :: z)).map (fun z => (coN τ A z, z)) = ((prmL n p.2).map (fun z => (coN τ (p.1 :: A) z, z))).map (fun e => (chN τ A p.1 + e.1, p.1 :: e.2)) := by
          rw [List.map_map, List.map_map]; rfl
        have e2 := fm_sh (chN τ A p.1) p.1 ((prmL n p.2).map (fun z => (coN τ (p.1 :: A) z, z))) (1000000, [])
        rw [fm_prm τ n (p.1 :: A) p.2] at e2
        have e3 := fm_b (((prmL n p.2).map (fun z => (coN τ (p.1 :: A) z, z))).map (fun e => (chN τ A p.1 + e.1, p.1 :: e.2))) b (chN τ A p.1 + 1000000, [p.1]) (by show b.1 ≤ chN τ A p.1 + 1000000; omega)
        rw [e1, e3, e2]
        refine ih _ ?_
        split
        · rename_i h; exact Nat.le_of_lt (Nat.lt_of_lt_of_le h hb)
        · exact hb
    exact key _ (1000000, []) (show (1000000 : Nat) ≤ 1000000 by decide)
theorem bst_cg (τ : tT) : ∀ (n : Nat) (A B L : List Nat), (∀ q, brL τ q A = brL τ q B) → bstN τ n A L = bstN τ n B L
  | 0, _, _, _, _ => rfl
  | n + 1, A, B, L, h => by
    rw [bstN, bstN]
    refine congrArg (fun z => fm z (1000000, [])) (List.map_congr_left (fun p _ => ?_))
    have e : chN τ A p.1 = chN τ B p.1 := by unfold chN chL; rw [h]
    rw [e, bst_cg τ n (p.1 :: A) (p.1 :: B) p.2 (fun q => by rw [brL, brL, h])]
/-- what is chosen first -/
theorem fm_in : ∀ (l : List (Nat × List Nat)) (b : Nat × List Nat), fm l b = b ∨ fm l b ∈ l
  | [], b => Or.inl rfl
  | e :: l, b => by
    rw [fm]
    rcases fm_in l (if e.1 < b.1 then e else b) with h | h
    · rw [h]; split
      · exact Or.inr (List.mem_cons_self ..)
      · exact Or.inl rfl
    · exact Or.inr (List.mem_cons_of_mem _ h)
theorem fm_lt : ∀ (l : List (Nat × List Nat)) (b : Nat × List Nat) (e : Nat × List Nat), e ∈ l → (fm l b).1 ≤ e.1
  | [], _, _, h => absurd h (by simp)
  | a :: l, b, e, h => by
    rw [fm]
    rcases List.mem_cons.mp h with rfl | h
    · have := fm_le l (if e.1 < b.1 then e else b)
      split at this <;> split <;> omega
    · exact fm_lt l _ e h
theorem selL_len : ∀ (L : List Nat) (p : Nat × List Nat), p ∈ selL L → p.2.length + 1 = L.length ∧ p.1 ∈ L ∧ ∀ z, z ∈ p.2 → z ∈ L
  | [], p, h => absurd h (by simp [selL])
  | x :: xs, p, h => by
    rw [selL] at h
    rcases List.mem_cons.mp h with rfl | h
    · exact ⟨rfl, List.mem_cons_self .., fun z hz => List.mem_cons_of_mem _ hz⟩
    · obtain ⟨p', hp', rfl⟩ := List.mem_map.mp h
      obtain ⟨h1, h2, h3⟩ := selL_len xs p' hp'
      refine ⟨by simp [← h1], List.mem_cons_of_mem _ h2, fun z hz => ?_⟩
      rcases List.mem_cons.mp hz with rfl | hz
      · exact List.mem_cons_self ..
      · exact List.mem_cons_of_mem _ (h3 z hz)
theorem bst_le (τ : tT) : ∀ (n : Nat) (A L : List Nat), n ≤ 999 → L.length = n → (bstN τ n A L).1 ≤ 1000 * n ∧ (bstN τ n A L).2.length = n ∧ ∀ z, z ∈ (bstN τ n A L).2 → z ∈ L
  | 0, _, _, _, _ => ⟨Nat.le_refl _, rfl, fun z hz => absurd hz (by simp [bstN])⟩
  | n + 1, A, L, hn, h => by
    cases L with
    | nil => exact absurd h (by simp)
    | cons x xs =>
      have hx : (x, xs) ∈ selL (x :: xs) := by rw [selL]; exact List.mem_cons_self ..
      have hxl : xs.length = n := by simpa using h
      have b1 := bst_le τ n (x :: A) xs (by omega) hxl
      have c1 := chN_le τ A x
      have m1 := fm_lt ((selL (x :: xs)).map (fun p => (chN τ A p.1 + (bstN τ n (p.1 :: A) p.2).1, p.1 :: (bstN τ n (p.1 :: A) p.2).2))) (1000000, []) _ (List.mem_map.mpr ⟨_, hx, rfl⟩)
      have e0 : bstN τ (n + 1) A (x :: xs) = fm ((selL (x :: xs)).map (fun p => (chN τ A p.1 + (bstN τ n (p.1 :: A) p.2).1, p.1 :: (bstN τ n (p.1 :: A) p.2).2))) (1000000, []) := rfl
      rw [e0]
      have m2 : (fm ((selL (x :: xs)).map (fun p => (chN τ A p.1 + (bstN τ n (p.1 :: A) p.2).1, p.1 :: (bstN τ n (p.1 :: A) p.2).2))) (1000000, [])).1 ≤ 1000 * (n + 1) := by
        refine Nat.le_trans m1 ?_
        show chN τ A x + (bstN τ n (x :: A) xs).1 ≤ 1000 * (n + 1)
        omega
      rcases fm_in ((selL (x :: xs)).map (fun p => (chN τ A p.1 + (bstN τ n (p.1 :: A) p.2).1, p.1 :: (bstN τ n (p.1 :: A) p.2).2))) (1000000, []) with hh | hh
      · rw [hh] at m2
        have : (1000000 : Nat) ≤ 1000 * (n + 1) := m2
        omega
      · refine ⟨m2, ?_⟩
        obtain ⟨p, hp, e⟩ := List.mem_map.mp hh
        rw [← e]
        obtain ⟨h1, h2, h3⟩ := selL_len _ p hp
        have b2 := bst_le τ n (p.1 :: A) p.2 (by omega) (by simp at h h1; omega)
        refine ⟨by simp [b2.2.1], fun z hz => ?_⟩
        rcases List.mem_cons.mp hz with rfl | hz
        · exact h2
        · exact h3 z (b2.2.2 z hz)
/-- the questions of a set -/
def memL (R : Nat) : List Nat := (List.range 8).filter (fun q => R.testBit q)
def difB (S R : Nat) : Nat := S &&& (255 ^^^ R)
theorem brL_app (τ : tT) (q : Nat) : ∀ (A B : List Nat), brL τ q (A ++ B) = brL τ q B + brL τ q A
  | [], B => by rw [List.nil_append, brL, Int32.add_zero]
  | x :: A, B => by rw [List.cons_append, brL, brL, brL_app τ q A B, Int32.add_assoc]
theorem brL_fil (τ : tT) (q : Nat) (f : Nat → Bool) : ∀ n, brL τ q ((List.range n).filter f) = sumN (fun p => if f p = true then τ 2 (p * 8 + q) else 0) n
  | 0 => rfl
  | n + 1 => by
    rw [List.range_succ, List.filter_append, brL_app, brL_fil τ q f n, sumN, Int32.add_comm]
    congr 1
    by_cases h : f n = true
    · rw [List.filter_cons_of_pos h, if_pos h]; simp [brL]
    · rw [List.filter_cons_of_neg h, if_neg h]; rfl
theorem brL_mem (τ : tT) (q T : Nat) : brL τ q (memL T) = sumN (fun p => if T.testBit p = true then τ 2 (p * 8 + q) else 0) 8 := brL_fil τ q _ 8
theorem clrB_bit : ∀ R, R < 256 → ∀ q, q < 8 → ∀ p, p < 8 → (clrB R q).testBit p = (R.testBit p && !(p == q)) := by decide +kernel
theorem selL_mem : ∀ R, R < 256 → selL (memL R) = (memL R).map (fun q => (q, memL (clrB R q))) := by decide +kernel
theorem mem_len : ∀ R, R < 256 → ∀ q, q < 8 → R.testBit q = true → (memL (clrB R q)).length + 1 = (memL R).length ∧ clrB R q < R := by decide +kernel
theorem mem_iff {R q : Nat} : q ∈ memL R ↔ q < 8 ∧ R.testBit q = true := by simp [memL]
