/-! one order behind another -/
def gF (z : List Nat) : Nat → Nat := fun k => z.getD k 0
def PP (n : Nat) : List (List Nat) := prmL n (List.range n)
def chn (n : Nat) : List (List Nat) → Bool
  | [] => true
  | [z] => decide (pI (gF z) (n - 1) = 0) && ((List.range n).map (gF z) == z) && z.all (fun q => decide (q < n))
  | z :: z' :: r => decide (0 < pI (gF z) (n - 1)) && ((List.range n).map (nxO (gF z) n) == z') && ((List.range n).map (gF z) == z) && z.all (fun q => decide (q < n)) && chn n (z' :: r)
theorem chn_ok : ∀ n, n < 7 → chn n (PP n) = true := by decide +kernel
theorem PP_0 : ∀ n, n < 7 → (PP n).getD 0 [] = List.range n ∧ 0 < (PP n).length := by decide +kernel
theorem chn_at (n : Nat) : ∀ (P : List (List Nat)) (k : Nat), chn n P = true → k < P.length → (List.range n).map (gF (P.getD k [])) = P.getD k [] ∧ (∀ q, q ∈ P.getD k [] → q < n) ∧ (k + 1 < P.length → 0 < pI (gF (P.getD k [])) (n - 1) ∧ (List.range n).map (nxO (gF (P.getD k [])) n) = P.getD (k + 1) []) ∧ (k + 1 = P.length → pI (gF (P.getD k [])) (n - 1) = 0)
  | [], k, _, h => absurd h (by simp)
  | [z], k, hc, h => by
    have hk : k = 0 := by simp at h; omega
    subst hk
    simp only [chn, Bool.and_eq_true, decide_eq_true_eq, beq_iff_eq, List.all_eq_true] at hc
    refine ⟨hc.1.2, hc.2, fun z => absurd z (by simp), fun _ => hc.1.1⟩
  | z :: z' :: r, 0, hc, h => by
    simp only [chn, Bool.and_eq_true, decide_eq_true_eq, beq_iff_eq, List.all_eq_true] at hc
    refine ⟨hc.1.1.2, hc.1.2, fun _ => ⟨hc.1.1.1.1, hc.1.1.1.2⟩, fun z => absurd z (by simp)⟩
  | z :: z' :: r, k + 1, hc, h => by
    simp only [chn, Bool.and_eq_true] at hc
    have ih := chn_at n (z' :: r) k hc.2 (by simpa using h)
    refine ⟨ih.1, ih.2.1, fun w => ih.2.2.1 (by simpa using w), fun w => ih.2.2.2 (by simpa using w)⟩
/-- the numbers f stand as the places p do -/
def RelF (f : Nat → Nat) (n : Nat) (p o : Nat → Nat) : Prop := ∀ k, k < n → o k % 8 = f (p k) ∧ p k < n
def Mono (f : Nat → Nat) (n : Nat) : Prop := ∀ a b, a < n → b < n → (f a ≤ f b ↔ a ≤ b)
theorem cI {f : Nat → Nat} {n : Nat} {p o : Nat → Nat} (hM : Mono f n) (h : RelF f n p o) (hn : n ≤ 6) : ∀ c, c < n → pI o c = pI p c
  | 0, _ => rfl
  | c + 1, hc => by
    obtain ⟨e1, l1⟩ := h c (by omega)
    obtain ⟨e2, l2⟩ := h (c + 1) hc
    have h3 := hM (p c) (p (c + 1)) l1 l2
    rw [pI, pI, e1, e2, cI hM h hn c (by omega), Nat.mod_eq_of_lt (show p c < 8 by omega), Nat.mod_eq_of_lt (show p (c + 1) < 8 by omega)]
    by_cases h4 : p c ≤ p (c + 1)
    · rw [if_pos h4, if_pos (h3.mpr h4)]
    · rw [if_neg h4, if_neg (fun z => h4 (h3.mp z))]
theorem cJ {f : Nat → Nat} {n : Nat} {p o : Nat → Nat} (hM : Mono f n) (h : RelF f n p o) (hn : n ≤ 6) {i : Nat} (hi : i < n) : ∀ j, j < n → pJ o (o i % 8) j = pJ p (p i % 8) j
  | 0, _ => rfl
  | j + 1, hj => by
    obtain ⟨e1, l1⟩ := h i hi
    obtain ⟨e2, l2⟩ := h (j + 1) hj
    have h3 := hM (p i) (p (j + 1)) l1 l2
    rw [pJ, pJ, cJ hM h hn hi j (by omega), e1, e2, Nat.mod_eq_of_lt (show p i < 8 by omega), Nat.mod_eq_of_lt (show p (j + 1) < 8 by omega)]
    by_cases h4 : p (j + 1) < p i
    · rw [if_pos h4, if_pos (Nat.not_le.mp (fun z => by have := h3.mp z; omega))]
    · rw [if_neg h4, if_neg (fun z => by have := h3.mpr (by omega); omega)]
theorem cS {f : Nat → Nat} {n : Nat} {p o : Nat → Nat} (h : RelF f n p o) {i j : Nat} (hi : i < n) (hj : j < n) : RelF f n (sw p i j) (sw o i j) := by
  intro k hk
  unfold sw
  by_cases h1 : k = j
  · rw [if_pos h1, if_pos h1]; exact h i hi
  · rw [if_neg h1, if_neg h1]
    by_cases h2 : k = i
    · rw [if_pos h2, if_pos h2]; exact h j hj
    · rw [if_neg h2, if_neg h2]; exact h k hk
theorem cR {f : Nat → Nat} {n : Nat} : ∀ (g : Nat) {p o : Nat → Nat} (_ : RelF f n p o) (a b : Nat), b < n → RelF f n (rvF g p a b) (rvF g o a b)
  | 0, _, _, h, _, _, _ => h
  | g + 1, p, o, h, a, b, hb => by
    rw [rvF, rvF]
    by_cases h1 : a < b
    · rw [if_pos h1, if_pos h1]; exact cR g (cS h (by omega) hb) (a + 1) (b - 1) (by omega)
    · rw [if_neg h1, if_neg h1]; exact h
theorem pJ_le (o : Nat → Nat) (v : Nat) : ∀ j, pJ o v j ≤ j
  | 0 => Nat.le_refl _
  | j + 1 => by rw [pJ]; have := pJ_le o v j; split <;> omega
theorem cN {f : Nat → Nat} {n : Nat} {p o : Nat → Nat} (hM : Mono f n) (h : RelF f n p o) (hn : n ≤ 6) : pI o (n - 1) = pI p (n - 1) ∧ RelF f n (nxO p n) (nxO o n) := by
  by_cases h0 : n = 0
  · subst h0; exact ⟨rfl, fun k hk => absurd hk (Nat.not_lt_zero k)⟩
  · have e := cI hM h hn (n - 1) (by omega)
    refine ⟨e, ?_⟩
    unfold nxO
    have l1 := pI_le p (n - 1)
    rw [e, cJ hM h hn (i := pI p (n - 1) - 1) (by omega) (n - 1) (by omega)]
    by_cases h1 : 0 < pI p (n - 1)
    · rw [if_pos h1, if_pos h1]
      have l2 := pJ_le p (p (pI p (n - 1) - 1) % 8) (n - 1)
      exact cR 6 (cS h (by omega) (by omega)) _ _ (by omega)
    · rw [if_neg h1, if_neg h1]; exact h
/-! orders of any questions as those of places -/
theorem selL_map (f : Nat → Nat) : ∀ L : List Nat, selL (L.map f) = (selL L).map (fun p => (f p.1, p.2.map f))
  | [] => rfl
  | x :: xs => by
    rw [List.map_cons, selL, selL, selL_map f xs, List.map_cons, List.map_map, List.map_map]
    rfl
theorem prmL_map (f : Nat → Nat) : ∀ (n : Nat) (L : List Nat), prmL n (L.map f) = (prmL n L).map (List.map f)
  | 0, _ => rfl
  | n + 1, L => by
    rw [prmL, prmL, selL_map, List.flatMap_map, List.map_flatMap]
    refine congrArg (fun z => List.flatMap z (selL L)) (funext fun p => ?_)
    rw [prmL_map f n p.2, List.map_map, List.map_map]
    rfl
def nL (S : Nat) : Nat := (memL S).length
def fL (S : Nat) : Nat → Nat := gF (memL S)
theorem mem_fL : ∀ S, S < 256 → memL S = (List.range (nL S)).map (fL S) := by decide +kernel
theorem fL_mono0 : ∀ S, S < 256 → ∀ a, a < 8 → ∀ b, b < 8 → (a < nL S ∧ b < nL S → (fL S a ≤ fL S b ↔ a ≤ b)) := by decide +kernel
theorem fL_8 : ∀ S, S < 256 → ∀ a, a < 8 → a < nL S → fL S a < 8 := by decide +kernel
theorem nL_8 (S : Nat) : nL S ≤ 8 := memL_8 S
theorem fL_mono {S : Nat} (hS : S < 256) : Mono (fL S) (nL S) := fun a b ha hb => fL_mono0 S hS a (by have := nL_8 S; omega) b (by have := nL_8 S; omega) ⟨ha, hb⟩
def PK (S k : Nat) : List Nat := (prmL (nL S) (memL S)).getD k []
def ZK (S k : Nat) : List Nat := (PP (nL S)).getD k []
theorem PK_Z {S : Nat} (hS : S < 256) {k : Nat} (hk : k < (PP (nL S)).length) : PK S k = (ZK S k).map (fL S) ∧ (prmL (nL S) (memL S)).length = (PP (nL S)).length := by
  have e : prmL (nL S) (memL S) = (PP (nL S)).map (List.map (fL S)) := by
    have := prmL_map (fL S) (nL S) (List.range (nL S))
    rw [← mem_fL S hS] at this; exact this
  refine ⟨?_, by rw [e, List.length_map]⟩
  unfold PK ZK
  rw [e, List.getD_eq_getElem?_getD, List.getD_eq_getElem?_getD, List.getElem?_map, List.getElem?_eq_getElem hk]
  rfl
theorem map_gF {n : Nat} {g : Nat → Nat} {e : Nat} (he : e < n) : gF ((List.range n).map g) e = g e := by
  unfold gF
  rw [List.getD_eq_getElem?_getD, List.getElem?_map, List.getElem?_range he]; rfl
/-- the numbers of the first n places -/
def zO (o : Nat → Nat) (n : Nat) : List Nat := (List.range n).map (fun e => o e % 8)
theorem zO_PK {S : Nat} (hS : S < 256) (h6 : nL S ≤ 6) {k : Nat} (hk : k < (PP (nL S)).length) {o : Nat → Nat} (h : RelF (fL S) (nL S) (gF (ZK S k)) o) : zO o (nL S) = PK S k := by
  rw [(PK_Z hS hk).1]
  have hz := (chn_at (nL S) (PP (nL S)) k (chn_ok _ (by omega)) hk).1
  show _ = List.map (fL S) ((PP (nL S)).getD k [])
  rw [← hz, List.map_map]
  refine List.map_congr_left (fun e he => ?_)
  exact (h e (List.mem_range.mp he)).1
theorem step_k {S : Nat} (hS : S < 256) (h6 : nL S ≤ 6) {k : Nat} (hk : k < (PP (nL S)).length) {o : Nat → Nat} (h : RelF (fL S) (nL S) (gF (ZK S k)) o) : (0 < pI o (nL S - 1) ↔ k + 1 < (PP (nL S)).length) ∧ (k + 1 < (PP (nL S)).length → RelF (fL S) (nL S) (gF (ZK S (k + 1))) (nxO o (nL S))) := by
  obtain ⟨e, hr⟩ := cN (fL_mono hS) h h6
  obtain ⟨c1, c2, c3, c4⟩ := chn_at (nL S) (PP (nL S)) k (chn_ok _ (by omega)) hk
  refine ⟨?_, fun hk2 => ?_⟩
  · rw [e]
    constructor
    · intro hp
      by_cases h1 : k + 1 = (PP (nL S)).length
      · have := c4 h1
        have hz : pI (gF (ZK S k)) (nL S - 1) = 0 := this
        omega
      · omega
    · intro h1; exact (c3 h1).1
  · intro e9 he
    have h2 := hr e9 he
    have h3 : gF (ZK S (k + 1)) e9 = nxO (gF (ZK S k)) (nL S) e9 := by
      show gF ((PP (nL S)).getD (k + 1) []) e9 = _
      rw [← (c3 hk2).2, map_gF he]; rfl
    rw [h3]; exact h2
theorem rel_0 {S : Nat} (h6 : nL S ≤ 6) {o : Nat → Nat} (h : ∀ e, e < nL S → o e % 8 = fL S e) : RelF (fL S) (nL S) (gF (ZK S 0)) o := by
  intro e he
  have h1 : gF (ZK S 0) e = e := by
    unfold ZK
    rw [(PP_0 _ (by omega)).1]
    unfold gF
    rw [List.getD_eq_getElem?_getD, List.getElem?_range he]; rfl
  rw [h1]; exact ⟨h e he, he⟩
/-! how much an order leans -/
theorem coN_app (τ : tT) (x : Nat) : ∀ (l A : List Nat), coN τ A (l ++ [x]) = coN τ A l + chN τ (l.reverse ++ A) x
  | [], A => by simp [coN]
  | a :: l, A => by
    rw [List.cons_append, coN, coN, coN_app τ x l (a :: A), List.reverse_cons, List.append_assoc, Nat.add_assoc]; rfl
theorem coN_le (τ : tT) : ∀ (l A : List Nat), coN τ A l ≤ 1000 * l.length
  | [], _ => Nat.le_refl _
  | a :: l, A => by
    have h1 := coN_le τ l (a :: A)
    have h2 := chN_le τ A a
    rw [coN, List.length_cons]; omega
theorem ahL_rev (g : Nat → Nat) : ∀ n, ahL g n = ((List.range n).map g).reverse
  | 0 => rfl
  | n + 1 => by rw [ahL, ahL_rev g n, List.range_succ, List.map_append, List.reverse_append]; rfl
theorem lean_co {τ : tT} (hT : TI τ) (o : Nat → Nat) : ∀ n, sumN (fun x9 => chL τ (ahL (fun z => o z % 8) x9) ((fun z => o z % 8) x9)) n = nI (coN τ [] (zO o n))
  | 0 => rfl
  | n + 1 => by
    rw [sumN, lean_co hT o n, chL_nI hT _ (m8 (o n)), nI_add]
    unfold zO
    rw [List.range_succ, List.map_append, List.map_cons, List.map_nil, coN_app, List.append_nil, ahL_rev]
/-! the least so far -/
def FK (τ : tT) (S k : Nat) : Nat × List Nat := fm (((prmL (nL S) (memL S)).take k).map (fun z => (coN τ [] z, z))) (1000000, [])
def lsO (τ : tT) (S k : Nat) : Int32 := if k = 0 then -1 else nI (FK τ S k).1
theorem FK_s (τ : tT) {S : Nat} (hS : S < 256) {k : Nat} (hk : k < (PP (nL S)).length) : FK τ S (k + 1) = if coN τ [] (PK S k) < (FK τ S k).1 then (coN τ [] (PK S k), PK S k) else FK τ S k := by
  have hl := (PK_Z hS hk).2
  have e : (prmL (nL S) (memL S))[k]? = some (PK S k) := by
    unfold PK
    rw [List.getD_eq_getElem?_getD, List.getElem?_eq_getElem (by omega)]; rfl
  unfold FK
  rw [List.take_succ, e, Option.toList, List.map_append, fm_app]
  rfl
theorem FK_le (τ : tT) (S k : Nat) : (FK τ S k).1 ≤ 1000000 := fm_le _ _
theorem PK_len {S : Nat} (hS : S < 256) (h6 : nL S ≤ 6) {k : Nat} (hk : k < (PP (nL S)).length) : (PK S k).length ≤ 6 := by
  rw [(PK_Z hS hk).1, List.length_map]
  have hz := (chn_at (nL S) (PP (nL S)) k (chn_ok _ (by omega)) hk).1
  show ((PP (nL S)).getD k []).length ≤ 6
  rw [← hz, List.length_map, List.length_range]; exact h6
theorem co_le (τ : tT) {S : Nat} (hS : S < 256) (h6 : nL S ≤ 6) {k : Nat} (hk : k < (PP (nL S)).length) : coN τ [] (PK S k) ≤ 6000 := by
  have h1 := coN_le τ (PK S k) []
  have h2 := PK_len hS h6 hk
  omega
theorem ls_up (τ : tT) {S : Nat} (hS : S < 256) (h6 : nL S ≤ 6) {k : Nat} (hk : k < (PP (nL S)).length) (h : lsO τ S k = -1 ∨ ¬ lsO τ S k ≤ nI (coN τ [] (PK S k))) : FK τ S (k + 1) = (coN τ [] (PK S k), PK S k) ∧ lsO τ S (k + 1) = nI (coN τ [] (PK S k)) := by
  have hc := co_le τ hS h6 hk
  have hF := FK_le τ S k
  have hlt : coN τ [] (PK S k) < (FK τ S k).1 := by
    by_cases h0 : k = 0
    · subst h0
      show _ < (1000000 : Nat)
      omega
    · rw [lsO, if_neg h0] at h
      have h1 := h.resolve_left (tw_n (by omega))
      exact (nI_ltI (by omega) (by omega)).mp (Int32.not_le.mp h1)
  have e : FK τ S (k + 1) = (coN τ [] (PK S k), PK S k) := by rw [FK_s τ hS hk, if_pos hlt]
  exact ⟨e, by rw [lsO, if_neg (by omega), e]⟩
theorem ls_keep (τ : tT) {S : Nat} (hS : S < 256) (h6 : nL S ≤ 6) {k : Nat} (hk : k < (PP (nL S)).length) (h0 : ¬ lsO τ S k = -1) (h : lsO τ S k ≤ nI (coN τ [] (PK S k))) : FK τ S (k + 1) = FK τ S k ∧ lsO τ S (k + 1) = lsO τ S k ∧ 0 < k := by
  have hk0 : ¬ k = 0 := fun z => h0 (by rw [z]; rfl)
  have hc := co_le τ hS h6 hk
  have hF := FK_le τ S k
  rw [lsO, if_neg hk0] at h
  have h1 := (nI_leI (by omega) (by omega)).mp h
  have e : FK τ S (k + 1) = FK τ S k := by rw [FK_s τ hS hk, if_neg (by omega)]
  exact ⟨e, by rw [lsO, lsO, if_neg hk0, if_neg (by omega), e], by omega⟩
theorem dif_self : ∀ S, S < 256 → memL (difB S S) = [] := by decide +kernel
theorem FK_end (τ : tT) {S : Nat} (hS : S < 256) (h6 : nL S ≤ 6) : FK τ S (PP (nL S)).length = BS τ S S ∧ lsO τ S (PP (nL S)).length = nI (BS τ S S).1 := by
  have h0 := (PP_0 (nL S) (by omega)).2
  have e : FK τ S (PP (nL S)).length = BS τ S S := by
    unfold FK BS
    rw [← (PK_Z hS h0).2, List.take_length, dif_self S hS]
    exact fm_prm τ (nL S) [] (memL S)
  exact ⟨e, by rw [lsO, if_neg (by omega), e]⟩
/-! the set as a row -/
def flL (S q : Nat) : List Nat := (List.range q).filter (fun p => S.testBit p)
def flN (S q : Nat) : Nat := (flL S q).length
def oB (S : Nat) (o : Nat → Nat) (q : Nat) : Nat → Nat := fun e => if e < flN S q then (flL S q).getD e 0 else o e
theorem flL_t {S q : Nat} (h : S.testBit q = true) : flL S (q + 1) = flL S q ++ [q] := by
  unfold flL; rw [List.range_succ, List.filter_append, List.filter_cons_of_pos h]; rfl
theorem flL_f {S q : Nat} (h : ¬ S.testBit q = true) : flL S (q + 1) = flL S q := by
  unfold flL; rw [List.range_succ, List.filter_append, List.filter_cons_of_neg h]; exact List.append_nil _
theorem flN_t {S q : Nat} (h : S.testBit q = true) : flN S (q + 1) = flN S q + 1 := by unfold flN; rw [flL_t h]; simp
theorem flN_f {S q : Nat} (h : ¬ S.testBit q = true) : flN S (q + 1) = flN S q := by unfold flN; rw [flL_f h]
theorem oB_f {S q : Nat} (o : Nat → Nat) (h : ¬ S.testBit q = true) : oB S o (q + 1) = oB S o q := by unfold oB; rw [flN_f h, flL_f h]
theorem oB_t {S q : Nat} (o : Nat → Nat) (h : S.testBit q = true) (hq : q < 8) : upd (nA (oB S o q)) (flN S q) (nI q) = nA (oB S o (q + 1)) := by
  funext k
  unfold upd nA oB
  rw [flN_t h, flL_t h]
  simp only [List.getD_eq_getElem?_getD]
  by_cases h1 : k = flN S q
  · subst h1
    rw [if_pos rfl, if_pos (by omega), List.getElem?_append_right (show (flL S q).length ≤ flN S q from Nat.le_refl _)]
    simp [flN, Nat.mod_eq_of_lt hq]
  · rw [if_neg h1]
    by_cases h2 : k < flN S q
    · rw [if_pos h2, if_pos (by omega), List.getElem?_append_left h2]
    · rw [if_neg h2, if_neg (by omega)]
theorem oB_0 (S : Nat) (o : Nat → Nat) : oB S o 0 = o := by funext e; exact if_neg (Nat.not_lt_zero e)
theorem flN_0 (S : Nat) : flN S 0 = 0 := rfl
theorem fl_n {S n : Nat} (hn : n ≤ 8) (hS : S < 2 ^ n) : flL S n = memL S := mem_n n (by omega) S (Nat.lt_of_lt_of_le hS (p28 hn)) hS
theorem fl_room : ∀ S, S < 256 → ∀ q, q < 8 → S.testBit q = true → flN S q < nL S := by decide +kernel
theorem oB_end {S n : Nat} (hn : n ≤ 8) (hS : S < 2 ^ n) (o : Nat → Nat) : ∀ e, e < nL S → oB S o n e % 8 = fL S e := by
  intro e he
  have h1 : flN S n = nL S := by unfold flN; rw [fl_n hn hS]; rfl
  unfold oB
  rw [if_pos (by omega), fl_n hn hS]
  exact Nat.mod_eq_of_lt (fL_8 S (Nat.lt_of_lt_of_le hS (p28 hn)) e (by have := nL_8 S; omega) he)
def bU (o b : Nat → Nat) (e : Nat) : Nat → Nat := fun z => if z < e then o z else b z
theorem bU_0 (o b : Nat → Nat) : bU o b 0 = b := by funext z; exact if_neg (Nat.not_lt_zero z)
theorem bU_s (o b : Nat → Nat) (e : Nat) : upd (nA (bU o b e)) e (nA o e) = nA (bU o b (e + 1)) := by
  funext k; unfold upd nA bU
  by_cases h : k = e
  · subst h; rw [if_pos rfl, if_pos (by omega)]
  · rw [if_neg h]; by_cases h2 : k < e
    · rw [if_pos h2, if_pos (by omega)]
    · rw [if_neg h2, if_neg (by omega)]
theorem best_up {τ : tT} {S : Nat} (hS : S < 256) (h6 : nL S ≤ 6) {k : Nat} (hk : k < (PP (nL S)).length) {o b : Nat → Nat} (h : RelF (fL S) (nL S) (gF (ZK S k)) o) (hF : FK τ S (k + 1) = (coN τ [] (PK S k), PK S k)) : ∀ z, z < nL S → bU o b (nL S) z % 8 = (FK τ S (k + 1)).2.getD z 0 := by
  intro z hz
  rw [hF, ← zO_PK hS h6 hk h]
  unfold bU
  rw [if_pos hz]
  exact (map_gF (g := fun e => o e % 8) hz).symm
theorem set_of {x : Int32} {n : Nat} (hn : n ≤ 8) (h1 : ¬ x < 0) (h2 : ¬ (1 : Int32) <<< (nI n &&& 31) ≤ x) : ∃ S, S < 2 ^ n ∧ x = nI S := by
  have e : ∀ n, n < 9 → (1 : Int32) <<< (nI n &&& 31) = nI (2 ^ n) := by decide
  obtain ⟨k, hk, rfl⟩ := nI_of h1
  rw [e n (by omega)] at h2
  have := p28 hn
  exact ⟨k, Nat.not_le.mp (fun z => h2 ((nI_leI (by omega) hk).mpr z)), rfl⟩
theorem set_no {x : Int32} {n : Nat} (hn : n ≤ 8) (h : x < 0 ∨ (1 : Int32) <<< (nI n &&& 31) ≤ x) : ¬ ush x (nI n) = 0 := by
  intro h0
  have e : ∀ n, n < 9 → (1 : Int32) <<< (nI n &&& 31) = nI (2 ^ n) := by decide
  obtain ⟨S, hS, rfl⟩ := set_nI hn h0
  have := p28 hn
  rcases h with h | h
  · exact absurd h (nI_pos (by omega))
  · rw [e n (by omega)] at h
    have := (nI_leI (by omega) (by omega)).mp h
    omega
theorem has_t : ∀ S, S < 256 → ∀ q, q < 8 → (nI S >>> (nI q &&& 31) &&& 1 = 1 ↔ S.testBit q = true) := by decide +kernel
