/-! what changes: towns, shelves, acts -/
def nx (x : Int32) : Nat := x.toNatClampNeg
theorem nx_nI {n : Nat} (h : n < 2 ^ 31) : nx (nI n) = n := nI_clamp h
theorem fq_up0 (τ : tT) (q : Nat) (x : Int32) : fq (up2 τ 0 q x) = upd (fq τ) (q * 2) x := by
  funext k; unfold fq up2 upd
  by_cases h : k = q * 2
  · subst h; rw [if_pos rfl, show q * 2 % 2 = 0 by omega, show q * 2 / 2 = q by omega]; simp
  · rw [if_neg h]
    by_cases h0 : k % 2 = 0
    · rw [if_pos h0, if_neg (by omega), ]
    · rw [if_neg h0]
theorem fq_up1 (τ : tT) (q : Nat) (x : Int32) : fq (up2 τ 1 q x) = upd (fq τ) (q * 2 + 1) x := by
  funext k; unfold fq up2 upd
  by_cases h : k = q * 2 + 1
  · subst h; rw [if_pos rfl, show (q * 2 + 1) % 2 = 1 by omega, show (q * 2 + 1) / 2 = q by omega]; simp
  · rw [if_neg h]
    by_cases h0 : k % 2 = 1
    · rw [if_pos h0, if_neg (by omega), ]
    · rw [if_neg h0]
theorem fq_upn (τ : tT) {a : Nat} (i : Nat) (x : Int32) (h : 2 ≤ a) : fq (up2 τ a i x) = fq τ := by
  funext k; unfold fq up2; rw [if_neg (by omega)]
theorem fg_up (τ : tT) (i g : Nat) (x : Int32) (hi : i < 5) : fg (up2 τ (3 + i) g x) = upd (fg τ) (g * 5 + i) x := by
  funext k; unfold fg up2 upd
  by_cases h : k = g * 5 + i
  · subst h; rw [if_pos rfl, show (g * 5 + i) % 5 = i by omega, show (g * 5 + i) / 5 = g by omega]; simp
  · rw [if_neg h]
    by_cases h0 : k % 5 = i
    · rw [if_pos (by omega), if_neg (by omega)]
    · rw [if_neg (by omega)]
theorem fg_upn (τ : tT) {a : Nat} (i : Nat) (x : Int32) (h : a < 3 ∨ 8 ≤ a) : fg (up2 τ a i x) = fg τ := by
  funext k; unfold fg up2; rw [if_neg (by omega)]
theorem fg_up3 (τ : tT) (g : Nat) (x : Int32) : fg (up2 τ 3 g x) = upd (fg τ) (g * 5) x := fg_up τ 0 g x (by decide)
theorem fg_up4 (τ : tT) (g : Nat) (x : Int32) : fg (up2 τ 4 g x) = upd (fg τ) (g * 5 + 1) x := fg_up τ 1 g x (by decide)
theorem fg_up5 (τ : tT) (g : Nat) (x : Int32) : fg (up2 τ 5 g x) = upd (fg τ) (g * 5 + 2) x := fg_up τ 2 g x (by decide)
theorem fg_up6 (τ : tT) (g : Nat) (x : Int32) : fg (up2 τ 6 g x) = upd (fg τ) (g * 5 + 3) x := fg_up τ 3 g x (by decide)
theorem fg_up7 (τ : tT) (g : Nat) (x : Int32) : fg (up2 τ 7 g x) = upd (fg τ) (g * 5 + 4) x := fg_up τ 4 g x (by decide)
/-- a town with one scalar, one question, one group more; a bearing, a view -/
def aSc (τ : tT) (k : Nat) (x : Int32) : tT := up2 τ 8 k x
def aQu (τ : tT) (k a : Int32) : tT := up2 (up2 (up2 τ 8 0 (nI (tQ τ + 1))) 0 (tQ τ) k) 1 (tQ τ) a
def aGr (τ : tT) (n v g h w : Int32) : tT := up2 (up2 (up2 (up2 (up2 (up2 τ 8 1 (nI (tG τ + 1))) 3 (tG τ) n) 4 (tG τ) v) 5 (tG τ) g) 6 (tG τ) h) 7 (tG τ) w
def aBe (τ : tT) (p q : Nat) (x : Int32) : tT := up2 τ 2 (p * 8 + q) x
def aVi (τ : tT) (g : Nat) (x : Int32) : tT := up2 τ 4 g x
def aSp (τ : tT) (g : Nat) (v n : Int32) : tT := aGr (up2 τ 3 g (τ 3 g - n)) n v (τ 5 g) (τ 6 g) (τ 7 g)
/-- a draw: the seed behind it, and what is drawn -/
def sdN (x : Int32) : Int32 := x * 1103515245 + 12345
def drV (x n : Int32) : Int32 := if n < 1 then 0 else (let z := ((sdN x).toUInt32 >>> (Int32.toUInt32 16 &&& Int32.toUInt32 31)).toInt32; z - z / n * n)
/-- a town behind a draw -/
def kn1 (τ : tT) : tT := aSc τ 4 (sdN (τ 8 4))
theorem kn1_r (τ : tT) {a : Nat} (h : a ≠ 8) : kn1 τ a = τ a := by unfold kn1 aSc; exact up2_n _ _ h
theorem aSc_r (τ : tT) {a : Nat} (k : Nat) (x : Int32) (h : a ≠ 8) : aSc τ k x a = τ a := by unfold aSc; exact up2_n _ _ h
theorem kn1_s (τ : tT) {k : Nat} (h : k ≠ 4) : kn1 τ 8 k = τ 8 k := by unfold kn1 aSc up2; rw [if_pos rfl, if_neg h]
theorem aSc_s (τ : tT) {j k : Nat} (x : Int32) (h : k ≠ j) : aSc τ j x 8 k = τ 8 k := by unfold aSc up2; rw [if_pos rfl, if_neg h]
theorem kn1_aSc (τ : tT) {k : Nat} (x : Int32) (h : k ≠ 4) : kn1 (aSc τ k x) = aSc (kn1 τ) k x := by
  have e : aSc τ k x 8 4 = τ 8 4 := aSc_s τ x (Ne.symm h)
  unfold kn1; rw [e]
  funext a j; unfold aSc up2
  by_cases ha : a = 8
  · subst ha; simp only [if_true]
    by_cases h1 : j = 4 <;> by_cases h2 : j = k <;> simp_all
  · simp [ha]
theorem drV_lt (x : Int32) {n : Nat} (h0 : 0 < n) (hn : n < 2 ^ 31) : drV x (nI n) = nI (nx (drV x (nI n))) ∧ nx (drV x (nI n)) < n := by
  obtain ⟨z, hz, hz2⟩ : ∃ z : Nat, z < 2 ^ 31 ∧ ((sdN x).toUInt32 >>> (Int32.toUInt32 16 &&& Int32.toUInt32 31)).toInt32 = nI z := by
    have h1 := pk_ushr (sdN x) 16 16 (by decide)
    refine ⟨(sdN x).toBitVec.toNat / 2 ^ 16, ?_, ?_⟩
    · have := (sdN x).toBitVec.isLt; omega
    · apply Int32.toBitVec_inj.mp
      apply BitVec.eq_of_toNat_eq
      rw [h1, pk_tn (by have := (sdN x).toBitVec.isLt; omega)]
  have e : drV x (nI n) = nI (z % n) := by
    unfold drV
    rw [if_neg (by
      intro q
      have := (nI_ltI (b := 1) hn (by decide)).mp q
      omega)]
    simp only [hz2]
    exact pk_rem hz h0 hn
  have hlt : z % n < n := Nat.mod_lt _ h0
  rw [e]
  have e2 : nx (nI (z % n)) = z % n := nI_clamp (by omega)
  rw [e2]; exact ⟨rfl, hlt⟩
/-- the shelves: what is held, sizes, elements -/
def wS (G : gT) (h a b c : Nat) (hd sz : Nat → Int32) (el : Nat → Int64) : va_W := [oC h 2 [.ref a, .ref b, .ref c], iC G a 8 hd, iC G b 8 sz, jC G c 1280 el]
def SI (hd sz : Nat → Int32) : Prop := ∀ s, s < 8 → rng (hd s) (-1) 200 ∧ rng (sz s) 0 160
abbrev isQn (x : Int32) : Prop := ¬ x = -1 ∧ ¬ 100 ≤ x
abbrev isRw (x : Int32) : Prop := ¬ x < 100
abbrev in8 (x : Int32) : Prop := 0 ≤ x ∧ x ≤ 7
theorem in8_nI {x : Int32} (h : in8 x) : ∃ s, s < 8 ∧ x = nI s := (lt_Q (n := 8) (by decide)).mp h
theorem nI_in8 {s : Nat} (h : s < 8) : in8 (nI s) := (lt_Q (n := 8) (by decide)).mpr ⟨s, h, rfl⟩
def rfRows (hd : Nat → Int32) (p q : Int32) : Int32 := if ¬ in8 p ∨ ¬ in8 q then -1 else if isQn (hd (nx p)) ∨ isQn (hd (nx q)) then -2 else if isRw (hd (nx p)) ∧ isRw (hd (nx q)) then (if hd (nx p) = hd (nx q) then 0 else -2) else -3
def zN (sz : Nat → Int32) (s : Nat) : Nat := (sz s).toNatClampNeg
theorem SI.z {hd sz : Nat → Int32} (h : SI hd sz) {s : Nat} (hs : s < 8) : sz s = nI (zN sz s) ∧ zN sz s ≤ 160 := by
  have h1 := rng_nI (h s hs).2
  exact ⟨h1.1, by have := h1.2; show (sz s).toNatClampNeg ≤ 160; omega⟩
def clr (el : Nat → Int64) (s n : Nat) : Nat → Int64 := fun k => if s * 160 ≤ k ∧ k < s * 160 + n then 0 else el k
theorem clr_s (el : Nat → Int64) (s n : Nat) : vp_updL (clr el s n) (s * 160 + n) 0 = clr el s (n + 1) := by
  funext k; unfold vp_updL clr
  by_cases h : k = s * 160 + n
  · rw [if_pos h, if_pos (by omega)]
  · rw [if_neg h]; by_cases h2 : s * 160 ≤ k ∧ k < s * 160 + n
    · rw [if_pos h2, if_pos (by omega)]
    · rw [if_neg h2, if_neg (by omega)]
theorem clr_0 (el : Nat → Int64) (s : Nat) : clr el s 0 = el := by funext k; unfold clr; rw [if_neg (by omega)]
def drp (hd : Nat → Int32) (f : Int32) (n : Nat) : Nat → Int32 := fun k => if k < n ∧ isQn (hd k) ∧ ¬ hd k < f then -1 else hd k
theorem drp_0 (hd : Nat → Int32) (f : Int32) : drp hd f 0 = hd := by funext k; unfold drp; rw [if_neg (by omega)]
theorem drp_t (hd : Nat → Int32) (f : Int32) (n : Nat) (h : isQn (hd n) ∧ ¬ hd n < f) : upd (drp hd f n) n (-1) = drp hd f (n + 1) := by
  funext k; unfold upd drp
  by_cases hk : k = n
  · subst hk; rw [if_pos rfl, if_pos ⟨by omega, h⟩]
  · rw [if_neg hk]; by_cases h2 : k < n ∧ isQn (hd k) ∧ ¬ hd k < f
    · rw [if_pos h2, if_pos ⟨by omega, h2.2⟩]
    · rw [if_neg h2, if_neg (fun q => h2 ⟨by omega, q.2⟩)]
theorem drp_f (hd : Nat → Int32) (f : Int32) (n : Nat) (h : ¬ (isQn (hd n) ∧ ¬ hd n < f)) : drp hd f n = drp hd f (n + 1) := by
  funext k; unfold drp
  by_cases h2 : k < n ∧ isQn (hd k) ∧ ¬ hd k < f
  · rw [if_pos h2, if_pos ⟨by omega, h2.2⟩]
  · rw [if_neg h2, if_neg]
    rintro ⟨q1, q2⟩
    by_cases hk : k = n
    · subst hk; exact h q2
    · exact h2 ⟨by omega, q2⟩
theorem drp_at (hd : Nat → Int32) (f : Int32) (n : Nat) : drp hd f n n = hd n := by unfold drp; rw [if_neg (by omega)]
def lowB (x : Int32) (v : Int64) : Int64 := if x = 0 then v.toInt32.toInt8.toInt32.toInt64 else if x = 1 then v.toInt32.toInt16.toInt32.toInt64 else if x = 2 then v.toInt32.toInt64 else v
def txt (el : Nat → Int64) (s : Nat) (lt : Nat → Int32) (n : Nat) : Nat → Int32 := fun k => if k < n then (el (s * 160 + k)).toInt32 else lt k
theorem txt_0 (el : Nat → Int64) (s : Nat) (lt : Nat → Int32) : txt el s lt 0 = lt := by funext k; unfold txt; rw [if_neg (by omega)]
theorem txt_s (el : Nat → Int64) (s : Nat) (lt : Nat → Int32) (n : Nat) : upd (txt el s lt n) n (el (s * 160 + n)).toInt32 = txt el s lt (n + 1) := by
  funext k; unfold upd txt
  by_cases h : k = n
  · subst h; rw [if_pos rfl, if_pos (by omega)]
  · rw [if_neg h]; by_cases h2 : k < n
    · rw [if_pos h2, if_pos (by omega)]
    · rw [if_neg h2, if_neg (by omega)]
theorem rf_in {hd : Nat → Int32} {p q : Int32} (h : rfRows hd p q = 0) : in8 p ∧ in8 q ∧ isRw (hd (nx p)) ∧ isRw (hd (nx q)) ∧ hd (nx p) = hd (nx q) := by
  unfold rfRows at h
  by_cases h1 : ¬ in8 p ∨ ¬ in8 q
  · rw [if_pos h1] at h; exact absurd h (by decide)
  · rw [if_neg h1] at h
    by_cases h2 : isQn (hd (nx p)) ∨ isQn (hd (nx q))
    · rw [if_pos h2] at h; exact absurd h (by decide)
    · rw [if_neg h2] at h
      by_cases h3 : isRw (hd (nx p)) ∧ isRw (hd (nx q))
      · rw [if_pos h3] at h
        by_cases h4 : hd (nx p) = hd (nx q)
        · exact ⟨Classical.not_not.mp (fun z => h1 (Or.inl z)), Classical.not_not.mp (fun z => h1 (Or.inr z)), h3.1, h3.2, h4⟩
        · rw [if_neg h4] at h; exact absurd h (by decide)
      · rw [if_neg h3] at h; exact absurd h (by decide)
theorem has_nI {hd sz : Nat → Int32} (hS : SI hd sz) {s : Nat} (hs : s < 8) {i : Int32} {n : Nat} (hn : n < 2 ^ 31) (h : ¬ i < 0 ∧ ¬ sz s - nI n < i) : ∃ j, j + n ≤ zN sz s ∧ i = nI j := by
  obtain ⟨e, hz⟩ := hS.z hs
  have h1 : (0 : Int) ≤ i.toInt := Int32.le_iff_toInt_le.mp (Int32.not_lt.mp h.1)
  have h2 := Int32.le_iff_toInt_le.mp (Int32.not_lt.mp h.2)
  have h3 : (sz s - nI n).toInt = (zN sz s : Int) - n := by
    rw [e, Int32.toInt_sub, nI_toInt (by omega), nI_toInt hn, Int.bmod_def]; omega
  rw [h3] at h2
  have h4 := rng_nI (x := i) (b := i.toInt) ⟨h1, Int.le_refl _⟩
  have h5 : ((nx i : Nat) : Int) = i.toInt := by
    show ((i.toInt.toNat : Nat) : Int) = _
    omega
  exact ⟨nx i, by omega, h4.1⟩
theorem nI_has {hd sz : Nat → Int32} (hS : SI hd sz) {s : Nat} (hs : s < 8) {j n : Nat} (hn : n < 2 ^ 31) (h : j + n ≤ zN sz s) : ¬ nI j < 0 ∧ ¬ sz s - nI n < nI j := by
  obtain ⟨e, hz⟩ := hS.z hs
  refine ⟨nI_pos (by omega), Int32.not_lt.mpr (Int32.le_iff_toInt_le.mpr ?_)⟩
  rw [e, Int32.toInt_sub, nI_toInt (by omega), nI_toInt hn, nI_toInt (by omega), Int.bmod_def]; omega
/-- acts: what is kept, how many bodies ran; a run of bodies -/
def wA (G : gT) (h a : Nat) (kp : Nat → Int32) (b nm kd aa : Int32) : va_W := [oC h 0 [.ref a, .int b, .int nm, .int kd, .int aa], iC G a 20 kp]
def bgK (kp : Nat → Int32) (b : Nat) (x : Int32) : Nat → Int32 := if b < 20 then upd kp b x else kp
def rnK (kp : Nat → Int32) : Nat → List Int32 → (Nat → Int32)
  | _, [] => kp
  | b, x :: l => rnK (bgK kp b x) (b + 1) l
def akV (k : Nat) (m a x : Int32) : Int32 := if k = 1 ∨ k = 3 then x + m + a else if k = 4 then x + m - m else if k = 6 then (x + m - m) * 2 else x + m
def akL (k : Nat) : List Int32 := if k = 1 ∨ k = 3 then [20, 10] else if k = 4 then [51, 10] else if k = 6 then [70, 51, 10] else [10]
def lnV (k : Nat) (m a x : Int32) : Int32 := if k = 2 ∨ k = 5 then akV k m a x * 2 * 3 else if k = 3 then akV k m a (x + 1) * 2 else if k = 6 then akV k m a (x - a) * 2 else akV k m a x * 2
def lnL (k : Nat) : List Int32 := if k = 2 ∨ k = 5 then 30 :: 11 :: akL k else if k = 3 then 40 :: 11 :: akL k else if k = 6 then 71 :: 11 :: akL k else 11 :: akL k
def smV (k : Nat) (m a x : Int32) : Int32 := if k = 4 ∨ k = 6 then -(lnV k m a x ^^^ akV k m a (x - a)) else if k = 5 then lnV k m a x ^^^ akV k m a (x - a) ^^^ 5 else lnV k m a x ^^^ akV k m a (x - a)
def smL (k : Nat) : List Int32 := if k = 4 ∨ k = 6 then 50 :: 12 :: (lnL k ++ akL k) else if k = 5 then 60 :: 12 :: (lnL k ++ akL k) else 12 :: (lnL k ++ akL k)
/-- orders: shares, the least of each rest -/
def wO (G : gT) (h a b : Nat) (sh lr : Nat → Int32) : va_W := [oC h 1 [.ref a, .ref b], iC G a 8 sh, iC G b 256 lr]
def clrB (r q : Nat) : Nat := if r.testBit q then r - 2 ^ q else r
theorem clrB_i : ∀ r, r < 256 → ∀ q, q < 8 → nI r &&& ((1 <<< (nI q &&& 31)) ^^^ (-1)) = nI (clrB r q) ∧ clrB r q < 256 := by decide +kernel
/-- a row of numbers may be told by another that agrees as far as it goes -/
theorem arrV_congr (cA : ClassId) (n : Nat) {f g : Nat → Value} (h : ∀ j, j < n → f j = g j) : arrV cA n f = arrV cA n g := by
  unfold arrV
  congr 1
  first
    | (apply Array.ext <;> simp_all)
    | (congr 1; apply List.map_congr_left; intro j hj; exact h j (List.mem_range.mp hj))
theorem g_wsI {p : Program} {l : Launch} {e : Env} {R : Room} {s : State} {m : MethodId} {args : Array Value} {below : List Frame} {meth : Method} {c : Code} {Q : State → Prop} {G : gT} {A : Nat → Prop} {w : Bool} {nL cells slots : Nat} {ws : va_W} {lv : List (Nat × Value)} {pc : Nat} {st : List Value} {a n : Nat} {f : Nat → Int32} (f' : Nat → Int32) {ws' : va_W} (q0 : Nat) (ha : ws[q0]? = some (a, .inl (G.2.1, n, .inl f))) (hf : ∀ j, j < n → f j = f' j) (hs : ws.set q0 (a, .inl (G.2.1, n, .inl f')) = ws') (k : GW p l e R s m args below meth c Q G A w nL cells slots ws' lv pc st) : GW p l e R s m args below meth c Q G A w nL cells slots ws lv pc st := by
  subst hs
  refine fun H L ls hI hl => k H L ls ⟨fun k9 q hq => ?_, hI.2.1, fun hw => (hI.2.2 hw).set ha⟩ hl
  have hlen := (List.getElem?_eq_some_iff.mp ha).1
  by_cases hk : k9 = q0
  · subst hk
    rw [List.getElem?_set_self hlen] at hq
    cases hq
    have h1 := hI.1 k9 _ ha
    show H[a]? = some (arrV G.2.1 n (fun j => .int (f' j)))
    rw [← arrV_congr G.2.1 n (f := fun j => .int (f j)) (fun j hj => by rw [hf j hj])]
    exact h1
  · rw [List.getElem?_set_ne (Ne.symm hk)] at hq
    exact hI.1 k9 q hq
