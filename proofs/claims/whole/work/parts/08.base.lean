/-! the words of the state, and small numbers -/
abbrev oC (a ci : Nat) (fs : List Value) : Nat × va_E := (a, .inr (ci, fs))
abbrev iC (G : gT) (a n : Nat) (f : Nat → Int32) : Nat × va_E := (a, .inl (G.2.1, n, .inl f))
abbrev jC (G : gT) (a n : Nat) (f : Nat → Int64) : Nat × va_E := (a, .inl (G.2.2.1, n, .inr (.inl f)))
def bI (P : Prop) [Decidable P] : Int32 := if P then 1 else 0
theorem bI_t {P : Prop} [Decidable P] (h : P) : bI P = 1 := if_pos h
theorem bI_f {P : Prop} [Decidable P] (h : ¬ P) : bI P = 0 := if_neg h
theorem bI_0 {P : Prop} [Decidable P] : bI P = 0 ↔ ¬ P := by unfold bI; split <;> simp_all
theorem bI_1 {P : Prop} [Decidable P] : ¬ bI P = 0 ↔ P := by unfold bI; split <;> simp_all
theorem bI_nar (P : Prop) [Decidable P] : narrow .boolean (.int (bI P)) = .int (bI P) := by unfold bI; split <;> rfl
theorem bI_iff {P Q : Prop} [Decidable P] [Decidable Q] (h : P ↔ Q) : bI P = bI Q := by unfold bI; simp only [h]
def mMin (x z : Int32) : Int32 := if z < x then z else x
def mMax (x z : Int32) : Int32 := if x < z then z else x
def mAbs (x : Int32) : Int32 := if 0 ≤ x then x else 0 - x
section GWB
variable {p : Program} {l : Launch} {e : Env} {R : Room} {s : State} {m : MethodId} {args : Array Value} {below : List Frame} {meth : Method} {c : Code} {Q : State → Prop} {G : gT} {A : Nat → Prop} {w : Bool} {nL cells slots : Nat} {ws : va_W} {lv : List (Nat × Value)} {pc : Nat} {st : List Value} {cc : ByteArray} {y : MethodName} {rt : Option FieldType}
theorem g_ifb_eq (C : Cx p s m args meth c G A w nL cc y rt) {P : Prop} [Decidable P] {off : Int} {tgt : Nat} (hdg : decode cc pc = .ok (.ifCond .eq off, 3)) (ht : (pc : Int) + off = (tgt : Int)) (kt : ¬ P → GW p l e R s m args below meth c Q G A w nL cells slots ws lv tgt st) (kf : P → GW p l e R s m args below meth c Q G A w nL cells slots ws lv (pc + 3) st) : GW p l e R s m args below meth c Q G A w nL cells slots ws lv pc (.int (bI P) :: st) := g_if_eq C hdg ht (fun h => kt (bI_0.mp h)) (fun h => kf (bI_1.mp h))
theorem g_ifb_ne (C : Cx p s m args meth c G A w nL cc y rt) {P : Prop} [Decidable P] {off : Int} {tgt : Nat} (hdg : decode cc pc = .ok (.ifCond .ne off, 3)) (ht : (pc : Int) + off = (tgt : Int)) (kt : P → GW p l e R s m args below meth c Q G A w nL cells slots ws lv tgt st) (kf : ¬ P → GW p l e R s m args below meth c Q G A w nL cells slots ws lv (pc + 3) st) : GW p l e R s m args below meth c Q G A w nL cells slots ws lv pc (.int (bI P) :: st) := g_if_ne C hdg ht (fun h => kt (bI_1.mp h)) (fun h => kf (bI_0.mp h))
theorem g_ldcS (C : Cx p s m args meth c G A w nL cc y rt) {own tx : String} {index i9 q : Nat} (hdg : decode cc pc = .ok (.ldc index, 2)) (hm : (own, index, tx, q) ∈ kwR) (ho : own = y.cls) (hi : i9 = q) (k : GW p l e R s m args below meth c Q G A w nL cells slots ws lv (pc + 2) (.ref (G.2.2.2.2.2.1 q) :: st)) : GW p l e R s m args below meth c Q G A w nL cells slots ws lv pc st := by
  subst ho
  exact fun H L ls hI hl => va_ldcS C.1 C.2.1 C.own (C.2.2.2.2.2.1.2.2.2.2.2.2.2.2 _ hm) hdg (k H L ls hI hl)
theorem g_above (C : Cx p s m args meth c G A w nL cc y rt) {own : String} {index : Nat} (hm : Cond.fieldLink own index "AskedTheOtherWayAbout" "ABOVE" "[I" ∈ big) (ho : own = y.cls) (hdg : decode cc pc = .ok (.getstatic index, 3)) (k : GW p l e R s m args below meth c Q G A w nL cells slots ws lv (pc + 3) (.ref G.2.2.2.2.1 :: st)) : GW p l e R s m args below meth c Q G A w nL cells slots ws lv pc st := by
  subst ho
  exact fun H L ls hI hl => va_gets C.1 C.2.1 (C.2.2.2.2.2.1.2.2.2.1.narrow C.2.2.2.2.2.2.1) hI.2.1 C.own (C.ts hm) (fun _ h => h) hdg (k H L ls hI hl)
theorem g_aboveLd (C : Cx p s m args meth c G A w nL cc y rt) {i v : Int32} (k9 : Nat) (hk : i = nI k9) (hn : k9 < 7) (hv : abF k9 = v) (hdg : decode cc pc = .ok (.iaload, 1)) (k : GW p l e R s m args below meth c Q G A w nL cells slots ws lv (pc + 1) (.int v :: st)) : GW p l e R s m args below meth c Q G A w nL cells slots ws lv pc (.int i :: .ref G.2.2.2.2.1 :: st) :=
  fun H L ls hI hl => va_ti C.1 C.2.1 (C.2.2.2.2.2.1.2.2.2.2.1.narrow C.2.2.2.2.2.2.1) hI.2.1 (in_nI hk (n := 7) ⟨hn, by decide⟩).1 (v := .int v) (by rw [(in_nI hk (n := 7) ⟨hn, by decide⟩).2, hv]) hdg (k H L ls hI hl)
theorem g_aboveLen (C : Cx p s m args meth c G A w nL cc y rt) (hdg : decode cc pc = .ok (.arraylength, 1)) (k : GW p l e R s m args below meth c Q G A w nL cells slots ws lv (pc + 1) (.int 7 :: st)) : GW p l e R s m args below meth c Q G A w nL cells slots ws lv pc (.ref G.2.2.2.2.1 :: st) :=
  fun H L ls hI hl => va_tlen C.1 C.2.1 (C.2.2.2.2.2.1.2.2.2.2.1.narrow C.2.2.2.2.2.2.1) hI.2.1 (v := 7) rfl hdg (k H L ls hI hl)
end GWB
/-- a town: rows of numbers: 0 kinds, 1 a, 2 bearings (8 p + q), 3 to 7 counts, views, glads, homes, wills of groups, 8 scalars: questions, groups, penny, half, seed, asked, yeses -/
abbrev tT : Type := Nat → Nat → Int32
def up2 (τ : tT) (i j : Nat) (x : Int32) : tT := fun a k => if a = i then (if k = j then x else τ a k) else τ a k
theorem up2_s (τ : tT) (i j : Nat) (x : Int32) : up2 τ i j x i j = x := by simp [up2]
theorem up2_r (τ : tT) (i j : Nat) (x : Int32) : up2 τ i j x i = upd (τ i) j x := by funext k; simp [up2, upd]
theorem up2_n (τ : tT) {i j a : Nat} (x : Int32) (h : a ≠ i) : up2 τ i j x a = τ a := by funext k; simp [up2, h]
def fq (τ : tT) (j : Nat) : Int32 := τ (j % 2) (j / 2)
def fg (τ : tT) (j : Nat) : Int32 := τ (3 + j % 5) (j / 5)
theorem fq_0 (τ : tT) (q : Nat) : fq τ (q * 2) = τ 0 q := by unfold fq; rw [show q * 2 % 2 = 0 by omega, show q * 2 / 2 = q by omega]
theorem fq_1 (τ : tT) (q : Nat) : fq τ (q * 2 + 1) = τ 1 q := by unfold fq; rw [show (q * 2 + 1) % 2 = 1 by omega, show (q * 2 + 1) / 2 = q by omega]
theorem fg_0 (τ : tT) (g : Nat) : fg τ (g * 5) = τ 3 g := by unfold fg; rw [show g * 5 % 5 = 0 by omega, show g * 5 / 5 = g by omega]
theorem fg_i (τ : tT) (g : Nat) {i : Nat} (h : i < 5) : fg τ (g * 5 + i) = τ (3 + i) g := by unfold fg; rw [show (g * 5 + i) % 5 = i by omega, show (g * 5 + i) / 5 = g by omega]
def wT (G : gT) (h a b c : Nat) (τ : tT) : va_W := [oC h 3 [.ref a, .ref b, .ref c, .int (τ 8 0), .int (τ 8 1), .int (τ 8 2), .int (τ 8 3), .int (τ 8 4), .int (τ 8 5), .int (τ 8 6)], iC G a 16 (fq τ), iC G b 64 (τ 2), iC G c 50 (fg τ)]
def tQ (τ : tT) : Nat := (τ 8 0).toNatClampNeg
def tG (τ : tT) : Nat := (τ 8 1).toNatClampNeg
def rng (x : Int32) (a b : Int) : Prop := a ≤ x.toInt ∧ x.toInt ≤ b
/-- what holds of every town -/
def TI (τ : tT) : Prop :=
  (τ 8 0 = nI (tQ τ) ∧ tQ τ ≤ 8) ∧ (τ 8 1 = nI (tG τ) ∧ tG τ ≤ 10) ∧
  (∀ q, q < 8 → rng (τ 0 q) 0 6 ∧ rng (τ 1 q) 0 9) ∧
  (∀ i j, i < 8 → j < 8 → rng (τ 2 (i * 8 + j)) (-9) 9 ∧ (tQ τ ≤ i ∨ tQ τ ≤ j → τ 2 (i * 8 + j) = 0)) ∧
  (∀ g, g < tG τ → rng (τ 3 g) 1 999 ∧ rng (τ 4 g) 0 2 ∧ rng (τ 5 g) 0 10 ∧ rng (τ 6 g) 0 10 ∧ rng (τ 7 g) 0 10) ∧
  rng (τ 8 2) 0 99 ∧ rng (τ 8 3) 0 7
theorem TI.q {τ : tT} (h : TI τ) : τ 8 0 = nI (tQ τ) := h.1.1
theorem TI.q8 {τ : tT} (h : TI τ) : tQ τ ≤ 8 := h.1.2
theorem TI.g {τ : tT} (h : TI τ) : τ 8 1 = nI (tG τ) := h.2.1.1
theorem TI.g10 {τ : tT} (h : TI τ) : tG τ ≤ 10 := h.2.1.2
/-- a number below a count -/
theorem rng_nI {x : Int32} {b : Int} (h : rng x 0 b) : x = nI x.toNatClampNeg ∧ (x.toNatClampNeg : Int) ≤ b := by
  have h1 : (x.toNatClampNeg : Int) = x.toInt := by
    show ((x.toInt.toNat : Nat) : Int) = _
    have := h.1; omega
  refine ⟨?_, by rw [h1]; exact h.2⟩
  apply Int32.toInt_inj.mp
  have h2 : x.toNatClampNeg < 2 ^ 31 := by
    have h3 : x.toInt < 2 ^ 31 := Int32.toInt_lt x
    have h4 : ((2 ^ 31 : Nat) : Int) = (2 ^ 31 : Int) := by decide
    omega
  rw [nI_toInt h2, h1]
theorem lt_Q {x : Int32} {n : Nat} (hn : n < 2 ^ 31) : (0 ≤ x ∧ x ≤ nI n - 1) ↔ ∃ q, q < n ∧ x = nI q := by
  have e1 : (nI n - 1).toInt = (n : Int) - 1 := by
    have := pk_sub_toInt (a := n) (b := 1)
    by_cases hh : n < 2 ^ 30
    · exact this hh (by decide)
    · have e : nI n - nI 1 = nI (n - 1) := pk_sub (by omega)
      have e2 : nI n - 1 = nI (n - 1) := e
      rw [e2, nI_toInt (by omega)]; omega
  constructor
  · rintro ⟨h1, h2⟩
    have a1 : (0 : Int) ≤ x.toInt := Int32.le_iff_toInt_le.mp h1
    have a2 : x.toInt ≤ (n : Int) - 1 := by rw [← e1]; exact Int32.le_iff_toInt_le.mp h2
    have h9 := rng_nI (x := x) (b := x.toInt) ⟨a1, Int.le_refl _⟩
    refine ⟨x.toNatClampNeg, ?_, h9.1⟩
    have := h9.2; omega
  · rintro ⟨q, hq, rfl⟩
    refine ⟨nI_pos' (by omega), Int32.le_iff_toInt_le.mpr ?_⟩
    rw [e1, nI_toInt (by omega)]; omega
