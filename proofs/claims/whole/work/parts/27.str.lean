/-! the six words that both programs read -/
def kwn (q : Nat) : Nat := kwL.getD q 0
def kwc (q j : Nat) : Int32 := (kwB.getD q []).getD j 0
theorem kwn_sh : ∀ q, q < 6 → nI (kwn q) >>> (0 &&& 31) = nI (kwn q) ∧ kwn q ≤ 8 := by decide
theorem kwc_ch : ∀ q, q < 6 → ∀ j, j < kwn q → ((kwc q j &&& 255).toUInt32 % 65536).toInt32 = kwc q j ∧ narrow .char (.int (kwc q j)) = .int (kwc q j) ∧ ¬ kwc q j = -1 := by decide
section GWSTR
variable {p : Program} {l : Launch} {e : Env} {R : Room} {s : State} {m : MethodId} {args : Array Value} {below : List Frame} {meth : Method} {c : Code} {Q : State → Prop} {G : gT} {A : Nat → Prop} {w : Bool} {nL cells slots : Nat} {ws : va_W} {lv : List (Nat × Value)} {pc : Nat} {st : List Value} {cc : ByteArray} {y : MethodName} {rt : Option FieldType}
theorem kw_S (C : Cx p s m args meth c G A w nL cc y rt) : vk_S 6 kwL kwB G.2.2.2.2.2.1 G.2.2.2.2.2.2 A s s.heap := (C.2.2.2.2.2.1.2.2.2.2.2.2.2.1).narrow C.2.2.2.2.2.2.1
theorem g_compact (C : Cx p s m args meth c G A w nL cc y rt) {own : String} {index : Nat} (hm : Cond.fieldLink own index "java/lang/String" "COMPACT_STRINGS" "Z" ∈ big) (ho : own = y.cls) (hdg : decode cc pc = .ok (.getstatic index, 3)) (k : GW p l e R s m args below meth c Q G A w nL cells slots ws lv (pc + 3) (.int 1 :: st)) : GW p l e R s m args below meth c Q G A w nL cells slots ws lv pc st := by
  subst ho
  exact fun H L ls hI hl => va_gets C.1 C.2.1 (C.2.2.2.2.2.1.2.2.2.2.2.1.narrow C.2.2.2.2.2.2.1) hI.2.1 C.own (C.ts hm) (fun _ h => h) hdg (k H L ls hI hl)
theorem g_fmt (C : Cx p s m args meth c G A w nL cc y rt) {own : String} {index : Nat} (hm : Cond.fieldLink own index "jdk/internal/util/Preconditions" "SIOOBE_FORMATTER" "Ljava/util/function/BiFunction;" ∈ big) (ho : own = y.cls) (hdg : decode cc pc = .ok (.getstatic index, 3)) (kn : GW p l e R s m args below meth c Q G A w nL cells slots ws lv (pc + 3) (.null :: st)) (kr : ∀ t9 : Nat, GW p l e R s m args below meth c Q G A w nL cells slots ws lv (pc + 3) (.ref t9 :: st)) : GW p l e R s m args below meth c Q G A w nL cells slots ws lv pc st := by
  subst ho
  rcases C.2.2.2.2.2.1.2.2.2.2.2.2.1.narrow C.2.2.2.2.2.2.1 with h | ⟨t9, h⟩
  · exact fun H L ls hI hl => va_gets C.1 C.2.1 h hI.2.1 C.own (C.ts hm) (fun _ h => h) hdg (kn H L ls hI hl)
  · exact fun H L ls hI hl => va_gets C.1 C.2.1 h hI.2.1 C.own (C.ts hm) (fun _ h => h) hdg (kr t9 H L ls hI hl)
theorem g_strCoder (C : Cx p s m args meth c G A w nL cc y rt) {q : Nat} (hq : q < 6) {own : String} {index : Nat} (hm : Cond.fieldLink own index "java/lang/String" "coder" "B" ∈ big) (ho : own = y.cls) (hdg : decode cc pc = .ok (.getfield index, 3)) (k : GW p l e R s m args below meth c Q G A w nL cells slots ws lv (pc + 3) (.int 0 :: st)) : GW p l e R s m args below meth c Q G A w nL cells slots ws lv pc (.ref (G.2.2.2.2.2.1 q) :: st) := by
  subst ho
  exact fun H L ls hI hl => vk_getf C.1 C.2.1 ((kw_S C).1 q hq).2.1 hI.2.1 C.own (C.ts hm) (fun _ h => h) hdg (k H L ls hI hl)
theorem g_strValue (C : Cx p s m args meth c G A w nL cc y rt) {q : Nat} (hq : q < 6) {own : String} {index : Nat} (hm : Cond.fieldLink own index "java/lang/String" "value" "[B" ∈ big) (ho : own = y.cls) (hdg : decode cc pc = .ok (.getfield index, 3)) (k : GW p l e R s m args below meth c Q G A w nL cells slots ws lv (pc + 3) (.ref (G.2.2.2.2.2.2 q) :: st)) : GW p l e R s m args below meth c Q G A w nL cells slots ws lv pc (.ref (G.2.2.2.2.2.1 q) :: st) := by
  subst ho
  exact fun H L ls hI hl => vk_getf C.1 C.2.1 ((kw_S C).1 q hq).2.2.1 hI.2.1 C.own (C.ts hm) (fun _ h => h) hdg (k H L ls hI hl)
theorem g_strLen (C : Cx p s m args meth c G A w nL cc y rt) {q : Nat} (hq : q < 6) (hdg : decode cc pc = .ok (.arraylength, 1)) (k : GW p l e R s m args below meth c Q G A w nL cells slots ws lv (pc + 1) (.int (nI (kwn q)) :: st)) : GW p l e R s m args below meth c Q G A w nL cells slots ws lv pc (.ref (G.2.2.2.2.2.2 q) :: st) :=
  fun H L ls hI hl => va_tlen C.1 C.2.1 ((kw_S C).1 q hq).2.2.2 hI.2.1 (v := nI (kwn q)) rfl hdg (k H L ls hI hl)
theorem g_strLd (C : Cx p s m args meth c G A w nL cc y rt) {q j : Nat} (hq : q < 6) {i : Int32} (hi : i = nI j) (hj : j < kwn q) (hdg : decode cc pc = .ok (.baload, 1)) (k : GW p l e R s m args below meth c Q G A w nL cells slots ws lv (pc + 1) (.int (kwc q j) :: st)) : GW p l e R s m args below meth c Q G A w nL cells slots ws lv pc (.int i :: .ref (G.2.2.2.2.2.2 q) :: st) :=
  fun H L ls hI hl => va_tb C.1 C.2.1 ((kw_S C).1 q hq).2.2.2 hI.2.1 (in_nI hi (n := kwn q) ⟨hj, by have := (kwn_sh q hq).2; omega⟩).1 (v := .int (kwc q j)) (by rw [(in_nI hi (n := kwn q) ⟨hj, by have := (kwn_sh q hq).2; omega⟩).2]; rfl) hdg (k H L ls hI hl)
theorem g_i2c (C : Cx p s m args meth c G A w nL cc y rt) {x v : Int32} (hdg : decode cc pc = .ok (.i2c, 1)) (hv : (x.toUInt32 % 65536).toInt32 = v) (k : GW p l e R s m args below meth c Q G A w nL cells slots ws lv (pc + 1) (.int v :: st)) : GW p l e R s m args below meth c Q G A w nL cells slots ws lv pc (.int x :: st) :=
  fun H L ls hI hl => lv_i2c C.1 C.2.1 hdg hv (k H L ls hI hl)
variable {y0 : MethodName} {b : ByteArray} {maxL h n : Nat} {ret : Option FieldType} {av rest : List Value} {wc : va_W} {own : String} {index : Nat}
theorem g_rdVSI (C : Cx p s m args meth c G A w nL cc y0 rt) {q : Nat} {val : Int32} (K : CalV y b maxL ret n) (hM : RI l y b maxL ret h G (.ref (G.2.2.2.2.2.1 q) :: av) wc val) (hl : Cond.methodLink own index y ∈ big) (ho : own = y0.cls) (hR : RmOk R maxL h) (hn : av.length = n) (is : List Nat) (hC : is.filterMap (fun i => ws[i]?) = wc) (hq : q < 6) (hy : y.cls = "java/lang/String") (hst : st = av.reverse ++ .ref (G.2.2.2.2.2.1 q) :: rest) (hro : (rest.map fun v => v.category).sum ≤ 8) (hf : cells ≤ R.cells ∧ slots ≤ R.slots) (hdg : decode cc pc = .ok (.invokevirtual index, 3)) (k : GW p l e R s m args below meth c Q G A w nL cells slots ws lv (pc + 3) (.int val :: rest)) : GW p l e R s m args below meth c Q G A w nL cells slots ws lv pc st := by
  subst ho; subst hst
  exact fun H L ls hI hl9 => va_calli (va_runV C.fix hM ⟨cal_B C K.1 hl hR, C.ts K.2.1, C.ts K.2.2⟩ (pre_V (pre_R C hI is hC) (hy ▸ vk_recv (kw_S C) hq hI.2.1)) rfl hn hl9.1 rfl (lv_room hro) hdg hf) hI.2.1 (fun _ _ h => False.elim h) (fun _ h => False.elim h) (fun r u t H1 L1 ht hvm hw hB hz hk hS => by cases hw; exact k H1 L1 ls (keep_R hI hk hS) hl9)
end GWSTR
