/-! the law's start: what the tables say of it -/
theorem tin_1 {w : Cond} (h : w ∈ tables_1_1) : w ∈ lw_tbl := List.mem_append_right _ (List.mem_append_left _ h)
theorem tin_2 {w : Cond} (h : w ∈ tables_1_2) : w ∈ lw_tbl := List.mem_append_right _ (List.mem_append_right _ (List.mem_append_left _ h))
theorem tin_3 {w : Cond} (h : w ∈ tables_1_3) : w ∈ lw_tbl := List.mem_append_right _ (List.mem_append_right _ (List.mem_append_right _ (List.mem_append_left _ h)))
theorem tin_4 {w : Cond} (h : w ∈ tables_1_4) : w ∈ lw_tbl := List.mem_append_right _ (List.mem_append_right _ (List.mem_append_right _ (List.mem_append_right _ (List.mem_append_left _ h))))
theorem tin_5 {w : Cond} (h : w ∈ tables_1_5) : w ∈ lw_tbl := List.mem_append_right _ (List.mem_append_right _ (List.mem_append_right _ (List.mem_append_right _ (List.mem_append_right _ (List.mem_append_left _ h)))))
theorem nW_in : ∀ q ∈ nW, Cond.methodLinkNest q.1 q.2.1 q.2.2.1 q.2.2.2 ∈ lw_tbl := List.forall_mem_cons.mpr ⟨tin_1 (List.mem_of_getElem? (i := 26) rfl), List.forall_mem_cons.mpr ⟨tin_1 (List.mem_of_getElem? (i := 77) rfl), List.forall_mem_cons.mpr ⟨tin_1 (List.mem_of_getElem? (i := 107) rfl), List.forall_mem_cons.mpr ⟨tin_1 (List.mem_of_getElem? (i := 112) rfl), List.forall_mem_cons.mpr ⟨tin_1 (List.mem_of_getElem? (i := 134) rfl), List.forall_mem_cons.mpr ⟨tin_1 (List.mem_of_getElem? (i := 213) rfl), List.forall_mem_cons.mpr ⟨tin_2 (List.mem_of_getElem? (i := 21) rfl), List.forall_mem_cons.mpr ⟨tin_2 (List.mem_of_getElem? (i := 58) rfl), List.forall_mem_cons.mpr ⟨tin_2 (List.mem_of_getElem? (i := 82) rfl), List.forall_mem_cons.mpr ⟨tin_2 (List.mem_of_getElem? (i := 89) rfl), List.forall_mem_cons.mpr ⟨tin_2 (List.mem_of_getElem? (i := 135) rfl), List.forall_mem_cons.mpr ⟨tin_3 (List.mem_of_getElem? (i := 38) rfl), List.forall_mem_cons.mpr ⟨tin_3 (List.mem_of_getElem? (i := 95) rfl), List.forall_mem_cons.mpr ⟨tin_3 (List.mem_of_getElem? (i := 130) rfl), List.forall_mem_cons.mpr ⟨tin_4 (List.mem_of_getElem? (i := 90) rfl), fun _ h => absurd h List.not_mem_nil⟩⟩⟩⟩⟩⟩⟩⟩⟩⟩⟩⟩⟩⟩⟩
theorem ls_above : Cond.laysStatic "AskedTheOtherWayAbout" "ABOVE" "[I" ∈ lw_tbl := tin_2 (List.mem_of_getElem? (i := 49) rfl)
theorem ls_above_i : Cond.initialized "AskedTheOtherWayAbout" ∈ lw_tbl := tin_1 (List.mem_of_getElem? (i := 1) rfl)
theorem ls_compact : Cond.laysStatic "java/lang/String" "COMPACT_STRINGS" "Z" ∈ lw_tbl := tin_2 (List.mem_of_getElem? (i := 226) rfl)
theorem ls_compact_i : Cond.initialized "java/lang/String" ∈ lw_tbl := tin_1 (List.mem_of_getElem? (i := 10) rfl)
theorem ls_fmt : Cond.laysStatic "jdk/internal/util/Preconditions" "SIOOBE_FORMATTER" "Ljava/util/function/BiFunction;" ∈ lw_tbl := tin_3 (List.mem_of_getElem? (i := 2) rfl)
theorem ls_fmt_i : Cond.initialized "jdk/internal/util/Preconditions" ∈ lw_tbl := tin_1 (List.mem_of_getElem? (i := 12) rfl)
theorem kwR_in : ∀ q ∈ kwR, Cond.stringRef q.1 q.2.1 q.2.2.1 ∈ lw_tbl := List.forall_mem_cons.mpr ⟨tin_2 (List.mem_of_getElem? (i := 212) rfl), List.forall_mem_cons.mpr ⟨tin_3 (List.mem_of_getElem? (i := 44) rfl), List.forall_mem_cons.mpr ⟨tin_3 (List.mem_of_getElem? (i := 47) rfl), List.forall_mem_cons.mpr ⟨tin_3 (List.mem_of_getElem? (i := 53) rfl), List.forall_mem_cons.mpr ⟨tin_3 (List.mem_of_getElem? (i := 54) rfl), List.forall_mem_cons.mpr ⟨tin_3 (List.mem_of_getElem? (i := 55) rfl), List.forall_mem_cons.mpr ⟨tin_5 (List.mem_of_getElem? (i := 115) rfl), List.forall_mem_cons.mpr ⟨tin_5 (List.mem_of_getElem? (i := 134) rfl), List.forall_mem_cons.mpr ⟨tin_5 (List.mem_of_getElem? (i := 135) rfl), List.forall_mem_cons.mpr ⟨tin_5 (List.mem_of_getElem? (i := 144) rfl), List.forall_mem_cons.mpr ⟨tin_5 (List.mem_of_getElem? (i := 145) rfl), List.forall_mem_cons.mpr ⟨tin_5 (List.mem_of_getElem? (i := 146) rfl), fun _ h => absurd h List.not_mem_nil⟩⟩⟩⟩⟩⟩⟩⟩⟩⟩⟩⟩
def kwTm (i : Nat) : Term := .string RX4 (([80, 90, 53, 63, 65, 73] : List Nat).getD i 0)
def kwTn (i : Nat) : Term := .string RX7 (([176, 181, 183, 188, 190, 191] : List Nat).getD i 0)
abbrev gvC : List Cond := flatC (Jvm.Cond.and given_1 narrow_1)
theorem gv_ex : ∀ i, i < 6 → Cond.exactly (kwTm i) "java/lang/String" ∈ gvC := by decide +kernel
theorem gv_co : ∀ i, i < 6 → Cond.eq (.field (kwTm i) "java/lang/String" "coder" "B") (.int 0) ∈ gvC := by decide +kernel
theorem gv_ar : ∀ i, i < 6 → Cond.arrayOf (.field (kwTm i) "java/lang/String" "value" "[B") .byte ∈ gvC := by decide +kernel
theorem gv_le : ∀ i, i < 6 → Cond.eq (.length (.field (kwTm i) "java/lang/String" "value" "[B")) (.int (Int32.ofNat (kwL.getD i 0))) ∈ gvC := by decide +kernel
theorem gv_el : ∀ i, i < 6 → ∀ j, j < kwL.getD i 0 → Cond.eq (.elem (.field (kwTm i) "java/lang/String" "value" "[B") (.int (Int32.ofNat j))) (.int ((kwB.getD i []).getD j 0)) ∈ gvC := by decide +kernel
theorem gv_ne : ∀ i, i < 6 → ∀ j, j < 6 → i < j → Cond.not (Cond.eq (kwTm i) (kwTm j)) ∈ gvC := by decide +kernel
theorem gv_eq : ∀ i, i < 6 → Cond.eq (kwTm i) (kwTn i) ∈ gvC := by decide +kernel
theorem gv_ab : Cond.arrayOf (.static "AskedTheOtherWayAbout" "ABOVE" "[I") .int ∈ gvC := by decide +kernel
theorem gv_abl : Cond.eq (.length (.static "AskedTheOtherWayAbout" "ABOVE" "[I")) (.int 7) ∈ gvC := by decide +kernel
theorem gv_abe : ∀ j, j < 7 → Cond.eq (.elem (.static "AskedTheOtherWayAbout" "ABOVE" "[I") (.int (Int32.ofNat j))) (.int (abF j)) ∈ gvC := by decide +kernel
theorem gv_cs : Cond.eq (.static "java/lang/String" "COMPACT_STRINGS" "Z") (.int 1) ∈ gvC := by decide +kernel
theorem gv_fm : Cond.isRef (.static "jdk/internal/util/Preconditions" "SIOOBE_FORMATTER" "Ljava/util/function/BiFunction;") ∈ gvC := by decide +kernel
theorem kw_len : ∀ i, i < 6 → kwL.getD i 0 < 2 ^ 31 := by decide
theorem arr_known {s : State} {args : Array Value} {ty : FieldType} (h : (Cond.arrayClass ty).before args s = true) (hty : ty = .int ∨ ty = .long) : ∃ cA : ClassId, ArrOfT s cA ty ∧ va_RA s cA ty := by
  obtain ⟨c, k, comp, h1, h2, h3⟩ := Cond.arrayClass_spec h
  refine ⟨c, fun n z => ⟨fun q hq => (by cases hq), k, h2, comp, h3⟩, ?_⟩
  rcases hty with rfl | rfl <;> exact h1
theorem kz_start {s : State} {b : Nat} (hts : ∀ w ∈ lw_tbl, w.before #[Value.ref b] s = true) (hgv : (Jvm.Cond.and given_1 narrow_1).before #[Value.ref b] s = true) : ∃ G : gT, KZ G s s.heap ∧ G.2.2.2.1 = s.heap.size := by
  have hb : ∀ w ∈ big, w.before #[Value.ref b] s = true := fun w h => hts w (big_in w h)
  have hg : ∀ w ∈ gvC, w.before #[Value.ref b] s = true := flat_of_before _ hgv
  have hA : ∀ a : Nat, a < s.heap.size → ¬ (fun q : Nat => s.heap.size ≤ q) a := fun a h => Nat.not_le.mpr h
  obtain ⟨cI, hI1, hI2⟩ := arr_known (hb _ ma_int) (Or.inl rfl)
  obtain ⟨cJ, hJ1, hJ2⟩ := arr_known (hb _ ma_long) (Or.inr rfl)
  obtain ⟨c0, i0, k0⟩ := u_known (C := RX0) (T := TX0) (N := 5) hb ib_X0 (hb _ mb_X0)
  obtain ⟨c1, i1, k1⟩ := u_known (C := RX1) (T := TX1) (N := 2) hb ib_X1 (hb _ mb_X1)
  obtain ⟨c2, i2, k2⟩ := u_known (C := RX2) (T := TX2) (N := 3) hb ib_X2 (hb _ mb_X2)
  obtain ⟨c3, i3, k3⟩ := u_known (C := RX3) (T := TX3) (N := 10) hb ib_X3 (hb _ mb_X3)
  obtain ⟨c4, i4, k4⟩ := u_known (C := RX4) (T := TX4) (N := 5) hb ib_X4 (hb _ mb_X4)
  obtain ⟨c6, i6, k6⟩ := u_known (C := RX6) (T := TX6) (N := 9) hb ib_X6 (hb _ mb_X6)
  obtain ⟨c7, i7, k7⟩ := u_known (C := RX7) (T := TX7) (N := 33) hb ib_X7 (hb _ mb_X7)
  obtain ⟨dC, dI, hK⟩ : ∃ (dC : Nat → ClassId) (dI : Nat → Nat → Nat), ∀ (k : Nat) (q : vw_C), vwCl[k]? = some q → u_Kn s q.1 q.2.1 q.2.2 (dC k) (dI k) := by
    refine ⟨fun k => match k with | 0 => c0 | 1 => c1 | 2 => c2 | 3 => c3 | 4 => c4 | 5 => c6 | _ => c7, fun k => match k with | 0 => i0 | 1 => i1 | 2 => i2 | 3 => i3 | 4 => i4 | 5 => i6 | _ => i7, ?_⟩
    intro k q hq
    match k, hq with
    | 0, hq => cases hq; exact k0
    | 1, hq => cases hq; exact k1
    | 2, hq => cases hq; exact k2
    | 3, hq => cases hq; exact k3
    | 4, hq => cases hq; exact k4
    | 5, hq => cases hq; exact k6
    | 6, hq => cases hq; exact k7
    | k + 7, hq => simp [vwCl] at hq
  obtain ⟨tA, ht, hT⟩ := va_Tof (s := s) (args := #[Value.ref b]) (tm := .static "AskedTheOtherWayAbout" "ABOVE" "[I") (ty := .int) (N := 7) (f := fun j => .int (abF j)) (A := fun q : Nat => s.heap.size ≤ q) (by decide) (hg _ gv_ab) (va_eqt (hg _ gv_abl)) (fun j hj => va_eqt (hg _ (gv_abe j hj))) hA
  obtain ⟨adK, adV, hS, hSe⟩ := vk_Sof (s := s) (args := #[Value.ref b]) (N := 6) (tm := kwTm) (len := kwL) (byt := kwB) (A := fun q : Nat => s.heap.size ≤ q) kw_len (fun i hi => hg _ (gv_ex i hi)) (fun i hi => hg _ (gv_co i hi)) (fun i hi => hg _ (gv_ar i hi)) (fun i hi => hg _ (gv_le i hi)) (fun i hi j hj => hg _ (gv_el i hi j hj))
    (fun i j hi hj hne => by
      rcases Nat.lt_or_gt_of_ne hne with h | h
      · exact Or.inl (hg _ (gv_ne i hi j hj h))
      · exact Or.inr (hg _ (gv_ne j hj i hi h))) hA
  have hSn : ∀ i : Nat, i < 6 → (kwTn i).eval #[Value.ref b] s none [] s = some (.ref (adK i)) := fun i hi => va_eqR (hg _ (gv_eq i hi)) (hSe i hi)
  refine ⟨((dC, dI), cI, cJ, s.heap.size, tA, adK, adV), ⟨⟨hK, fun k q hq => ?_⟩, fun q hq => va_Nw.of rfl (hts _ (nW_in q hq)), Nat.le_refl _, va_Zof (hts _ ls_above) (hts _ ls_above_i) ht hA, hT, va_Zof (hts _ ls_compact) (hts _ ls_compact_i) (va_eqi (hg _ gv_cs)) hA, va_Zqof (hts _ ls_fmt) (hts _ ls_fmt_i) (hg _ gv_fm) hA, hS, ?_⟩, rfl⟩
  · match k, hq with
    | 0, hq => cases hq; exact ⟨hI1, hI2⟩
    | 1, hq => cases hq; exact ⟨hJ1, hJ2⟩
    | k + 2, hq => simp [gK] at hq
  · have h0 := fun q hq => hts _ (kwR_in q hq)
    intro q hq
    refine vk_R.of (h0 q hq) ?_
    rcases (show q = kwR[0]'(by decide) ∨ q = kwR[1]'(by decide) ∨ q = kwR[2]'(by decide) ∨ q = kwR[3]'(by decide) ∨ q = kwR[4]'(by decide) ∨ q = kwR[5]'(by decide) ∨ q = kwR[6]'(by decide) ∨ q = kwR[7]'(by decide) ∨ q = kwR[8]'(by decide) ∨ q = kwR[9]'(by decide) ∨ q = kwR[10]'(by decide) ∨ q = kwR[11]'(by decide) from by simpa [kwR] using hq) with h | h | h | h | h | h | h | h | h | h | h | h
    · rw [h]; exact hSe 0 (by decide)
    · rw [h]; exact hSe 1 (by decide)
    · rw [h]; exact hSe 2 (by decide)
    · rw [h]; exact hSe 3 (by decide)
    · rw [h]; exact hSe 4 (by decide)
    · rw [h]; exact hSe 5 (by decide)
    · rw [h]; exact hSn 0 (by decide)
    · rw [h]; exact hSn 1 (by decide)
    · rw [h]; exact hSn 2 (by decide)
    · rw [h]; exact hSn 3 (by decide)
    · rw [h]; exact hSn 4 (by decide)
    · rw [h]; exact hSn 5 (by decide)
