/-! the other program: one object; its rows A 0 .. A 19; its other numbers y: 0 fault, 1 traced, 2 imaged, 3 reading, 4 at, 5 many -/
def wN (G : gT) (m : Nat) (A : Nat → Nat) (τ : tT) (y : Nat → Int32) : va_W := [oC m 6 [.ref (A 0), .ref (A 1), .ref (A 2), .int (τ 8 0), .ref (A 3), .ref (A 4), .ref (A 5), .int (τ 8 1), .ref (A 6), .ref (A 7), .ref (A 8), .ref (A 9), .ref (A 10), .int (τ 8 2), .int (τ 8 3), .int (τ 8 5), .int (τ 8 6), .int (τ 8 4), .int (y 0), .ref (A 11), .int (y 1), .ref (A 12), .int (y 2), .ref (A 13), .ref (A 14), .int (y 3), .int (y 4), .ref (A 15), .ref (A 16), .ref (A 17), .ref (A 18), .ref (A 19), .int (y 5)], iC G (A 3) 8 (τ 0), iC G (A 4) 8 (τ 1), iC G (A 5) 64 (τ 2), iC G (A 6) 10 (τ 3), iC G (A 7) 10 (τ 4), iC G (A 8) 10 (τ 5), iC G (A 9) 10 (τ 6), iC G (A 10) 10 (τ 7)]
set_option maxRecDepth 20000 in
set_option maxHeartbeats 4000000 in
theorem c_X7_within (l : Launch) (G : gT) (v : Int32) (lo : Int32) (hi : Int32) : RI l yX7_within cX7_within 3 (some .boolean) 0 G [.int v, .int lo, .int hi] (([] : va_W)) (bI (lo ≤ v ∧ v ≤ hi)) := by
  refine start_R (by decide) (Nat.le_of_ble_eq_true rfl) (fun p9 e9 s9 m9 a9 b9 t9 c9 C => ?_)
  refine g_lv (lv' := [(0, .int v), (1, .int lo), (2, .int hi)]) rfl ?_
  refine g_iload_n (pc := 0) C dX7_within_0 0 rfl ?_
  refine g_iload_n (pc := 1) C dX7_within_1 1 rfl ?_
  refine g_icmp_lt (pc := 2) (tgt := 14) C dX7_within_2 (by decide) (fun h2 => ?_) (fun h2 => ?_)
  · refine g_iconst (pc := 14) (v := 0) C dX7_within_14 (by decide) ?_
    exact g_retIR (pc := 15) C (rfl) (by first | (refine (bI_t ?_).symm; simp only [Int32.lt_iff_toInt_lt, Int32.le_iff_toInt_le] at *; omega) | (refine (bI_f ?_).symm; simp only [Int32.lt_iff_toInt_lt, Int32.le_iff_toInt_le] at *; omega)) dX7_within_15
  · refine g_iload_n (pc := 5) C dX7_within_5 0 rfl ?_
    refine g_iload_n (pc := 6) C dX7_within_6 2 rfl ?_
    refine g_icmp_gt (pc := 7) (tgt := 14) C dX7_within_7 (by decide) (fun h7 => ?_) (fun h7 => ?_)
    · refine g_iconst (pc := 14) (v := 0) C dX7_within_14 (by decide) ?_
      exact g_retIR (pc := 15) C (rfl) (by first | (refine (bI_t ?_).symm; simp only [Int32.lt_iff_toInt_lt, Int32.le_iff_toInt_le] at *; omega) | (refine (bI_f ?_).symm; simp only [Int32.lt_iff_toInt_lt, Int32.le_iff_toInt_le] at *; omega)) dX7_within_15
    · refine g_iconst (pc := 10) (v := 1) C dX7_within_10 (by decide) ?_
      refine g_goto (pc := 11) (tgt := 15) C dX7_within_11 (by decide) ?_
      exact g_retIR (pc := 15) C (rfl) (by first | (refine (bI_t ?_).symm; simp only [Int32.lt_iff_toInt_lt, Int32.le_iff_toInt_le] at *; omega) | (refine (bI_f ?_).symm; simp only [Int32.lt_iff_toInt_lt, Int32.le_iff_toInt_le] at *; omega)) dX7_within_15
set_option maxRecDepth 20000 in
set_option maxHeartbeats 4000000 in
theorem c_X7_thousandths (l : Launch) (G : gT) (x : Int32) (z : Int32) : RI l yX7_thousandths cX7_thousandths 2 (some .int) 0 G [.int x, .int z] (([] : va_W)) (sTh x z) := by
  refine start_R (by decide) (Nat.le_of_ble_eq_true rfl) (fun p9 e9 s9 m9 a9 b9 t9 c9 C => ?_)
  refine g_lv (lv' := [(0, .int x), (1, .int z)]) rfl ?_
  refine g_iload_n (pc := 0) C dX7_thousandths_0 1 rfl ?_
  refine g_if_ne (pc := 1) (tgt := 8) C dX7_thousandths_1 (by decide) (fun h1 => ?_) (fun h1 => ?_)
  · refine g_sipush (pc := 8) (v := 1000) C dX7_thousandths_8 (by decide) ?_
    refine g_iload_n (pc := 11) C dX7_thousandths_11 0 rfl ?_
    refine g_imul (pc := 12) C dX7_thousandths_12 ?_
    refine g_iload_n (pc := 13) C dX7_thousandths_13 1 rfl ?_
    refine g_idiv (pc := 14) C dX7_thousandths_14 (by assumption) ?_
    exact g_retIR (pc := 15) C (rfl) (by simp_all [sTh]) dX7_thousandths_15
  · refine g_iconst (pc := 4) (v := 0) C dX7_thousandths_4 (by decide) ?_
    refine g_goto (pc := 5) (tgt := 15) C dX7_thousandths_5 (by decide) ?_
    exact g_retIR (pc := 15) C (rfl) (by simp_all [sTh]) dX7_thousandths_15
set_option maxRecDepth 20000 in
set_option maxHeartbeats 4000000 in
theorem c_X7_isQuestion (l : Launch) (G : gT) (m : Nat) (A : Nat → Nat) (τ : tT) (y : Nat → Int32) (x : Int32) (hT : TI τ) : RI l yX7_isQuestion cX7_isQuestion 2 (some .boolean) 1 G [.ref m, .int x] (wN G m A τ y) (bI (0 ≤ x ∧ x ≤ nI (tQ τ) - 1)) := by
  refine start_R (by decide) (Nat.le_of_ble_eq_true rfl) (fun p9 e9 s9 m9 a9 b9 t9 c9 C => ?_)
  refine g_lv (lv' := [(0, .ref m), (1, .int x)]) rfl ?_
  refine g_iload_n (pc := 0) C dX7_isQuestion_0 1 rfl ?_
  refine g_iconst (pc := 1) (v := 0) C dX7_isQuestion_1 (by decide) ?_
  refine g_aload_n (pc := 2) C dX7_isQuestion_2 0 rfl ?_
  refine g_get (pc := 3) (T := TX7) (N := 33) (v := .int (τ 8 0)) C ib_X7 0 rfl rfl 3 (by decide) mf_X7_85 rfl rfl rfl dX7_isQuestion_3 ?_
  refine g_top (z := nI (tQ τ)) (hT.q) ?_
  refine g_iconst (pc := 6) (v := 1) C dX7_isQuestion_6 (by decide) ?_
  refine g_isub (pc := 7) C dX7_isQuestion_7 ?_
  refine g_rdSI (pc := 8) (val := bI (0 ≤ x ∧ x ≤ ((nI (tQ τ)) - 1))) (rest := []) C k_X7_within (c_X7_within l G x 0 ((nI (tQ τ)) - 1)) ml_X7_88 rfl ⟨Nat.le_of_ble_eq_true rfl, Nat.le_of_ble_eq_true rfl⟩ rfl [] rfl rfl (Nat.le_of_ble_eq_true rfl) ⟨by decide, by decide⟩ dX7_isQuestion_8 ?_
  exact g_retIR (pc := 11) C (by exact bI_nar _) (by rfl) dX7_isQuestion_11
set_option maxRecDepth 20000 in
set_option maxHeartbeats 4000000 in
theorem c_X7_isGroup (l : Launch) (G : gT) (m : Nat) (A : Nat → Nat) (τ : tT) (y : Nat → Int32) (x : Int32) (hT : TI τ) : RI l yX7_isGroup cX7_isGroup 2 (some .boolean) 1 G [.ref m, .int x] (wN G m A τ y) (bI (0 ≤ x ∧ x ≤ nI (tG τ) - 1)) := by
  refine start_R (by decide) (Nat.le_of_ble_eq_true rfl) (fun p9 e9 s9 m9 a9 b9 t9 c9 C => ?_)
  refine g_lv (lv' := [(0, .ref m), (1, .int x)]) rfl ?_
  refine g_iload_n (pc := 0) C dX7_isGroup_0 1 rfl ?_
  refine g_iconst (pc := 1) (v := 0) C dX7_isGroup_1 (by decide) ?_
  refine g_aload_n (pc := 2) C dX7_isGroup_2 0 rfl ?_
  refine g_get (pc := 3) (T := TX7) (N := 33) (v := .int (τ 8 1)) C ib_X7 0 rfl rfl 7 (by decide) mf_X7_92 rfl rfl rfl dX7_isGroup_3 ?_
  refine g_top (z := nI (tG τ)) (hT.g) ?_
  refine g_iconst (pc := 6) (v := 1) C dX7_isGroup_6 (by decide) ?_
  refine g_isub (pc := 7) C dX7_isGroup_7 ?_
  refine g_rdSI (pc := 8) (val := bI (0 ≤ x ∧ x ≤ ((nI (tG τ)) - 1))) (rest := []) C k_X7_within (c_X7_within l G x 0 ((nI (tG τ)) - 1)) ml_X7_88 rfl ⟨Nat.le_of_ble_eq_true rfl, Nat.le_of_ble_eq_true rfl⟩ rfl [] rfl rfl (Nat.le_of_ble_eq_true rfl) ⟨by decide, by decide⟩ dX7_isGroup_8 ?_
  exact g_retIR (pc := 11) C (by exact bI_nar _) (by rfl) dX7_isGroup_11
set_option maxRecDepth 20000 in
set_option maxHeartbeats 4000000 in
theorem c_X7_isTries (l : Launch) (G : gT) (v : Int32) : RI l yX7_isTries cX7_isTries 1 (some .boolean) 1 G [.int v] (([] : va_W)) (bI (0 ≤ v ∧ v ≤ 9)) := by
  refine start_R (by decide) (Nat.le_of_ble_eq_true rfl) (fun p9 e9 s9 m9 a9 b9 t9 c9 C => ?_)
  refine g_lv (lv' := [(0, .int v)]) rfl ?_
  refine g_iload_n (pc := 0) C dX7_isTries_0 0 rfl ?_
  refine g_iconst (pc := 1) (v := 0) C dX7_isTries_1 (by decide) ?_
  refine g_bipush (pc := 2) (v := 9) C dX7_isTries_2 (by decide) ?_
  refine g_rdSI (pc := 4) (val := bI (0 ≤ v ∧ v ≤ 9)) (rest := []) C k_X7_within (c_X7_within l G v 0 9) ml_X7_88 rfl ⟨Nat.le_of_ble_eq_true rfl, Nat.le_of_ble_eq_true rfl⟩ rfl [] rfl rfl (Nat.le_of_ble_eq_true rfl) ⟨by decide, by decide⟩ dX7_isTries_4 ?_
  exact g_retIR (pc := 7) C (by exact bI_nar _) (by rfl) dX7_isTries_7
set_option maxRecDepth 20000 in
set_option maxHeartbeats 4000000 in
theorem c_X7_people (l : Launch) (G : gT) (m : Nat) (A : Nat → Nat) (τ : tT) (y : Nat → Int32) (hT : TI τ) : RI l yX7_people cX7_people 3 (some .int) 0 G [.ref m] (wN G m A τ y) (ppl τ) := by
  have hg10 := hT.g10
  have hq8 := hT.q8
  refine start_R (by decide) (Nat.le_of_ble_eq_true rfl) (fun p9 e9 s9 m9 a9 b9 t9 c9 C => ?_)
  refine g_lv (lv' := [(0, .ref m)]) rfl ?_
  refine g_iconst (pc := 0) (v := 0) C dX7_people_0 (by decide) ?_
  refine g_istore_n (pc := 1) (lv' := [(1, .int 0), (0, .ref m)]) C dX7_people_1 rfl (by decide) rfl ?_
  refine g_iconst (pc := 2) (v := 0) C dX7_people_2 (by decide) ?_
  refine g_istore_n (pc := 3) (lv' := [(2, .int 0), (1, .int 0), (0, .ref m)]) C dX7_people_3 rfl (by decide) rfl ?_
  have key_4 : ∀ (n4 : Nat) (i : Nat) (hi : i ≤ tG τ), tG τ - i < n4 → GW p9 l e9 (rmh 0 0 0) s9 m9 a9 b9 t9 c9 (MQ b9 (QcI (ppl τ)) a9 s9 0 0 NoA) G NoA false 3 0 0 (wN G m A τ y) [(0, .ref m), (1, .int (sumN (τ 3) i)), (2, .int (nI i))] 4 [] := by
    intro n4
    induction n4 with
    | zero => intro i hi hn4; exact absurd hn4 (Nat.not_lt_zero _)
    | succ n4 ih4 =>
      intro i hi hn4
      refine g_iload_n (pc := 4) C dX7_people_4 2 rfl ?_
      refine g_aload_n (pc := 5) C dX7_people_5 0 rfl ?_
      refine g_get (pc := 6) (T := TX7) (N := 33) (v := .int (τ 8 1)) C ib_X7 0 rfl rfl 7 (by decide) mf_X7_92 rfl rfl rfl dX7_people_6 ?_
      refine g_top (z := nI (tG τ)) (hT.g) ?_
      refine g_icmpN_ge (pc := 9) (i := i) (j := tG τ) (tgt := 27) C dX7_people_9 (by decide) ⟨by omega, by omega⟩ (fun h9 => ?_) (fun h9 => ?_)
      · refine g_iload_n (pc := 27) C dX7_people_27 1 rfl ?_
        exact g_retIR (pc := 28) C (rfl) (by rw [show i = tG τ from by omega]; rfl) dX7_people_28
      · refine g_iload_n (pc := 12) C dX7_people_12 1 rfl ?_
        refine g_aload_n (pc := 13) C dX7_people_13 0 rfl ?_
        refine g_get (pc := 14) (T := TX7) (N := 33) (v := .ref (A 6)) C ib_X7 0 rfl rfl 8 (by decide) mf_X7_29 rfl rfl rfl dX7_people_14 ?_
        refine g_iload_n (pc := 17) C dX7_people_17 2 rfl ?_
        refine g_iald (pc := 18) (v := (τ 3) i) C 4 rfl i (rfl) ⟨by omega, by decide⟩ (rfl) dX7_people_18 ?_
        refine g_iadd (pc := 19) C dX7_people_19 ?_
        refine g_istore_n (pc := 20) (lv' := [(1, .int ((sumN (τ 3) i) + ((τ 3) i))), (0, .ref m), (2, .int (nI i))]) C dX7_people_20 rfl (by decide) rfl ?_
        refine g_iinc (pc := 21) (v := nI (i + 1)) (lv' := [(2, .int (nI (i + 1))), (1, .int ((sumN (τ 3) i) + ((τ 3) i))), (0, .ref m)]) C dX7_people_21 2 rfl (nI_1 i) (by decide) rfl ?_
        refine g_goto (pc := 24) (tgt := 4) C dX7_people_24 (by decide) ?_
        refine g_sub (lv' := [(0, .ref m), (1, .int (sumN (τ 3) (i + 1))), (2, .int (nI (i + 1)))]) [2, 1, 0] rfl ?_
        exact ih4 (i + 1) (by first | assumption | omega) (by omega)
  refine g_sub (lv' := [(0, .ref m), (1, .int (sumN (τ 3) 0)), (2, .int (nI 0))]) [2, 1, 0] rfl ?_
  exact key_4 _ 0 (by first | assumption | omega) (Nat.lt_succ_self _)
