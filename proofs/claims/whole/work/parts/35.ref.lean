/-! the other program: one object; its rows A 0 .. A 19; its other numbers y: 0 fault, 1 traced, 2 imaged, 3 reading, 4 at, 5 many -/
def wN (G : gT) (m : Nat) (A : Nat → Nat) (τ : tT) (y : Nat → Int32) : va_W := [oC m 6 [.ref (A 0), .ref (A 1), .ref (A 2), .int (τ 8 0), .ref (A 3), .ref (A 4), .ref (A 5), .int (τ 8 1), .ref (A 6), .ref (A 7), .ref (A 8), .ref (A 9), .ref (A 10), .int (τ 8 2), .int (τ 8 3), .int (τ 8 5), .int (τ 8 6), .int (τ 8 4), .int (y 0), .ref (A 11), .int (y 1), .ref (A 12), .int (y 2), .ref (A 13), .ref (A 14), .int (y 3), .int (y 4), .ref (A 15), .ref (A 16), .ref (A 17), .ref (A 18), .ref (A 19), .int (y 5)], iC G (A 3) 8 (τ 0), iC G (A 4) 8 (τ 1), iC G (A 5) 64 (τ 2), iC G (A 6) 10 (τ 3), iC G (A 7) 10 (τ 4), iC G (A 8) 10 (τ 5), iC G (A 9) 10 (τ 6), iC G (A 10) 10 (τ 7)]
set_option maxRecDepth 20000 in
set_option maxHeartbeats 4000000 in
theorem c_X7_within (l : Launch) (G : gT) (v : Int32) (lo : Int32) (hi : Int32) : RI l yX7_within cX7_within 3 (some .boolean) 0 G [.int v, .int lo, .int hi] (([] : va_W)) (bI (lo ≤ v ∧ v ≤ hi)) := by
  refine start_R (by decide) (Nat.le_of_ble_eq_true rfl) (fun p9 e9 s9 m9 a9 b9 t9 c9 C => ?_)
  refine g_lv (lv' := [(0, .int v), (1, .int lo), (2, .int hi)]) rfl ?_
  refine g_iload_n (pc := 0) C dX7_within_0 0 rfl ?_
  refine g_iload_n (pc := 1) C dX7_within_1 1 rfl ?_
  refine g_icmp_lt (pc := 2) (tgt := 14) C dX7_within_2 (by decide) (fun h2 => ?_) (fun h2 => ?_)
  · refine g_iconst (pc := 14) (v := 0) C dX7_within_14 (by decide) ?_
    exact g_retIR (pc := 15) C (rfl) (by first | (refine (bI_t ?_).symm; simp only [Int32.lt_iff_toInt_lt, Int32.le_iff_toInt_le] at *; omega) | (refine (bI_f ?_).symm; simp only [Int32.lt_iff_toInt_lt, Int32.le_iff_toInt_le] at *; omega)) dX7_within_15
  · refine g_iload_n (pc := 5) C dX7_within_5 0 rfl ?_
    refine g_iload_n (pc := 6) C dX7_within_6 2 rfl ?_
    refine g_icmp_gt (pc := 7) (tgt := 14) C dX7_within_7 (by decide) (fun h7 => ?_) (fun h7 => ?_)
    · refine g_iconst (pc := 14) (v := 0) C dX7_within_14 (by decide) ?_
      exact g_retIR (pc := 15) C (rfl) (by first | (refine (bI_t ?_).symm; simp only [Int32.lt_iff_toInt_lt, Int32.le_iff_toInt_le] at *; omega) | (refine (bI_f ?_).symm; simp only [Int32.lt_iff_toInt_lt, Int32.le_iff_toInt_le] at *; omega)) dX7_within_15
    · refine g_iconst (pc := 10) (v := 1) C dX7_within_10 (by decide) ?_
      refine g_goto (pc := 11) (tgt := 15) C dX7_within_11 (by decide) ?_
      exact g_retIR (pc := 15) C (rfl) (by first | (refine (bI_t ?_).symm; simp only [Int32.lt_iff_toInt_lt, Int32.le_iff_toInt_le] at *; omega) | (refine (bI_f ?_).symm; simp only [Int32.lt_iff_toInt_lt, Int32.le_iff_toInt_le] at *; omega)) dX7_within_15
set_option maxRecDepth 20000 in
set_option maxHeartbeats 4000000 in
theorem c_X7_thousandths (l : Launch) (G : gT) (x : Int32) (z : Int32) : RI l yX7_thousandths cX7_thousandths 2 (some .int) 0 G [.int x, .int z] (([] : va_W)) (sTh x z) := by
  refine start_R (by decide) (Nat.le_of_ble_eq_true rfl) (fun p9 e9 s9 m9 a9 b9 t9 c9 C => ?_)
  refine g_lv (lv' := [(0, .int x), (1, .int z)]) rfl ?_
  refine g_iload_n (pc := 0) C dX7_thousandths_0 1 rfl ?_
  refine g_if_ne (pc := 1) (tgt := 8) C dX7_thousandths_1 (by decide) (fun h1 => ?_) (fun h1 => ?_)
  · refine g_sipush (pc := 8) (v := 1000) C dX7_thousandths_8 (by decide) ?_
    refine g_iload_n (pc := 11) C dX7_thousandths_11 0 rfl ?_
    refine g_imul (pc := 12) C dX7_thousandths_12 ?_
    refine g_iload_n (pc := 13) C dX7_thousandths_13 1 rfl ?_
    refine g_idiv (pc := 14) C dX7_thousandths_14 (by assumption) ?_
    exact g_retIR (pc := 15) C (rfl) (by simp_all [sTh]) dX7_thousandths_15
  · refine g_iconst (pc := 4) (v := 0) C dX7_thousandths_4 (by decide) ?_
    refine g_goto (pc := 5) (tgt := 15) C dX7_thousandths_5 (by decide) ?_
    exact g_retIR (pc := 15) C (rfl) (by simp_all [sTh]) dX7_thousandths_15
set_option maxRecDepth 20000 in
set_option maxHeartbeats 4000000 in
theorem c_X7_isQuestion (l : Launch) (G : gT) (m : Nat) (A : Nat → Nat) (τ : tT) (y : Nat → Int32) (x : Int32) (hT : TI τ) : RI l yX7_isQuestion cX7_isQuestion 2 (some .boolean) 1 G [.ref m, .int x] (wN G m A τ y) (bI (0 ≤ x ∧ x ≤ nI (tQ τ) - 1)) := by
  refine start_R (by decide) (Nat.le_of_ble_eq_true rfl) (fun p9 e9 s9 m9 a9 b9 t9 c9 C => ?_)
  refine g_lv (lv' := [(0, .ref m), (1, .int x)]) rfl ?_
  refine g_iload_n (pc := 0) C dX7_isQuestion_0 1 rfl ?_
  refine g_iconst (pc := 1) (v := 0) C dX7_isQuestion_1 (by decide) ?_
  refine g_aload_n (pc := 2) C dX7_isQuestion_2 0 rfl ?_
  refine g_get (pc := 3) (T := TX7) (N := 33) (v := .int (τ 8 0)) C ib_X7 0 rfl rfl 3 (by decide) mf_X7_85 rfl rfl rfl dX7_isQuestion_3 ?_
  refine g_top (z := nI (tQ τ)) (hT.q) ?_
  refine g_iconst (pc := 6) (v := 1) C dX7_isQuestion_6 (by decide) ?_
  refine g_isub (pc := 7) C dX7_isQuestion_7 ?_
  refine g_rdSI (pc := 8) (val := bI (0 ≤ x ∧ x ≤ ((nI (tQ τ)) - 1))) (rest := []) C k_X7_within (c_X7_within l G x 0 ((nI (tQ τ)) - 1)) ml_X7_88 rfl ⟨Nat.le_of_ble_eq_true rfl, Nat.le_of_ble_eq_true rfl⟩ rfl [] rfl rfl (Nat.le_of_ble_eq_true rfl) ⟨by decide, by decide⟩ dX7_isQuestion_8 ?_
  exact g_retIR (pc := 11) C (by exact bI_nar _) (by rfl) dX7_isQuestion_11
set_option maxRecDepth 20000 in
set_option maxHeartbeats 4000000 in
theorem c_X7_isGroup (l : Launch) (G : gT) (m : Nat) (A : Nat → Nat) (τ : tT) (y : Nat → Int32) (x : Int32) (hT : TI τ) : RI l yX7_isGroup cX7_isGroup 2 (some .boolean) 1 G [.ref m, .int x] (wN G m A τ y) (bI (0 ≤ x ∧ x ≤ nI (tG τ) - 1)) := by
  refine start_R (by decide) (Nat.le_of_ble_eq_true rfl) (fun p9 e9 s9 m9 a9 b9 t9 c9 C => ?_)
  refine g_lv (lv' := [(0, .ref m), (1, .int x)]) rfl ?_
  refine g_iload_n (pc := 0) C dX7_isGroup_0 1 rfl ?_
  refine g_iconst (pc := 1) (v := 0) C dX7_isGroup_1 (by decide) ?_
  refine g_aload_n (pc := 2) C dX7_isGroup_2 0 rfl ?_
  refine g_get (pc := 3) (T := TX7) (N := 33) (v := .int (τ 8 1)) C ib_X7 0 rfl rfl 7 (by decide) mf_X7_92 rfl rfl rfl dX7_isGroup_3 ?_
  refine g_top (z := nI (tG τ)) (hT.g) ?_
  refine g_iconst (pc := 6) (v := 1) C dX7_isGroup_6 (by decide) ?_
  refine g_isub (pc := 7) C dX7_isGroup_7 ?_
  refine g_rdSI (pc := 8) (val := bI (0 ≤ x ∧ x ≤ ((nI (tG τ)) - 1))) (rest := []) C k_X7_within (c_X7_within l G x 0 ((nI (tG τ)) - 1)) ml_X7_88 rfl ⟨Nat.le_of_ble_eq_true rfl, Nat.le_of_ble_eq_true rfl⟩ rfl [] rfl rfl (Nat.le_of_ble_eq_true rfl) ⟨by decide, by decide⟩ dX7_isGroup_8 ?_
  exact g_retIR (pc := 11) C (by exact bI_nar _) (by rfl) dX7_isGroup_11
set_option maxRecDepth 20000 in
set_option maxHeartbeats 4000000 in
theorem c_X7_isTries (l : Launch) (G : gT) (v : Int32) : RI l yX7_isTries cX7_isTries 1 (some .boolean) 1 G [.int v] (([] : va_W)) (bI (0 ≤ v ∧ v ≤ 9)) := by
  refine start_R (by decide) (Nat.le_of_ble_eq_true rfl) (fun p9 e9 s9 m9 a9 b9 t9 c9 C => ?_)
  refine g_lv (lv' := [(0, .int v)]) rfl ?_
  refine g_iload_n (pc := 0) C dX7_isTries_0 0 rfl ?_
  refine g_iconst (pc := 1) (v := 0) C dX7_isTries_1 (by decide) ?_
  refine g_bipush (pc := 2) (v := 9) C dX7_isTries_2 (by decide) ?_
  refine g_rdSI (pc := 4) (val := bI (0 ≤ v ∧ v ≤ 9)) (rest := []) C k_X7_within (c_X7_within l G v 0 9) ml_X7_88 rfl ⟨Nat.le_of_ble_eq_true rfl, Nat.le_of_ble_eq_true rfl⟩ rfl [] rfl rfl (Nat.le_of_ble_eq_true rfl) ⟨by decide, by decide⟩ dX7_isTries_4 ?_
  exact g_retIR (pc := 7) C (by exact bI_nar _) (by rfl) dX7_isTries_7
set_option maxRecDepth 20000 in
set_option maxHeartbeats 4000000 in
theorem c_X7_people (l : Launch) (G : gT) (m : Nat) (A : Nat → Nat) (τ : tT) (y : Nat → Int32) (hT : TI τ) : RI l yX7_people cX7_people 3 (some .int) 0 G [.ref m] (wN G m A τ y) (ppl τ) := by
  have hg10 := hT.g10
  have hq8 := hT.q8
  refine start_R (by decide) (Nat.le_of_ble_eq_true rfl) (fun p9 e9 s9 m9 a9 b9 t9 c9 C => ?_)
  refine g_lv (lv' := [(0, .ref m)]) rfl ?_
  refine g_iconst (pc := 0) (v := 0) C dX7_people_0 (by decide) ?_
  refine g_istore_n (pc := 1) (lv' := [(1, .int 0), (0, .ref m)]) C dX7_people_1 rfl (by decide) rfl ?_
  refine g_iconst (pc := 2) (v := 0) C dX7_people_2 (by decide) ?_
  refine g_istore_n (pc := 3) (lv' := [(2, .int 0), (1, .int 0), (0, .ref m)]) C dX7_people_3 rfl (by decide) rfl ?_
  have key_4 : ∀ (n4 : Nat) (i : Nat) (hi : i ≤ tG τ), tG τ - i < n4 → GW p9 l e9 (rmh 0 0 0) s9 m9 a9 b9 t9 c9 (MQ b9 (QcI (ppl τ)) a9 s9 0 0 NoA) G NoA false 3 0 0 (wN G m A τ y) [(0, .ref m), (1, .int (sumN (τ 3) i)), (2, .int (nI i))] 4 [] := by
    intro n4
    induction n4 with
    | zero => intro i hi hn4; exact absurd hn4 (Nat.not_lt_zero _)
    | succ n4 ih4 =>
      intro i hi hn4
      refine g_iload_n (pc := 4) C dX7_people_4 2 rfl ?_
      refine g_aload_n (pc := 5) C dX7_people_5 0 rfl ?_
      refine g_get (pc := 6) (T := TX7) (N := 33) (v := .int (τ 8 1)) C ib_X7 0 rfl rfl 7 (by decide) mf_X7_92 rfl rfl rfl dX7_people_6 ?_
      refine g_top (z := nI (tG τ)) (hT.g) ?_
      refine g_icmpN_ge (pc := 9) (i := i) (j := tG τ) (tgt := 27) C dX7_people_9 (by decide) ⟨by omega, by omega⟩ (fun h9 => ?_) (fun h9 => ?_)
      · refine g_iload_n (pc := 27) C dX7_people_27 1 rfl ?_
        exact g_retIR (pc := 28) C (rfl) (by rw [show i = tG τ from by omega]; rfl) dX7_people_28
      · refine g_iload_n (pc := 12) C dX7_people_12 1 rfl ?_
        refine g_aload_n (pc := 13) C dX7_people_13 0 rfl ?_
        refine g_get (pc := 14) (T := TX7) (N := 33) (v := .ref (A 6)) C ib_X7 0 rfl rfl 8 (by decide) mf_X7_29 rfl rfl rfl dX7_people_14 ?_
        refine g_iload_n (pc := 17) C dX7_people_17 2 rfl ?_
        refine g_iald (pc := 18) (v := (τ 3) i) C 4 rfl i (rfl) ⟨by omega, by decide⟩ (rfl) dX7_people_18 ?_
        refine g_iadd (pc := 19) C dX7_people_19 ?_
        refine g_istore_n (pc := 20) (lv' := [(1, .int ((sumN (τ 3) i) + ((τ 3) i))), (0, .ref m), (2, .int (nI i))]) C dX7_people_20 rfl (by decide) rfl ?_
        refine g_iinc (pc := 21) (v := nI (i + 1)) (lv' := [(2, .int (nI (i + 1))), (1, .int ((sumN (τ 3) i) + ((τ 3) i))), (0, .ref m)]) C dX7_people_21 2 rfl (nI_1 i) (by decide) rfl ?_
        refine g_goto (pc := 24) (tgt := 4) C dX7_people_24 (by decide) ?_
        refine g_sub (lv' := [(0, .ref m), (1, .int (sumN (τ 3) (i + 1))), (2, .int (nI (i + 1)))]) [2, 1, 0] rfl ?_
        exact ih4 (i + 1) (by first | assumption | omega) (by omega)
  refine g_sub (lv' := [(0, .ref m), (1, .int (sumN (τ 3) 0)), (2, .int (nI 0))]) [2, 1, 0] rfl ?_
  exact key_4 _ 0 (by first | assumption | omega) (Nat.lt_succ_self _)
theorem sLd_min (g a : Int32) : mMin 10 (g + a) = sLd g a := by
  unfold mMin sLd
  by_cases h : g + a < 10
  · rw [if_pos h, if_pos (Int32.le_of_lt h)]
  · rw [if_neg h]
    by_cases h2 : g + a ≤ 10
    · rw [if_pos h2]; exact Int32.le_antisymm (Int32.not_lt.mp h) h2
    · rw [if_neg h2]
set_option maxRecDepth 20000 in
set_option maxHeartbeats 4000000 in
theorem c_X7_yesOf (l : Launch) (G : gT) (m : Nat) (A : Nat → Nat) (τ : tT) (y : Nat → Int32) (q : Nat) (v : Int32) (g : Int32) (n : Int32) (hq : q < 8) : RI l yX7_yesOf cX7_yesOf 8 (some .int) 1 G [.ref m, .int (nI q), .int v, .int g, .int n] (wN G m A τ y) (yQ τ q v g n) := by
  refine start_R (by decide) (Nat.le_of_ble_eq_true rfl) (fun p9 e9 s9 m9 a9 b9 t9 c9 C => ?_)
  refine g_lv (lv' := [(0, .ref m), (1, .int (nI q)), (2, .int v), (3, .int g), (4, .int n)]) rfl ?_
  have key_54 : GW p9 l e9 (rmh 1 0 0) s9 m9 a9 b9 t9 c9 (MQ b9 (QcI (yQ τ q v g n)) a9 s9 0 0 NoA) G NoA false 8 0 0 (wN G m A τ y) [(0, .ref m), (1, .int (nI q)), (2, .int v), (3, .int g), (4, .int n), (5, .int (τ 0 q)), (6, .int (sPl v n))] 54 [.int (sTu v n)] := by
    refine g_istore (pc := 54) (lv' := [(7, .int (sTu v n)), (0, .ref m), (1, .int (nI q)), (2, .int v), (3, .int g), (4, .int n), (5, .int (τ 0 q)), (6, .int (sPl v n))]) C dX7_yesOf_54 (by decide) rfl ?_
    refine g_iload (pc := 56) C dX7_yesOf_56 6 rfl ?_
    by_cases h58_1 : τ 0 q = 1
    · refine g_top (z := 1) h58_1 ?_
      refine g_tsIn (pc := 58) (off := 38) (tgt := 96) C dX7_yesOf_58 (by decide) (by decide) (by decide) (by decide) ?_
      refine g_iload (pc := 96) C dX7_yesOf_96 7 rfl ?_
      refine g_iload (pc := 98) C dX7_yesOf_98 5 rfl ?_
      refine g_iload (pc := 100) C dX7_yesOf_100 7 rfl ?_
      refine g_isub (pc := 102) C dX7_yesOf_102 ?_
      refine g_iload_n (pc := 103) C dX7_yesOf_103 4 rfl ?_
      refine g_imul (pc := 104) C dX7_yesOf_104 ?_
      refine g_bipush (pc := 105) (v := 10) C dX7_yesOf_105 (by decide) ?_
      refine g_idiv (pc := 107) C dX7_yesOf_107 (by decide) ?_
      refine g_iadd (pc := 108) C dX7_yesOf_108 ?_
      exact g_retIR (pc := 109) C (rfl) (by unfold yQ sYes; rw [h58_1] <;> rfl) dX7_yesOf_109
    by_cases h58_2 : τ 0 q = 2
    · refine g_top (z := 2) h58_2 ?_
      refine g_tsIn (pc := 58) (off := 52) (tgt := 110) C dX7_yesOf_58 (by decide) (by decide) (by decide) (by decide) ?_
      refine g_iload (pc := 110) C dX7_yesOf_110 0 rfl ?_
      exact g_retIR (pc := 112) C (rfl) (by unfold yQ sYes; rw [h58_2] <;> rfl) dX7_yesOf_112
    by_cases h58_3 : τ 0 q = 3
    · refine g_top (z := 3) h58_3 ?_
      refine g_tsIn (pc := 58) (off := 55) (tgt := 113) C dX7_yesOf_58 (by decide) (by decide) (by decide) (by decide) ?_
      refine g_iload (pc := 113) C dX7_yesOf_113 7 rfl ?_
      refine g_iload (pc := 115) C dX7_yesOf_115 5 rfl ?_
      refine g_iload (pc := 117) C dX7_yesOf_117 7 rfl ?_
      refine g_isub (pc := 119) C dX7_yesOf_119 ?_
      refine g_bipush (pc := 120) (v := 10) C dX7_yesOf_120 (by decide) ?_
      refine g_iload_n (pc := 122) C dX7_yesOf_122 4 rfl ?_
      refine g_aload_n (pc := 123) C dX7_yesOf_123 1 rfl ?_
      refine g_get (pc := 124) (T := TX7) (N := 33) (v := .ref (A 4)) C ib_X7 0 rfl rfl 5 (by decide) mf_X7_23 rfl rfl rfl dX7_yesOf_124 ?_
      refine g_iload_n (pc := 127) C dX7_yesOf_127 2 rfl ?_
      refine g_iald (pc := 128) (v := (τ 1) q) C 2 rfl q (rfl) ⟨by omega, by decide⟩ (rfl) dX7_yesOf_128 ?_
      refine g_iadd (pc := 129) C dX7_yesOf_129 ?_
      refine g_mmin (pc := 130) (v := mMin 10 (g + ((τ 1) q))) C ml_X7_202 rfl ⟨Nat.le_of_ble_eq_true rfl, Nat.le_of_ble_eq_true rfl⟩ ⟨by decide, by decide⟩ rfl dX7_yesOf_130 ?_
      refine g_imul (pc := 133) C dX7_yesOf_133 ?_
      refine g_bipush (pc := 134) (v := 10) C dX7_yesOf_134 (by decide) ?_
      refine g_idiv (pc := 136) C dX7_yesOf_136 (by decide) ?_
      refine g_iadd (pc := 137) C dX7_yesOf_137 ?_
      exact g_retIR (pc := 138) C (rfl) (by unfold yQ sYes; rw [h58_3, sLd_min] <;> rfl) dX7_yesOf_138
    by_cases h58_4 : τ 0 q = 4
    · refine g_top (z := 4) h58_4 ?_
      refine g_tsIn (pc := 58) (off := 81) (tgt := 139) C dX7_yesOf_58 (by decide) (by decide) (by decide) (by decide) ?_
      refine g_iload (pc := 139) C dX7_yesOf_139 7 rfl ?_
      refine g_bipush (pc := 141) (v := 10) C dX7_yesOf_141 (by decide) ?_
      refine g_aload_n (pc := 143) C dX7_yesOf_143 1 rfl ?_
      refine g_get (pc := 144) (T := TX7) (N := 33) (v := .ref (A 4)) C ib_X7 0 rfl rfl 5 (by decide) mf_X7_23 rfl rfl rfl dX7_yesOf_144 ?_
      refine g_iload_n (pc := 147) C dX7_yesOf_147 2 rfl ?_
      refine g_iald (pc := 148) (v := (τ 1) q) C 2 rfl q (rfl) ⟨by omega, by decide⟩ (rfl) dX7_yesOf_148 ?_
      refine g_isub (pc := 149) C dX7_yesOf_149 ?_
      refine g_imul (pc := 150) C dX7_yesOf_150 ?_
      refine g_bipush (pc := 151) (v := 10) C dX7_yesOf_151 (by decide) ?_
      refine g_idiv (pc := 153) C dX7_yesOf_153 (by decide) ?_
      exact g_retIR (pc := 154) C (rfl) (by unfold yQ sYes; rw [h58_4] <;> rfl) dX7_yesOf_154
    by_cases h58_5 : τ 0 q = 5
    · refine g_top (z := 5) h58_5 ?_
      refine g_tsIn (pc := 58) (off := 97) (tgt := 155) C dX7_yesOf_58 (by decide) (by decide) (by decide) (by decide) ?_
      refine g_iload (pc := 155) C dX7_yesOf_155 0 rfl ?_
      refine g_bipush (pc := 157) (v := 10) C dX7_yesOf_157 (by decide) ?_
      refine g_aload_n (pc := 159) C dX7_yesOf_159 1 rfl ?_
      refine g_get (pc := 160) (T := TX7) (N := 33) (v := .ref (A 4)) C ib_X7 0 rfl rfl 5 (by decide) mf_X7_23 rfl rfl rfl dX7_yesOf_160 ?_
      refine g_iload_n (pc := 163) C dX7_yesOf_163 2 rfl ?_
      refine g_iald (pc := 164) (v := (τ 1) q) C 2 rfl q (rfl) ⟨by omega, by decide⟩ (rfl) dX7_yesOf_164 ?_
      refine g_isub (pc := 165) C dX7_yesOf_165 ?_
      refine g_imul (pc := 166) C dX7_yesOf_166 ?_
      refine g_bipush (pc := 167) (v := 10) C dX7_yesOf_167 (by decide) ?_
      refine g_idiv (pc := 169) C dX7_yesOf_169 (by decide) ?_
      exact g_retIR (pc := 170) C (rfl) (by unfold yQ sYes; rw [h58_5] <;> rfl) dX7_yesOf_170
    by_cases h58_6 : τ 0 q = 6
    · refine g_top (z := 6) h58_6 ?_
      refine g_tsIn (pc := 58) (off := 113) (tgt := 171) C dX7_yesOf_58 (by decide) (by decide) (by decide) (by decide) ?_
      refine g_iload (pc := 171) C dX7_yesOf_171 5 rfl ?_
      refine g_iconst (pc := 173) (v := 2) C dX7_yesOf_173 (by decide) ?_
      refine g_idiv (pc := 174) C dX7_yesOf_174 (by decide) ?_
      refine g_bipush (pc := 175) (v := 10) C dX7_yesOf_175 (by decide) ?_
      refine g_aload_n (pc := 177) C dX7_yesOf_177 1 rfl ?_
      refine g_get (pc := 178) (T := TX7) (N := 33) (v := .ref (A 4)) C ib_X7 0 rfl rfl 5 (by decide) mf_X7_23 rfl rfl rfl dX7_yesOf_178 ?_
      refine g_iload_n (pc := 181) C dX7_yesOf_181 2 rfl ?_
      refine g_iald (pc := 182) (v := (τ 1) q) C 2 rfl q (rfl) ⟨by omega, by decide⟩ (rfl) dX7_yesOf_182 ?_
      refine g_isub (pc := 183) C dX7_yesOf_183 ?_
      refine g_imul (pc := 184) C dX7_yesOf_184 ?_
      refine g_bipush (pc := 185) (v := 10) C dX7_yesOf_185 (by decide) ?_
      refine g_idiv (pc := 187) C dX7_yesOf_187 (by decide) ?_
      exact g_retIR (pc := 188) C (rfl) (by unfold yQ sYes; rw [h58_6] <;> rfl) dX7_yesOf_188
    refine g_tsOut (pc := 58) (tgt := 189) C dX7_yesOf_58 (by have a0 := lv_neT h58_1 (a := 1) rfl; have a1 := lv_neT h58_2 (a := 2) rfl; have a2 := lv_neT h58_3 (a := 3) rfl; have a3 := lv_neT h58_4 (a := 4) rfl; have a4 := lv_neT h58_5 (a := 5) rfl; have a5 := lv_neT h58_6 (a := 6) rfl; omega) (by decide) ?_
    refine g_iload (pc := 189) C dX7_yesOf_189 7 rfl ?_
    exact g_retIR (pc := 191) C (rfl) (by simp only [yQ, sYes, if_neg h58_1, if_neg h58_2, if_neg h58_3, if_neg h58_4, if_neg h58_5, if_neg h58_6]) dX7_yesOf_191
  have key_30 : GW p9 l e9 (rmh 1 0 0) s9 m9 a9 b9 t9 c9 (MQ b9 (QcI (yQ τ q v g n)) a9 s9 0 0 NoA) G NoA false 8 0 0 (wN G m A τ y) [(0, .ref m), (1, .int (nI q)), (2, .int v), (3, .int g), (4, .int n), (5, .int (τ 0 q))] 30 [.int (sPl v n)] := by
    refine g_istore (pc := 30) (lv' := [(6, .int (sPl v n)), (0, .ref m), (1, .int (nI q)), (2, .int v), (3, .int g), (4, .int n), (5, .int (τ 0 q))]) C dX7_yesOf_30 (by decide) rfl ?_
    refine g_iload_n (pc := 32) C dX7_yesOf_32 3 rfl ?_
    refine g_iconst (pc := 33) (v := 1) C dX7_yesOf_33 (by decide) ?_
    refine g_icmp_ne (pc := 34) (tgt := 42) C dX7_yesOf_34 (by decide) (fun h34 => ?_) (fun h34 => ?_)
    · refine g_iload_n (pc := 42) C dX7_yesOf_42 3 rfl ?_
      refine g_if_ne (pc := 43) (tgt := 50) C dX7_yesOf_43 (by decide) (fun h43 => ?_) (fun h43 => ?_)
      · refine g_iload (pc := 50) C dX7_yesOf_50 5 rfl ?_
        refine g_iconst (pc := 52) (v := 2) C dX7_yesOf_52 (by decide) ?_
        refine g_idiv (pc := 53) C dX7_yesOf_53 (by decide) ?_
        refine g_top (z := sTu v n) (by simp [sTu, *]) ?_
        refine g_sub (lv' := [(0, .ref m), (1, .int (nI q)), (2, .int v), (3, .int g), (4, .int n), (5, .int (τ 0 q)), (6, .int (sPl v n))]) [1, 2, 3, 4, 5, 6, 0] rfl ?_
        exact key_54 
      · refine g_iconst (pc := 46) (v := 0) C dX7_yesOf_46 (by decide) ?_
        refine g_goto (pc := 47) (tgt := 54) C dX7_yesOf_47 (by decide) ?_
        refine g_top (z := sTu v n) (by simp [sTu, *]) ?_
        refine g_sub (lv' := [(0, .ref m), (1, .int (nI q)), (2, .int v), (3, .int g), (4, .int n), (5, .int (τ 0 q)), (6, .int (sPl v n))]) [1, 2, 3, 4, 5, 6, 0] rfl ?_
        exact key_54 
    · refine g_iload (pc := 37) C dX7_yesOf_37 5 rfl ?_
      refine g_goto (pc := 39) (tgt := 54) C dX7_yesOf_39 (by decide) ?_
      refine g_top (z := sTu v n) (by simp [sTu, *]) ?_
      refine g_sub (lv' := [(0, .ref m), (1, .int (nI q)), (2, .int v), (3, .int g), (4, .int n), (5, .int (τ 0 q)), (6, .int (sPl v n))]) [1, 2, 3, 4, 5, 6, 0] rfl ?_
      exact key_54 
  refine g_aload_n (pc := 0) C dX7_yesOf_0 0 rfl ?_
  refine g_get (pc := 1) (T := TX7) (N := 33) (v := .ref (A 3)) C ib_X7 0 rfl rfl 4 (by decide) mf_X7_20 rfl rfl rfl dX7_yesOf_1 ?_
  refine g_iload_n (pc := 4) C dX7_yesOf_4 1 rfl ?_
  refine g_iald (pc := 5) (v := (τ 0) q) C 1 rfl q (rfl) ⟨by omega, by decide⟩ (rfl) dX7_yesOf_5 ?_
  refine g_istore (pc := 6) (lv' := [(5, .int ((τ 0) q)), (0, .ref m), (1, .int (nI q)), (2, .int v), (3, .int g), (4, .int n)]) C dX7_yesOf_6 (by decide) rfl ?_
  refine g_iload_n (pc := 8) C dX7_yesOf_8 3 rfl ?_
  refine g_if_ne (pc := 9) (tgt := 17) C dX7_yesOf_9 (by decide) (fun h9 => ?_) (fun h9 => ?_)
  · refine g_iload_n (pc := 17) C dX7_yesOf_17 3 rfl ?_
    refine g_iconst (pc := 18) (v := 1) C dX7_yesOf_18 (by decide) ?_
    refine g_icmp_ne (pc := 19) (tgt := 26) C dX7_yesOf_19 (by decide) (fun h19 => ?_) (fun h19 => ?_)
    · refine g_iload (pc := 26) C dX7_yesOf_26 5 rfl ?_
      refine g_iconst (pc := 28) (v := 2) C dX7_yesOf_28 (by decide) ?_
      refine g_idiv (pc := 29) C dX7_yesOf_29 (by decide) ?_
      refine g_top (z := sPl v n) (by simp [sPl, h9, h19]) ?_
      refine g_sub (lv' := [(0, .ref m), (1, .int (nI q)), (2, .int v), (3, .int g), (4, .int n), (5, .int (τ 0 q))]) [1, 2, 3, 4, 5, 0] rfl ?_
      exact key_30 
    · refine g_iconst (pc := 22) (v := 0) C dX7_yesOf_22 (by decide) ?_
      refine g_goto (pc := 23) (tgt := 30) C dX7_yesOf_23 (by decide) ?_
      refine g_top (z := sPl v n) (by simp [sPl, h9, h19]) ?_
      refine g_sub (lv' := [(0, .ref m), (1, .int (nI q)), (2, .int v), (3, .int g), (4, .int n), (5, .int (τ 0 q))]) [1, 2, 3, 4, 5, 0] rfl ?_
      exact key_30 
  · refine g_iload (pc := 12) C dX7_yesOf_12 5 rfl ?_
    refine g_goto (pc := 14) (tgt := 30) C dX7_yesOf_14 (by decide) ?_
    refine g_top (z := sPl v n) (by simp [sPl, h9]) ?_
    refine g_sub (lv' := [(0, .ref m), (1, .int (nI q)), (2, .int v), (3, .int g), (4, .int n), (5, .int (τ 0 q))]) [1, 2, 3, 4, 5, 0] rfl ?_
    exact key_30 
set_option maxRecDepth 20000 in
set_option maxHeartbeats 4000000 in
theorem c_X7_yesBy (l : Launch) (G : gT) (m : Nat) (A : Nat → Nat) (τ : tT) (y : Nat → Int32) (q : Nat) (g : Nat) (n : Int32) (hq : q < 8) (hg : g < 10) : RI l yX7_yesBy cX7_yesBy 4 (some .int) 2 G [.ref m, .int (nI q), .int (nI g), .int n] (wN G m A τ y) (yG τ q g n) := by
  refine start_R (by decide) (Nat.le_of_ble_eq_true rfl) (fun p9 e9 s9 m9 a9 b9 t9 c9 C => ?_)
  refine g_lv (lv' := [(0, .ref m), (1, .int (nI q)), (2, .int (nI g)), (3, .int n)]) rfl ?_
  refine g_aload_n (pc := 0) C dX7_yesBy_0 0 rfl ?_
  refine g_iload_n (pc := 1) C dX7_yesBy_1 1 rfl ?_
  refine g_aload_n (pc := 2) C dX7_yesBy_2 0 rfl ?_
  refine g_get (pc := 3) (T := TX7) (N := 33) (v := .ref (A 7)) C ib_X7 0 rfl rfl 9 (by decide) mf_X7_32 rfl rfl rfl dX7_yesBy_3 ?_
  refine g_iload_n (pc := 6) C dX7_yesBy_6 2 rfl ?_
  refine g_iald (pc := 7) (v := (τ 4) g) C 5 rfl g (rfl) ⟨by omega, by decide⟩ (rfl) dX7_yesBy_7 ?_
  refine g_aload_n (pc := 8) C dX7_yesBy_8 0 rfl ?_
  refine g_get (pc := 9) (T := TX7) (N := 33) (v := .ref (A 8)) C ib_X7 0 rfl rfl 10 (by decide) mf_X7_35 rfl rfl rfl dX7_yesBy_9 ?_
  refine g_iload_n (pc := 12) C dX7_yesBy_12 2 rfl ?_
  refine g_iald (pc := 13) (v := (τ 5) g) C 6 rfl g (rfl) ⟨by omega, by decide⟩ (rfl) dX7_yesBy_13 ?_
  refine g_iload_n (pc := 14) C dX7_yesBy_14 3 rfl ?_
  refine g_rdVI (pc := 15) (val := yQ τ q ((τ 4) g) ((τ 5) g) n) (rest := []) C k_X7_yesOf (c_X7_yesOf l G m A τ y q ((τ 4) g) ((τ 5) g) n (by first | assumption | omega)) ml_X7_115 rfl ⟨Nat.le_of_ble_eq_true rfl, Nat.le_of_ble_eq_true rfl⟩ rfl [0, 1, 2, 3, 4, 5, 6, 7, 8] rfl 0 rfl rfl rfl rfl (Nat.le_of_ble_eq_true rfl) ⟨by decide, by decide⟩ dX7_yesBy_15 ?_
  exact g_retIR (pc := 18) C (rfl) (by rfl) dX7_yesBy_18
set_option maxRecDepth 20000 in
set_option maxHeartbeats 4000000 in
theorem c_X7_all (l : Launch) (G : gT) (m : Nat) (A : Nat → Nat) (τ : tT) (y : Nat → Int32) (q : Nat) (hT : TI τ) (hq : q < 8) : RI l yX7_all cX7_all 4 (some .int) 3 G [.ref m, .int (nI q)] (wN G m A τ y) (allN τ q) := by
  have hg10 := hT.g10
  have hq8 := hT.q8
  refine start_R (by decide) (Nat.le_of_ble_eq_true rfl) (fun p9 e9 s9 m9 a9 b9 t9 c9 C => ?_)
  refine g_lv (lv' := [(0, .ref m), (1, .int (nI q))]) rfl ?_
  refine g_iconst (pc := 0) (v := 0) C dX7_all_0 (by decide) ?_
  refine g_istore_n (pc := 1) (lv' := [(2, .int 0), (0, .ref m), (1, .int (nI q))]) C dX7_all_1 rfl (by decide) rfl ?_
  refine g_iconst (pc := 2) (v := 0) C dX7_all_2 (by decide) ?_
  refine g_istore_n (pc := 3) (lv' := [(3, .int 0), (2, .int 0), (0, .ref m), (1, .int (nI q))]) C dX7_all_3 rfl (by decide) rfl ?_
  have key_4 : ∀ (n4 : Nat) (i : Nat) (hi : i ≤ tG τ), tG τ - i < n4 → GW p9 l e9 (rmh 3 0 0) s9 m9 a9 b9 t9 c9 (MQ b9 (QcI (allN τ q)) a9 s9 0 0 NoA) G NoA false 4 0 0 (wN G m A τ y) [(0, .ref m), (1, .int (nI q)), (2, .int (sumN (fun g => yG τ q g (τ 3 g)) i)), (3, .int (nI i))] 4 [] := by
    intro n4
    induction n4 with
    | zero => intro i hi hn4; exact absurd hn4 (Nat.not_lt_zero _)
    | succ n4 ih4 =>
      intro i hi hn4
      refine g_iload_n (pc := 4) C dX7_all_4 3 rfl ?_
      refine g_aload_n (pc := 5) C dX7_all_5 0 rfl ?_
      refine g_get (pc := 6) (T := TX7) (N := 33) (v := .int (τ 8 1)) C ib_X7 0 rfl rfl 7 (by decide) mf_X7_92 rfl rfl rfl dX7_all_6 ?_
      refine g_top (z := nI (tG τ)) (hT.g) ?_
      refine g_icmpN_ge (pc := 9) (i := i) (j := tG τ) (tgt := 33) C dX7_all_9 (by decide) ⟨by omega, by omega⟩ (fun h9 => ?_) (fun h9 => ?_)
      · refine g_iload_n (pc := 33) C dX7_all_33 2 rfl ?_
        exact g_retIR (pc := 34) C (rfl) (by rw [show i = tG τ from by omega]; rfl) dX7_all_34
      · refine g_iload_n (pc := 12) C dX7_all_12 2 rfl ?_
        refine g_aload_n (pc := 13) C dX7_all_13 0 rfl ?_
        refine g_iload_n (pc := 14) C dX7_all_14 1 rfl ?_
        refine g_iload_n (pc := 15) C dX7_all_15 3 rfl ?_
        refine g_aload_n (pc := 16) C dX7_all_16 0 rfl ?_
        refine g_get (pc := 17) (T := TX7) (N := 33) (v := .ref (A 6)) C ib_X7 0 rfl rfl 8 (by decide) mf_X7_29 rfl rfl rfl dX7_all_17 ?_
        refine g_iload_n (pc := 20) C dX7_all_20 3 rfl ?_
        refine g_iald (pc := 21) (v := (τ 3) i) C 4 rfl i (rfl) ⟨by omega, by decide⟩ (rfl) dX7_all_21 ?_
        refine g_rdVI (pc := 22) (val := yG τ q i ((τ 3) i)) (rest := [.int (sumN (fun g => yG τ q g (τ 3 g)) i)]) C k_X7_yesBy (c_X7_yesBy l G m A τ y q i ((τ 3) i) (by first | assumption | omega) (by first | assumption | omega)) ml_X7_207 rfl ⟨Nat.le_of_ble_eq_true rfl, Nat.le_of_ble_eq_true rfl⟩ rfl [0, 1, 2, 3, 4, 5, 6, 7, 8] rfl 0 rfl rfl rfl rfl (Nat.le_of_ble_eq_true rfl) ⟨by decide, by decide⟩ dX7_all_22 ?_
        refine g_iadd (pc := 25) C dX7_all_25 ?_
        refine g_istore_n (pc := 26) (lv' := [(2, .int ((sumN (fun g => yG τ q g (τ 3 g)) i) + (yG τ q i ((τ 3) i)))), (0, .ref m), (1, .int (nI q)), (3, .int (nI i))]) C dX7_all_26 rfl (by decide) rfl ?_
        refine g_iinc (pc := 27) (v := nI (i + 1)) (lv' := [(3, .int (nI (i + 1))), (2, .int ((sumN (fun g => yG τ q g (τ 3 g)) i) + (yG τ q i ((τ 3) i)))), (0, .ref m), (1, .int (nI q))]) C dX7_all_27 3 rfl (nI_1 i) (by decide) rfl ?_
        refine g_goto (pc := 30) (tgt := 4) C dX7_all_30 (by decide) ?_
        refine g_sub (lv' := [(0, .ref m), (1, .int (nI q)), (2, .int (sumN (fun g => yG τ q g (τ 3 g)) (i + 1))), (3, .int (nI (i + 1)))]) [2, 3, 1, 0] rfl ?_
        exact ih4 (i + 1) (by first | assumption | omega) (by omega)
  refine g_sub (lv' := [(0, .ref m), (1, .int (nI q)), (2, .int (sumN (fun g => yG τ q g (τ 3 g)) 0)), (3, .int (nI 0))]) [2, 3, 1, 0] rfl ?_
  exact key_4 _ 0 (by first | assumption | omega) (Nat.lt_succ_self _)
set_option maxRecDepth 20000 in
set_option maxHeartbeats 4000000 in
theorem c_X7_shareOf (l : Launch) (G : gT) (m : Nat) (A : Nat → Nat) (τ : tT) (y : Nat → Int32) (q : Nat) (hT : TI τ) (hq : q < 8) : RI l yX7_shareOf cX7_shareOf 2 (some .int) 4 G [.ref m, .int (nI q)] (wN G m A τ y) (share τ q) := by
  refine start_R (by decide) (Nat.le_of_ble_eq_true rfl) (fun p9 e9 s9 m9 a9 b9 t9 c9 C => ?_)
  refine g_lv (lv' := [(0, .ref m), (1, .int (nI q))]) rfl ?_
  refine g_aload_n (pc := 0) C dX7_shareOf_0 0 rfl ?_
  refine g_iload_n (pc := 1) C dX7_shareOf_1 1 rfl ?_
  refine g_rdVI (pc := 2) (val := allN τ q) (rest := []) C k_X7_all (c_X7_all l G m A τ y q (by first | assumption | omega) (by first | assumption | omega)) ml_X7_130 rfl ⟨Nat.le_of_ble_eq_true rfl, Nat.le_of_ble_eq_true rfl⟩ rfl [0, 1, 2, 3, 4, 5, 6, 7, 8] rfl 0 rfl rfl rfl rfl (Nat.le_of_ble_eq_true rfl) ⟨by decide, by decide⟩ dX7_shareOf_2 ?_
  refine g_aload_n (pc := 5) C dX7_shareOf_5 0 rfl ?_
  refine g_rdVI (pc := 6) (val := ppl τ) (rest := [.int (allN τ q)]) C k_X7_people (c_X7_people l G m A τ y (by first | assumption | omega)) ml_X7_211 rfl ⟨Nat.le_of_ble_eq_true rfl, Nat.le_of_ble_eq_true rfl⟩ rfl [0, 1, 2, 3, 4, 5, 6, 7, 8] rfl 0 rfl rfl rfl rfl (Nat.le_of_ble_eq_true rfl) ⟨by decide, by decide⟩ dX7_shareOf_6 ?_
  refine g_rdSI (pc := 9) (val := sTh (allN τ q) (ppl τ)) (rest := []) C k_X7_thousandths (c_X7_thousandths l G (allN τ q) (ppl τ)) ml_X7_214 rfl ⟨Nat.le_of_ble_eq_true rfl, Nat.le_of_ble_eq_true rfl⟩ rfl [] rfl rfl (Nat.le_of_ble_eq_true rfl) ⟨by decide, by decide⟩ dX7_shareOf_9 ?_
  exact g_retIR (pc := 12) C (rfl) (by rfl) dX7_shareOf_12
set_option maxRecDepth 20000 in
set_option maxHeartbeats 4000000 in
theorem c_X7_hold (l : Launch) (G : gT) (m : Nat) (A : Nat → Nat) (τ : tT) (y : Nat → Int32) (hT : TI τ) : RI l yX7_hold cX7_hold 3 (some .int) 2 G [.ref m] (wN G m A τ y) (hold τ) := by
  have hg10 := hT.g10
  have hq8 := hT.q8
  refine start_R (by decide) (Nat.le_of_ble_eq_true rfl) (fun p9 e9 s9 m9 a9 b9 t9 c9 C => ?_)
  refine g_lv (lv' := [(0, .ref m)]) rfl ?_
  refine g_iconst (pc := 0) (v := 0) C dX7_hold_0 (by decide) ?_
  refine g_istore_n (pc := 1) (lv' := [(1, .int 0), (0, .ref m)]) C dX7_hold_1 rfl (by decide) rfl ?_
  refine g_iconst (pc := 2) (v := 0) C dX7_hold_2 (by decide) ?_
  refine g_istore_n (pc := 3) (lv' := [(2, .int 0), (1, .int 0), (0, .ref m)]) C dX7_hold_3 rfl (by decide) rfl ?_
  have key_4 : ∀ (n4 : Nat) (i : Nat) (hi : i ≤ tG τ), tG τ - i < n4 → GW p9 l e9 (rmh 2 0 0) s9 m9 a9 b9 t9 c9 (MQ b9 (QcI (hold τ)) a9 s9 0 0 NoA) G NoA false 3 0 0 (wN G m A τ y) [(0, .ref m), (1, .int (sumN (fun g => if τ 4 g = 0 then τ 3 g else 0) i)), (2, .int (nI i))] 4 [] := by
    intro n4
    induction n4 with
    | zero => intro i hi hn4; exact absurd hn4 (Nat.not_lt_zero _)
    | succ n4 ih4 =>
      intro i hi hn4
      refine g_iload_n (pc := 4) C dX7_hold_4 2 rfl ?_
      refine g_aload_n (pc := 5) C dX7_hold_5 0 rfl ?_
      refine g_get (pc := 6) (T := TX7) (N := 33) (v := .int (τ 8 1)) C ib_X7 0 rfl rfl 7 (by decide) mf_X7_92 rfl rfl rfl dX7_hold_6 ?_
      refine g_top (z := nI (tG τ)) (hT.g) ?_
      refine g_icmpN_ge (pc := 9) (i := i) (j := tG τ) (tgt := 36) C dX7_hold_9 (by decide) ⟨by omega, by omega⟩ (fun h9 => ?_) (fun h9 => ?_)
      · refine g_iload_n (pc := 36) C dX7_hold_36 1 rfl ?_
        refine g_aload_n (pc := 37) C dX7_hold_37 0 rfl ?_
        refine g_rdVI (pc := 38) (val := ppl τ) (rest := [.int (sumN (fun g => if τ 4 g = 0 then τ 3 g else 0) i)]) C k_X7_people (c_X7_people l G m A τ y (by first | assumption | omega)) ml_X7_211 rfl ⟨Nat.le_of_ble_eq_true rfl, Nat.le_of_ble_eq_true rfl⟩ rfl [0, 1, 2, 3, 4, 5, 6, 7, 8] rfl 0 rfl rfl rfl rfl (Nat.le_of_ble_eq_true rfl) ⟨by decide, by decide⟩ dX7_hold_38 ?_
        refine g_rdSI (pc := 41) (val := sTh (sumN (fun g => if τ 4 g = 0 then τ 3 g else 0) i) (ppl τ)) (rest := []) C k_X7_thousandths (c_X7_thousandths l G (sumN (fun g => if τ 4 g = 0 then τ 3 g else 0) i) (ppl τ)) ml_X7_214 rfl ⟨Nat.le_of_ble_eq_true rfl, Nat.le_of_ble_eq_true rfl⟩ rfl [] rfl rfl (Nat.le_of_ble_eq_true rfl) ⟨by decide, by decide⟩ dX7_hold_41 ?_
        exact g_retIR (pc := 44) C (rfl) (by rw [show i = tG τ from by omega]; rfl) dX7_hold_44
      · refine g_aload_n (pc := 12) C dX7_hold_12 0 rfl ?_
        refine g_get (pc := 13) (T := TX7) (N := 33) (v := .ref (A 7)) C ib_X7 0 rfl rfl 9 (by decide) mf_X7_32 rfl rfl rfl dX7_hold_13 ?_
        refine g_iload_n (pc := 16) C dX7_hold_16 2 rfl ?_
        refine g_iald (pc := 17) (v := (τ 4) i) C 5 rfl i (rfl) ⟨by omega, by decide⟩ (rfl) dX7_hold_17 ?_
        refine g_if_ne (pc := 18) (tgt := 30) C dX7_hold_18 (by decide) (fun h18 => ?_) (fun h18 => ?_)
        · refine g_iinc (pc := 30) (v := nI (i + 1)) (lv' := [(2, .int (nI (i + 1))), (0, .ref m), (1, .int (sumN (fun g => if τ 4 g = 0 then τ 3 g else 0) i))]) C dX7_hold_30 2 rfl (nI_1 i) (by decide) rfl ?_
          refine g_goto (pc := 33) (tgt := 4) C dX7_hold_33 (by decide) ?_
          refine g_sub (lv' := [(0, .ref m), (1, .int (sumN (fun g => if τ 4 g = 0 then τ 3 g else 0) i)), (2, .int (nI (i + 1)))]) [1, 2, 0] rfl ?_
          refine g_lv (lv' := [(0, .ref m), (1, .int (sumN (fun g => if τ 4 g = 0 then τ 3 g else 0) (i + 1))), (2, .int (nI (i + 1)))]) (by simp [sumN, h18]) ?_
          exact ih4 (i + 1) (by first | assumption | omega) (by omega)
        · refine g_iload_n (pc := 21) C dX7_hold_21 1 rfl ?_
          refine g_aload_n (pc := 22) C dX7_hold_22 0 rfl ?_
          refine g_get (pc := 23) (T := TX7) (N := 33) (v := .ref (A 6)) C ib_X7 0 rfl rfl 8 (by decide) mf_X7_29 rfl rfl rfl dX7_hold_23 ?_
          refine g_iload_n (pc := 26) C dX7_hold_26 2 rfl ?_
          refine g_iald (pc := 27) (v := (τ 3) i) C 4 rfl i (rfl) ⟨by omega, by decide⟩ (rfl) dX7_hold_27 ?_
          refine g_iadd (pc := 28) C dX7_hold_28 ?_
          refine g_istore_n (pc := 29) (lv' := [(1, .int ((sumN (fun g => if τ 4 g = 0 then τ 3 g else 0) i) + ((τ 3) i))), (0, .ref m), (2, .int (nI i))]) C dX7_hold_29 rfl (by decide) rfl ?_
          refine g_iinc (pc := 30) (v := nI (i + 1)) (lv' := [(2, .int (nI (i + 1))), (1, .int ((sumN (fun g => if τ 4 g = 0 then τ 3 g else 0) i) + ((τ 3) i))), (0, .ref m)]) C dX7_hold_30 2 rfl (nI_1 i) (by decide) rfl ?_
          refine g_goto (pc := 33) (tgt := 4) C dX7_hold_33 (by decide) ?_
          refine g_sub (lv' := [(0, .ref m), (1, .int ((sumN (fun g => if τ 4 g = 0 then τ 3 g else 0) i) + ((τ 3) i))), (2, .int (nI (i + 1)))]) [2, 1, 0] rfl ?_
          refine g_lv (lv' := [(0, .ref m), (1, .int (sumN (fun g => if τ 4 g = 0 then τ 3 g else 0) (i + 1))), (2, .int (nI (i + 1)))]) (by simp [sumN, h18]) ?_
          exact ih4 (i + 1) (by first | assumption | omega) (by omega)
  refine g_sub (lv' := [(0, .ref m), (1, .int (sumN (fun g => if τ 4 g = 0 then τ 3 g else 0) 0)), (2, .int (nI 0))]) [2, 1, 0] rfl ?_
  exact key_4 _ 0 (by first | assumption | omega) (Nat.lt_succ_self _)
