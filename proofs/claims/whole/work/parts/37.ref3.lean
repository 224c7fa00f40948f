theorem upd_at (f : Nat → Int32) (k : Nat) (x : Int32) : upd f k x k = x := by simp [upd]
theorem upd_2 (f : Nat → Int32) (k : Nat) (x z : Int32) : upd (upd f k x) k z = upd f k z := by funext j; simp only [upd]; split <;> rfl
def frW (f : Nat → Int32) (a : Nat → Int32) (n : Nat) : Nat → Int32 := fun k => if k < n then f k else a k
theorem frW_0 (f a : Nat → Int32) : frW f a 0 = a := by funext k; simp [frW]
theorem frW_s (f a : Nat → Int32) (n : Nat) : upd (frW f a n) n (f n) = frW f a (n + 1) := by
  funext k
  simp only [frW, upd]
  by_cases h : k = n
  · subst h; rw [if_pos rfl, if_pos (by omega)]
  · rw [if_neg h]; by_cases h2 : k < n
    · rw [if_pos h2, if_pos (by omega)]
    · rw [if_neg h2, if_neg (by omega)]
set_option maxRecDepth 20000 in
set_option maxHeartbeats 4000000 in
theorem c_X7_isUnder_0 (l : Launch) (G : gT) (w : Int32) : RI l yX7_isUnder cX7_isUnder 3 (some .boolean) 1 G [.int 0, .int w] (([] : va_W)) (bI (undr 0 w)) := by
  refine start_R (by decide) (Nat.le_of_ble_eq_true rfl) (fun p9 e9 s9 m9 a9 b9 t9 c9 C => ?_)
  refine g_lv (lv' := [(0, .int 0), (1, .int w)]) rfl ?_
  refine g_iload_n (pc := 0) C dX7_isUnder_0 0 rfl ?_
  refine g_istore_n (pc := 1) (lv' := [(2, .int 0), (0, .int 0), (1, .int w)]) C dX7_isUnder_1 rfl (by decide) rfl ?_
  refine g_iload_n (pc := 2) C dX7_isUnder_2 0 rfl ?_
  refine g_iload_n (pc := 3) C dX7_isUnder_3 2 rfl ?_
  refine g_icmp_eq (pc := 4) (tgt := 19) C dX7_isUnder_4 (by decide) (fun h4 => ?_) (fun h4 => ?_)
  · refine g_iload_n (pc := 19) C dX7_isUnder_19 0 rfl ?_
    refine g_iload_n (pc := 20) C dX7_isUnder_20 2 rfl ?_
    refine g_icmp_ne (pc := 21) (tgt := 28) C dX7_isUnder_21 (by decide) (fun h21 => ?_) (fun h21 => ?_)
    · refine g_iconst (pc := 28) (v := 0) C dX7_isUnder_28 (by decide) ?_
      exact g_retIR (pc := 29) C (rfl) (by first | (refine (bI_t ?_).symm; subst_vars; decide) | (refine (bI_f ?_).symm; show ¬ (w = 0 ∨ w = 0 ∨ (0 = 3 ∧ w = 1) ∨ (0 = 5 ∧ w = 2) ∨ (0 = 6 ∧ w = 4)); rintro (rfl | rfl | ⟨q9, rfl⟩ | ⟨q9, rfl⟩ | ⟨q9, rfl⟩) <;> first | (exact absurd q9 (by decide)) | (exact absurd rfl (by assumption)) | (simp_all; done))) dX7_isUnder_29
    · refine g_iconst (pc := 24) (v := 1) C dX7_isUnder_24 (by decide) ?_
      refine g_goto (pc := 25) (tgt := 29) C dX7_isUnder_25 (by decide) ?_
      exact g_retIR (pc := 29) C (rfl) (by first | (refine (bI_t ?_).symm; subst_vars; decide) | (refine (bI_f ?_).symm; show ¬ (w = 0 ∨ w = 0 ∨ (0 = 3 ∧ w = 1) ∨ (0 = 5 ∧ w = 2) ∨ (0 = 6 ∧ w = 4)); rintro (rfl | rfl | ⟨q9, rfl⟩ | ⟨q9, rfl⟩ | ⟨q9, rfl⟩) <;> first | (exact absurd q9 (by decide)) | (exact absurd rfl (by assumption)) | (simp_all; done))) dX7_isUnder_29
  · refine g_iload_n (pc := 7) C dX7_isUnder_7 0 rfl ?_
    refine g_if_le (pc := 8) (tgt := 19) C dX7_isUnder_8 (by decide) (fun h8 => ?_) (fun h8 => absurd h8 (by decide))
    refine g_iload_n (pc := 19) C dX7_isUnder_19 0 rfl ?_
    refine g_iload_n (pc := 20) C dX7_isUnder_20 2 rfl ?_
    refine g_icmp_ne (pc := 21) (tgt := 28) C dX7_isUnder_21 (by decide) (fun h21 => ?_) (fun h21 => ?_)
    · refine g_iconst (pc := 28) (v := 0) C dX7_isUnder_28 (by decide) ?_
      exact g_retIR (pc := 29) C (rfl) (by first | (refine (bI_t ?_).symm; subst_vars; decide) | (refine (bI_f ?_).symm; show ¬ (w = 0 ∨ w = 0 ∨ (0 = 3 ∧ w = 1) ∨ (0 = 5 ∧ w = 2) ∨ (0 = 6 ∧ w = 4)); rintro (rfl | rfl | ⟨q9, rfl⟩ | ⟨q9, rfl⟩ | ⟨q9, rfl⟩) <;> first | (exact absurd q9 (by decide)) | (exact absurd rfl (by assumption)) | (simp_all; done))) dX7_isUnder_29
    · refine g_iconst (pc := 24) (v := 1) C dX7_isUnder_24 (by decide) ?_
      refine g_goto (pc := 25) (tgt := 29) C dX7_isUnder_25 (by decide) ?_
      exact g_retIR (pc := 29) C (rfl) (by first | (refine (bI_t ?_).symm; subst_vars; decide) | (refine (bI_f ?_).symm; show ¬ (w = 0 ∨ w = 0 ∨ (0 = 3 ∧ w = 1) ∨ (0 = 5 ∧ w = 2) ∨ (0 = 6 ∧ w = 4)); rintro (rfl | rfl | ⟨q9, rfl⟩ | ⟨q9, rfl⟩ | ⟨q9, rfl⟩) <;> first | (exact absurd q9 (by decide)) | (exact absurd rfl (by assumption)) | (simp_all; done))) dX7_isUnder_29
set_option maxRecDepth 20000 in
set_option maxHeartbeats 4000000 in
theorem c_X7_isUnder_1 (l : Launch) (G : gT) (w : Int32) : RI l yX7_isUnder cX7_isUnder 3 (some .boolean) 1 G [.int 1, .int w] (([] : va_W)) (bI (undr 1 w)) := by
  refine start_R (by decide) (Nat.le_of_ble_eq_true rfl) (fun p9 e9 s9 m9 a9 b9 t9 c9 C => ?_)
  refine g_lv (lv' := [(0, .int 1), (1, .int w)]) rfl ?_
  refine g_iload_n (pc := 0) C dX7_isUnder_0 0 rfl ?_
  refine g_istore_n (pc := 1) (lv' := [(2, .int 1), (0, .int 1), (1, .int w)]) C dX7_isUnder_1 rfl (by decide) rfl ?_
  refine g_iload_n (pc := 2) C dX7_isUnder_2 0 rfl ?_
  refine g_iload_n (pc := 3) C dX7_isUnder_3 2 rfl ?_
  refine g_icmp_eq (pc := 4) (tgt := 19) C dX7_isUnder_4 (by decide) (fun h4 => ?_) (fun h4 => ?_)
  · refine g_iload_n (pc := 19) C dX7_isUnder_19 0 rfl ?_
    refine g_iload_n (pc := 20) C dX7_isUnder_20 2 rfl ?_
    refine g_icmp_ne (pc := 21) (tgt := 28) C dX7_isUnder_21 (by decide) (fun h21 => ?_) (fun h21 => ?_)
    · refine g_iconst (pc := 28) (v := 0) C dX7_isUnder_28 (by decide) ?_
      exact g_retIR (pc := 29) C (rfl) (by first | (refine (bI_t ?_).symm; subst_vars; decide) | (refine (bI_f ?_).symm; show ¬ (w = 1 ∨ w = 0 ∨ (1 = 3 ∧ w = 1) ∨ (1 = 5 ∧ w = 2) ∨ (1 = 6 ∧ w = 4)); rintro (rfl | rfl | ⟨q9, rfl⟩ | ⟨q9, rfl⟩ | ⟨q9, rfl⟩) <;> first | (exact absurd q9 (by decide)) | (exact absurd rfl (by assumption)) | (simp_all; done))) dX7_isUnder_29
    · refine g_iconst (pc := 24) (v := 1) C dX7_isUnder_24 (by decide) ?_
      refine g_goto (pc := 25) (tgt := 29) C dX7_isUnder_25 (by decide) ?_
      exact g_retIR (pc := 29) C (rfl) (by first | (refine (bI_t ?_).symm; subst_vars; decide) | (refine (bI_f ?_).symm; show ¬ (w = 1 ∨ w = 0 ∨ (1 = 3 ∧ w = 1) ∨ (1 = 5 ∧ w = 2) ∨ (1 = 6 ∧ w = 4)); rintro (rfl | rfl | ⟨q9, rfl⟩ | ⟨q9, rfl⟩ | ⟨q9, rfl⟩) <;> first | (exact absurd q9 (by decide)) | (exact absurd rfl (by assumption)) | (simp_all; done))) dX7_isUnder_29
  · refine g_iload_n (pc := 7) C dX7_isUnder_7 0 rfl ?_
    refine g_if_le (pc := 8) (tgt := 19) C dX7_isUnder_8 (by decide) (fun h8 => absurd h8 (by decide)) (fun h8 => ?_)
    refine g_iload_n (pc := 11) C dX7_isUnder_11 0 rfl ?_
    refine g_rdSI (pc := 12) (val := 0) (rest := []) C k_X7_above (c_X7_above_1 l G ) ml_X7_105 rfl ⟨Nat.le_of_ble_eq_true rfl, Nat.le_of_ble_eq_true rfl⟩ rfl [] rfl rfl (Nat.le_of_ble_eq_true rfl) ⟨by decide, by decide⟩ dX7_isUnder_12 ?_
    refine g_istore_n (pc := 15) (lv' := [(2, .int 0), (0, .int 1), (1, .int w)]) C dX7_isUnder_15 rfl (by decide) rfl ?_
    refine g_goto (pc := 16) (tgt := 2) C dX7_isUnder_16 (by decide) ?_
    refine g_iload_n (pc := 2) C dX7_isUnder_2 0 rfl ?_
    refine g_iload_n (pc := 3) C dX7_isUnder_3 2 rfl ?_
    refine g_icmp_eq (pc := 4) (tgt := 19) C dX7_isUnder_4 (by decide) (fun h4 => ?_) (fun h4 => ?_)
    · refine g_iload_n (pc := 19) C dX7_isUnder_19 0 rfl ?_
      refine g_iload_n (pc := 20) C dX7_isUnder_20 2 rfl ?_
      refine g_icmp_ne (pc := 21) (tgt := 28) C dX7_isUnder_21 (by decide) (fun h21 => ?_) (fun h21 => ?_)
      · refine g_iconst (pc := 28) (v := 0) C dX7_isUnder_28 (by decide) ?_
        exact g_retIR (pc := 29) C (rfl) (by first | (refine (bI_t ?_).symm; subst_vars; decide) | (refine (bI_f ?_).symm; show ¬ (w = 1 ∨ w = 0 ∨ (1 = 3 ∧ w = 1) ∨ (1 = 5 ∧ w = 2) ∨ (1 = 6 ∧ w = 4)); rintro (rfl | rfl | ⟨q9, rfl⟩ | ⟨q9, rfl⟩ | ⟨q9, rfl⟩) <;> first | (exact absurd q9 (by decide)) | (exact absurd rfl (by assumption)) | (simp_all; done))) dX7_isUnder_29
      · refine g_iconst (pc := 24) (v := 1) C dX7_isUnder_24 (by decide) ?_
        refine g_goto (pc := 25) (tgt := 29) C dX7_isUnder_25 (by decide) ?_
        exact g_retIR (pc := 29) C (rfl) (by first | (refine (bI_t ?_).symm; subst_vars; decide) | (refine (bI_f ?_).symm; show ¬ (w = 1 ∨ w = 0 ∨ (1 = 3 ∧ w = 1) ∨ (1 = 5 ∧ w = 2) ∨ (1 = 6 ∧ w = 4)); rintro (rfl | rfl | ⟨q9, rfl⟩ | ⟨q9, rfl⟩ | ⟨q9, rfl⟩) <;> first | (exact absurd q9 (by decide)) | (exact absurd rfl (by assumption)) | (simp_all; done))) dX7_isUnder_29
    · refine g_iload_n (pc := 7) C dX7_isUnder_7 0 rfl ?_
      refine g_if_le (pc := 8) (tgt := 19) C dX7_isUnder_8 (by decide) (fun h8 => ?_) (fun h8 => absurd h8 (by decide))
      refine g_iload_n (pc := 19) C dX7_isUnder_19 0 rfl ?_
      refine g_iload_n (pc := 20) C dX7_isUnder_20 2 rfl ?_
      refine g_icmp_ne (pc := 21) (tgt := 28) C dX7_isUnder_21 (by decide) (fun h21 => ?_) (fun h21 => ?_)
      · refine g_iconst (pc := 28) (v := 0) C dX7_isUnder_28 (by decide) ?_
        exact g_retIR (pc := 29) C (rfl) (by first | (refine (bI_t ?_).symm; subst_vars; decide) | (refine (bI_f ?_).symm; show ¬ (w = 1 ∨ w = 0 ∨ (1 = 3 ∧ w = 1) ∨ (1 = 5 ∧ w = 2) ∨ (1 = 6 ∧ w = 4)); rintro (rfl | rfl | ⟨q9, rfl⟩ | ⟨q9, rfl⟩ | ⟨q9, rfl⟩) <;> first | (exact absurd q9 (by decide)) | (exact absurd rfl (by assumption)) | (simp_all; done))) dX7_isUnder_29
      · refine g_iconst (pc := 24) (v := 1) C dX7_isUnder_24 (by decide) ?_
        refine g_goto (pc := 25) (tgt := 29) C dX7_isUnder_25 (by decide) ?_
        exact g_retIR (pc := 29) C (rfl) (by first | (refine (bI_t ?_).symm; subst_vars; decide) | (refine (bI_f ?_).symm; show ¬ (w = 1 ∨ w = 0 ∨ (1 = 3 ∧ w = 1) ∨ (1 = 5 ∧ w = 2) ∨ (1 = 6 ∧ w = 4)); rintro (rfl | rfl | ⟨q9, rfl⟩ | ⟨q9, rfl⟩ | ⟨q9, rfl⟩) <;> first | (exact absurd q9 (by decide)) | (exact absurd rfl (by assumption)) | (simp_all; done))) dX7_isUnder_29
set_option maxRecDepth 20000 in
set_option maxHeartbeats 4000000 in
theorem c_X7_isUnder_2 (l : Launch) (G : gT) (w : Int32) : RI l yX7_isUnder cX7_isUnder 3 (some .boolean) 1 G [.int 2, .int w] (([] : va_W)) (bI (undr 2 w)) := by
  refine start_R (by decide) (Nat.le_of_ble_eq_true rfl) (fun p9 e9 s9 m9 a9 b9 t9 c9 C => ?_)
  refine g_lv (lv' := [(0, .int 2), (1, .int w)]) rfl ?_
  refine g_iload_n (pc := 0) C dX7_isUnder_0 0 rfl ?_
  refine g_istore_n (pc := 1) (lv' := [(2, .int 2), (0, .int 2), (1, .int w)]) C dX7_isUnder_1 rfl (by decide) rfl ?_
  refine g_iload_n (pc := 2) C dX7_isUnder_2 0 rfl ?_
  refine g_iload_n (pc := 3) C dX7_isUnder_3 2 rfl ?_
  refine g_icmp_eq (pc := 4) (tgt := 19) C dX7_isUnder_4 (by decide) (fun h4 => ?_) (fun h4 => ?_)
  · refine g_iload_n (pc := 19) C dX7_isUnder_19 0 rfl ?_
    refine g_iload_n (pc := 20) C dX7_isUnder_20 2 rfl ?_
    refine g_icmp_ne (pc := 21) (tgt := 28) C dX7_isUnder_21 (by decide) (fun h21 => ?_) (fun h21 => ?_)
    · refine g_iconst (pc := 28) (v := 0) C dX7_isUnder_28 (by decide) ?_
      exact g_retIR (pc := 29) C (rfl) (by first | (refine (bI_t ?_).symm; subst_vars; decide) | (refine (bI_f ?_).symm; show ¬ (w = 2 ∨ w = 0 ∨ (2 = 3 ∧ w = 1) ∨ (2 = 5 ∧ w = 2) ∨ (2 = 6 ∧ w = 4)); rintro (rfl | rfl | ⟨q9, rfl⟩ | ⟨q9, rfl⟩ | ⟨q9, rfl⟩) <;> first | (exact absurd q9 (by decide)) | (exact absurd rfl (by assumption)) | (simp_all; done))) dX7_isUnder_29
    · refine g_iconst (pc := 24) (v := 1) C dX7_isUnder_24 (by decide) ?_
      refine g_goto (pc := 25) (tgt := 29) C dX7_isUnder_25 (by decide) ?_
      exact g_retIR (pc := 29) C (rfl) (by first | (refine (bI_t ?_).symm; subst_vars; decide) | (refine (bI_f ?_).symm; show ¬ (w = 2 ∨ w = 0 ∨ (2 = 3 ∧ w = 1) ∨ (2 = 5 ∧ w = 2) ∨ (2 = 6 ∧ w = 4)); rintro (rfl | rfl | ⟨q9, rfl⟩ | ⟨q9, rfl⟩ | ⟨q9, rfl⟩) <;> first | (exact absurd q9 (by decide)) | (exact absurd rfl (by assumption)) | (simp_all; done))) dX7_isUnder_29
  · refine g_iload_n (pc := 7) C dX7_isUnder_7 0 rfl ?_
    refine g_if_le (pc := 8) (tgt := 19) C dX7_isUnder_8 (by decide) (fun h8 => absurd h8 (by decide)) (fun h8 => ?_)
    refine g_iload_n (pc := 11) C dX7_isUnder_11 0 rfl ?_
    refine g_rdSI (pc := 12) (val := 0) (rest := []) C k_X7_above (c_X7_above_2 l G ) ml_X7_105 rfl ⟨Nat.le_of_ble_eq_true rfl, Nat.le_of_ble_eq_true rfl⟩ rfl [] rfl rfl (Nat.le_of_ble_eq_true rfl) ⟨by decide, by decide⟩ dX7_isUnder_12 ?_
    refine g_istore_n (pc := 15) (lv' := [(2, .int 0), (0, .int 2), (1, .int w)]) C dX7_isUnder_15 rfl (by decide) rfl ?_
    refine g_goto (pc := 16) (tgt := 2) C dX7_isUnder_16 (by decide) ?_
    refine g_iload_n (pc := 2) C dX7_isUnder_2 0 rfl ?_
    refine g_iload_n (pc := 3) C dX7_isUnder_3 2 rfl ?_
    refine g_icmp_eq (pc := 4) (tgt := 19) C dX7_isUnder_4 (by decide) (fun h4 => ?_) (fun h4 => ?_)
    · refine g_iload_n (pc := 19) C dX7_isUnder_19 0 rfl ?_
      refine g_iload_n (pc := 20) C dX7_isUnder_20 2 rfl ?_
      refine g_icmp_ne (pc := 21) (tgt := 28) C dX7_isUnder_21 (by decide) (fun h21 => ?_) (fun h21 => ?_)
      · refine g_iconst (pc := 28) (v := 0) C dX7_isUnder_28 (by decide) ?_
        exact g_retIR (pc := 29) C (rfl) (by first | (refine (bI_t ?_).symm; subst_vars; decide) | (refine (bI_f ?_).symm; show ¬ (w = 2 ∨ w = 0 ∨ (2 = 3 ∧ w = 1) ∨ (2 = 5 ∧ w = 2) ∨ (2 = 6 ∧ w = 4)); rintro (rfl | rfl | ⟨q9, rfl⟩ | ⟨q9, rfl⟩ | ⟨q9, rfl⟩) <;> first | (exact absurd q9 (by decide)) | (exact absurd rfl (by assumption)) | (simp_all; done))) dX7_isUnder_29
      · refine g_iconst (pc := 24) (v := 1) C dX7_isUnder_24 (by decide) ?_
        refine g_goto (pc := 25) (tgt := 29) C dX7_isUnder_25 (by decide) ?_
        exact g_retIR (pc := 29) C (rfl) (by first | (refine (bI_t ?_).symm; subst_vars; decide) | (refine (bI_f ?_).symm; show ¬ (w = 2 ∨ w = 0 ∨ (2 = 3 ∧ w = 1) ∨ (2 = 5 ∧ w = 2) ∨ (2 = 6 ∧ w = 4)); rintro (rfl | rfl | ⟨q9, rfl⟩ | ⟨q9, rfl⟩ | ⟨q9, rfl⟩) <;> first | (exact absurd q9 (by decide)) | (exact absurd rfl (by assumption)) | (simp_all; done))) dX7_isUnder_29
    · refine g_iload_n (pc := 7) C dX7_isUnder_7 0 rfl ?_
      refine g_if_le (pc := 8) (tgt := 19) C dX7_isUnder_8 (by decide) (fun h8 => ?_) (fun h8 => absurd h8 (by decide))
      refine g_iload_n (pc := 19) C dX7_isUnder_19 0 rfl ?_
      refine g_iload_n (pc := 20) C dX7_isUnder_20 2 rfl ?_
      refine g_icmp_ne (pc := 21) (tgt := 28) C dX7_isUnder_21 (by decide) (fun h21 => ?_) (fun h21 => ?_)
      · refine g_iconst (pc := 28) (v := 0) C dX7_isUnder_28 (by decide) ?_
        exact g_retIR (pc := 29) C (rfl) (by first | (refine (bI_t ?_).symm; subst_vars; decide) | (refine (bI_f ?_).symm; show ¬ (w = 2 ∨ w = 0 ∨ (2 = 3 ∧ w = 1) ∨ (2 = 5 ∧ w = 2) ∨ (2 = 6 ∧ w = 4)); rintro (rfl | rfl | ⟨q9, rfl⟩ | ⟨q9, rfl⟩ | ⟨q9, rfl⟩) <;> first | (exact absurd q9 (by decide)) | (exact absurd rfl (by assumption)) | (simp_all; done))) dX7_isUnder_29
      · refine g_iconst (pc := 24) (v := 1) C dX7_isUnder_24 (by decide) ?_
        refine g_goto (pc := 25) (tgt := 29) C dX7_isUnder_25 (by decide) ?_
        exact g_retIR (pc := 29) C (rfl) (by first | (refine (bI_t ?_).symm; subst_vars; decide) | (refine (bI_f ?_).symm; show ¬ (w = 2 ∨ w = 0 ∨ (2 = 3 ∧ w = 1) ∨ (2 = 5 ∧ w = 2) ∨ (2 = 6 ∧ w = 4)); rintro (rfl | rfl | ⟨q9, rfl⟩ | ⟨q9, rfl⟩ | ⟨q9, rfl⟩) <;> first | (exact absurd q9 (by decide)) | (exact absurd rfl (by assumption)) | (simp_all; done))) dX7_isUnder_29
set_option maxRecDepth 20000 in
set_option maxHeartbeats 4000000 in
theorem c_X7_isUnder_3 (l : Launch) (G : gT) (w : Int32) : RI l yX7_isUnder cX7_isUnder 3 (some .boolean) 1 G [.int 3, .int w] (([] : va_W)) (bI (undr 3 w)) := by
  refine start_R (by decide) (Nat.le_of_ble_eq_true rfl) (fun p9 e9 s9 m9 a9 b9 t9 c9 C => ?_)
  refine g_lv (lv' := [(0, .int 3), (1, .int w)]) rfl ?_
  refine g_iload_n (pc := 0) C dX7_isUnder_0 0 rfl ?_
  refine g_istore_n (pc := 1) (lv' := [(2, .int 3), (0, .int 3), (1, .int w)]) C dX7_isUnder_1 rfl (by decide) rfl ?_
  refine g_iload_n (pc := 2) C dX7_isUnder_2 0 rfl ?_
  refine g_iload_n (pc := 3) C dX7_isUnder_3 2 rfl ?_
  refine g_icmp_eq (pc := 4) (tgt := 19) C dX7_isUnder_4 (by decide) (fun h4 => ?_) (fun h4 => ?_)
  · refine g_iload_n (pc := 19) C dX7_isUnder_19 0 rfl ?_
    refine g_iload_n (pc := 20) C dX7_isUnder_20 2 rfl ?_
    refine g_icmp_ne (pc := 21) (tgt := 28) C dX7_isUnder_21 (by decide) (fun h21 => ?_) (fun h21 => ?_)
    · refine g_iconst (pc := 28) (v := 0) C dX7_isUnder_28 (by decide) ?_
      exact g_retIR (pc := 29) C (rfl) (by first | (refine (bI_t ?_).symm; subst_vars; decide) | (refine (bI_f ?_).symm; show ¬ (w = 3 ∨ w = 0 ∨ (3 = 3 ∧ w = 1) ∨ (3 = 5 ∧ w = 2) ∨ (3 = 6 ∧ w = 4)); rintro (rfl | rfl | ⟨q9, rfl⟩ | ⟨q9, rfl⟩ | ⟨q9, rfl⟩) <;> first | (exact absurd q9 (by decide)) | (exact absurd rfl (by assumption)) | (simp_all; done))) dX7_isUnder_29
    · refine g_iconst (pc := 24) (v := 1) C dX7_isUnder_24 (by decide) ?_
      refine g_goto (pc := 25) (tgt := 29) C dX7_isUnder_25 (by decide) ?_
      exact g_retIR (pc := 29) C (rfl) (by first | (refine (bI_t ?_).symm; subst_vars; decide) | (refine (bI_f ?_).symm; show ¬ (w = 3 ∨ w = 0 ∨ (3 = 3 ∧ w = 1) ∨ (3 = 5 ∧ w = 2) ∨ (3 = 6 ∧ w = 4)); rintro (rfl | rfl | ⟨q9, rfl⟩ | ⟨q9, rfl⟩ | ⟨q9, rfl⟩) <;> first | (exact absurd q9 (by decide)) | (exact absurd rfl (by assumption)) | (simp_all; done))) dX7_isUnder_29
  · refine g_iload_n (pc := 7) C dX7_isUnder_7 0 rfl ?_
    refine g_if_le (pc := 8) (tgt := 19) C dX7_isUnder_8 (by decide) (fun h8 => absurd h8 (by decide)) (fun h8 => ?_)
    refine g_iload_n (pc := 11) C dX7_isUnder_11 0 rfl ?_
    refine g_rdSI (pc := 12) (val := 1) (rest := []) C k_X7_above (c_X7_above_3 l G ) ml_X7_105 rfl ⟨Nat.le_of_ble_eq_true rfl, Nat.le_of_ble_eq_true rfl⟩ rfl [] rfl rfl (Nat.le_of_ble_eq_true rfl) ⟨by decide, by decide⟩ dX7_isUnder_12 ?_
    refine g_istore_n (pc := 15) (lv' := [(2, .int 1), (0, .int 3), (1, .int w)]) C dX7_isUnder_15 rfl (by decide) rfl ?_
    refine g_goto (pc := 16) (tgt := 2) C dX7_isUnder_16 (by decide) ?_
    refine g_iload_n (pc := 2) C dX7_isUnder_2 0 rfl ?_
    refine g_iload_n (pc := 3) C dX7_isUnder_3 2 rfl ?_
    refine g_icmp_eq (pc := 4) (tgt := 19) C dX7_isUnder_4 (by decide) (fun h4 => ?_) (fun h4 => ?_)
    · refine g_iload_n (pc := 19) C dX7_isUnder_19 0 rfl ?_
      refine g_iload_n (pc := 20) C dX7_isUnder_20 2 rfl ?_
      refine g_icmp_ne (pc := 21) (tgt := 28) C dX7_isUnder_21 (by decide) (fun h21 => ?_) (fun h21 => ?_)
      · refine g_iconst (pc := 28) (v := 0) C dX7_isUnder_28 (by decide) ?_
        exact g_retIR (pc := 29) C (rfl) (by first | (refine (bI_t ?_).symm; subst_vars; decide) | (refine (bI_f ?_).symm; show ¬ (w = 3 ∨ w = 0 ∨ (3 = 3 ∧ w = 1) ∨ (3 = 5 ∧ w = 2) ∨ (3 = 6 ∧ w = 4)); rintro (rfl | rfl | ⟨q9, rfl⟩ | ⟨q9, rfl⟩ | ⟨q9, rfl⟩) <;> first | (exact absurd q9 (by decide)) | (exact absurd rfl (by assumption)) | (simp_all; done))) dX7_isUnder_29
      · refine g_iconst (pc := 24) (v := 1) C dX7_isUnder_24 (by decide) ?_
        refine g_goto (pc := 25) (tgt := 29) C dX7_isUnder_25 (by decide) ?_
        exact g_retIR (pc := 29) C (rfl) (by first | (refine (bI_t ?_).symm; subst_vars; decide) | (refine (bI_f ?_).symm; show ¬ (w = 3 ∨ w = 0 ∨ (3 = 3 ∧ w = 1) ∨ (3 = 5 ∧ w = 2) ∨ (3 = 6 ∧ w = 4)); rintro (rfl | rfl | ⟨q9, rfl⟩ | ⟨q9, rfl⟩ | ⟨q9, rfl⟩) <;> first | (exact absurd q9 (by decide)) | (exact absurd rfl (by assumption)) | (simp_all; done))) dX7_isUnder_29
    · refine g_iload_n (pc := 7) C dX7_isUnder_7 0 rfl ?_
      refine g_if_le (pc := 8) (tgt := 19) C dX7_isUnder_8 (by decide) (fun h8 => absurd h8 (by decide)) (fun h8 => ?_)
      refine g_iload_n (pc := 11) C dX7_isUnder_11 0 rfl ?_
      refine g_rdSI (pc := 12) (val := 0) (rest := []) C k_X7_above (c_X7_above_1 l G ) ml_X7_105 rfl ⟨Nat.le_of_ble_eq_true rfl, Nat.le_of_ble_eq_true rfl⟩ rfl [] rfl rfl (Nat.le_of_ble_eq_true rfl) ⟨by decide, by decide⟩ dX7_isUnder_12 ?_
      refine g_istore_n (pc := 15) (lv' := [(2, .int 0), (0, .int 3), (1, .int w)]) C dX7_isUnder_15 rfl (by decide) rfl ?_
      refine g_goto (pc := 16) (tgt := 2) C dX7_isUnder_16 (by decide) ?_
      refine g_iload_n (pc := 2) C dX7_isUnder_2 0 rfl ?_
      refine g_iload_n (pc := 3) C dX7_isUnder_3 2 rfl ?_
      refine g_icmp_eq (pc := 4) (tgt := 19) C dX7_isUnder_4 (by decide) (fun h4 => ?_) (fun h4 => ?_)
      · refine g_iload_n (pc := 19) C dX7_isUnder_19 0 rfl ?_
        refine g_iload_n (pc := 20) C dX7_isUnder_20 2 rfl ?_
        refine g_icmp_ne (pc := 21) (tgt := 28) C dX7_isUnder_21 (by decide) (fun h21 => ?_) (fun h21 => ?_)
        · refine g_iconst (pc := 28) (v := 0) C dX7_isUnder_28 (by decide) ?_
          exact g_retIR (pc := 29) C (rfl) (by first | (refine (bI_t ?_).symm; subst_vars; decide) | (refine (bI_f ?_).symm; show ¬ (w = 3 ∨ w = 0 ∨ (3 = 3 ∧ w = 1) ∨ (3 = 5 ∧ w = 2) ∨ (3 = 6 ∧ w = 4)); rintro (rfl | rfl | ⟨q9, rfl⟩ | ⟨q9, rfl⟩ | ⟨q9, rfl⟩) <;> first | (exact absurd q9 (by decide)) | (exact absurd rfl (by assumption)) | (simp_all; done))) dX7_isUnder_29
        · refine g_iconst (pc := 24) (v := 1) C dX7_isUnder_24 (by decide) ?_
          refine g_goto (pc := 25) (tgt := 29) C dX7_isUnder_25 (by decide) ?_
          exact g_retIR (pc := 29) C (rfl) (by first | (refine (bI_t ?_).symm; subst_vars; decide) | (refine (bI_f ?_).symm; show ¬ (w = 3 ∨ w = 0 ∨ (3 = 3 ∧ w = 1) ∨ (3 = 5 ∧ w = 2) ∨ (3 = 6 ∧ w = 4)); rintro (rfl | rfl | ⟨q9, rfl⟩ | ⟨q9, rfl⟩ | ⟨q9, rfl⟩) <;> first | (exact absurd q9 (by decide)) | (exact absurd rfl (by assumption)) | (simp_all; done))) dX7_isUnder_29
      · refine g_iload_n (pc := 7) C dX7_isUnder_7 0 rfl ?_
        refine g_if_le (pc := 8) (tgt := 19) C dX7_isUnder_8 (by decide) (fun h8 => ?_) (fun h8 => absurd h8 (by decide))
        refine g_iload_n (pc := 19) C dX7_isUnder_19 0 rfl ?_
        refine g_iload_n (pc := 20) C dX7_isUnder_20 2 rfl ?_
        refine g_icmp_ne (pc := 21) (tgt := 28) C dX7_isUnder_21 (by decide) (fun h21 => ?_) (fun h21 => ?_)
        · refine g_iconst (pc := 28) (v := 0) C dX7_isUnder_28 (by decide) ?_
          exact g_retIR (pc := 29) C (rfl) (by first | (refine (bI_t ?_).symm; subst_vars; decide) | (refine (bI_f ?_).symm; show ¬ (w = 3 ∨ w = 0 ∨ (3 = 3 ∧ w = 1) ∨ (3 = 5 ∧ w = 2) ∨ (3 = 6 ∧ w = 4)); rintro (rfl | rfl | ⟨q9, rfl⟩ | ⟨q9, rfl⟩ | ⟨q9, rfl⟩) <;> first | (exact absurd q9 (by decide)) | (exact absurd rfl (by assumption)) | (simp_all; done))) dX7_isUnder_29
        · refine g_iconst (pc := 24) (v := 1) C dX7_isUnder_24 (by decide) ?_
          refine g_goto (pc := 25) (tgt := 29) C dX7_isUnder_25 (by decide) ?_
          exact g_retIR (pc := 29) C (rfl) (by first | (refine (bI_t ?_).symm; subst_vars; decide) | (refine (bI_f ?_).symm; show ¬ (w = 3 ∨ w = 0 ∨ (3 = 3 ∧ w = 1) ∨ (3 = 5 ∧ w = 2) ∨ (3 = 6 ∧ w = 4)); rintro (rfl | rfl | ⟨q9, rfl⟩ | ⟨q9, rfl⟩ | ⟨q9, rfl⟩) <;> first | (exact absurd q9 (by decide)) | (exact absurd rfl (by assumption)) | (simp_all; done))) dX7_isUnder_29
set_option maxRecDepth 20000 in
set_option maxHeartbeats 4000000 in
theorem c_X7_isUnder_4 (l : Launch) (G : gT) (w : Int32) : RI l yX7_isUnder cX7_isUnder 3 (some .boolean) 1 G [.int 4, .int w] (([] : va_W)) (bI (undr 4 w)) := by
  refine start_R (by decide) (Nat.le_of_ble_eq_true rfl) (fun p9 e9 s9 m9 a9 b9 t9 c9 C => ?_)
  refine g_lv (lv' := [(0, .int 4), (1, .int w)]) rfl ?_
  refine g_iload_n (pc := 0) C dX7_isUnder_0 0 rfl ?_
  refine g_istore_n (pc := 1) (lv' := [(2, .int 4), (0, .int 4), (1, .int w)]) C dX7_isUnder_1 rfl (by decide) rfl ?_
  refine g_iload_n (pc := 2) C dX7_isUnder_2 0 rfl ?_
  refine g_iload_n (pc := 3) C dX7_isUnder_3 2 rfl ?_
  refine g_icmp_eq (pc := 4) (tgt := 19) C dX7_isUnder_4 (by decide) (fun h4 => ?_) (fun h4 => ?_)
  · refine g_iload_n (pc := 19) C dX7_isUnder_19 0 rfl ?_
    refine g_iload_n (pc := 20) C dX7_isUnder_20 2 rfl ?_
    refine g_icmp_ne (pc := 21) (tgt := 28) C dX7_isUnder_21 (by decide) (fun h21 => ?_) (fun h21 => ?_)
    · refine g_iconst (pc := 28) (v := 0) C dX7_isUnder_28 (by decide) ?_
      exact g_retIR (pc := 29) C (rfl) (by first | (refine (bI_t ?_).symm; subst_vars; decide) | (refine (bI_f ?_).symm; show ¬ (w = 4 ∨ w = 0 ∨ (4 = 3 ∧ w = 1) ∨ (4 = 5 ∧ w = 2) ∨ (4 = 6 ∧ w = 4)); rintro (rfl | rfl | ⟨q9, rfl⟩ | ⟨q9, rfl⟩ | ⟨q9, rfl⟩) <;> first | (exact absurd q9 (by decide)) | (exact absurd rfl (by assumption)) | (simp_all; done))) dX7_isUnder_29
    · refine g_iconst (pc := 24) (v := 1) C dX7_isUnder_24 (by decide) ?_
      refine g_goto (pc := 25) (tgt := 29) C dX7_isUnder_25 (by decide) ?_
      exact g_retIR (pc := 29) C (rfl) (by first | (refine (bI_t ?_).symm; subst_vars; decide) | (refine (bI_f ?_).symm; show ¬ (w = 4 ∨ w = 0 ∨ (4 = 3 ∧ w = 1) ∨ (4 = 5 ∧ w = 2) ∨ (4 = 6 ∧ w = 4)); rintro (rfl | rfl | ⟨q9, rfl⟩ | ⟨q9, rfl⟩ | ⟨q9, rfl⟩) <;> first | (exact absurd q9 (by decide)) | (exact absurd rfl (by assumption)) | (simp_all; done))) dX7_isUnder_29
  · refine g_iload_n (pc := 7) C dX7_isUnder_7 0 rfl ?_
    refine g_if_le (pc := 8) (tgt := 19) C dX7_isUnder_8 (by decide) (fun h8 => absurd h8 (by decide)) (fun h8 => ?_)
    refine g_iload_n (pc := 11) C dX7_isUnder_11 0 rfl ?_
    refine g_rdSI (pc := 12) (val := 0) (rest := []) C k_X7_above (c_X7_above_4 l G ) ml_X7_105 rfl ⟨Nat.le_of_ble_eq_true rfl, Nat.le_of_ble_eq_true rfl⟩ rfl [] rfl rfl (Nat.le_of_ble_eq_true rfl) ⟨by decide, by decide⟩ dX7_isUnder_12 ?_
    refine g_istore_n (pc := 15) (lv' := [(2, .int 0), (0, .int 4), (1, .int w)]) C dX7_isUnder_15 rfl (by decide) rfl ?_
    refine g_goto (pc := 16) (tgt := 2) C dX7_isUnder_16 (by decide) ?_
    refine g_iload_n (pc := 2) C dX7_isUnder_2 0 rfl ?_
    refine g_iload_n (pc := 3) C dX7_isUnder_3 2 rfl ?_
    refine g_icmp_eq (pc := 4) (tgt := 19) C dX7_isUnder_4 (by decide) (fun h4 => ?_) (fun h4 => ?_)
    · refine g_iload_n (pc := 19) C dX7_isUnder_19 0 rfl ?_
      refine g_iload_n (pc := 20) C dX7_isUnder_20 2 rfl ?_
      refine g_icmp_ne (pc := 21) (tgt := 28) C dX7_isUnder_21 (by decide) (fun h21 => ?_) (fun h21 => ?_)
      · refine g_iconst (pc := 28) (v := 0) C dX7_isUnder_28 (by decide) ?_
        exact g_retIR (pc := 29) C (rfl) (by first | (refine (bI_t ?_).symm; subst_vars; decide) | (refine (bI_f ?_).symm; show ¬ (w = 4 ∨ w = 0 ∨ (4 = 3 ∧ w = 1) ∨ (4 = 5 ∧ w = 2) ∨ (4 = 6 ∧ w = 4)); rintro (rfl | rfl | ⟨q9, rfl⟩ | ⟨q9, rfl⟩ | ⟨q9, rfl⟩) <;> first | (exact absurd q9 (by decide)) | (exact absurd rfl (by assumption)) | (simp_all; done))) dX7_isUnder_29
      · refine g_iconst (pc := 24) (v := 1) C dX7_isUnder_24 (by decide) ?_
        refine g_goto (pc := 25) (tgt := 29) C dX7_isUnder_25 (by decide) ?_
        exact g_retIR (pc := 29) C (rfl) (by first | (refine (bI_t ?_).symm; subst_vars; decide) | (refine (bI_f ?_).symm; show ¬ (w = 4 ∨ w = 0 ∨ (4 = 3 ∧ w = 1) ∨ (4 = 5 ∧ w = 2) ∨ (4 = 6 ∧ w = 4)); rintro (rfl | rfl | ⟨q9, rfl⟩ | ⟨q9, rfl⟩ | ⟨q9, rfl⟩) <;> first | (exact absurd q9 (by decide)) | (exact absurd rfl (by assumption)) | (simp_all; done))) dX7_isUnder_29
    · refine g_iload_n (pc := 7) C dX7_isUnder_7 0 rfl ?_
      refine g_if_le (pc := 8) (tgt := 19) C dX7_isUnder_8 (by decide) (fun h8 => ?_) (fun h8 => absurd h8 (by decide))
      refine g_iload_n (pc := 19) C dX7_isUnder_19 0 rfl ?_
      refine g_iload_n (pc := 20) C dX7_isUnder_20 2 rfl ?_
      refine g_icmp_ne (pc := 21) (tgt := 28) C dX7_isUnder_21 (by decide) (fun h21 => ?_) (fun h21 => ?_)
      · refine g_iconst (pc := 28) (v := 0) C dX7_isUnder_28 (by decide) ?_
        exact g_retIR (pc := 29) C (rfl) (by first | (refine (bI_t ?_).symm; subst_vars; decide) | (refine (bI_f ?_).symm; show ¬ (w = 4 ∨ w = 0 ∨ (4 = 3 ∧ w = 1) ∨ (4 = 5 ∧ w = 2) ∨ (4 = 6 ∧ w = 4)); rintro (rfl | rfl | ⟨q9, rfl⟩ | ⟨q9, rfl⟩ | ⟨q9, rfl⟩) <;> first | (exact absurd q9 (by decide)) | (exact absurd rfl (by assumption)) | (simp_all; done))) dX7_isUnder_29
      · refine g_iconst (pc := 24) (v := 1) C dX7_isUnder_24 (by decide) ?_
        refine g_goto (pc := 25) (tgt := 29) C dX7_isUnder_25 (by decide) ?_
        exact g_retIR (pc := 29) C (rfl) (by first | (refine (bI_t ?_).symm; subst_vars; decide) | (refine (bI_f ?_).symm; show ¬ (w = 4 ∨ w = 0 ∨ (4 = 3 ∧ w = 1) ∨ (4 = 5 ∧ w = 2) ∨ (4 = 6 ∧ w = 4)); rintro (rfl | rfl | ⟨q9, rfl⟩ | ⟨q9, rfl⟩ | ⟨q9, rfl⟩) <;> first | (exact absurd q9 (by decide)) | (exact absurd rfl (by assumption)) | (simp_all; done))) dX7_isUnder_29
set_option maxRecDepth 20000 in
set_option maxHeartbeats 4000000 in
theorem c_X7_isUnder_5 (l : Launch) (G : gT) (w : Int32) : RI l yX7_isUnder cX7_isUnder 3 (some .boolean) 1 G [.int 5, .int w] (([] : va_W)) (bI (undr 5 w)) := by
  refine start_R (by decide) (Nat.le_of_ble_eq_true rfl) (fun p9 e9 s9 m9 a9 b9 t9 c9 C => ?_)
  refine g_lv (lv' := [(0, .int 5), (1, .int w)]) rfl ?_
  refine g_iload_n (pc := 0) C dX7_isUnder_0 0 rfl ?_
  refine g_istore_n (pc := 1) (lv' := [(2, .int 5), (0, .int 5), (1, .int w)]) C dX7_isUnder_1 rfl (by decide) rfl ?_
  refine g_iload_n (pc := 2) C dX7_isUnder_2 0 rfl ?_
  refine g_iload_n (pc := 3) C dX7_isUnder_3 2 rfl ?_
  refine g_icmp_eq (pc := 4) (tgt := 19) C dX7_isUnder_4 (by decide) (fun h4 => ?_) (fun h4 => ?_)
  · refine g_iload_n (pc := 19) C dX7_isUnder_19 0 rfl ?_
    refine g_iload_n (pc := 20) C dX7_isUnder_20 2 rfl ?_
    refine g_icmp_ne (pc := 21) (tgt := 28) C dX7_isUnder_21 (by decide) (fun h21 => ?_) (fun h21 => ?_)
    · refine g_iconst (pc := 28) (v := 0) C dX7_isUnder_28 (by decide) ?_
      exact g_retIR (pc := 29) C (rfl) (by first | (refine (bI_t ?_).symm; subst_vars; decide) | (refine (bI_f ?_).symm; show ¬ (w = 5 ∨ w = 0 ∨ (5 = 3 ∧ w = 1) ∨ (5 = 5 ∧ w = 2) ∨ (5 = 6 ∧ w = 4)); rintro (rfl | rfl | ⟨q9, rfl⟩ | ⟨q9, rfl⟩ | ⟨q9, rfl⟩) <;> first | (exact absurd q9 (by decide)) | (exact absurd rfl (by assumption)) | (simp_all; done))) dX7_isUnder_29
    · refine g_iconst (pc := 24) (v := 1) C dX7_isUnder_24 (by decide) ?_
      refine g_goto (pc := 25) (tgt := 29) C dX7_isUnder_25 (by decide) ?_
      exact g_retIR (pc := 29) C (rfl) (by first | (refine (bI_t ?_).symm; subst_vars; decide) | (refine (bI_f ?_).symm; show ¬ (w = 5 ∨ w = 0 ∨ (5 = 3 ∧ w = 1) ∨ (5 = 5 ∧ w = 2) ∨ (5 = 6 ∧ w = 4)); rintro (rfl | rfl | ⟨q9, rfl⟩ | ⟨q9, rfl⟩ | ⟨q9, rfl⟩) <;> first | (exact absurd q9 (by decide)) | (exact absurd rfl (by assumption)) | (simp_all; done))) dX7_isUnder_29
  · refine g_iload_n (pc := 7) C dX7_isUnder_7 0 rfl ?_
    refine g_if_le (pc := 8) (tgt := 19) C dX7_isUnder_8 (by decide) (fun h8 => absurd h8 (by decide)) (fun h8 => ?_)
    refine g_iload_n (pc := 11) C dX7_isUnder_11 0 rfl ?_
    refine g_rdSI (pc := 12) (val := 2) (rest := []) C k_X7_above (c_X7_above_5 l G ) ml_X7_105 rfl ⟨Nat.le_of_ble_eq_true rfl, Nat.le_of_ble_eq_true rfl⟩ rfl [] rfl rfl (Nat.le_of_ble_eq_true rfl) ⟨by decide, by decide⟩ dX7_isUnder_12 ?_
    refine g_istore_n (pc := 15) (lv' := [(2, .int 2), (0, .int 5), (1, .int w)]) C dX7_isUnder_15 rfl (by decide) rfl ?_
    refine g_goto (pc := 16) (tgt := 2) C dX7_isUnder_16 (by decide) ?_
    refine g_iload_n (pc := 2) C dX7_isUnder_2 0 rfl ?_
    refine g_iload_n (pc := 3) C dX7_isUnder_3 2 rfl ?_
    refine g_icmp_eq (pc := 4) (tgt := 19) C dX7_isUnder_4 (by decide) (fun h4 => ?_) (fun h4 => ?_)
    · refine g_iload_n (pc := 19) C dX7_isUnder_19 0 rfl ?_
      refine g_iload_n (pc := 20) C dX7_isUnder_20 2 rfl ?_
      refine g_icmp_ne (pc := 21) (tgt := 28) C dX7_isUnder_21 (by decide) (fun h21 => ?_) (fun h21 => ?_)
      · refine g_iconst (pc := 28) (v := 0) C dX7_isUnder_28 (by decide) ?_
        exact g_retIR (pc := 29) C (rfl) (by first | (refine (bI_t ?_).symm; subst_vars; decide) | (refine (bI_f ?_).symm; show ¬ (w = 5 ∨ w = 0 ∨ (5 = 3 ∧ w = 1) ∨ (5 = 5 ∧ w = 2) ∨ (5 = 6 ∧ w = 4)); rintro (rfl | rfl | ⟨q9, rfl⟩ | ⟨q9, rfl⟩ | ⟨q9, rfl⟩) <;> first | (exact absurd q9 (by decide)) | (exact absurd rfl (by assumption)) | (simp_all; done))) dX7_isUnder_29
      · refine g_iconst (pc := 24) (v := 1) C dX7_isUnder_24 (by decide) ?_
        refine g_goto (pc := 25) (tgt := 29) C dX7_isUnder_25 (by decide) ?_
        exact g_retIR (pc := 29) C (rfl) (by first | (refine (bI_t ?_).symm; subst_vars; decide) | (refine (bI_f ?_).symm; show ¬ (w = 5 ∨ w = 0 ∨ (5 = 3 ∧ w = 1) ∨ (5 = 5 ∧ w = 2) ∨ (5 = 6 ∧ w = 4)); rintro (rfl | rfl | ⟨q9, rfl⟩ | ⟨q9, rfl⟩ | ⟨q9, rfl⟩) <;> first | (exact absurd q9 (by decide)) | (exact absurd rfl (by assumption)) | (simp_all; done))) dX7_isUnder_29
    · refine g_iload_n (pc := 7) C dX7_isUnder_7 0 rfl ?_
      refine g_if_le (pc := 8) (tgt := 19) C dX7_isUnder_8 (by decide) (fun h8 => absurd h8 (by decide)) (fun h8 => ?_)
      refine g_iload_n (pc := 11) C dX7_isUnder_11 0 rfl ?_
      refine g_rdSI (pc := 12) (val := 0) (rest := []) C k_X7_above (c_X7_above_2 l G ) ml_X7_105 rfl ⟨Nat.le_of_ble_eq_true rfl, Nat.le_of_ble_eq_true rfl⟩ rfl [] rfl rfl (Nat.le_of_ble_eq_true rfl) ⟨by decide, by decide⟩ dX7_isUnder_12 ?_
      refine g_istore_n (pc := 15) (lv' := [(2, .int 0), (0, .int 5), (1, .int w)]) C dX7_isUnder_15 rfl (by decide) rfl ?_
      refine g_goto (pc := 16) (tgt := 2) C dX7_isUnder_16 (by decide) ?_
      refine g_iload_n (pc := 2) C dX7_isUnder_2 0 rfl ?_
      refine g_iload_n (pc := 3) C dX7_isUnder_3 2 rfl ?_
      refine g_icmp_eq (pc := 4) (tgt := 19) C dX7_isUnder_4 (by decide) (fun h4 => ?_) (fun h4 => ?_)
      · refine g_iload_n (pc := 19) C dX7_isUnder_19 0 rfl ?_
        refine g_iload_n (pc := 20) C dX7_isUnder_20 2 rfl ?_
        refine g_icmp_ne (pc := 21) (tgt := 28) C dX7_isUnder_21 (by decide) (fun h21 => ?_) (fun h21 => ?_)
        · refine g_iconst (pc := 28) (v := 0) C dX7_isUnder_28 (by decide) ?_
          exact g_retIR (pc := 29) C (rfl) (by first | (refine (bI_t ?_).symm; subst_vars; decide) | (refine (bI_f ?_).symm; show ¬ (w = 5 ∨ w = 0 ∨ (5 = 3 ∧ w = 1) ∨ (5 = 5 ∧ w = 2) ∨ (5 = 6 ∧ w = 4)); rintro (rfl | rfl | ⟨q9, rfl⟩ | ⟨q9, rfl⟩ | ⟨q9, rfl⟩) <;> first | (exact absurd q9 (by decide)) | (exact absurd rfl (by assumption)) | (simp_all; done))) dX7_isUnder_29
        · refine g_iconst (pc := 24) (v := 1) C dX7_isUnder_24 (by decide) ?_
          refine g_goto (pc := 25) (tgt := 29) C dX7_isUnder_25 (by decide) ?_
          exact g_retIR (pc := 29) C (rfl) (by first | (refine (bI_t ?_).symm; subst_vars; decide) | (refine (bI_f ?_).symm; show ¬ (w = 5 ∨ w = 0 ∨ (5 = 3 ∧ w = 1) ∨ (5 = 5 ∧ w = 2) ∨ (5 = 6 ∧ w = 4)); rintro (rfl | rfl | ⟨q9, rfl⟩ | ⟨q9, rfl⟩ | ⟨q9, rfl⟩) <;> first | (exact absurd q9 (by decide)) | (exact absurd rfl (by assumption)) | (simp_all; done))) dX7_isUnder_29
      · refine g_iload_n (pc := 7) C dX7_isUnder_7 0 rfl ?_
        refine g_if_le (pc := 8) (tgt := 19) C dX7_isUnder_8 (by decide) (fun h8 => ?_) (fun h8 => absurd h8 (by decide))
        refine g_iload_n (pc := 19) C dX7_isUnder_19 0 rfl ?_
        refine g_iload_n (pc := 20) C dX7_isUnder_20 2 rfl ?_
        refine g_icmp_ne (pc := 21) (tgt := 28) C dX7_isUnder_21 (by decide) (fun h21 => ?_) (fun h21 => ?_)
        · refine g_iconst (pc := 28) (v := 0) C dX7_isUnder_28 (by decide) ?_
          exact g_retIR (pc := 29) C (rfl) (by first | (refine (bI_t ?_).symm; subst_vars; decide) | (refine (bI_f ?_).symm; show ¬ (w = 5 ∨ w = 0 ∨ (5 = 3 ∧ w = 1) ∨ (5 = 5 ∧ w = 2) ∨ (5 = 6 ∧ w = 4)); rintro (rfl | rfl | ⟨q9, rfl⟩ | ⟨q9, rfl⟩ | ⟨q9, rfl⟩) <;> first | (exact absurd q9 (by decide)) | (exact absurd rfl (by assumption)) | (simp_all; done))) dX7_isUnder_29
        · refine g_iconst (pc := 24) (v := 1) C dX7_isUnder_24 (by decide) ?_
          refine g_goto (pc := 25) (tgt := 29) C dX7_isUnder_25 (by decide) ?_
          exact g_retIR (pc := 29) C (rfl) (by first | (refine (bI_t ?_).symm; subst_vars; decide) | (refine (bI_f ?_).symm; show ¬ (w = 5 ∨ w = 0 ∨ (5 = 3 ∧ w = 1) ∨ (5 = 5 ∧ w = 2) ∨ (5 = 6 ∧ w = 4)); rintro (rfl | rfl | ⟨q9, rfl⟩ | ⟨q9, rfl⟩ | ⟨q9, rfl⟩) <;> first | (exact absurd q9 (by decide)) | (exact absurd rfl (by assumption)) | (simp_all; done))) dX7_isUnder_29
set_option maxRecDepth 20000 in
set_option maxHeartbeats 4000000 in
theorem c_X7_isUnder_6 (l : Launch) (G : gT) (w : Int32) : RI l yX7_isUnder cX7_isUnder 3 (some .boolean) 1 G [.int 6, .int w] (([] : va_W)) (bI (undr 6 w)) := by
  refine start_R (by decide) (Nat.le_of_ble_eq_true rfl) (fun p9 e9 s9 m9 a9 b9 t9 c9 C => ?_)
  refine g_lv (lv' := [(0, .int 6), (1, .int w)]) rfl ?_
  refine g_iload_n (pc := 0) C dX7_isUnder_0 0 rfl ?_
  refine g_istore_n (pc := 1) (lv' := [(2, .int 6), (0, .int 6), (1, .int w)]) C dX7_isUnder_1 rfl (by decide) rfl ?_
  refine g_iload_n (pc := 2) C dX7_isUnder_2 0 rfl ?_
  refine g_iload_n (pc := 3) C dX7_isUnder_3 2 rfl ?_
  refine g_icmp_eq (pc := 4) (tgt := 19) C dX7_isUnder_4 (by decide) (fun h4 => ?_) (fun h4 => ?_)
  · refine g_iload_n (pc := 19) C dX7_isUnder_19 0 rfl ?_
    refine g_iload_n (pc := 20) C dX7_isUnder_20 2 rfl ?_
    refine g_icmp_ne (pc := 21) (tgt := 28) C dX7_isUnder_21 (by decide) (fun h21 => ?_) (fun h21 => ?_)
    · refine g_iconst (pc := 28) (v := 0) C dX7_isUnder_28 (by decide) ?_
      exact g_retIR (pc := 29) C (rfl) (by first | (refine (bI_t ?_).symm; subst_vars; decide) | (refine (bI_f ?_).symm; show ¬ (w = 6 ∨ w = 0 ∨ (6 = 3 ∧ w = 1) ∨ (6 = 5 ∧ w = 2) ∨ (6 = 6 ∧ w = 4)); rintro (rfl | rfl | ⟨q9, rfl⟩ | ⟨q9, rfl⟩ | ⟨q9, rfl⟩) <;> first | (exact absurd q9 (by decide)) | (exact absurd rfl (by assumption)) | (simp_all; done))) dX7_isUnder_29
    · refine g_iconst (pc := 24) (v := 1) C dX7_isUnder_24 (by decide) ?_
      refine g_goto (pc := 25) (tgt := 29) C dX7_isUnder_25 (by decide) ?_
      exact g_retIR (pc := 29) C (rfl) (by first | (refine (bI_t ?_).symm; subst_vars; decide) | (refine (bI_f ?_).symm; show ¬ (w = 6 ∨ w = 0 ∨ (6 = 3 ∧ w = 1) ∨ (6 = 5 ∧ w = 2) ∨ (6 = 6 ∧ w = 4)); rintro (rfl | rfl | ⟨q9, rfl⟩ | ⟨q9, rfl⟩ | ⟨q9, rfl⟩) <;> first | (exact absurd q9 (by decide)) | (exact absurd rfl (by assumption)) | (simp_all; done))) dX7_isUnder_29
  · refine g_iload_n (pc := 7) C dX7_isUnder_7 0 rfl ?_
    refine g_if_le (pc := 8) (tgt := 19) C dX7_isUnder_8 (by decide) (fun h8 => absurd h8 (by decide)) (fun h8 => ?_)
    refine g_iload_n (pc := 11) C dX7_isUnder_11 0 rfl ?_
    refine g_rdSI (pc := 12) (val := 4) (rest := []) C k_X7_above (c_X7_above_6 l G ) ml_X7_105 rfl ⟨Nat.le_of_ble_eq_true rfl, Nat.le_of_ble_eq_true rfl⟩ rfl [] rfl rfl (Nat.le_of_ble_eq_true rfl) ⟨by decide, by decide⟩ dX7_isUnder_12 ?_
    refine g_istore_n (pc := 15) (lv' := [(2, .int 4), (0, .int 6), (1, .int w)]) C dX7_isUnder_15 rfl (by decide) rfl ?_
    refine g_goto (pc := 16) (tgt := 2) C dX7_isUnder_16 (by decide) ?_
    refine g_iload_n (pc := 2) C dX7_isUnder_2 0 rfl ?_
    refine g_iload_n (pc := 3) C dX7_isUnder_3 2 rfl ?_
    refine g_icmp_eq (pc := 4) (tgt := 19) C dX7_isUnder_4 (by decide) (fun h4 => ?_) (fun h4 => ?_)
    · refine g_iload_n (pc := 19) C dX7_isUnder_19 0 rfl ?_
      refine g_iload_n (pc := 20) C dX7_isUnder_20 2 rfl ?_
      refine g_icmp_ne (pc := 21) (tgt := 28) C dX7_isUnder_21 (by decide) (fun h21 => ?_) (fun h21 => ?_)
      · refine g_iconst (pc := 28) (v := 0) C dX7_isUnder_28 (by decide) ?_
        exact g_retIR (pc := 29) C (rfl) (by first | (refine (bI_t ?_).symm; subst_vars; decide) | (refine (bI_f ?_).symm; show ¬ (w = 6 ∨ w = 0 ∨ (6 = 3 ∧ w = 1) ∨ (6 = 5 ∧ w = 2) ∨ (6 = 6 ∧ w = 4)); rintro (rfl | rfl | ⟨q9, rfl⟩ | ⟨q9, rfl⟩ | ⟨q9, rfl⟩) <;> first | (exact absurd q9 (by decide)) | (exact absurd rfl (by assumption)) | (simp_all; done))) dX7_isUnder_29
      · refine g_iconst (pc := 24) (v := 1) C dX7_isUnder_24 (by decide) ?_
        refine g_goto (pc := 25) (tgt := 29) C dX7_isUnder_25 (by decide) ?_
        exact g_retIR (pc := 29) C (rfl) (by first | (refine (bI_t ?_).symm; subst_vars; decide) | (refine (bI_f ?_).symm; show ¬ (w = 6 ∨ w = 0 ∨ (6 = 3 ∧ w = 1) ∨ (6 = 5 ∧ w = 2) ∨ (6 = 6 ∧ w = 4)); rintro (rfl | rfl | ⟨q9, rfl⟩ | ⟨q9, rfl⟩ | ⟨q9, rfl⟩) <;> first | (exact absurd q9 (by decide)) | (exact absurd rfl (by assumption)) | (simp_all; done))) dX7_isUnder_29
    · refine g_iload_n (pc := 7) C dX7_isUnder_7 0 rfl ?_
      refine g_if_le (pc := 8) (tgt := 19) C dX7_isUnder_8 (by decide) (fun h8 => absurd h8 (by decide)) (fun h8 => ?_)
      refine g_iload_n (pc := 11) C dX7_isUnder_11 0 rfl ?_
      refine g_rdSI (pc := 12) (val := 0) (rest := []) C k_X7_above (c_X7_above_4 l G ) ml_X7_105 rfl ⟨Nat.le_of_ble_eq_true rfl, Nat.le_of_ble_eq_true rfl⟩ rfl [] rfl rfl (Nat.le_of_ble_eq_true rfl) ⟨by decide, by decide⟩ dX7_isUnder_12 ?_
      refine g_istore_n (pc := 15) (lv' := [(2, .int 0), (0, .int 6), (1, .int w)]) C dX7_isUnder_15 rfl (by decide) rfl ?_
      refine g_goto (pc := 16) (tgt := 2) C dX7_isUnder_16 (by decide) ?_
      refine g_iload_n (pc := 2) C dX7_isUnder_2 0 rfl ?_
      refine g_iload_n (pc := 3) C dX7_isUnder_3 2 rfl ?_
      refine g_icmp_eq (pc := 4) (tgt := 19) C dX7_isUnder_4 (by decide) (fun h4 => ?_) (fun h4 => ?_)
      · refine g_iload_n (pc := 19) C dX7_isUnder_19 0 rfl ?_
        refine g_iload_n (pc := 20) C dX7_isUnder_20 2 rfl ?_
        refine g_icmp_ne (pc := 21) (tgt := 28) C dX7_isUnder_21 (by decide) (fun h21 => ?_) (fun h21 => ?_)
        · refine g_iconst (pc := 28) (v := 0) C dX7_isUnder_28 (by decide) ?_
          exact g_retIR (pc := 29) C (rfl) (by first | (refine (bI_t ?_).symm; subst_vars; decide) | (refine (bI_f ?_).symm; show ¬ (w = 6 ∨ w = 0 ∨ (6 = 3 ∧ w = 1) ∨ (6 = 5 ∧ w = 2) ∨ (6 = 6 ∧ w = 4)); rintro (rfl | rfl | ⟨q9, rfl⟩ | ⟨q9, rfl⟩ | ⟨q9, rfl⟩) <;> first | (exact absurd q9 (by decide)) | (exact absurd rfl (by assumption)) | (simp_all; done))) dX7_isUnder_29
        · refine g_iconst (pc := 24) (v := 1) C dX7_isUnder_24 (by decide) ?_
          refine g_goto (pc := 25) (tgt := 29) C dX7_isUnder_25 (by decide) ?_
          exact g_retIR (pc := 29) C (rfl) (by first | (refine (bI_t ?_).symm; subst_vars; decide) | (refine (bI_f ?_).symm; show ¬ (w = 6 ∨ w = 0 ∨ (6 = 3 ∧ w = 1) ∨ (6 = 5 ∧ w = 2) ∨ (6 = 6 ∧ w = 4)); rintro (rfl | rfl | ⟨q9, rfl⟩ | ⟨q9, rfl⟩ | ⟨q9, rfl⟩) <;> first | (exact absurd q9 (by decide)) | (exact absurd rfl (by assumption)) | (simp_all; done))) dX7_isUnder_29
      · refine g_iload_n (pc := 7) C dX7_isUnder_7 0 rfl ?_
        refine g_if_le (pc := 8) (tgt := 19) C dX7_isUnder_8 (by decide) (fun h8 => ?_) (fun h8 => absurd h8 (by decide))
        refine g_iload_n (pc := 19) C dX7_isUnder_19 0 rfl ?_
        refine g_iload_n (pc := 20) C dX7_isUnder_20 2 rfl ?_
        refine g_icmp_ne (pc := 21) (tgt := 28) C dX7_isUnder_21 (by decide) (fun h21 => ?_) (fun h21 => ?_)
        · refine g_iconst (pc := 28) (v := 0) C dX7_isUnder_28 (by decide) ?_
          exact g_retIR (pc := 29) C (rfl) (by first | (refine (bI_t ?_).symm; subst_vars; decide) | (refine (bI_f ?_).symm; show ¬ (w = 6 ∨ w = 0 ∨ (6 = 3 ∧ w = 1) ∨ (6 = 5 ∧ w = 2) ∨ (6 = 6 ∧ w = 4)); rintro (rfl | rfl | ⟨q9, rfl⟩ | ⟨q9, rfl⟩ | ⟨q9, rfl⟩) <;> first | (exact absurd q9 (by decide)) | (exact absurd rfl (by assumption)) | (simp_all; done))) dX7_isUnder_29
        · refine g_iconst (pc := 24) (v := 1) C dX7_isUnder_24 (by decide) ?_
          refine g_goto (pc := 25) (tgt := 29) C dX7_isUnder_25 (by decide) ?_
          exact g_retIR (pc := 29) C (rfl) (by first | (refine (bI_t ?_).symm; subst_vars; decide) | (refine (bI_f ?_).symm; show ¬ (w = 6 ∨ w = 0 ∨ (6 = 3 ∧ w = 1) ∨ (6 = 5 ∧ w = 2) ∨ (6 = 6 ∧ w = 4)); rintro (rfl | rfl | ⟨q9, rfl⟩ | ⟨q9, rfl⟩ | ⟨q9, rfl⟩) <;> first | (exact absurd q9 (by decide)) | (exact absurd rfl (by assumption)) | (simp_all; done))) dX7_isUnder_29
theorem c_X7_isUnder (l : Launch) (G : gT) (k : Nat) (w : Int32) (hk : k ≤ 6) : RI l yX7_isUnder cX7_isUnder 3 (some .boolean) 1 G [.int (nI k), .int w] (([] : va_W)) (bI (undr k w)) := by
  rcases (show k = 0 ∨ k = 1 ∨ k = 2 ∨ k = 3 ∨ k = 4 ∨ k = 5 ∨ k = 6 from by omega) with rfl | rfl | rfl | rfl | rfl | rfl | rfl
  · exact c_X7_isUnder_0 l G w
  · exact c_X7_isUnder_1 l G w
  · exact c_X7_isUnder_2 l G w
  · exact c_X7_isUnder_3 l G w
  · exact c_X7_isUnder_4 l G w
  · exact c_X7_isUnder_5 l G w
  · exact c_X7_isUnder_6 l G w
set_option maxRecDepth 20000 in
set_option maxHeartbeats 4000000 in
theorem c_X7_tries (l : Launch) (G : gT) (m : Nat) (A : Nat → Nat) (τ : tT) (y : Nat → Int32) (le : Nat → Int32) (g : Nat) (hg : g < 10) : WI l yX7_tries cX7_tries 3 (some .int) 0 0 0 G [.ref m, .int (nI g)] (wN G m A τ y ++ ([iC G (A 17) 10 le])) (S := Unit) (fun r _ => r = le g * τ 6 g / 10 * τ 7 g / 10) (fun _ => wN G m A τ y ++ ([iC G (A 17) 10 (upd le g (le g - le g * τ 6 g / 10))])) := by
  intro sz9
  refine start_W (by decide) (Nat.le_of_ble_eq_true rfl) (fun p9 e9 s9 m9 a9 b9 t9 c9 C => ?_)
  refine g_lv (lv' := [(0, .ref m), (1, .int (nI g))]) rfl ?_
  refine g_aload_n (pc := 0) C dX7_tries_0 0 rfl ?_
  refine g_get (pc := 1) (T := TX7) (N := 33) (v := .ref (A 17)) C ib_X7 0 rfl rfl 29 (by decide) mf_X7_62 rfl rfl rfl dX7_tries_1 ?_
  refine g_iload_n (pc := 4) C dX7_tries_4 1 rfl ?_
  refine g_iald (pc := 5) (v := le g) C 9 rfl g (rfl) ⟨by omega, by decide⟩ (rfl) dX7_tries_5 ?_
  refine g_aload_n (pc := 6) C dX7_tries_6 0 rfl ?_
  refine g_get (pc := 7) (T := TX7) (N := 33) (v := .ref (A 9)) C ib_X7 0 rfl rfl 11 (by decide) mf_X7_38 rfl rfl rfl dX7_tries_7 ?_
  refine g_iload_n (pc := 10) C dX7_tries_10 1 rfl ?_
  refine g_iald (pc := 11) (v := (τ 6) g) C 7 rfl g (rfl) ⟨by omega, by decide⟩ (rfl) dX7_tries_11 ?_
  refine g_imul (pc := 12) C dX7_tries_12 ?_
  refine g_bipush (pc := 13) (v := 10) C dX7_tries_13 (by decide) ?_
  refine g_idiv (pc := 15) C dX7_tries_15 (by decide) ?_
  refine g_istore_n (pc := 16) (lv' := [(2, .int (((le g) * ((τ 6) g)) / 10)), (0, .ref m), (1, .int (nI g))]) C dX7_tries_16 rfl (by decide) rfl ?_
  refine g_aload_n (pc := 17) C dX7_tries_17 1 rfl ?_
  refine g_get (pc := 18) (T := TX7) (N := 33) (v := .ref (A 17)) C ib_X7 0 rfl rfl 29 (by decide) mf_X7_62 rfl rfl rfl dX7_tries_18 ?_
  refine g_iload_n (pc := 21) C dX7_tries_21 2 rfl ?_
  refine g_dup2 (pc := 22) C dX7_tries_22 rfl rfl ?_
  refine g_iald (pc := 23) (v := le g) C 9 rfl g (rfl) ⟨by omega, by decide⟩ (rfl) dX7_tries_23 ?_
  refine g_iload_n (pc := 24) C dX7_tries_24 0 rfl ?_
  refine g_isub (pc := 25) C dX7_tries_25 ?_
  refine g_iast (pc := 26) (ws' := wN G m A τ y ++ ([iC G (A 17) 10 (upd le g ((le g) - (((le g) * ((τ 6) g)) / 10)))])) C rfl 9 rfl g (rfl) ⟨by omega, by decide⟩ dX7_tries_26 rfl ?_
  refine g_iload_n (pc := 27) C dX7_tries_27 0 rfl ?_
  refine g_aload_n (pc := 28) C dX7_tries_28 1 rfl ?_
  refine g_get (pc := 29) (T := TX7) (N := 33) (v := .ref (A 10)) C ib_X7 0 rfl rfl 12 (by decide) mf_X7_41 rfl rfl rfl dX7_tries_29 ?_
  refine g_iload_n (pc := 32) C dX7_tries_32 2 rfl ?_
  refine g_iald (pc := 33) (v := (τ 7) g) C 8 rfl g (rfl) ⟨by omega, by decide⟩ (rfl) dX7_tries_33 ?_
  refine g_imul (pc := 34) C dX7_tries_34 ?_
  refine g_bipush (pc := 35) (v := 10) C dX7_tries_35 (by decide) ?_
  refine g_idiv (pc := 37) C dX7_tries_37 (by decide) ?_
  exact g_retIW (pc := 38) C rfl rfl () (rfl) (by rfl) (by rfl) dX7_tries_38
set_option maxRecDepth 20000 in
set_option maxHeartbeats 4000000 in
theorem c_X7_answered (l : Launch) (G : gT) (m : Nat) (A : Nat → Nat) (τ : tT) (y : Nat → Int32) (le : Nat → Int32) (an : Nat → Int32) (t : Nat) (hT : TI τ) (ht : t ≤ 9) : WI l yX7_answered cX7_answered 5 (some .int) 1 0 0 G [.ref m, .int (nI t)] (wN G m A τ y ++ ([iC G (A 16) 10 an, iC G (A 17) 10 le])) (S := Unit) (fun r _ => r = sumN (fun x9 => anN τ x9 t) (tG τ)) (fun _ => wN G m A τ y ++ ([iC G (A 16) 10 (frW (fun x9 => anN τ x9 t) an (tG τ)), iC G (A 17) 10 (frW (fun x9 => lfN τ x9 t) le (tG τ))])) := by
  have hg10 := hT.g10
  have hq8 := hT.q8
  intro sz9
  refine start_W (by decide) (Nat.le_of_ble_eq_true rfl) (fun p9 e9 s9 m9 a9 b9 t9 c9 C => ?_)
  refine g_lv (lv' := [(0, .ref m), (1, .int (nI t))]) rfl ?_
  refine g_iconst (pc := 0) (v := 0) C dX7_answered_0 (by decide) ?_
  refine g_istore_n (pc := 1) (lv' := [(2, .int 0), (0, .ref m), (1, .int (nI t))]) C dX7_answered_1 rfl (by decide) rfl ?_
  refine g_iconst (pc := 2) (v := 0) C dX7_answered_2 (by decide) ?_
  refine g_istore_n (pc := 3) (lv' := [(3, .int 0), (2, .int 0), (0, .ref m), (1, .int (nI t))]) C dX7_answered_3 rfl (by decide) rfl ?_
  have key_4 : ∀ (n4 : Nat) (g : Nat) (hg : g ≤ tG τ), tG τ - g < n4 → GW p9 l e9 (rmh 1 0 0) s9 m9 a9 b9 t9 c9 (MQ b9 (va_Qi (fun r (_ : Unit) => r = sumN (fun x9 => anN τ x9 t) (tG τ)) (BW G (wN G m A τ y ++ ([iC G (A 16) 10 an, iC G (A 17) 10 le])) sz9 (fun _ => wN G m A τ y ++ ([iC G (A 16) 10 (frW (fun x9 => anN τ x9 t) an (tG τ)), iC G (A 17) 10 (frW (fun x9 => lfN τ x9 t) le (tG τ))]))) (va_A (wN G m A τ y ++ ([iC G (A 16) 10 an, iC G (A 17) 10 le])) sz9)) a9 s9 0 0 (va_A (wN G m A τ y ++ ([iC G (A 16) 10 an, iC G (A 17) 10 le])) sz9)) G (va_A (wN G m A τ y ++ ([iC G (A 16) 10 an, iC G (A 17) 10 le])) sz9) true 5 0 0 (wN G m A τ y ++ ([iC G (A 16) 10 (frW (fun x9 => anN τ x9 t) an g), iC G (A 17) 10 (frW (fun x9 => lfN τ x9 t) le g)])) [(0, .ref m), (1, .int (nI t)), (2, .int (sumN (fun x9 => anN τ x9 t) g)), (3, .int (nI g))] 4 [] := by
    intro n4
    induction n4 with
    | zero => intro g hg hn4; exact absurd hn4 (Nat.not_lt_zero _)
    | succ n4 ih4 =>
      intro g hg hn4
      refine g_iload_n (pc := 4) C dX7_answered_4 3 rfl ?_
      refine g_aload_n (pc := 5) C dX7_answered_5 0 rfl ?_
      refine g_get (pc := 6) (T := TX7) (N := 33) (v := .int (τ 8 1)) C ib_X7 0 rfl rfl 7 (by decide) mf_X7_92 rfl rfl rfl dX7_answered_6 ?_
      refine g_top (z := nI (tG τ)) (hT.g) ?_
      refine g_icmpN_ge (pc := 9) (i := g) (j := tG τ) (tgt := 75) C dX7_answered_9 (by decide) ⟨by omega, by omega⟩ (fun h9 => ?_) (fun h9 => ?_)
      · refine g_iload_n (pc := 75) C dX7_answered_75 2 rfl ?_
        exact g_retIW (pc := 76) C rfl rfl () (rfl) (by rw [show g = tG τ from by omega]) (by rw [show g = tG τ from by omega]) dX7_answered_76
      · refine g_aload_n (pc := 12) C dX7_answered_12 0 rfl ?_
        refine g_get (pc := 13) (T := TX7) (N := 33) (v := .ref (A 17)) C ib_X7 0 rfl rfl 29 (by decide) mf_X7_62 rfl rfl rfl dX7_answered_13 ?_
        refine g_iload_n (pc := 16) C dX7_answered_16 3 rfl ?_
        refine g_aload_n (pc := 17) C dX7_answered_17 0 rfl ?_
        refine g_get (pc := 18) (T := TX7) (N := 33) (v := .ref (A 6)) C ib_X7 0 rfl rfl 8 (by decide) mf_X7_29 rfl rfl rfl dX7_answered_18 ?_
        refine g_iload_n (pc := 21) C dX7_answered_21 3 rfl ?_
        refine g_iald (pc := 22) (v := (τ 3) g) C 4 rfl g (rfl) ⟨by omega, by decide⟩ (rfl) dX7_answered_22 ?_
        refine g_iast (pc := 23) (ws' := wN G m A τ y ++ ([iC G (A 16) 10 (frW (fun x9 => anN τ x9 t) an g), iC G (A 17) 10 (upd (frW (fun x9 => lfN τ x9 t) le g) g ((τ 3) g))])) C rfl 10 rfl g (rfl) ⟨by omega, by decide⟩ dX7_answered_23 rfl ?_
        refine g_aload_n (pc := 24) C dX7_answered_24 0 rfl ?_
        refine g_get (pc := 25) (T := TX7) (N := 33) (v := .ref (A 16)) C ib_X7 0 rfl rfl 28 (by decide) mf_X7_59 rfl rfl rfl dX7_answered_25 ?_
        refine g_iload_n (pc := 28) C dX7_answered_28 3 rfl ?_
        refine g_iconst (pc := 29) (v := 0) C dX7_answered_29 (by decide) ?_
        refine g_iast (pc := 30) (ws' := wN G m A τ y ++ ([iC G (A 16) 10 (upd (frW (fun x9 => anN τ x9 t) an g) g 0), iC G (A 17) 10 (upd (frW (fun x9 => lfN τ x9 t) le g) g ((τ 3) g))])) C rfl 9 rfl g (rfl) ⟨by omega, by decide⟩ dX7_answered_30 rfl ?_
        refine g_iconst (pc := 31) (v := 0) C dX7_answered_31 (by decide) ?_
        refine g_istore (pc := 32) (lv' := [(4, .int 0), (0, .ref m), (1, .int (nI t)), (2, .int (sumN (fun x9 => anN τ x9 t) g)), (3, .int (nI g))]) C dX7_answered_32 (by decide) rfl ?_
        have key_34 : ∀ (n34 : Nat) (i : Nat) (hi : i ≤ t), t - i < n34 → GW p9 l e9 (rmh 1 0 0) s9 m9 a9 b9 t9 c9 (MQ b9 (va_Qi (fun r (_ : Unit) => r = sumN (fun x9 => anN τ x9 t) (tG τ)) (BW G (wN G m A τ y ++ ([iC G (A 16) 10 an, iC G (A 17) 10 le])) sz9 (fun _ => wN G m A τ y ++ ([iC G (A 16) 10 (frW (fun x9 => anN τ x9 t) an (tG τ)), iC G (A 17) 10 (frW (fun x9 => lfN τ x9 t) le (tG τ))]))) (va_A (wN G m A τ y ++ ([iC G (A 16) 10 an, iC G (A 17) 10 le])) sz9)) a9 s9 0 0 (va_A (wN G m A τ y ++ ([iC G (A 16) 10 an, iC G (A 17) 10 le])) sz9)) G (va_A (wN G m A τ y ++ ([iC G (A 16) 10 an, iC G (A 17) 10 le])) sz9) true 5 0 0 (wN G m A τ y ++ ([iC G (A 16) 10 (upd (frW (fun x9 => anN τ x9 t) an g) g (anN τ g i)), iC G (A 17) 10 (upd (frW (fun x9 => lfN τ x9 t) le g) g (lfN τ g i))])) [(0, .ref m), (1, .int (nI t)), (2, .int (sumN (fun x9 => anN τ x9 t) g)), (3, .int (nI g)), (4, .int (nI i))] 34 [] := by
          intro n34
          induction n34 with
          | zero => intro i hi hn34; exact absurd hn34 (Nat.not_lt_zero _)
          | succ n34 ih34 =>
            intro i hi hn34
            refine g_iload (pc := 34) C dX7_answered_34 4 rfl ?_
            refine g_iload_n (pc := 36) C dX7_answered_36 1 rfl ?_
            refine g_icmpN_ge (pc := 37) (i := i) (j := t) (tgt := 60) C dX7_answered_37 (by decide) ⟨by omega, by omega⟩ (fun h37 => ?_) (fun h37 => ?_)
            · refine g_iload_n (pc := 60) C dX7_answered_60 2 rfl ?_
              refine g_aload_n (pc := 61) C dX7_answered_61 0 rfl ?_
              refine g_get (pc := 62) (T := TX7) (N := 33) (v := .ref (A 16)) C ib_X7 0 rfl rfl 28 (by decide) mf_X7_59 rfl rfl rfl dX7_answered_62 ?_
              refine g_iload_n (pc := 65) C dX7_answered_65 3 rfl ?_
              refine g_iald (pc := 66) (v := (upd (frW (fun x9 => anN τ x9 t) an g) g (anN τ g i)) g) C 9 rfl g (rfl) ⟨by omega, by decide⟩ (rfl) dX7_answered_66 ?_
              refine g_iadd (pc := 67) C dX7_answered_67 ?_
              refine g_istore_n (pc := 68) (lv' := [(2, .int ((sumN (fun x9 => anN τ x9 t) g) + ((upd (frW (fun x9 => anN τ x9 t) an g) g (anN τ g i)) g))), (0, .ref m), (1, .int (nI t)), (3, .int (nI g)), (4, .int (nI i))]) C dX7_answered_68 rfl (by decide) rfl ?_
              refine g_iinc (pc := 69) (v := nI (g + 1)) (lv' := [(3, .int (nI (g + 1))), (2, .int ((sumN (fun x9 => anN τ x9 t) g) + ((upd (frW (fun x9 => anN τ x9 t) an g) g (anN τ g i)) g))), (0, .ref m), (1, .int (nI t)), (4, .int (nI i))]) C dX7_answered_69 3 rfl (nI_1 g) (by decide) rfl ?_
              refine g_goto (pc := 72) (tgt := 4) C dX7_answered_72 (by decide) ?_
              refine g_ws (ws' := wN G m A τ y ++ ([iC G (A 16) 10 (frW (fun x9 => anN τ x9 t) an (g + 1)), iC G (A 17) 10 (frW (fun x9 => lfN τ x9 t) le (g + 1))])) (by rw [show i = t from by omega, ← frW_s, ← frW_s]) ?_
              refine g_sub (lv' := [(0, .ref m), (1, .int (nI t)), (2, .int ((sumN (fun x9 => anN τ x9 t) g) + ((upd (frW (fun x9 => anN τ x9 t) an g) g (anN τ g i)) g))), (3, .int (nI (g + 1)))]) [2, 3, 1, 0] rfl ?_
              refine g_lv (lv' := [(0, .ref m), (1, .int (nI t)), (2, .int (sumN (fun x9 => anN τ x9 t) (g + 1))), (3, .int (nI (g + 1)))]) (by rw [upd_at, show i = t from by omega]; rfl) ?_
              exact ih4 (g + 1) (by first | assumption | omega) (by omega)
            · refine g_aload_n (pc := 40) C dX7_answered_40 0 rfl ?_
              refine g_get (pc := 41) (T := TX7) (N := 33) (v := .ref (A 16)) C ib_X7 0 rfl rfl 28 (by decide) mf_X7_59 rfl rfl rfl dX7_answered_41 ?_
              refine g_iload_n (pc := 44) C dX7_answered_44 3 rfl ?_
              refine g_dup2 (pc := 45) C dX7_answered_45 rfl rfl ?_
              refine g_iald (pc := 46) (v := (upd (frW (fun x9 => anN τ x9 t) an g) g (anN τ g i)) g) C 9 rfl g (rfl) ⟨by omega, by decide⟩ (rfl) dX7_answered_46 ?_
              refine g_aload_n (pc := 47) C dX7_answered_47 0 rfl ?_
              refine g_iload_n (pc := 48) C dX7_answered_48 3 rfl ?_
              refine g_wrVI (pc := 49) (rest := [.int ((upd (frW (fun x9 => anN τ x9 t) an g) g (anN τ g i)) g), .int (nI g), .ref (A 16)]) (wr := [iC G (A 16) 10 (upd (frW (fun x9 => anN τ x9 t) an g) g (anN τ g i))]) C (fun _ => wN G m A τ y ++ ([iC G (A 16) 10 (upd (frW (fun x9 => anN τ x9 t) an g) g (anN τ g i)), iC G (A 17) 10 (upd (upd (frW (fun x9 => lfN τ x9 t) le g) g (lfN τ g i)) g ((upd (frW (fun x9 => lfN τ x9 t) le g) g (lfN τ g i)) g - (upd (frW (fun x9 => lfN τ x9 t) le g) g (lfN τ g i)) g * τ 6 g / 10))])) rfl k_X7_tries (c_X7_tries l G m A τ y (upd (frW (fun x9 => lfN τ x9 t) le g) g (lfN τ g i)) g (by first | assumption | omega)) ml_X7_217 rfl ⟨Nat.le_of_ble_eq_true rfl, Nat.le_of_ble_eq_true rfl⟩ rfl [0, 1, 2, 3, 4, 5, 6, 7, 8, 10] [9] [1, 2, 3, 4, 5, 6, 7, 8, 9, 0, 10] rfl (by decide) rfl (by decide) (by decide) (by decide) (fun _ => rfl) 0 rfl rfl rfl rfl (Nat.le_of_ble_eq_true rfl) ⟨by decide, by decide⟩ dX7_answered_49 (fun r49 _ e49 => ?_)
              subst e49
              refine g_iadd (pc := 52) C dX7_answered_52 ?_
              refine g_iast (pc := 53) (ws' := wN G m A τ y ++ ([iC G (A 16) 10 (upd (upd (frW (fun x9 => anN τ x9 t) an g) g (anN τ g i)) g (((upd (frW (fun x9 => anN τ x9 t) an g) g (anN τ g i)) g) + ((upd (frW (fun x9 => lfN τ x9 t) le g) g (lfN τ g i)) g * τ 6 g / 10 * τ 7 g / 10))), iC G (A 17) 10 (upd (upd (frW (fun x9 => lfN τ x9 t) le g) g (lfN τ g i)) g ((upd (frW (fun x9 => lfN τ x9 t) le g) g (lfN τ g i)) g - (upd (frW (fun x9 => lfN τ x9 t) le g) g (lfN τ g i)) g * τ 6 g / 10))])) C rfl 9 rfl g (rfl) ⟨by omega, by decide⟩ dX7_answered_53 rfl ?_
              refine g_iinc (pc := 54) (v := nI (i + 1)) (lv' := [(4, .int (nI (i + 1))), (0, .ref m), (1, .int (nI t)), (2, .int (sumN (fun x9 => anN τ x9 t) g)), (3, .int (nI g))]) C dX7_answered_54 4 rfl (nI_1 i) (by decide) rfl ?_
              refine g_goto (pc := 57) (tgt := 34) C dX7_answered_57 (by decide) ?_
              refine g_ws (ws' := wN G m A τ y ++ ([iC G (A 16) 10 (upd (frW (fun x9 => anN τ x9 t) an g) g (anN τ g (i + 1))), iC G (A 17) 10 (upd (frW (fun x9 => lfN τ x9 t) le g) g (lfN τ g (i + 1)))])) (by simp only [upd_2, upd_at]; rfl) ?_
              refine g_sub (lv' := [(0, .ref m), (1, .int (nI t)), (2, .int (sumN (fun x9 => anN τ x9 t) g)), (3, .int (nI g)), (4, .int (nI (i + 1)))]) [1, 2, 3, 4, 0] rfl ?_
              exact ih34 (i + 1) (by first | assumption | omega) (by omega)
        refine g_ws (ws' := wN G m A τ y ++ ([iC G (A 16) 10 (upd (frW (fun x9 => anN τ x9 t) an g) g (anN τ g 0)), iC G (A 17) 10 (upd (frW (fun x9 => lfN τ x9 t) le g) g (lfN τ g 0))])) (rfl) ?_
        refine g_sub (lv' := [(0, .ref m), (1, .int (nI t)), (2, .int (sumN (fun x9 => anN τ x9 t) g)), (3, .int (nI g)), (4, .int (nI 0))]) [1, 2, 3, 4, 0] rfl ?_
        exact key_34 _ 0 (by first | assumption | omega) (Nat.lt_succ_self _)
  refine g_ws (ws' := wN G m A τ y ++ ([iC G (A 16) 10 (frW (fun x9 => anN τ x9 t) an 0), iC G (A 17) 10 (frW (fun x9 => lfN τ x9 t) le 0)])) (by rw [frW_0, frW_0]) ?_
  refine g_sub (lv' := [(0, .ref m), (1, .int (nI t)), (2, .int (sumN (fun x9 => anN τ x9 t) 0)), (3, .int (nI 0))]) [2, 3, 1, 0] rfl ?_
  exact key_4 _ 0 (by first | assumption | omega) (Nat.lt_succ_self _)
