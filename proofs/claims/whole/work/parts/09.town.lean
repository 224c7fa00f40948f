def sTh (x z : Int32) : Int32 := if z = 0 then 0 else 1000 * x / z
set_option maxRecDepth 20000 in
set_option maxHeartbeats 4000000 in
theorem c_X6_isWithin (l : Launch) (G : gT) (v : Int32) (lo : Int32) (hi : Int32) : RI l yX6_isWithin cX6_isWithin 3 (some .boolean) 0 G [.int v, .int lo, .int hi] (([] : va_W)) (bI (lo ≤ v ∧ v ≤ hi)) := by
  refine start_R (by decide) (Nat.le_of_ble_eq_true rfl) (fun p9 e9 s9 m9 a9 b9 t9 c9 C => ?_)
  refine g_lv (lv' := [(0, .int v), (1, .int lo), (2, .int hi)]) rfl ?_
  refine g_iload_n (pc := 0) C dX6_isWithin_0 0 rfl ?_
  refine g_iload_n (pc := 1) C dX6_isWithin_1 1 rfl ?_
  refine g_icmp_lt (pc := 2) (tgt := 14) C dX6_isWithin_2 (by decide) (fun h2 => ?_) (fun h2 => ?_)
  · refine g_iconst (pc := 14) (v := 0) C dX6_isWithin_14 (by decide) ?_
    exact g_retIR (pc := 15) C (rfl) (by first | (refine (bI_t ?_).symm; simp only [Int32.lt_iff_toInt_lt, Int32.le_iff_toInt_le] at *; omega) | (refine (bI_f ?_).symm; simp only [Int32.lt_iff_toInt_lt, Int32.le_iff_toInt_le] at *; omega)) dX6_isWithin_15
  · refine g_iload_n (pc := 5) C dX6_isWithin_5 0 rfl ?_
    refine g_iload_n (pc := 6) C dX6_isWithin_6 2 rfl ?_
    refine g_icmp_gt (pc := 7) (tgt := 14) C dX6_isWithin_7 (by decide) (fun h7 => ?_) (fun h7 => ?_)
    · refine g_iconst (pc := 14) (v := 0) C dX6_isWithin_14 (by decide) ?_
      exact g_retIR (pc := 15) C (rfl) (by first | (refine (bI_t ?_).symm; simp only [Int32.lt_iff_toInt_lt, Int32.le_iff_toInt_le] at *; omega) | (refine (bI_f ?_).symm; simp only [Int32.lt_iff_toInt_lt, Int32.le_iff_toInt_le] at *; omega)) dX6_isWithin_15
    · refine g_iconst (pc := 10) (v := 1) C dX6_isWithin_10 (by decide) ?_
      refine g_goto (pc := 11) (tgt := 15) C dX6_isWithin_11 (by decide) ?_
      exact g_retIR (pc := 15) C (rfl) (by first | (refine (bI_t ?_).symm; simp only [Int32.lt_iff_toInt_lt, Int32.le_iff_toInt_le] at *; omega) | (refine (bI_f ?_).symm; simp only [Int32.lt_iff_toInt_lt, Int32.le_iff_toInt_le] at *; omega)) dX6_isWithin_15
set_option maxRecDepth 20000 in
set_option maxHeartbeats 4000000 in
theorem c_X6_isShelf (l : Launch) (G : gT) (x : Int32) : RI l yX6_isShelf cX6_isShelf 1 (some .boolean) 1 G [.int x] (([] : va_W)) (bI (0 ≤ x ∧ x ≤ 7)) := by
  refine start_R (by decide) (Nat.le_of_ble_eq_true rfl) (fun p9 e9 s9 m9 a9 b9 t9 c9 C => ?_)
  refine g_lv (lv' := [(0, .int x)]) rfl ?_
  refine g_iload_n (pc := 0) C dX6_isShelf_0 0 rfl ?_
  refine g_iconst (pc := 1) (v := 0) C dX6_isShelf_1 (by decide) ?_
  refine g_bipush (pc := 2) (v := 7) C dX6_isShelf_2 (by decide) ?_
  refine g_rdSI (pc := 4) (val := bI (0 ≤ x ∧ x ≤ 7)) (rest := []) C k_X6_isWithin (c_X6_isWithin l G x 0 7) ml_X6_63 rfl ⟨Nat.le_of_ble_eq_true rfl, Nat.le_of_ble_eq_true rfl⟩ rfl [] rfl rfl (Nat.le_of_ble_eq_true rfl) ⟨by decide, by decide⟩ dX6_isShelf_4 ?_
  exact g_retIR (pc := 7) C (by exact bI_nar _) (by rfl) dX6_isShelf_7
set_option maxRecDepth 20000 in
set_option maxHeartbeats 4000000 in
theorem c_X6_isKind (l : Launch) (G : gT) (x : Int32) : RI l yX6_isKind cX6_isKind 1 (some .boolean) 1 G [.int x] (([] : va_W)) (bI (0 ≤ x ∧ x ≤ 6)) := by
  refine start_R (by decide) (Nat.le_of_ble_eq_true rfl) (fun p9 e9 s9 m9 a9 b9 t9 c9 C => ?_)
  refine g_lv (lv' := [(0, .int x)]) rfl ?_
  refine g_iload_n (pc := 0) C dX6_isKind_0 0 rfl ?_
  refine g_iconst (pc := 1) (v := 0) C dX6_isKind_1 (by decide) ?_
  refine g_bipush (pc := 2) (v := 6) C dX6_isKind_2 (by decide) ?_
  refine g_rdSI (pc := 4) (val := bI (0 ≤ x ∧ x ≤ 6)) (rest := []) C k_X6_isWithin (c_X6_isWithin l G x 0 6) ml_X6_63 rfl ⟨Nat.le_of_ble_eq_true rfl, Nat.le_of_ble_eq_true rfl⟩ rfl [] rfl rfl (Nat.le_of_ble_eq_true rfl) ⟨by decide, by decide⟩ dX6_isKind_4 ?_
  exact g_retIR (pc := 7) C (by exact bI_nar _) (by rfl) dX6_isKind_7
set_option maxRecDepth 20000 in
set_option maxHeartbeats 4000000 in
theorem c_X6_contains (l : Launch) (G : gT) (set : Int32) (k : Int32) : RI l yX6_contains cX6_contains 2 (some .boolean) 0 G [.int set, .int k] (([] : va_W)) (bI (¬ set &&& (1 <<< (k &&& 31)) = 0)) := by
  refine start_R (by decide) (Nat.le_of_ble_eq_true rfl) (fun p9 e9 s9 m9 a9 b9 t9 c9 C => ?_)
  refine g_lv (lv' := [(0, .int set), (1, .int k)]) rfl ?_
  refine g_iload_n (pc := 0) C dX6_contains_0 0 rfl ?_
  refine g_iconst (pc := 1) (v := 1) C dX6_contains_1 (by decide) ?_
  refine g_iload_n (pc := 2) C dX6_contains_2 1 rfl ?_
  refine g_ishl (pc := 3) C dX6_contains_3 ?_
  refine g_iand (pc := 4) C dX6_contains_4 ?_
  refine g_if_eq (pc := 5) (tgt := 12) C dX6_contains_5 (by decide) (fun h5 => ?_) (fun h5 => ?_)
  · refine g_iconst (pc := 12) (v := 0) C dX6_contains_12 (by decide) ?_
    exact g_retIR (pc := 13) C (rfl) (by simp_all [bI]) dX6_contains_13
  · refine g_iconst (pc := 8) (v := 1) C dX6_contains_8 (by decide) ?_
    refine g_goto (pc := 9) (tgt := 13) C dX6_contains_9 (by decide) ?_
    exact g_retIR (pc := 13) C (rfl) (by simp_all [bI]) dX6_contains_13
set_option maxRecDepth 20000 in
set_option maxHeartbeats 4000000 in
theorem c_X6_thousandths (l : Launch) (G : gT) (x : Int32) (z : Int32) : RI l yX6_thousandths cX6_thousandths 2 (some .int) 0 G [.int x, .int z] (([] : va_W)) (sTh x z) := by
  refine start_R (by decide) (Nat.le_of_ble_eq_true rfl) (fun p9 e9 s9 m9 a9 b9 t9 c9 C => ?_)
  refine g_lv (lv' := [(0, .int x), (1, .int z)]) rfl ?_
  refine g_iload_n (pc := 0) C dX6_thousandths_0 1 rfl ?_
  refine g_if_ne (pc := 1) (tgt := 8) C dX6_thousandths_1 (by decide) (fun h1 => ?_) (fun h1 => ?_)
  · refine g_sipush (pc := 8) (v := 1000) C dX6_thousandths_8 (by decide) ?_
    refine g_iload_n (pc := 11) C dX6_thousandths_11 0 rfl ?_
    refine g_imul (pc := 12) C dX6_thousandths_12 ?_
    refine g_iload_n (pc := 13) C dX6_thousandths_13 1 rfl ?_
    refine g_idiv (pc := 14) C dX6_thousandths_14 (by assumption) ?_
    exact g_retIR (pc := 15) C (rfl) (by simp_all [sTh]) dX6_thousandths_15
  · refine g_iconst (pc := 4) (v := 0) C dX6_thousandths_4 (by decide) ?_
    refine g_goto (pc := 5) (tgt := 15) C dX6_thousandths_5 (by decide) ?_
    exact g_retIR (pc := 15) C (rfl) (by simp_all [sTh]) dX6_thousandths_15
set_option maxRecDepth 20000 in
set_option maxHeartbeats 4000000 in
theorem c_X3_kindOf (l : Launch) (G : gT) (h : Nat) (a : Nat) (b : Nat) (c : Nat) (τ : tT) (q : Nat) (hq : q < 8) : RI l yX3_kindOf cX3_kindOf 2 (some .int) 0 G [.ref h, .int (nI q)] (wT G h a b c τ) (τ 0 q) := by
  refine start_R (by decide) (Nat.le_of_ble_eq_true rfl) (fun p9 e9 s9 m9 a9 b9 t9 c9 C => ?_)
  refine g_lv (lv' := [(0, .ref h), (1, .int (nI q))]) rfl ?_
  refine g_aload_n (pc := 0) C dX3_kindOf_0 0 rfl ?_
  refine g_get (pc := 1) (T := TX3) (N := 10) (v := .ref a) C ib_X3 0 rfl rfl 0 (by decide) mf_X3_11 rfl rfl rfl dX3_kindOf_1 ?_
  refine g_iload_n (pc := 4) C dX3_kindOf_4 1 rfl ?_
  refine g_iconst (pc := 5) (v := 2) C dX3_kindOf_5 (by decide) ?_
  refine g_imulN (pc := 6) (i := q) (j := 2) C dX3_kindOf_6 ?_
  refine g_iald (pc := 7) (v := (fq τ) (q * 2)) C 1 rfl (q * 2) (rfl) ⟨by omega, by decide⟩ (rfl) dX3_kindOf_7 ?_
  exact g_retIR (pc := 8) C (rfl) (by exact fq_0 τ q) dX3_kindOf_8
set_option maxRecDepth 20000 in
set_option maxHeartbeats 4000000 in
theorem c_X3_aOf (l : Launch) (G : gT) (h : Nat) (a : Nat) (b : Nat) (c : Nat) (τ : tT) (q : Nat) (hq : q < 8) : RI l yX3_aOf cX3_aOf 2 (some .int) 0 G [.ref h, .int (nI q)] (wT G h a b c τ) (τ 1 q) := by
  refine start_R (by decide) (Nat.le_of_ble_eq_true rfl) (fun p9 e9 s9 m9 a9 b9 t9 c9 C => ?_)
  refine g_lv (lv' := [(0, .ref h), (1, .int (nI q))]) rfl ?_
  refine g_aload_n (pc := 0) C dX3_aOf_0 0 rfl ?_
  refine g_get (pc := 1) (T := TX3) (N := 10) (v := .ref a) C ib_X3 0 rfl rfl 0 (by decide) mf_X3_11 rfl rfl rfl dX3_aOf_1 ?_
  refine g_iload_n (pc := 4) C dX3_aOf_4 1 rfl ?_
  refine g_iconst (pc := 5) (v := 2) C dX3_aOf_5 (by decide) ?_
  refine g_imulN (pc := 6) (i := q) (j := 2) C dX3_aOf_6 ?_
  refine g_iconst (pc := 7) (v := 1) C dX3_aOf_7 (by decide) ?_
  refine g_iaddN (pc := 8) (i := q * 2) (j := 1) C dX3_aOf_8 ?_
  refine g_iald (pc := 9) (v := (fq τ) ((q * 2) + 1)) C 1 rfl ((q * 2) + 1) (rfl) ⟨by omega, by decide⟩ (rfl) dX3_aOf_9 ?_
  exact g_retIR (pc := 10) C (rfl) (by exact fq_1 τ q) dX3_aOf_10
set_option maxRecDepth 20000 in
set_option maxHeartbeats 4000000 in
theorem c_X3_bearingOf (l : Launch) (G : gT) (h : Nat) (a : Nat) (b : Nat) (c : Nat) (τ : tT) (q : Nat) (r : Nat) (hq : q < 8) (hr : r < 8) : RI l yX3_bearingOf cX3_bearingOf 3 (some .int) 0 G [.ref h, .int (nI q), .int (nI r)] (wT G h a b c τ) (τ 2 (q * 8 + r)) := by
  refine start_R (by decide) (Nat.le_of_ble_eq_true rfl) (fun p9 e9 s9 m9 a9 b9 t9 c9 C => ?_)
  refine g_lv (lv' := [(0, .ref h), (1, .int (nI q)), (2, .int (nI r))]) rfl ?_
  refine g_aload_n (pc := 0) C dX3_bearingOf_0 0 rfl ?_
  refine g_get (pc := 1) (T := TX3) (N := 10) (v := .ref b) C ib_X3 0 rfl rfl 1 (by decide) mf_X3_15 rfl rfl rfl dX3_bearingOf_1 ?_
  refine g_iload_n (pc := 4) C dX3_bearingOf_4 1 rfl ?_
  refine g_bipush (pc := 5) (v := 8) C dX3_bearingOf_5 (by decide) ?_
  refine g_imulN (pc := 7) (i := q) (j := 8) C dX3_bearingOf_7 ?_
  refine g_iload_n (pc := 8) C dX3_bearingOf_8 2 rfl ?_
  refine g_iaddN (pc := 9) (i := q * 8) (j := r) C dX3_bearingOf_9 ?_
  refine g_iald (pc := 10) (v := (τ 2) ((q * 8) + r)) C 2 rfl ((q * 8) + r) (rfl) ⟨by omega, by decide⟩ (rfl) dX3_bearingOf_10 ?_
  exact g_retIR (pc := 11) C (rfl) (by rfl) dX3_bearingOf_11
set_option maxRecDepth 20000 in
set_option maxHeartbeats 4000000 in
theorem c_X3_countOf (l : Launch) (G : gT) (h : Nat) (a : Nat) (b : Nat) (c : Nat) (τ : tT) (g : Nat) (hg : g < 10) : RI l yX3_countOf cX3_countOf 2 (some .int) 0 G [.ref h, .int (nI g)] (wT G h a b c τ) (τ 3 g) := by
  refine start_R (by decide) (Nat.le_of_ble_eq_true rfl) (fun p9 e9 s9 m9 a9 b9 t9 c9 C => ?_)
  refine g_lv (lv' := [(0, .ref h), (1, .int (nI g))]) rfl ?_
  refine g_aload_n (pc := 0) C dX3_countOf_0 0 rfl ?_
  refine g_get (pc := 1) (T := TX3) (N := 10) (v := .ref c) C ib_X3 0 rfl rfl 2 (by decide) mf_X3_18 rfl rfl rfl dX3_countOf_1 ?_
  refine g_iload_n (pc := 4) C dX3_countOf_4 1 rfl ?_
  refine g_iconst (pc := 5) (v := 5) C dX3_countOf_5 (by decide) ?_
  refine g_imulN (pc := 6) (i := g) (j := 5) C dX3_countOf_6 ?_
  refine g_iald (pc := 7) (v := (fg τ) (g * 5)) C 3 rfl (g * 5) (rfl) ⟨by omega, by decide⟩ (rfl) dX3_countOf_7 ?_
  exact g_retIR (pc := 8) C (rfl) (by exact fg_0 τ g) dX3_countOf_8
set_option maxRecDepth 20000 in
set_option maxHeartbeats 4000000 in
theorem c_X3_viewOf (l : Launch) (G : gT) (h : Nat) (a : Nat) (b : Nat) (c : Nat) (τ : tT) (g : Nat) (hg : g < 10) : RI l yX3_viewOf cX3_viewOf 2 (some .int) 0 G [.ref h, .int (nI g)] (wT G h a b c τ) (τ 4 g) := by
  refine start_R (by decide) (Nat.le_of_ble_eq_true rfl) (fun p9 e9 s9 m9 a9 b9 t9 c9 C => ?_)
  refine g_lv (lv' := [(0, .ref h), (1, .int (nI g))]) rfl ?_
  refine g_aload_n (pc := 0) C dX3_viewOf_0 0 rfl ?_
  refine g_get (pc := 1) (T := TX3) (N := 10) (v := .ref c) C ib_X3 0 rfl rfl 2 (by decide) mf_X3_18 rfl rfl rfl dX3_viewOf_1 ?_
  refine g_iload_n (pc := 4) C dX3_viewOf_4 1 rfl ?_
  refine g_iconst (pc := 5) (v := 5) C dX3_viewOf_5 (by decide) ?_
  refine g_imulN (pc := 6) (i := g) (j := 5) C dX3_viewOf_6 ?_
  refine g_iconst (pc := 7) (v := 1) C dX3_viewOf_7 (by decide) ?_
  refine g_iaddN (pc := 8) (i := g * 5) (j := 1) C dX3_viewOf_8 ?_
  refine g_iald (pc := 9) (v := (fg τ) ((g * 5) + 1)) C 3 rfl ((g * 5) + 1) (rfl) ⟨by omega, by decide⟩ (rfl) dX3_viewOf_9 ?_
  exact g_retIR (pc := 10) C (rfl) (by exact fg_i τ g (by decide)) dX3_viewOf_10
set_option maxRecDepth 20000 in
set_option maxHeartbeats 4000000 in
theorem c_X3_gladOf (l : Launch) (G : gT) (h : Nat) (a : Nat) (b : Nat) (c : Nat) (τ : tT) (g : Nat) (hg : g < 10) : RI l yX3_gladOf cX3_gladOf 2 (some .int) 0 G [.ref h, .int (nI g)] (wT G h a b c τ) (τ 5 g) := by
  refine start_R (by decide) (Nat.le_of_ble_eq_true rfl) (fun p9 e9 s9 m9 a9 b9 t9 c9 C => ?_)
  refine g_lv (lv' := [(0, .ref h), (1, .int (nI g))]) rfl ?_
  refine g_aload_n (pc := 0) C dX3_gladOf_0 0 rfl ?_
  refine g_get (pc := 1) (T := TX3) (N := 10) (v := .ref c) C ib_X3 0 rfl rfl 2 (by decide) mf_X3_18 rfl rfl rfl dX3_gladOf_1 ?_
  refine g_iload_n (pc := 4) C dX3_gladOf_4 1 rfl ?_
  refine g_iconst (pc := 5) (v := 5) C dX3_gladOf_5 (by decide) ?_
  refine g_imulN (pc := 6) (i := g) (j := 5) C dX3_gladOf_6 ?_
  refine g_iconst (pc := 7) (v := 2) C dX3_gladOf_7 (by decide) ?_
  refine g_iaddN (pc := 8) (i := g * 5) (j := 2) C dX3_gladOf_8 ?_
  refine g_iald (pc := 9) (v := (fg τ) ((g * 5) + 2)) C 3 rfl ((g * 5) + 2) (rfl) ⟨by omega, by decide⟩ (rfl) dX3_gladOf_9 ?_
  exact g_retIR (pc := 10) C (rfl) (by exact fg_i τ g (by decide)) dX3_gladOf_10
set_option maxRecDepth 20000 in
set_option maxHeartbeats 4000000 in
theorem c_X3_homeOf (l : Launch) (G : gT) (h : Nat) (a : Nat) (b : Nat) (c : Nat) (τ : tT) (g : Nat) (hg : g < 10) : RI l yX3_homeOf cX3_homeOf 2 (some .int) 0 G [.ref h, .int (nI g)] (wT G h a b c τ) (τ 6 g) := by
  refine start_R (by decide) (Nat.le_of_ble_eq_true rfl) (fun p9 e9 s9 m9 a9 b9 t9 c9 C => ?_)
  refine g_lv (lv' := [(0, .ref h), (1, .int (nI g))]) rfl ?_
  refine g_aload_n (pc := 0) C dX3_homeOf_0 0 rfl ?_
  refine g_get (pc := 1) (T := TX3) (N := 10) (v := .ref c) C ib_X3 0 rfl rfl 2 (by decide) mf_X3_18 rfl rfl rfl dX3_homeOf_1 ?_
  refine g_iload_n (pc := 4) C dX3_homeOf_4 1 rfl ?_
  refine g_iconst (pc := 5) (v := 5) C dX3_homeOf_5 (by decide) ?_
  refine g_imulN (pc := 6) (i := g) (j := 5) C dX3_homeOf_6 ?_
  refine g_iconst (pc := 7) (v := 3) C dX3_homeOf_7 (by decide) ?_
  refine g_iaddN (pc := 8) (i := g * 5) (j := 3) C dX3_homeOf_8 ?_
  refine g_iald (pc := 9) (v := (fg τ) ((g * 5) + 3)) C 3 rfl ((g * 5) + 3) (rfl) ⟨by omega, by decide⟩ (rfl) dX3_homeOf_9 ?_
  exact g_retIR (pc := 10) C (rfl) (by exact fg_i τ g (by decide)) dX3_homeOf_10
set_option maxRecDepth 20000 in
set_option maxHeartbeats 4000000 in
theorem c_X3_willOf (l : Launch) (G : gT) (h : Nat) (a : Nat) (b : Nat) (c : Nat) (τ : tT) (g : Nat) (hg : g < 10) : RI l yX3_willOf cX3_willOf 2 (some .int) 0 G [.ref h, .int (nI g)] (wT G h a b c τ) (τ 7 g) := by
  refine start_R (by decide) (Nat.le_of_ble_eq_true rfl) (fun p9 e9 s9 m9 a9 b9 t9 c9 C => ?_)
  refine g_lv (lv' := [(0, .ref h), (1, .int (nI g))]) rfl ?_
  refine g_aload_n (pc := 0) C dX3_willOf_0 0 rfl ?_
  refine g_get (pc := 1) (T := TX3) (N := 10) (v := .ref c) C ib_X3 0 rfl rfl 2 (by decide) mf_X3_18 rfl rfl rfl dX3_willOf_1 ?_
  refine g_iload_n (pc := 4) C dX3_willOf_4 1 rfl ?_
  refine g_iconst (pc := 5) (v := 5) C dX3_willOf_5 (by decide) ?_
  refine g_imulN (pc := 6) (i := g) (j := 5) C dX3_willOf_6 ?_
  refine g_iconst (pc := 7) (v := 4) C dX3_willOf_7 (by decide) ?_
  refine g_iaddN (pc := 8) (i := g * 5) (j := 4) C dX3_willOf_8 ?_
  refine g_iald (pc := 9) (v := (fg τ) ((g * 5) + 4)) C 3 rfl ((g * 5) + 4) (rfl) ⟨by omega, by decide⟩ (rfl) dX3_willOf_9 ?_
  exact g_retIR (pc := 10) C (rfl) (by exact fg_i τ g (by decide)) dX3_willOf_10
set_option maxRecDepth 20000 in
set_option maxHeartbeats 4000000 in
theorem c_X3_hasQuestion (l : Launch) (G : gT) (h : Nat) (a : Nat) (b : Nat) (c : Nat) (τ : tT) (x : Int32) (hT : TI τ) : RI l yX3_hasQuestion cX3_hasQuestion 2 (some .boolean) 1 G [.ref h, .int x] (wT G h a b c τ) (bI (0 ≤ x ∧ x ≤ nI (tQ τ) - 1)) := by
  refine start_R (by decide) (Nat.le_of_ble_eq_true rfl) (fun p9 e9 s9 m9 a9 b9 t9 c9 C => ?_)
  refine g_lv (lv' := [(0, .ref h), (1, .int x)]) rfl ?_
  refine g_iload_n (pc := 0) C dX3_hasQuestion_0 1 rfl ?_
  refine g_iconst (pc := 1) (v := 0) C dX3_hasQuestion_1 (by decide) ?_
  refine g_aload_n (pc := 2) C dX3_hasQuestion_2 0 rfl ?_
  refine g_get (pc := 3) (T := TX3) (N := 10) (v := .int (τ 8 0)) C ib_X3 0 rfl rfl 3 (by decide) mf_X3_34 rfl rfl rfl dX3_hasQuestion_3 ?_
  refine g_top (z := nI (tQ τ)) (hT.q) ?_
  refine g_iconst (pc := 6) (v := 1) C dX3_hasQuestion_6 (by decide) ?_
  refine g_isub (pc := 7) C dX3_hasQuestion_7 ?_
  refine g_rdSNI (pc := 8) (val := bI (0 ≤ x ∧ x ≤ ((nI (tQ τ)) - 1))) (rest := []) C k_X6_isWithin (c_X6_isWithin l G x 0 ((nI (tQ τ)) - 1)) (List.mem_of_getElem? (i := 6) rfl) rfl ⟨Nat.le_of_ble_eq_true rfl, Nat.le_of_ble_eq_true rfl⟩ rfl [] rfl rfl (Nat.le_of_ble_eq_true rfl) ⟨by decide, by decide⟩ dX3_hasQuestion_8 ?_
  exact g_retIR (pc := 11) C (by exact bI_nar _) (by rfl) dX3_hasQuestion_11
set_option maxRecDepth 20000 in
set_option maxHeartbeats 4000000 in
theorem c_X3_hasGroup (l : Launch) (G : gT) (h : Nat) (a : Nat) (b : Nat) (c : Nat) (τ : tT) (x : Int32) (hT : TI τ) : RI l yX3_hasGroup cX3_hasGroup 2 (some .boolean) 1 G [.ref h, .int x] (wT G h a b c τ) (bI (0 ≤ x ∧ x ≤ nI (tG τ) - 1)) := by
  refine start_R (by decide) (Nat.le_of_ble_eq_true rfl) (fun p9 e9 s9 m9 a9 b9 t9 c9 C => ?_)
  refine g_lv (lv' := [(0, .ref h), (1, .int x)]) rfl ?_
  refine g_iload_n (pc := 0) C dX3_hasGroup_0 1 rfl ?_
  refine g_iconst (pc := 1) (v := 0) C dX3_hasGroup_1 (by decide) ?_
  refine g_aload_n (pc := 2) C dX3_hasGroup_2 0 rfl ?_
  refine g_get (pc := 3) (T := TX3) (N := 10) (v := .int (τ 8 1)) C ib_X3 0 rfl rfl 4 (by decide) mf_X3_37 rfl rfl rfl dX3_hasGroup_3 ?_
  refine g_top (z := nI (tG τ)) (hT.g) ?_
  refine g_iconst (pc := 6) (v := 1) C dX3_hasGroup_6 (by decide) ?_
  refine g_isub (pc := 7) C dX3_hasGroup_7 ?_
  refine g_rdSNI (pc := 8) (val := bI (0 ≤ x ∧ x ≤ ((nI (tG τ)) - 1))) (rest := []) C k_X6_isWithin (c_X6_isWithin l G x 0 ((nI (tG τ)) - 1)) (List.mem_of_getElem? (i := 6) rfl) rfl ⟨Nat.le_of_ble_eq_true rfl, Nat.le_of_ble_eq_true rfl⟩ rfl [] rfl rfl (Nat.le_of_ble_eq_true rfl) ⟨by decide, by decide⟩ dX3_hasGroup_8 ?_
  exact g_retIR (pc := 11) C (by exact bI_nar _) (by rfl) dX3_hasGroup_11
set_option maxRecDepth 20000 in
set_option maxHeartbeats 4000000 in
theorem c_X3_hasRoomForQuestion (l : Launch) (G : gT) (h : Nat) (a : Nat) (b : Nat) (c : Nat) (τ : tT) (hT : TI τ) : RI l yX3_hasRoomForQuestion cX3_hasRoomForQuestion 1 (some .boolean) 0 G [.ref h] (wT G h a b c τ) (bI (tQ τ < 8)) := by
  have := hT.q8
  refine start_R (by decide) (Nat.le_of_ble_eq_true rfl) (fun p9 e9 s9 m9 a9 b9 t9 c9 C => ?_)
  refine g_lv (lv' := [(0, .ref h)]) rfl ?_
  refine g_aload_n (pc := 0) C dX3_hasRoomForQuestion_0 0 rfl ?_
  refine g_get (pc := 1) (T := TX3) (N := 10) (v := .int (τ 8 0)) C ib_X3 0 rfl rfl 3 (by decide) mf_X3_34 rfl rfl rfl dX3_hasRoomForQuestion_1 ?_
  refine g_top (z := nI (tQ τ)) (hT.q) ?_
  refine g_bipush (pc := 4) (v := 8) C dX3_hasRoomForQuestion_4 (by decide) ?_
  refine g_icmpN_ge (pc := 6) (i := tQ τ) (j := 8) (tgt := 13) C dX3_hasRoomForQuestion_6 (by decide) ⟨by omega, by omega⟩ (fun h6 => ?_) (fun h6 => ?_)
  · refine g_iconst (pc := 13) (v := 0) C dX3_hasRoomForQuestion_13 (by decide) ?_
    exact g_retIR (pc := 14) C (rfl) (by simp [bI]; omega) dX3_hasRoomForQuestion_14
  · refine g_iconst (pc := 9) (v := 1) C dX3_hasRoomForQuestion_9 (by decide) ?_
    refine g_goto (pc := 10) (tgt := 14) C dX3_hasRoomForQuestion_10 (by decide) ?_
    exact g_retIR (pc := 14) C (rfl) (by simp [bI]; omega) dX3_hasRoomForQuestion_14
set_option maxRecDepth 20000 in
set_option maxHeartbeats 4000000 in
theorem c_X3_hasRoomForGroup (l : Launch) (G : gT) (h : Nat) (a : Nat) (b : Nat) (c : Nat) (τ : tT) (hT : TI τ) : RI l yX3_hasRoomForGroup cX3_hasRoomForGroup 1 (some .boolean) 0 G [.ref h] (wT G h a b c τ) (bI (tG τ < 10)) := by
  have := hT.g10
  refine start_R (by decide) (Nat.le_of_ble_eq_true rfl) (fun p9 e9 s9 m9 a9 b9 t9 c9 C => ?_)
  refine g_lv (lv' := [(0, .ref h)]) rfl ?_
  refine g_aload_n (pc := 0) C dX3_hasRoomForGroup_0 0 rfl ?_
  refine g_get (pc := 1) (T := TX3) (N := 10) (v := .int (τ 8 1)) C ib_X3 0 rfl rfl 4 (by decide) mf_X3_37 rfl rfl rfl dX3_hasRoomForGroup_1 ?_
  refine g_top (z := nI (tG τ)) (hT.g) ?_
  refine g_bipush (pc := 4) (v := 10) C dX3_hasRoomForGroup_4 (by decide) ?_
  refine g_icmpN_ge (pc := 6) (i := tG τ) (j := 10) (tgt := 13) C dX3_hasRoomForGroup_6 (by decide) ⟨by omega, by omega⟩ (fun h6 => ?_) (fun h6 => ?_)
  · refine g_iconst (pc := 13) (v := 0) C dX3_hasRoomForGroup_13 (by decide) ?_
    exact g_retIR (pc := 14) C (rfl) (by simp [bI]; omega) dX3_hasRoomForGroup_14
  · refine g_iconst (pc := 9) (v := 1) C dX3_hasRoomForGroup_9 (by decide) ?_
    refine g_goto (pc := 10) (tgt := 14) C dX3_hasRoomForGroup_10 (by decide) ?_
    exact g_retIR (pc := 14) C (rfl) (by simp [bI]; omega) dX3_hasRoomForGroup_14
