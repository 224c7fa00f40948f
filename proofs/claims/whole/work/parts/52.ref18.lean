theorem cpa_s {el : Nat → Int64} {P Q k : Nat} (h : P + k < Q ∨ Q ≤ P) : vp_updL (va_cpy el el P Q k) (Q + k) (va_cpy el el P Q k (P + k)) = va_cpy el el P Q (k + 1) := by
  have e : va_cpy el el P Q k (P + k) = el (P + k) := pk_cpy_out (by omega)
  rw [e]
  funext x; unfold vp_updL va_cpy
  by_cases h1 : x = Q + k
  · subst h1; rw [if_pos rfl, if_pos (by omega)]; congr 1; omega
  · rw [if_neg h1]
    by_cases h2 : Q ≤ x ∧ x < Q + k
    · rw [if_pos h2, if_pos (by omega)]
    · rw [if_neg h2, if_neg (by omega)]
def cpD (el : Nat → Int64) (P Q n c : Nat) : Nat → Int64 := fun x => if Q + c ≤ x ∧ x < Q + n then el (P + (x - Q)) else el x
theorem cpD_n (el : Nat → Int64) (P Q n : Nat) : cpD el P Q n n = el := by funext x; unfold cpD; rw [if_neg (by omega)]
theorem cpD_0 (el : Nat → Int64) (P Q n : Nat) : cpD el P Q n 0 = va_cpy el el P Q n := rfl
theorem cpD_s {el : Nat → Int64} {P Q n c : Nat} (h : P < Q) (hc : 0 < c) (hn : c ≤ n) : vp_updL (cpD el P Q n c) (Q + (c - 1)) (cpD el P Q n c (P + (c - 1))) = cpD el P Q n (c - 1) := by
  have e : cpD el P Q n c (P + (c - 1)) = el (P + (c - 1)) := by unfold cpD; rw [if_neg (by omega)]
  rw [e]
  funext x; unfold vp_updL cpD
  by_cases h1 : x = Q + (c - 1)
  · subst h1; rw [if_pos rfl, if_pos (by omega)]; congr 1; omega
  · rw [if_neg h1]
    by_cases h2 : Q + c ≤ x ∧ x < Q + n
    · rw [if_pos h2, if_pos (by omega)]
    · rw [if_neg h2, if_neg (by omega)]
theorem cmp_has {hd sz : Nat → Int32} (hS : SI hd sz) {s : Nat} (hs : s < 8) {i : Int32} {n : Nat} (hn : n < 2147483648) (h : ¬ i < 0) : (sz s).toInt64 < i.toInt64 + (nI n).toInt64 ↔ sz s - nI n < i := by
  obtain ⟨e, hz⟩ := hS.z hs
  have h1 : (0 : Int) ≤ i.toInt := Int32.le_iff_toInt_le.mp (Int32.not_lt.mp h)
  have h2 : i.toInt < 2147483648 := Int32.toInt_lt i
  rw [Int64.lt_iff_toInt_lt, Int32.lt_iff_toInt_lt, e, Int64.toInt_add, Int32.toInt_toInt64, Int32.toInt_toInt64, Int32.toInt_toInt64, Int32.toInt_sub, nI_toInt (by omega), nI_toInt hn, Int.bmod_def, Int.bmod_def]
  omega
theorem m1_c (c : Nat) (h : 0 < c) : nI c - 1 = nI (c - 1) := pk_sub (a := c) (b := 1) h
theorem m1_d (c : Nat) : nI c + (-1) = nI c - 1 := (Int32.sub_eq_add_neg _ _).symm
theorem m1_0 {c : Nat} (hc : c < 2147483648) : nI c - 1 < 0 ↔ c = 0 := by
  constructor
  · intro h
    by_cases h0 : c = 0
    · exact h0
    · rw [m1_c c (by omega)] at h
      exact absurd h (nI_pos (by omega))
  · rintro rfl; decide
set_option maxRecDepth 20000 in
set_option maxHeartbeats 4000000 in
theorem c_X7_copy (l : Launch) (G : gT) (m : Nat) (A : Nat → Nat) (τ : tT) (y : Nat → Int32) (hd : Nat → Int32) (sz : Nat → Int32) (el : Nat → Int64) (p : Int32) (q : Int32) (i : Int32) (j : Int32) (n : Int32) (rr : Nat → Int32) (hS : SI hd sz) : WI l yX7_copy cX7_copy 7 (some .int) 10 0 0 G [.ref m, .int p, .int q, .int i, .int j, .int n] (wN G m A τ y ++ ([iC G (A 0) 8 hd, iC G (A 1) 8 sz, jC G (A 2) 1280 el, iC G (A 11) 8 rr])) (S := Unit) (fun r _ => r = if rcCopy hd sz p q i j n = 0 then 1 else (rcCopy hd sz p q i j n)) (fun _ => wN G m A τ y ++ ([iC G (A 0) 8 hd, iC G (A 1) 8 sz, jC G (A 2) 1280 (if rcCopy hd sz p q i j n = 0 then va_cpy el el (nx p * 160 + nx i) (nx q * 160 + nx j) (nx n) else el), iC G (A 11) 8 (rfI rr (rcCopy hd sz p q i j n))])) := by
  intro sz9
  refine start_W (by decide) (Nat.le_of_ble_eq_true rfl) (fun p9 e9 s9 m9 a9 b9 t9 c9 C => ?_)
  refine g_lv (lv' := [(0, .ref m), (1, .int p), (2, .int q), (3, .int i), (4, .int j), (5, .int n)]) rfl ?_
  refine g_iload_n (pc := 0) C dX7_copy_0 1 rfl ?_
  refine g_iconst (pc := 1) (v := 0) C dX7_copy_1 (by decide) ?_
  refine g_bipush (pc := 2) (v := 7) C dX7_copy_2 (by decide) ?_
  refine g_rdSI (pc := 4) (val := bI (0 ≤ p ∧ p ≤ 7)) (rest := []) C k_X7_within (c_X7_within l G p 0 7) ml_X7_88 rfl ⟨Nat.le_of_ble_eq_true rfl, Nat.le_of_ble_eq_true rfl⟩ rfl [] rfl rfl (Nat.le_of_ble_eq_true rfl) ⟨by decide, by decide⟩ dX7_copy_4 ?_
  refine g_ifb_eq (pc := 7) (tgt := 20) C dX7_copy_7 (by decide) (fun h7 => ?_) (fun h7 => ?_)
  · have hrf9 : rfRows hd p q = -1 := if_pos (Or.inl h7)
    refine g_aload_n (pc := 20) C dX7_copy_20 0 rfl ?_
    refine g_iconst (pc := 21) (v := (-1)) C dX7_copy_21 (by decide) ?_
    refine g_wrVI (pc := 22) (rest := []) (wr := [iC G (A 0) 8 hd, iC G (A 1) 8 sz, jC G (A 2) 1280 el]) C (fun _ => wN G m A τ y ++ ([iC G (A 0) 8 hd, iC G (A 1) 8 sz, jC G (A 2) 1280 el, iC G (A 11) 8 (rfI rr (-1))])) rfl k_X7_no (c_X7_no l G m A τ y rr (-1) (by first | assumption | omega | decide)) ml_X7_81 rfl ⟨Nat.le_of_ble_eq_true rfl, Nat.le_of_ble_eq_true rfl⟩ rfl [0, 1, 2, 3, 4, 5, 6, 7, 8, 12] [9, 10, 11] [3, 4, 5, 6, 7, 8, 9, 10, 11, 0, 1, 2, 12] rfl (by decide) rfl (by decide) (by decide) (by decide) (fun _ => rfl) 0 rfl rfl rfl rfl (Nat.le_of_ble_eq_true rfl) ⟨by decide, by decide⟩ dX7_copy_22 (fun r22 _ e22 => ?_)
    subst e22
    exact g_retIW (pc := 25) C rfl rfl () (rfl) (by have e9 : rcCopy hd sz p q i j n = (-1) := (by first | (simp [rcCopy, *]; done) | (grind [rcCopy])); rw [if_neg (by rw [e9] <;> (first | done | decide)), e9]) (by have e9 : rcCopy hd sz p q i j n = (-1) := (by first | (simp [rcCopy, *]; done) | (grind [rcCopy])); rw [e9] <;> (first | done | rfl | (rw [if_neg (by decide)] <;> (first | done | rfl)))) dX7_copy_25
  · obtain ⟨p8, hp8, rfl⟩ := in8_nI h7
    have ep8 : nx (nI p8) = p8 := nx_nI (by omega)
    refine g_iload_n (pc := 10) C dX7_copy_10 2 rfl ?_
    refine g_iconst (pc := 11) (v := 0) C dX7_copy_11 (by decide) ?_
    refine g_bipush (pc := 12) (v := 7) C dX7_copy_12 (by decide) ?_
    refine g_rdSI (pc := 14) (val := bI (0 ≤ q ∧ q ≤ 7)) (rest := []) C k_X7_within (c_X7_within l G q 0 7) ml_X7_88 rfl ⟨Nat.le_of_ble_eq_true rfl, Nat.le_of_ble_eq_true rfl⟩ rfl [] rfl rfl (Nat.le_of_ble_eq_true rfl) ⟨by decide, by decide⟩ dX7_copy_14 ?_
    refine g_ifb_ne (pc := 17) (tgt := 26) C dX7_copy_17 (by decide) (fun h17 => ?_) (fun h17 => ?_)
    · obtain ⟨q8, hq8, rfl⟩ := in8_nI h17
      have eq8 : nx (nI q8) = q8 := nx_nI (by omega)
      have key_26 : ∀ (n26 : Nat), 0 < n26 → GW p9 l e9 (rmh 10 0 0) s9 m9 a9 b9 t9 c9 (MQ b9 (va_Qi (fun r (_ : Unit) => r = if rcCopy hd sz (nI p8) (nI q8) i j n = 0 then 1 else (rcCopy hd sz (nI p8) (nI q8) i j n)) (BW G (wN G m A τ y ++ ([iC G (A 0) 8 hd, iC G (A 1) 8 sz, jC G (A 2) 1280 el, iC G (A 11) 8 rr])) sz9 (fun _ => wN G m A τ y ++ ([iC G (A 0) 8 hd, iC G (A 1) 8 sz, jC G (A 2) 1280 (if rcCopy hd sz (nI p8) (nI q8) i j n = 0 then va_cpy el el (nx (nI p8) * 160 + nx i) (nx (nI q8) * 160 + nx j) (nx n) else el), iC G (A 11) 8 (rfI rr (rcCopy hd sz (nI p8) (nI q8) i j n))]))) (va_A (wN G m A τ y ++ ([iC G (A 0) 8 hd, iC G (A 1) 8 sz, jC G (A 2) 1280 el, iC G (A 11) 8 rr])) sz9)) a9 s9 0 0 (va_A (wN G m A τ y ++ ([iC G (A 0) 8 hd, iC G (A 1) 8 sz, jC G (A 2) 1280 el, iC G (A 11) 8 rr])) sz9)) G (va_A (wN G m A τ y ++ ([iC G (A 0) 8 hd, iC G (A 1) 8 sz, jC G (A 2) 1280 el, iC G (A 11) 8 rr])) sz9) true 7 0 0 (wN G m A τ y ++ ([iC G (A 0) 8 hd, iC G (A 1) 8 sz, jC G (A 2) 1280 el, iC G (A 11) 8 rr])) [(0, .ref m), (1, .int (nI p8)), (2, .int (nI q8)), (3, .int i), (4, .int j), (5, .int n)] 26 [] := by
        intro n26
        induction n26 with
        | zero => intro  hn26; exact absurd hn26 (Nat.not_lt_zero _)
        | succ n26 ih26 =>
          intro  hn26
          have key_98 : ∀ (h2 : ¬ ((0 ≤ hd p8 ∧ hd p8 < 100) ∨ (0 ≤ hd q8 ∧ hd q8 < 100))) (h3 : ¬ hd p8 < 100 ∧ ¬ hd q8 < 100 → hd p8 = hd q8), GW p9 l e9 (rmh 10 0 0) s9 m9 a9 b9 t9 c9 (MQ b9 (va_Qi (fun r (_ : Unit) => r = if rcCopy hd sz (nI p8) (nI q8) i j n = 0 then 1 else (rcCopy hd sz (nI p8) (nI q8) i j n)) (BW G (wN G m A τ y ++ ([iC G (A 0) 8 hd, iC G (A 1) 8 sz, jC G (A 2) 1280 el, iC G (A 11) 8 rr])) sz9 (fun _ => wN G m A τ y ++ ([iC G (A 0) 8 hd, iC G (A 1) 8 sz, jC G (A 2) 1280 (if rcCopy hd sz (nI p8) (nI q8) i j n = 0 then va_cpy el el (nx (nI p8) * 160 + nx i) (nx (nI q8) * 160 + nx j) (nx n) else el), iC G (A 11) 8 (rfI rr (rcCopy hd sz (nI p8) (nI q8) i j n))]))) (va_A (wN G m A τ y ++ ([iC G (A 0) 8 hd, iC G (A 1) 8 sz, jC G (A 2) 1280 el, iC G (A 11) 8 rr])) sz9)) a9 s9 0 0 (va_A (wN G m A τ y ++ ([iC G (A 0) 8 hd, iC G (A 1) 8 sz, jC G (A 2) 1280 el, iC G (A 11) 8 rr])) sz9)) G (va_A (wN G m A τ y ++ ([iC G (A 0) 8 hd, iC G (A 1) 8 sz, jC G (A 2) 1280 el, iC G (A 11) 8 rr])) sz9) true 7 0 0 (wN G m A τ y ++ ([iC G (A 0) 8 hd, iC G (A 1) 8 sz, jC G (A 2) 1280 el, iC G (A 11) 8 rr])) [(0, .ref m), (1, .int (nI p8)), (2, .int (nI q8)), (3, .int i), (4, .int j), (5, .int n)] 98 [] := by
            intro h2 h3
            refine g_aload_n (pc := 98) C dX7_copy_98 0 rfl ?_
            refine g_get (pc := 99) (T := TX7) (N := 33) (v := .ref (A 0)) C ib_X7 0 rfl rfl 0 (by decide) mf_X7_7 rfl rfl rfl dX7_copy_99 ?_
            refine g_iload_n (pc := 102) C dX7_copy_102 1 rfl ?_
            refine g_iald (pc := 103) (v := hd p8) C 9 rfl p8 (rfl) ⟨by omega, by decide⟩ (rfl) dX7_copy_103 ?_
            refine g_if_lt (pc := 104) (tgt := 116) C dX7_copy_104 (by decide) (fun h104 => ?_) (fun h104 => ?_)
            · have hrf9 : rfRows hd (nI p8) (nI q8) = -3 := (by rw [rf_v hS hp8 hq8]; grind)
              refine g_aload_n (pc := 116) C dX7_copy_116 0 rfl ?_
              refine g_bipush (pc := 117) (v := (-3)) C dX7_copy_117 (by decide) ?_
              refine g_wrVI (pc := 119) (rest := []) (wr := [iC G (A 0) 8 hd, iC G (A 1) 8 sz, jC G (A 2) 1280 el]) C (fun _ => wN G m A τ y ++ ([iC G (A 0) 8 hd, iC G (A 1) 8 sz, jC G (A 2) 1280 el, iC G (A 11) 8 (rfI rr (-3))])) rfl k_X7_no (c_X7_no l G m A τ y rr (-3) (by first | assumption | omega | decide)) ml_X7_81 rfl ⟨Nat.le_of_ble_eq_true rfl, Nat.le_of_ble_eq_true rfl⟩ rfl [0, 1, 2, 3, 4, 5, 6, 7, 8, 12] [9, 10, 11] [3, 4, 5, 6, 7, 8, 9, 10, 11, 0, 1, 2, 12] rfl (by decide) rfl (by decide) (by decide) (by decide) (fun _ => rfl) 0 rfl rfl rfl rfl (Nat.le_of_ble_eq_true rfl) ⟨by decide, by decide⟩ dX7_copy_119 (fun r119 _ e119 => ?_)
              subst e119
              exact g_retIW (pc := 122) C rfl rfl () (rfl) (by have e9 : rcCopy hd sz (nI p8) (nI q8) i j n = (-3) := (by first | (simp [rcCopy, *]; done) | (grind [rcCopy])); rw [if_neg (by rw [e9] <;> (first | done | decide)), e9]) (by have e9 : rcCopy hd sz (nI p8) (nI q8) i j n = (-3) := (by first | (simp [rcCopy, *]; done) | (grind [rcCopy])); rw [e9] <;> (first | done | rfl | (rw [if_neg (by decide)] <;> (first | done | rfl)))) dX7_copy_122
            · refine g_aload_n (pc := 107) C dX7_copy_107 0 rfl ?_
              refine g_get (pc := 108) (T := TX7) (N := 33) (v := .ref (A 0)) C ib_X7 0 rfl rfl 0 (by decide) mf_X7_7 rfl rfl rfl dX7_copy_108 ?_
              refine g_iload_n (pc := 111) C dX7_copy_111 2 rfl ?_
              refine g_iald (pc := 112) (v := hd q8) C 9 rfl q8 (rfl) ⟨by omega, by decide⟩ (rfl) dX7_copy_112 ?_
              refine g_if_ge (pc := 113) (tgt := 123) C dX7_copy_113 (by decide) (fun h113 => ?_) (fun h113 => ?_)
              · have hrf9 : rfRows hd (nI p8) (nI q8) = 0 := (by rw [rf_v hS hp8 hq8]; grind)
                have hzp := (hS.z hp8).2; have hzq := (hS.z hq8).2
                refine g_iload (pc := 123) C dX7_copy_123 5 rfl ?_
                refine g_if_ge (pc := 125) (tgt := 135) C dX7_copy_125 (by decide) (fun h125 => ?_) (fun h125 => ?_)
                · obtain ⟨n8, hn8, rfl⟩ := nI_of (Int32.not_lt.mpr h125)
                  have en8 : nx (nI n8) = n8 := nx_nI (by omega)
                  refine g_iload_n (pc := 135) C dX7_copy_135 3 rfl ?_
                  refine g_if_lt (pc := 136) (tgt := 179) C dX7_copy_136 (by decide) (fun h136 => ?_) (fun h136 => ?_)
                  · refine g_aload_n (pc := 179) C dX7_copy_179 0 rfl ?_
                    refine g_bipush (pc := 180) (v := (-5)) C dX7_copy_180 (by decide) ?_
                    refine g_wrVI (pc := 182) (rest := []) (wr := [iC G (A 0) 8 hd, iC G (A 1) 8 sz, jC G (A 2) 1280 el]) C (fun _ => wN G m A τ y ++ ([iC G (A 0) 8 hd, iC G (A 1) 8 sz, jC G (A 2) 1280 el, iC G (A 11) 8 (rfI rr (-5))])) rfl k_X7_no (c_X7_no l G m A τ y rr (-5) (by first | assumption | omega | decide)) ml_X7_81 rfl ⟨Nat.le_of_ble_eq_true rfl, Nat.le_of_ble_eq_true rfl⟩ rfl [0, 1, 2, 3, 4, 5, 6, 7, 8, 12] [9, 10, 11] [3, 4, 5, 6, 7, 8, 9, 10, 11, 0, 1, 2, 12] rfl (by decide) rfl (by decide) (by decide) (by decide) (fun _ => rfl) 0 rfl rfl rfl rfl (Nat.le_of_ble_eq_true rfl) ⟨by decide, by decide⟩ dX7_copy_182 (fun r182 _ e182 => ?_)
                    subst e182
                    exact g_retIW (pc := 185) C rfl rfl () (rfl) (by have e9 : rcCopy hd sz (nI p8) (nI q8) i j (nI n8) = (-5) := (by first | (simp [rcCopy, *]; done) | (grind [rcCopy])); rw [if_neg (by rw [e9] <;> (first | done | decide)), e9]) (by have e9 : rcCopy hd sz (nI p8) (nI q8) i j (nI n8) = (-5) := (by first | (simp [rcCopy, *]; done) | (grind [rcCopy])); rw [e9] <;> (first | done | rfl | (rw [if_neg (by decide)] <;> (first | done | rfl)))) dX7_copy_185
                  · refine g_iload (pc := 139) C dX7_copy_139 4 rfl ?_
                    refine g_if_lt (pc := 141) (tgt := 179) C dX7_copy_141 (by decide) (fun h141 => ?_) (fun h141 => ?_)
                    · refine g_aload_n (pc := 179) C dX7_copy_179 0 rfl ?_
                      refine g_bipush (pc := 180) (v := (-5)) C dX7_copy_180 (by decide) ?_
                      refine g_wrVI (pc := 182) (rest := []) (wr := [iC G (A 0) 8 hd, iC G (A 1) 8 sz, jC G (A 2) 1280 el]) C (fun _ => wN G m A τ y ++ ([iC G (A 0) 8 hd, iC G (A 1) 8 sz, jC G (A 2) 1280 el, iC G (A 11) 8 (rfI rr (-5))])) rfl k_X7_no (c_X7_no l G m A τ y rr (-5) (by first | assumption | omega | decide)) ml_X7_81 rfl ⟨Nat.le_of_ble_eq_true rfl, Nat.le_of_ble_eq_true rfl⟩ rfl [0, 1, 2, 3, 4, 5, 6, 7, 8, 12] [9, 10, 11] [3, 4, 5, 6, 7, 8, 9, 10, 11, 0, 1, 2, 12] rfl (by decide) rfl (by decide) (by decide) (by decide) (fun _ => rfl) 0 rfl rfl rfl rfl (Nat.le_of_ble_eq_true rfl) ⟨by decide, by decide⟩ dX7_copy_182 (fun r182 _ e182 => ?_)
                      subst e182
                      exact g_retIW (pc := 185) C rfl rfl () (rfl) (by have e9 : rcCopy hd sz (nI p8) (nI q8) i j (nI n8) = (-5) := (by first | (simp [rcCopy, *]; done) | (grind [rcCopy])); rw [if_neg (by rw [e9] <;> (first | done | decide)), e9]) (by have e9 : rcCopy hd sz (nI p8) (nI q8) i j (nI n8) = (-5) := (by first | (simp [rcCopy, *]; done) | (grind [rcCopy])); rw [e9] <;> (first | done | rfl | (rw [if_neg (by decide)] <;> (first | done | rfl)))) dX7_copy_185
                    · refine g_iload_n (pc := 144) C dX7_copy_144 3 rfl ?_
                      refine g_i2l (pc := 145) (v := i.toInt64) C dX7_copy_145 rfl ?_
                      refine g_iload (pc := 146) C dX7_copy_146 5 rfl ?_
                      refine g_i2l (pc := 148) (v := (nI n8).toInt64) C dX7_copy_148 rfl ?_
                      refine g_ladd (pc := 149) C dX7_copy_149 ?_
                      refine g_aload_n (pc := 150) C dX7_copy_150 0 rfl ?_
                      refine g_get (pc := 151) (T := TX7) (N := 33) (v := .ref (A 1)) C ib_X7 0 rfl rfl 1 (by decide) mf_X7_13 rfl rfl rfl dX7_copy_151 ?_
                      refine g_iload_n (pc := 154) C dX7_copy_154 1 rfl ?_
                      refine g_iald (pc := 155) (v := sz p8) C 10 rfl p8 (rfl) ⟨by omega, by decide⟩ (rfl) dX7_copy_155 ?_
                      refine g_i2l (pc := 156) (v := (sz p8).toInt64) C dX7_copy_156 rfl ?_
                      refine g_lcmp (pc := 157) C dX7_copy_157 ?_
                      refine g_if_gt (pc := 158) (tgt := 179) C dX7_copy_158 (by decide) (fun h158 => ?_) (fun h158 => ?_)
                      · have hpi : sz p8 - nI n8 < i := (cmp_has hS hp8 hn8 h136).mp ((lg_cmp_gt _ _).mp h158)
                        refine g_aload_n (pc := 179) C dX7_copy_179 0 rfl ?_
                        refine g_bipush (pc := 180) (v := (-5)) C dX7_copy_180 (by decide) ?_
                        refine g_wrVI (pc := 182) (rest := []) (wr := [iC G (A 0) 8 hd, iC G (A 1) 8 sz, jC G (A 2) 1280 el]) C (fun _ => wN G m A τ y ++ ([iC G (A 0) 8 hd, iC G (A 1) 8 sz, jC G (A 2) 1280 el, iC G (A 11) 8 (rfI rr (-5))])) rfl k_X7_no (c_X7_no l G m A τ y rr (-5) (by first | assumption | omega | decide)) ml_X7_81 rfl ⟨Nat.le_of_ble_eq_true rfl, Nat.le_of_ble_eq_true rfl⟩ rfl [0, 1, 2, 3, 4, 5, 6, 7, 8, 12] [9, 10, 11] [3, 4, 5, 6, 7, 8, 9, 10, 11, 0, 1, 2, 12] rfl (by decide) rfl (by decide) (by decide) (by decide) (fun _ => rfl) 0 rfl rfl rfl rfl (Nat.le_of_ble_eq_true rfl) ⟨by decide, by decide⟩ dX7_copy_182 (fun r182 _ e182 => ?_)
                        subst e182
                        exact g_retIW (pc := 185) C rfl rfl () (rfl) (by have e9 : rcCopy hd sz (nI p8) (nI q8) i j (nI n8) = (-5) := (by first | (simp [rcCopy, *]; done) | (grind [rcCopy])); rw [if_neg (by rw [e9] <;> (first | done | decide)), e9]) (by have e9 : rcCopy hd sz (nI p8) (nI q8) i j (nI n8) = (-5) := (by first | (simp [rcCopy, *]; done) | (grind [rcCopy])); rw [e9] <;> (first | done | rfl | (rw [if_neg (by decide)] <;> (first | done | rfl)))) dX7_copy_185
                      · have hpi : ¬ sz p8 - nI n8 < i := fun z => h158 ((lg_cmp_gt _ _).mpr ((cmp_has hS hp8 hn8 h136).mpr z))
                        refine g_iload (pc := 161) C dX7_copy_161 4 rfl ?_
                        refine g_i2l (pc := 163) (v := j.toInt64) C dX7_copy_163 rfl ?_
                        refine g_iload (pc := 164) C dX7_copy_164 5 rfl ?_
                        refine g_i2l (pc := 166) (v := (nI n8).toInt64) C dX7_copy_166 rfl ?_
                        refine g_ladd (pc := 167) C dX7_copy_167 ?_
                        refine g_aload_n (pc := 168) C dX7_copy_168 0 rfl ?_
                        refine g_get (pc := 169) (T := TX7) (N := 33) (v := .ref (A 1)) C ib_X7 0 rfl rfl 1 (by decide) mf_X7_13 rfl rfl rfl dX7_copy_169 ?_
                        refine g_iload_n (pc := 172) C dX7_copy_172 2 rfl ?_
                        refine g_iald (pc := 173) (v := sz q8) C 10 rfl q8 (rfl) ⟨by omega, by decide⟩ (rfl) dX7_copy_173 ?_
                        refine g_i2l (pc := 174) (v := (sz q8).toInt64) C dX7_copy_174 rfl ?_
                        refine g_lcmp (pc := 175) C dX7_copy_175 ?_
                        refine g_if_le (pc := 176) (tgt := 186) C dX7_copy_176 (by decide) (fun h176 => ?_) (fun h176 => ?_)
                        · have hqj : ¬ sz q8 - nI n8 < j := fun z => Int64.not_le.mpr ((cmp_has hS hq8 hn8 h141).mpr z) ((lg_cmp_le _ _).mp h176)
                          obtain ⟨i8, hi8, rfl⟩ := has_nI hS hp8 hn8 ⟨h136, hpi⟩
                          have ei8 : nx (nI i8) = i8 := nx_nI (by omega)
                          obtain ⟨j8, hj8, rfl⟩ := has_nI hS hq8 hn8 ⟨h141, hqj⟩
                          have ej8 : nx (nI j8) = j8 := nx_nI (by omega)
                          have hpq : p8 = q8 ∨ p8 < q8 ∨ q8 < p8 := by omega
                          refine g_iload_n (pc := 186) C dX7_copy_186 1 rfl ?_
                          refine g_iload_n (pc := 187) C dX7_copy_187 2 rfl ?_
                          refine g_icmpN_ne (pc := 188) (i := p8) (j := q8) (tgt := 248) C dX7_copy_188 (by decide) ⟨by omega, by omega⟩ (fun h188 => ?_) (fun h188 => ?_)
                          · refine g_iconst (pc := 248) (v := 0) C dX7_copy_248 (by decide) ?_
                            refine g_istore (pc := 249) (lv' := [(6, .int 0), (0, .ref m), (1, .int (nI p8)), (2, .int (nI q8)), (3, .int (nI i8)), (4, .int (nI j8)), (5, .int (nI n8))]) C dX7_copy_249 (by decide) rfl ?_
                            have key_251 : ∀ (n251 : Nat) (k : Nat) (hk : k ≤ n8), n8 - k < n251 → GW p9 l e9 (rmh 10 0 0) s9 m9 a9 b9 t9 c9 (MQ b9 (va_Qi (fun r (_ : Unit) => r = if rcCopy hd sz (nI p8) (nI q8) (nI i8) (nI j8) (nI n8) = 0 then 1 else (rcCopy hd sz (nI p8) (nI q8) (nI i8) (nI j8) (nI n8))) (BW G (wN G m A τ y ++ ([iC G (A 0) 8 hd, iC G (A 1) 8 sz, jC G (A 2) 1280 el, iC G (A 11) 8 rr])) sz9 (fun _ => wN G m A τ y ++ ([iC G (A 0) 8 hd, iC G (A 1) 8 sz, jC G (A 2) 1280 (if rcCopy hd sz (nI p8) (nI q8) (nI i8) (nI j8) (nI n8) = 0 then va_cpy el el (nx (nI p8) * 160 + nx (nI i8)) (nx (nI q8) * 160 + nx (nI j8)) (nx (nI n8)) else el), iC G (A 11) 8 (rfI rr (rcCopy hd sz (nI p8) (nI q8) (nI i8) (nI j8) (nI n8)))]))) (va_A (wN G m A τ y ++ ([iC G (A 0) 8 hd, iC G (A 1) 8 sz, jC G (A 2) 1280 el, iC G (A 11) 8 rr])) sz9)) a9 s9 0 0 (va_A (wN G m A τ y ++ ([iC G (A 0) 8 hd, iC G (A 1) 8 sz, jC G (A 2) 1280 el, iC G (A 11) 8 rr])) sz9)) G (va_A (wN G m A τ y ++ ([iC G (A 0) 8 hd, iC G (A 1) 8 sz, jC G (A 2) 1280 el, iC G (A 11) 8 rr])) sz9) true 7 0 0 (wN G m A τ y ++ ([iC G (A 0) 8 hd, iC G (A 1) 8 sz, jC G (A 2) 1280 (va_cpy el el (160 * p8 + i8) (160 * q8 + j8) k), iC G (A 11) 8 rr])) [(0, .ref m), (1, .int (nI p8)), (2, .int (nI q8)), (3, .int (nI i8)), (4, .int (nI j8)), (5, .int (nI n8)), (6, .int (nI k))] 251 [] := by
                              intro n251
                              induction n251 with
                              | zero => intro k hk hn251; exact absurd hn251 (Nat.not_lt_zero _)
                              | succ n251 ih251 =>
                                intro k hk hn251
                                refine g_iload (pc := 251) C dX7_copy_251 6 rfl ?_
                                refine g_iload (pc := 253) C dX7_copy_253 5 rfl ?_
                                refine g_icmpN_ge (pc := 255) (i := k) (j := n8) (tgt := 295) C dX7_copy_255 (by decide) ⟨by omega, by omega⟩ (fun h255 => ?_) (fun h255 => ?_)
                                · refine g_iconst (pc := 295) (v := 1) C dX7_copy_295 (by decide) ?_
                                  exact g_retIW (pc := 296) C rfl rfl () (rfl) (by have e9 : rcCopy hd sz (nI p8) (nI q8) (nI i8) (nI j8) (nI n8) = 0 := (by first | (simp [rcCopy, *]; done) | (grind [rcCopy])); rw [if_pos e9] <;> (rfl)) (by have e9 : rcCopy hd sz (nI p8) (nI q8) (nI i8) (nI j8) (nI n8) = 0 := (by first | (simp [rcCopy, *]; done) | (grind [rcCopy])); rw [e9, rfI_0] <;> (rw [ep8, eq8, ei8, ej8, en8, show k = n8 from by omega, Nat.mul_comm p8 160, Nat.mul_comm q8 160] <;> rfl)) dX7_copy_296
                                · refine g_aload_n (pc := 258) C dX7_copy_258 0 rfl ?_
                                  refine g_get (pc := 259) (T := TX7) (N := 33) (v := .ref (A 2)) C ib_X7 0 rfl rfl 2 (by decide) mf_X7_16 rfl rfl rfl dX7_copy_259 ?_
                                  refine g_sipush (pc := 262) (v := 160) C dX7_copy_262 (by decide) ?_
                                  refine g_iload_n (pc := 265) C dX7_copy_265 2 rfl ?_
                                  refine g_imulN (pc := 266) (i := 160) (j := q8) C dX7_copy_266 ?_
                                  refine g_iload (pc := 267) C dX7_copy_267 4 rfl ?_
                                  refine g_iaddN (pc := 269) (i := 160 * q8) (j := j8) C dX7_copy_269 ?_
                                  refine g_iload (pc := 270) C dX7_copy_270 6 rfl ?_
                                  refine g_iaddN (pc := 272) (i := (160 * q8) + j8) (j := k) C dX7_copy_272 ?_
                                  refine g_aload_n (pc := 273) C dX7_copy_273 0 rfl ?_
                                  refine g_get (pc := 274) (T := TX7) (N := 33) (v := .ref (A 2)) C ib_X7 0 rfl rfl 2 (by decide) mf_X7_16 rfl rfl rfl dX7_copy_274 ?_
                                  refine g_sipush (pc := 277) (v := 160) C dX7_copy_277 (by decide) ?_
                                  refine g_iload_n (pc := 280) C dX7_copy_280 1 rfl ?_
                                  refine g_imulN (pc := 281) (i := 160) (j := p8) C dX7_copy_281 ?_
                                  refine g_iload_n (pc := 282) C dX7_copy_282 3 rfl ?_
                                  refine g_iaddN (pc := 283) (i := 160 * p8) (j := i8) C dX7_copy_283 ?_
                                  refine g_iload (pc := 284) C dX7_copy_284 6 rfl ?_
                                  refine g_iaddN (pc := 286) (i := (160 * p8) + i8) (j := k) C dX7_copy_286 ?_
                                  refine g_lald (pc := 287) (v := (va_cpy el el (160 * p8 + i8) (160 * q8 + j8) k) (((160 * p8) + i8) + k)) C 11 rfl (((160 * p8) + i8) + k) (rfl) ⟨by omega, by decide⟩ (rfl) dX7_copy_287 ?_
                                  refine g_last (pc := 288) (ws' := wN G m A τ y ++ ([iC G (A 0) 8 hd, iC G (A 1) 8 sz, jC G (A 2) 1280 (vp_updL (va_cpy el el (160 * p8 + i8) (160 * q8 + j8) k) (((160 * q8) + j8) + k) ((va_cpy el el (160 * p8 + i8) (160 * q8 + j8) k) (((160 * p8) + i8) + k))), iC G (A 11) 8 rr])) C rfl 11 rfl (((160 * q8) + j8) + k) (rfl) ⟨by omega, by decide⟩ dX7_copy_288 rfl ?_
                                  refine g_iinc (pc := 289) (v := nI (k + 1)) (lv' := [(6, .int (nI (k + 1))), (0, .ref m), (1, .int (nI p8)), (2, .int (nI q8)), (3, .int (nI i8)), (4, .int (nI j8)), (5, .int (nI n8))]) C dX7_copy_289 6 rfl (nI_1 k) (by decide) rfl ?_
                                  refine g_goto (pc := 292) (tgt := 251) C dX7_copy_292 (by decide) ?_
                                  refine g_ws (ws' := wN G m A τ y ++ ([iC G (A 0) 8 hd, iC G (A 1) 8 sz, jC G (A 2) 1280 (va_cpy el el (160 * p8 + i8) (160 * q8 + j8) (k + 1)), iC G (A 11) 8 rr])) (by rw [← cpa_s (by omega)]) ?_
                                  refine g_sub (lv' := [(0, .ref m), (1, .int (nI p8)), (2, .int (nI q8)), (3, .int (nI i8)), (4, .int (nI j8)), (5, .int (nI n8)), (6, .int (nI (k + 1)))]) [1, 2, 3, 4, 5, 6, 0] rfl ?_
                                  exact ih251 (k + 1) (by first | assumption | omega | decide) (by omega)
                            refine g_ws (ws' := wN G m A τ y ++ ([iC G (A 0) 8 hd, iC G (A 1) 8 sz, jC G (A 2) 1280 (va_cpy el el (160 * p8 + i8) (160 * q8 + j8) 0), iC G (A 11) 8 rr])) (by rw [show va_cpy el el (160 * p8 + i8) (160 * q8 + j8) 0 = el from by funext x9; exact if_neg (by omega)]) ?_
                            refine g_sub (lv' := [(0, .ref m), (1, .int (nI p8)), (2, .int (nI q8)), (3, .int (nI i8)), (4, .int (nI j8)), (5, .int (nI n8)), (6, .int (nI 0))]) [1, 2, 3, 4, 5, 6, 0] rfl ?_
                            exact key_251 _ 0 (by first | assumption | omega | decide) (Nat.lt_succ_self _)
                          · refine g_iload_n (pc := 191) C dX7_copy_191 3 rfl ?_
                            refine g_iload (pc := 192) C dX7_copy_192 4 rfl ?_
                            refine g_icmpN_ge (pc := 194) (i := i8) (j := j8) (tgt := 248) C dX7_copy_194 (by decide) ⟨by omega, by omega⟩ (fun h194 => ?_) (fun h194 => ?_)
                            · refine g_iconst (pc := 248) (v := 0) C dX7_copy_248 (by decide) ?_
                              refine g_istore (pc := 249) (lv' := [(6, .int 0), (0, .ref m), (1, .int (nI p8)), (2, .int (nI q8)), (3, .int (nI i8)), (4, .int (nI j8)), (5, .int (nI n8))]) C dX7_copy_249 (by decide) rfl ?_
                              have key_251 : ∀ (n251 : Nat) (k : Nat) (hk : k ≤ n8), n8 - k < n251 → GW p9 l e9 (rmh 10 0 0) s9 m9 a9 b9 t9 c9 (MQ b9 (va_Qi (fun r (_ : Unit) => r = if rcCopy hd sz (nI p8) (nI q8) (nI i8) (nI j8) (nI n8) = 0 then 1 else (rcCopy hd sz (nI p8) (nI q8) (nI i8) (nI j8) (nI n8))) (BW G (wN G m A τ y ++ ([iC G (A 0) 8 hd, iC G (A 1) 8 sz, jC G (A 2) 1280 el, iC G (A 11) 8 rr])) sz9 (fun _ => wN G m A τ y ++ ([iC G (A 0) 8 hd, iC G (A 1) 8 sz, jC G (A 2) 1280 (if rcCopy hd sz (nI p8) (nI q8) (nI i8) (nI j8) (nI n8) = 0 then va_cpy el el (nx (nI p8) * 160 + nx (nI i8)) (nx (nI q8) * 160 + nx (nI j8)) (nx (nI n8)) else el), iC G (A 11) 8 (rfI rr (rcCopy hd sz (nI p8) (nI q8) (nI i8) (nI j8) (nI n8)))]))) (va_A (wN G m A τ y ++ ([iC G (A 0) 8 hd, iC G (A 1) 8 sz, jC G (A 2) 1280 el, iC G (A 11) 8 rr])) sz9)) a9 s9 0 0 (va_A (wN G m A τ y ++ ([iC G (A 0) 8 hd, iC G (A 1) 8 sz, jC G (A 2) 1280 el, iC G (A 11) 8 rr])) sz9)) G (va_A (wN G m A τ y ++ ([iC G (A 0) 8 hd, iC G (A 1) 8 sz, jC G (A 2) 1280 el, iC G (A 11) 8 rr])) sz9) true 7 0 0 (wN G m A τ y ++ ([iC G (A 0) 8 hd, iC G (A 1) 8 sz, jC G (A 2) 1280 (va_cpy el el (160 * p8 + i8) (160 * q8 + j8) k), iC G (A 11) 8 rr])) [(0, .ref m), (1, .int (nI p8)), (2, .int (nI q8)), (3, .int (nI i8)), (4, .int (nI j8)), (5, .int (nI n8)), (6, .int (nI k))] 251 [] := by
                                intro n251
                                induction n251 with
                                | zero => intro k hk hn251; exact absurd hn251 (Nat.not_lt_zero _)
                                | succ n251 ih251 =>
                                  intro k hk hn251
                                  refine g_iload (pc := 251) C dX7_copy_251 6 rfl ?_
                                  refine g_iload (pc := 253) C dX7_copy_253 5 rfl ?_
                                  refine g_icmpN_ge (pc := 255) (i := k) (j := n8) (tgt := 295) C dX7_copy_255 (by decide) ⟨by omega, by omega⟩ (fun h255 => ?_) (fun h255 => ?_)
                                  · refine g_iconst (pc := 295) (v := 1) C dX7_copy_295 (by decide) ?_
                                    exact g_retIW (pc := 296) C rfl rfl () (rfl) (by have e9 : rcCopy hd sz (nI p8) (nI q8) (nI i8) (nI j8) (nI n8) = 0 := (by first | (simp [rcCopy, *]; done) | (grind [rcCopy])); rw [if_pos e9] <;> (rfl)) (by have e9 : rcCopy hd sz (nI p8) (nI q8) (nI i8) (nI j8) (nI n8) = 0 := (by first | (simp [rcCopy, *]; done) | (grind [rcCopy])); rw [e9, rfI_0] <;> (rw [ep8, eq8, ei8, ej8, en8, show k = n8 from by omega, Nat.mul_comm p8 160, Nat.mul_comm q8 160] <;> rfl)) dX7_copy_296
                                  · refine g_aload_n (pc := 258) C dX7_copy_258 0 rfl ?_
                                    refine g_get (pc := 259) (T := TX7) (N := 33) (v := .ref (A 2)) C ib_X7 0 rfl rfl 2 (by decide) mf_X7_16 rfl rfl rfl dX7_copy_259 ?_
                                    refine g_sipush (pc := 262) (v := 160) C dX7_copy_262 (by decide) ?_
                                    refine g_iload_n (pc := 265) C dX7_copy_265 2 rfl ?_
                                    refine g_imulN (pc := 266) (i := 160) (j := q8) C dX7_copy_266 ?_
                                    refine g_iload (pc := 267) C dX7_copy_267 4 rfl ?_
                                    refine g_iaddN (pc := 269) (i := 160 * q8) (j := j8) C dX7_copy_269 ?_
                                    refine g_iload (pc := 270) C dX7_copy_270 6 rfl ?_
                                    refine g_iaddN (pc := 272) (i := (160 * q8) + j8) (j := k) C dX7_copy_272 ?_
                                    refine g_aload_n (pc := 273) C dX7_copy_273 0 rfl ?_
                                    refine g_get (pc := 274) (T := TX7) (N := 33) (v := .ref (A 2)) C ib_X7 0 rfl rfl 2 (by decide) mf_X7_16 rfl rfl rfl dX7_copy_274 ?_
                                    refine g_sipush (pc := 277) (v := 160) C dX7_copy_277 (by decide) ?_
                                    refine g_iload_n (pc := 280) C dX7_copy_280 1 rfl ?_
                                    refine g_imulN (pc := 281) (i := 160) (j := p8) C dX7_copy_281 ?_
                                    refine g_iload_n (pc := 282) C dX7_copy_282 3 rfl ?_
                                    refine g_iaddN (pc := 283) (i := 160 * p8) (j := i8) C dX7_copy_283 ?_
                                    refine g_iload (pc := 284) C dX7_copy_284 6 rfl ?_
                                    refine g_iaddN (pc := 286) (i := (160 * p8) + i8) (j := k) C dX7_copy_286 ?_
                                    refine g_lald (pc := 287) (v := (va_cpy el el (160 * p8 + i8) (160 * q8 + j8) k) (((160 * p8) + i8) + k)) C 11 rfl (((160 * p8) + i8) + k) (rfl) ⟨by omega, by decide⟩ (rfl) dX7_copy_287 ?_
                                    refine g_last (pc := 288) (ws' := wN G m A τ y ++ ([iC G (A 0) 8 hd, iC G (A 1) 8 sz, jC G (A 2) 1280 (vp_updL (va_cpy el el (160 * p8 + i8) (160 * q8 + j8) k) (((160 * q8) + j8) + k) ((va_cpy el el (160 * p8 + i8) (160 * q8 + j8) k) (((160 * p8) + i8) + k))), iC G (A 11) 8 rr])) C rfl 11 rfl (((160 * q8) + j8) + k) (rfl) ⟨by omega, by decide⟩ dX7_copy_288 rfl ?_
                                    refine g_iinc (pc := 289) (v := nI (k + 1)) (lv' := [(6, .int (nI (k + 1))), (0, .ref m), (1, .int (nI p8)), (2, .int (nI q8)), (3, .int (nI i8)), (4, .int (nI j8)), (5, .int (nI n8))]) C dX7_copy_289 6 rfl (nI_1 k) (by decide) rfl ?_
                                    refine g_goto (pc := 292) (tgt := 251) C dX7_copy_292 (by decide) ?_
                                    refine g_ws (ws' := wN G m A τ y ++ ([iC G (A 0) 8 hd, iC G (A 1) 8 sz, jC G (A 2) 1280 (va_cpy el el (160 * p8 + i8) (160 * q8 + j8) (k + 1)), iC G (A 11) 8 rr])) (by rw [← cpa_s (by omega)]) ?_
                                    refine g_sub (lv' := [(0, .ref m), (1, .int (nI p8)), (2, .int (nI q8)), (3, .int (nI i8)), (4, .int (nI j8)), (5, .int (nI n8)), (6, .int (nI (k + 1)))]) [1, 2, 3, 4, 5, 6, 0] rfl ?_
                                    exact ih251 (k + 1) (by first | assumption | omega | decide) (by omega)
                              refine g_ws (ws' := wN G m A τ y ++ ([iC G (A 0) 8 hd, iC G (A 1) 8 sz, jC G (A 2) 1280 (va_cpy el el (160 * p8 + i8) (160 * q8 + j8) 0), iC G (A 11) 8 rr])) (by rw [show va_cpy el el (160 * p8 + i8) (160 * q8 + j8) 0 = el from by funext x9; exact if_neg (by omega)]) ?_
                              refine g_sub (lv' := [(0, .ref m), (1, .int (nI p8)), (2, .int (nI q8)), (3, .int (nI i8)), (4, .int (nI j8)), (5, .int (nI n8)), (6, .int (nI 0))]) [1, 2, 3, 4, 5, 6, 0] rfl ?_
                              exact key_251 _ 0 (by first | assumption | omega | decide) (Nat.lt_succ_self _)
                            · refine g_iload (pc := 197) C dX7_copy_197 5 rfl ?_
                              refine g_iconst (pc := 199) (v := 1) C dX7_copy_199 (by decide) ?_
                              refine g_isub (pc := 200) C dX7_copy_200 ?_
                              refine g_istore (pc := 201) (lv' := [(6, .int ((nI n8) - 1)), (0, .ref m), (1, .int (nI p8)), (2, .int (nI q8)), (3, .int (nI i8)), (4, .int (nI j8)), (5, .int (nI n8))]) C dX7_copy_201 (by decide) rfl ?_
                              have key_203 : ∀ (n203 : Nat) (c : Nat) (hc : c ≤ n8), c < n203 → GW p9 l e9 (rmh 10 0 0) s9 m9 a9 b9 t9 c9 (MQ b9 (va_Qi (fun r (_ : Unit) => r = if rcCopy hd sz (nI p8) (nI q8) (nI i8) (nI j8) (nI n8) = 0 then 1 else (rcCopy hd sz (nI p8) (nI q8) (nI i8) (nI j8) (nI n8))) (BW G (wN G m A τ y ++ ([iC G (A 0) 8 hd, iC G (A 1) 8 sz, jC G (A 2) 1280 el, iC G (A 11) 8 rr])) sz9 (fun _ => wN G m A τ y ++ ([iC G (A 0) 8 hd, iC G (A 1) 8 sz, jC G (A 2) 1280 (if rcCopy hd sz (nI p8) (nI q8) (nI i8) (nI j8) (nI n8) = 0 then va_cpy el el (nx (nI p8) * 160 + nx (nI i8)) (nx (nI q8) * 160 + nx (nI j8)) (nx (nI n8)) else el), iC G (A 11) 8 (rfI rr (rcCopy hd sz (nI p8) (nI q8) (nI i8) (nI j8) (nI n8)))]))) (va_A (wN G m A τ y ++ ([iC G (A 0) 8 hd, iC G (A 1) 8 sz, jC G (A 2) 1280 el, iC G (A 11) 8 rr])) sz9)) a9 s9 0 0 (va_A (wN G m A τ y ++ ([iC G (A 0) 8 hd, iC G (A 1) 8 sz, jC G (A 2) 1280 el, iC G (A 11) 8 rr])) sz9)) G (va_A (wN G m A τ y ++ ([iC G (A 0) 8 hd, iC G (A 1) 8 sz, jC G (A 2) 1280 el, iC G (A 11) 8 rr])) sz9) true 7 0 0 (wN G m A τ y ++ ([iC G (A 0) 8 hd, iC G (A 1) 8 sz, jC G (A 2) 1280 (cpD el (160 * p8 + i8) (160 * q8 + j8) n8 c), iC G (A 11) 8 rr])) [(0, .ref m), (1, .int (nI p8)), (2, .int (nI q8)), (3, .int (nI i8)), (4, .int (nI j8)), (5, .int (nI n8)), (6, .int (nI c - 1))] 203 [] := by
                                intro n203
                                induction n203 with
                                | zero => intro c hc hn203; exact absurd hn203 (Nat.not_lt_zero _)
                                | succ n203 ih203 =>
                                  intro c hc hn203
                                  refine g_iload (pc := 203) C dX7_copy_203 6 rfl ?_
                                  refine g_if_lt (pc := 205) (tgt := 245) C dX7_copy_205 (by decide) (fun h205 => ?_) (fun h205 => ?_)
                                  · refine g_goto (pc := 245) (tgt := 295) C dX7_copy_245 (by decide) ?_
                                    refine g_iconst (pc := 295) (v := 1) C dX7_copy_295 (by decide) ?_
                                    exact g_retIW (pc := 296) C rfl rfl () (rfl) (by have e9 : rcCopy hd sz (nI p8) (nI q8) (nI i8) (nI j8) (nI n8) = 0 := (by first | (simp [rcCopy, *]; done) | (grind [rcCopy])); rw [if_pos e9] <;> (rfl)) (by have e9 : rcCopy hd sz (nI p8) (nI q8) (nI i8) (nI j8) (nI n8) = 0 := (by first | (simp [rcCopy, *]; done) | (grind [rcCopy])); rw [e9, rfI_0] <;> (rw [ep8, eq8, ei8, ej8, en8, show c = 0 from (m1_0 (by omega)).mp h205, Nat.mul_comm p8 160, Nat.mul_comm q8 160] <;> rfl)) dX7_copy_296
                                  · have hc0 : 0 < c := Nat.pos_of_ne_zero (fun z => h205 ((m1_0 (by omega)).mpr z))
                                    refine g_lv (lv' := [(0, .ref m), (1, .int (nI p8)), (2, .int (nI q8)), (3, .int (nI i8)), (4, .int (nI j8)), (5, .int (nI n8)), (6, .int (nI (c - 1)))]) (congrArg (fun z9 : Int32 => ([(0, .ref m), (1, .int (nI p8)), (2, .int (nI q8)), (3, .int (nI i8)), (4, .int (nI j8)), (5, .int (nI n8)), (6, .int z9)] : List (Nat × Value))) (m1_c c hc0)) ?_
                                    refine g_aload_n (pc := 208) C dX7_copy_208 0 rfl ?_
                                    refine g_get (pc := 209) (T := TX7) (N := 33) (v := .ref (A 2)) C ib_X7 0 rfl rfl 2 (by decide) mf_X7_16 rfl rfl rfl dX7_copy_209 ?_
                                    refine g_sipush (pc := 212) (v := 160) C dX7_copy_212 (by decide) ?_
                                    refine g_iload_n (pc := 215) C dX7_copy_215 2 rfl ?_
                                    refine g_imulN (pc := 216) (i := 160) (j := q8) C dX7_copy_216 ?_
                                    refine g_iload (pc := 217) C dX7_copy_217 4 rfl ?_
                                    refine g_iaddN (pc := 219) (i := 160 * q8) (j := j8) C dX7_copy_219 ?_
                                    refine g_iload (pc := 220) C dX7_copy_220 6 rfl ?_
                                    refine g_iaddN (pc := 222) (i := (160 * q8) + j8) (j := c - 1) C dX7_copy_222 ?_
                                    refine g_aload_n (pc := 223) C dX7_copy_223 0 rfl ?_
                                    refine g_get (pc := 224) (T := TX7) (N := 33) (v := .ref (A 2)) C ib_X7 0 rfl rfl 2 (by decide) mf_X7_16 rfl rfl rfl dX7_copy_224 ?_
                                    refine g_sipush (pc := 227) (v := 160) C dX7_copy_227 (by decide) ?_
                                    refine g_iload_n (pc := 230) C dX7_copy_230 1 rfl ?_
                                    refine g_imulN (pc := 231) (i := 160) (j := p8) C dX7_copy_231 ?_
                                    refine g_iload_n (pc := 232) C dX7_copy_232 3 rfl ?_
                                    refine g_iaddN (pc := 233) (i := 160 * p8) (j := i8) C dX7_copy_233 ?_
                                    refine g_iload (pc := 234) C dX7_copy_234 6 rfl ?_
                                    refine g_iaddN (pc := 236) (i := (160 * p8) + i8) (j := c - 1) C dX7_copy_236 ?_
                                    refine g_lald (pc := 237) (v := (cpD el (160 * p8 + i8) (160 * q8 + j8) n8 c) (((160 * p8) + i8) + (c - 1))) C 11 rfl (((160 * p8) + i8) + (c - 1)) (rfl) ⟨by omega, by decide⟩ (rfl) dX7_copy_237 ?_
                                    refine g_last (pc := 238) (ws' := wN G m A τ y ++ ([iC G (A 0) 8 hd, iC G (A 1) 8 sz, jC G (A 2) 1280 (vp_updL (cpD el (160 * p8 + i8) (160 * q8 + j8) n8 c) (((160 * q8) + j8) + (c - 1)) ((cpD el (160 * p8 + i8) (160 * q8 + j8) n8 c) (((160 * p8) + i8) + (c - 1)))), iC G (A 11) 8 rr])) C rfl 11 rfl (((160 * q8) + j8) + (c - 1)) (rfl) ⟨by omega, by decide⟩ dX7_copy_238 rfl ?_
                                    refine g_iinc (pc := 239) (v := (nI (c - 1)) + (-1)) (lv' := [(6, .int ((nI (c - 1)) + (-1))), (0, .ref m), (1, .int (nI p8)), (2, .int (nI q8)), (3, .int (nI i8)), (4, .int (nI j8)), (5, .int (nI n8))]) C dX7_copy_239 6 rfl rfl (by decide) rfl ?_
                                    refine g_goto (pc := 242) (tgt := 203) C dX7_copy_242 (by decide) ?_
                                    refine g_ws (ws' := wN G m A τ y ++ ([iC G (A 0) 8 hd, iC G (A 1) 8 sz, jC G (A 2) 1280 (cpD el (160 * p8 + i8) (160 * q8 + j8) n8 (c - 1)), iC G (A 11) 8 rr])) (by rw [← cpD_s (by omega) hc0 hc]) ?_
                                    refine g_sub (lv' := [(0, .ref m), (1, .int (nI p8)), (2, .int (nI q8)), (3, .int (nI i8)), (4, .int (nI j8)), (5, .int (nI n8)), (6, .int ((nI (c - 1)) + (-1)))]) [1, 2, 3, 4, 5, 6, 0] rfl ?_
                                    refine g_lv (lv' := [(0, .ref m), (1, .int (nI p8)), (2, .int (nI q8)), (3, .int (nI i8)), (4, .int (nI j8)), (5, .int (nI n8)), (6, .int (nI (c - 1) - 1))]) (by rw [m1_d]) ?_
                                    exact ih203 (c - 1) (by first | assumption | omega | decide) (by omega)
                              refine g_ws (ws' := wN G m A τ y ++ ([iC G (A 0) 8 hd, iC G (A 1) 8 sz, jC G (A 2) 1280 (cpD el (160 * p8 + i8) (160 * q8 + j8) n8 n8), iC G (A 11) 8 rr])) (by rw [cpD_n]) ?_
                              refine g_sub (lv' := [(0, .ref m), (1, .int (nI p8)), (2, .int (nI q8)), (3, .int (nI i8)), (4, .int (nI j8)), (5, .int (nI n8)), (6, .int (nI n8 - 1))]) [1, 2, 3, 4, 5, 6, 0] rfl ?_
                              exact key_203 _ n8 (by first | assumption | omega | decide) (Nat.lt_succ_self _)
                        · have hqj : sz q8 - nI n8 < j := (cmp_has hS hq8 hn8 h141).mp (Int64.not_le.mp (fun z => h176 ((lg_cmp_le _ _).mpr z)))
                          refine g_aload_n (pc := 179) C dX7_copy_179 0 rfl ?_
                          refine g_bipush (pc := 180) (v := (-5)) C dX7_copy_180 (by decide) ?_
                          refine g_wrVI (pc := 182) (rest := []) (wr := [iC G (A 0) 8 hd, iC G (A 1) 8 sz, jC G (A 2) 1280 el]) C (fun _ => wN G m A τ y ++ ([iC G (A 0) 8 hd, iC G (A 1) 8 sz, jC G (A 2) 1280 el, iC G (A 11) 8 (rfI rr (-5))])) rfl k_X7_no (c_X7_no l G m A τ y rr (-5) (by first | assumption | omega | decide)) ml_X7_81 rfl ⟨Nat.le_of_ble_eq_true rfl, Nat.le_of_ble_eq_true rfl⟩ rfl [0, 1, 2, 3, 4, 5, 6, 7, 8, 12] [9, 10, 11] [3, 4, 5, 6, 7, 8, 9, 10, 11, 0, 1, 2, 12] rfl (by decide) rfl (by decide) (by decide) (by decide) (fun _ => rfl) 0 rfl rfl rfl rfl (Nat.le_of_ble_eq_true rfl) ⟨by decide, by decide⟩ dX7_copy_182 (fun r182 _ e182 => ?_)
                          subst e182
                          exact g_retIW (pc := 185) C rfl rfl () (rfl) (by have e9 : rcCopy hd sz (nI p8) (nI q8) i j (nI n8) = (-5) := (by first | (simp [rcCopy, *]; done) | (grind [rcCopy])); rw [if_neg (by rw [e9] <;> (first | done | decide)), e9]) (by have e9 : rcCopy hd sz (nI p8) (nI q8) i j (nI n8) = (-5) := (by first | (simp [rcCopy, *]; done) | (grind [rcCopy])); rw [e9] <;> (first | done | rfl | (rw [if_neg (by decide)] <;> (first | done | rfl)))) dX7_copy_185
                · refine g_aload_n (pc := 128) C dX7_copy_128 0 rfl ?_
                  refine g_bipush (pc := 129) (v := (-4)) C dX7_copy_129 (by decide) ?_
                  refine g_wrVI (pc := 131) (rest := []) (wr := [iC G (A 0) 8 hd, iC G (A 1) 8 sz, jC G (A 2) 1280 el]) C (fun _ => wN G m A τ y ++ ([iC G (A 0) 8 hd, iC G (A 1) 8 sz, jC G (A 2) 1280 el, iC G (A 11) 8 (rfI rr (-4))])) rfl k_X7_no (c_X7_no l G m A τ y rr (-4) (by first | assumption | omega | decide)) ml_X7_81 rfl ⟨Nat.le_of_ble_eq_true rfl, Nat.le_of_ble_eq_true rfl⟩ rfl [0, 1, 2, 3, 4, 5, 6, 7, 8, 12] [9, 10, 11] [3, 4, 5, 6, 7, 8, 9, 10, 11, 0, 1, 2, 12] rfl (by decide) rfl (by decide) (by decide) (by decide) (fun _ => rfl) 0 rfl rfl rfl rfl (Nat.le_of_ble_eq_true rfl) ⟨by decide, by decide⟩ dX7_copy_131 (fun r131 _ e131 => ?_)
                  subst e131
                  exact g_retIW (pc := 134) C rfl rfl () (rfl) (by have e9 : rcCopy hd sz (nI p8) (nI q8) i j n = (-4) := (by first | (simp [rcCopy, *]; done) | (grind [rcCopy])); rw [if_neg (by rw [e9] <;> (first | done | decide)), e9]) (by have e9 : rcCopy hd sz (nI p8) (nI q8) i j n = (-4) := (by first | (simp [rcCopy, *]; done) | (grind [rcCopy])); rw [e9] <;> (first | done | rfl | (rw [if_neg (by decide)] <;> (first | done | rfl)))) dX7_copy_134
              · have hrf9 : rfRows hd (nI p8) (nI q8) = -3 := (by rw [rf_v hS hp8 hq8]; grind)
                refine g_aload_n (pc := 116) C dX7_copy_116 0 rfl ?_
                refine g_bipush (pc := 117) (v := (-3)) C dX7_copy_117 (by decide) ?_
                refine g_wrVI (pc := 119) (rest := []) (wr := [iC G (A 0) 8 hd, iC G (A 1) 8 sz, jC G (A 2) 1280 el]) C (fun _ => wN G m A τ y ++ ([iC G (A 0) 8 hd, iC G (A 1) 8 sz, jC G (A 2) 1280 el, iC G (A 11) 8 (rfI rr (-3))])) rfl k_X7_no (c_X7_no l G m A τ y rr (-3) (by first | assumption | omega | decide)) ml_X7_81 rfl ⟨Nat.le_of_ble_eq_true rfl, Nat.le_of_ble_eq_true rfl⟩ rfl [0, 1, 2, 3, 4, 5, 6, 7, 8, 12] [9, 10, 11] [3, 4, 5, 6, 7, 8, 9, 10, 11, 0, 1, 2, 12] rfl (by decide) rfl (by decide) (by decide) (by decide) (fun _ => rfl) 0 rfl rfl rfl rfl (Nat.le_of_ble_eq_true rfl) ⟨by decide, by decide⟩ dX7_copy_119 (fun r119 _ e119 => ?_)
                subst e119
                exact g_retIW (pc := 122) C rfl rfl () (rfl) (by have e9 : rcCopy hd sz (nI p8) (nI q8) i j n = (-3) := (by first | (simp [rcCopy, *]; done) | (grind [rcCopy])); rw [if_neg (by rw [e9] <;> (first | done | decide)), e9]) (by have e9 : rcCopy hd sz (nI p8) (nI q8) i j n = (-3) := (by first | (simp [rcCopy, *]; done) | (grind [rcCopy])); rw [e9] <;> (first | done | rfl | (rw [if_neg (by decide)] <;> (first | done | rfl)))) dX7_copy_122
          refine g_aload_n (pc := 26) C dX7_copy_26 0 rfl ?_
          refine g_get (pc := 27) (T := TX7) (N := 33) (v := .ref (A 0)) C ib_X7 0 rfl rfl 0 (by decide) mf_X7_7 rfl rfl rfl dX7_copy_27 ?_
          refine g_iload_n (pc := 30) C dX7_copy_30 1 rfl ?_
          refine g_iald (pc := 31) (v := hd p8) C 9 rfl p8 (rfl) ⟨by omega, by decide⟩ (rfl) dX7_copy_31 ?_
          refine g_if_lt (pc := 32) (tgt := 43) C dX7_copy_32 (by decide) (fun h32 => ?_) (fun h32 => ?_)
          · refine g_aload_n (pc := 43) C dX7_copy_43 0 rfl ?_
            refine g_get (pc := 44) (T := TX7) (N := 33) (v := .ref (A 0)) C ib_X7 0 rfl rfl 0 (by decide) mf_X7_7 rfl rfl rfl dX7_copy_44 ?_
            refine g_iload_n (pc := 47) C dX7_copy_47 2 rfl ?_
            refine g_iald (pc := 48) (v := hd q8) C 9 rfl q8 (rfl) ⟨by omega, by decide⟩ (rfl) dX7_copy_48 ?_
            refine g_if_lt (pc := 49) (tgt := 60) C dX7_copy_49 (by decide) (fun h49 => ?_) (fun h49 => ?_)
            · refine g_aload_n (pc := 60) C dX7_copy_60 0 rfl ?_
              refine g_iload_n (pc := 61) C dX7_copy_61 1 rfl ?_
              refine g_rdVI (pc := 62) (val := bI (isRw (hd p8))) (rest := []) C k_X7_isRow (c_X7_isRow l G m A τ y hd p8 (by first | assumption | omega | decide)) ml_X7_95 rfl ⟨Nat.le_of_ble_eq_true rfl, Nat.le_of_ble_eq_true rfl⟩ rfl [0, 1, 2, 3, 4, 5, 6, 7, 8, 9] rfl 0 rfl rfl rfl rfl (Nat.le_of_ble_eq_true rfl) ⟨by decide, by decide⟩ dX7_copy_62 ?_
              refine g_ifb_eq (pc := 65) (tgt := 98) C dX7_copy_65 (by decide) (fun h65 => ?_) (fun h65 => ?_)
              · refine g_sub (lv' := [(0, .ref m), (1, .int (nI p8)), (2, .int (nI q8)), (3, .int i), (4, .int j), (5, .int n)]) [0, 1, 2, 3, 4, 5] rfl ?_
                exact key_98 (by grind) (by grind)
              · refine g_aload_n (pc := 68) C dX7_copy_68 0 rfl ?_
                refine g_iload_n (pc := 69) C dX7_copy_69 2 rfl ?_
                refine g_rdVI (pc := 70) (val := bI (isRw (hd q8))) (rest := []) C k_X7_isRow (c_X7_isRow l G m A τ y hd q8 (by first | assumption | omega | decide)) ml_X7_95 rfl ⟨Nat.le_of_ble_eq_true rfl, Nat.le_of_ble_eq_true rfl⟩ rfl [0, 1, 2, 3, 4, 5, 6, 7, 8, 9] rfl 0 rfl rfl rfl rfl (Nat.le_of_ble_eq_true rfl) ⟨by decide, by decide⟩ dX7_copy_70 ?_
                refine g_ifb_eq (pc := 73) (tgt := 98) C dX7_copy_73 (by decide) (fun h73 => ?_) (fun h73 => ?_)
                · refine g_sub (lv' := [(0, .ref m), (1, .int (nI p8)), (2, .int (nI q8)), (3, .int i), (4, .int j), (5, .int n)]) [0, 1, 2, 3, 4, 5] rfl ?_
                  exact key_98 (by grind) (by grind)
                · refine g_aload_n (pc := 76) C dX7_copy_76 0 rfl ?_
                  refine g_get (pc := 77) (T := TX7) (N := 33) (v := .ref (A 0)) C ib_X7 0 rfl rfl 0 (by decide) mf_X7_7 rfl rfl rfl dX7_copy_77 ?_
                  refine g_iload_n (pc := 80) C dX7_copy_80 1 rfl ?_
                  refine g_iald (pc := 81) (v := hd p8) C 9 rfl p8 (rfl) ⟨by omega, by decide⟩ (rfl) dX7_copy_81 ?_
                  refine g_aload_n (pc := 82) C dX7_copy_82 0 rfl ?_
                  refine g_get (pc := 83) (T := TX7) (N := 33) (v := .ref (A 0)) C ib_X7 0 rfl rfl 0 (by decide) mf_X7_7 rfl rfl rfl dX7_copy_83 ?_
                  refine g_iload_n (pc := 86) C dX7_copy_86 2 rfl ?_
                  refine g_iald (pc := 87) (v := hd q8) C 9 rfl q8 (rfl) ⟨by omega, by decide⟩ (rfl) dX7_copy_87 ?_
                  refine g_icmp_eq (pc := 88) (tgt := 98) C dX7_copy_88 (by decide) (fun h88 => ?_) (fun h88 => ?_)
                  · refine g_sub (lv' := [(0, .ref m), (1, .int (nI p8)), (2, .int (nI q8)), (3, .int i), (4, .int j), (5, .int n)]) [0, 1, 2, 3, 4, 5] rfl ?_
                    exact key_98 (by grind) (by grind)
                  · have hrf9 : rfRows hd (nI p8) (nI q8) = -2 := (by rw [rf_v hS hp8 hq8]; grind)
                    refine g_aload_n (pc := 91) C dX7_copy_91 0 rfl ?_
                    refine g_bipush (pc := 92) (v := (-2)) C dX7_copy_92 (by decide) ?_
                    refine g_wrVI (pc := 94) (rest := []) (wr := [iC G (A 0) 8 hd, iC G (A 1) 8 sz, jC G (A 2) 1280 el]) C (fun _ => wN G m A τ y ++ ([iC G (A 0) 8 hd, iC G (A 1) 8 sz, jC G (A 2) 1280 el, iC G (A 11) 8 (rfI rr (-2))])) rfl k_X7_no (c_X7_no l G m A τ y rr (-2) (by first | assumption | omega | decide)) ml_X7_81 rfl ⟨Nat.le_of_ble_eq_true rfl, Nat.le_of_ble_eq_true rfl⟩ rfl [0, 1, 2, 3, 4, 5, 6, 7, 8, 12] [9, 10, 11] [3, 4, 5, 6, 7, 8, 9, 10, 11, 0, 1, 2, 12] rfl (by decide) rfl (by decide) (by decide) (by decide) (fun _ => rfl) 0 rfl rfl rfl rfl (Nat.le_of_ble_eq_true rfl) ⟨by decide, by decide⟩ dX7_copy_94 (fun r94 _ e94 => ?_)
                    subst e94
                    exact g_retIW (pc := 97) C rfl rfl () (rfl) (by have e9 : rcCopy hd sz (nI p8) (nI q8) i j n = (-2) := (by first | (simp [rcCopy, *]; done) | (grind [rcCopy])); rw [if_neg (by rw [e9] <;> (first | done | decide)), e9]) (by have e9 : rcCopy hd sz (nI p8) (nI q8) i j n = (-2) := (by first | (simp [rcCopy, *]; done) | (grind [rcCopy])); rw [e9] <;> (first | done | rfl | (rw [if_neg (by decide)] <;> (first | done | rfl)))) dX7_copy_97
            · refine g_aload_n (pc := 52) C dX7_copy_52 0 rfl ?_
              refine g_iload_n (pc := 53) C dX7_copy_53 2 rfl ?_
              refine g_rdVI (pc := 54) (val := bI (isRw (hd q8))) (rest := []) C k_X7_isRow (c_X7_isRow l G m A τ y hd q8 (by first | assumption | omega | decide)) ml_X7_95 rfl ⟨Nat.le_of_ble_eq_true rfl, Nat.le_of_ble_eq_true rfl⟩ rfl [0, 1, 2, 3, 4, 5, 6, 7, 8, 9] rfl 0 rfl rfl rfl rfl (Nat.le_of_ble_eq_true rfl) ⟨by decide, by decide⟩ dX7_copy_54 ?_
              refine g_ifb_eq (pc := 57) (tgt := 91) C dX7_copy_57 (by decide) (fun h57 => ?_) (fun h57 => ?_)
              · have hrf9 : rfRows hd (nI p8) (nI q8) = -2 := (by rw [rf_v hS hp8 hq8]; grind)
                refine g_aload_n (pc := 91) C dX7_copy_91 0 rfl ?_
                refine g_bipush (pc := 92) (v := (-2)) C dX7_copy_92 (by decide) ?_
                refine g_wrVI (pc := 94) (rest := []) (wr := [iC G (A 0) 8 hd, iC G (A 1) 8 sz, jC G (A 2) 1280 el]) C (fun _ => wN G m A τ y ++ ([iC G (A 0) 8 hd, iC G (A 1) 8 sz, jC G (A 2) 1280 el, iC G (A 11) 8 (rfI rr (-2))])) rfl k_X7_no (c_X7_no l G m A τ y rr (-2) (by first | assumption | omega | decide)) ml_X7_81 rfl ⟨Nat.le_of_ble_eq_true rfl, Nat.le_of_ble_eq_true rfl⟩ rfl [0, 1, 2, 3, 4, 5, 6, 7, 8, 12] [9, 10, 11] [3, 4, 5, 6, 7, 8, 9, 10, 11, 0, 1, 2, 12] rfl (by decide) rfl (by decide) (by decide) (by decide) (fun _ => rfl) 0 rfl rfl rfl rfl (Nat.le_of_ble_eq_true rfl) ⟨by decide, by decide⟩ dX7_copy_94 (fun r94 _ e94 => ?_)
                subst e94
                exact g_retIW (pc := 97) C rfl rfl () (rfl) (by have e9 : rcCopy hd sz (nI p8) (nI q8) i j n = (-2) := (by first | (simp [rcCopy, *]; done) | (grind [rcCopy])); rw [if_neg (by rw [e9] <;> (first | done | decide)), e9]) (by have e9 : rcCopy hd sz (nI p8) (nI q8) i j n = (-2) := (by first | (simp [rcCopy, *]; done) | (grind [rcCopy])); rw [e9] <;> (first | done | rfl | (rw [if_neg (by decide)] <;> (first | done | rfl)))) dX7_copy_97
              · refine g_aload_n (pc := 60) C dX7_copy_60 0 rfl ?_
                refine g_iload_n (pc := 61) C dX7_copy_61 1 rfl ?_
                refine g_rdVI (pc := 62) (val := bI (isRw (hd p8))) (rest := []) C k_X7_isRow (c_X7_isRow l G m A τ y hd p8 (by first | assumption | omega | decide)) ml_X7_95 rfl ⟨Nat.le_of_ble_eq_true rfl, Nat.le_of_ble_eq_true rfl⟩ rfl [0, 1, 2, 3, 4, 5, 6, 7, 8, 9] rfl 0 rfl rfl rfl rfl (Nat.le_of_ble_eq_true rfl) ⟨by decide, by decide⟩ dX7_copy_62 ?_
                refine g_ifb_eq (pc := 65) (tgt := 98) C dX7_copy_65 (by decide) (fun h65 => ?_) (fun h65 => ?_)
                · refine g_sub (lv' := [(0, .ref m), (1, .int (nI p8)), (2, .int (nI q8)), (3, .int i), (4, .int j), (5, .int n)]) [0, 1, 2, 3, 4, 5] rfl ?_
                  exact key_98 (by grind) (by grind)
                · refine g_aload_n (pc := 68) C dX7_copy_68 0 rfl ?_
                  refine g_iload_n (pc := 69) C dX7_copy_69 2 rfl ?_
                  refine g_rdVI (pc := 70) (val := bI (isRw (hd q8))) (rest := []) C k_X7_isRow (c_X7_isRow l G m A τ y hd q8 (by first | assumption | omega | decide)) ml_X7_95 rfl ⟨Nat.le_of_ble_eq_true rfl, Nat.le_of_ble_eq_true rfl⟩ rfl [0, 1, 2, 3, 4, 5, 6, 7, 8, 9] rfl 0 rfl rfl rfl rfl (Nat.le_of_ble_eq_true rfl) ⟨by decide, by decide⟩ dX7_copy_70 ?_
                  refine g_ifb_eq (pc := 73) (tgt := 98) C dX7_copy_73 (by decide) (fun h73 => ?_) (fun h73 => ?_)
                  · refine g_sub (lv' := [(0, .ref m), (1, .int (nI p8)), (2, .int (nI q8)), (3, .int i), (4, .int j), (5, .int n)]) [0, 1, 2, 3, 4, 5] rfl ?_
                    exact key_98 (by grind) (by grind)
                  · refine g_aload_n (pc := 76) C dX7_copy_76 0 rfl ?_
                    refine g_get (pc := 77) (T := TX7) (N := 33) (v := .ref (A 0)) C ib_X7 0 rfl rfl 0 (by decide) mf_X7_7 rfl rfl rfl dX7_copy_77 ?_
                    refine g_iload_n (pc := 80) C dX7_copy_80 1 rfl ?_
                    refine g_iald (pc := 81) (v := hd p8) C 9 rfl p8 (rfl) ⟨by omega, by decide⟩ (rfl) dX7_copy_81 ?_
                    refine g_aload_n (pc := 82) C dX7_copy_82 0 rfl ?_
                    refine g_get (pc := 83) (T := TX7) (N := 33) (v := .ref (A 0)) C ib_X7 0 rfl rfl 0 (by decide) mf_X7_7 rfl rfl rfl dX7_copy_83 ?_
                    refine g_iload_n (pc := 86) C dX7_copy_86 2 rfl ?_
                    refine g_iald (pc := 87) (v := hd q8) C 9 rfl q8 (rfl) ⟨by omega, by decide⟩ (rfl) dX7_copy_87 ?_
                    refine g_icmp_eq (pc := 88) (tgt := 98) C dX7_copy_88 (by decide) (fun h88 => ?_) (fun h88 => ?_)
                    · refine g_sub (lv' := [(0, .ref m), (1, .int (nI p8)), (2, .int (nI q8)), (3, .int i), (4, .int j), (5, .int n)]) [0, 1, 2, 3, 4, 5] rfl ?_
                      exact key_98 (by grind) (by grind)
                    · have hrf9 : rfRows hd (nI p8) (nI q8) = -2 := (by rw [rf_v hS hp8 hq8]; grind)
                      refine g_aload_n (pc := 91) C dX7_copy_91 0 rfl ?_
                      refine g_bipush (pc := 92) (v := (-2)) C dX7_copy_92 (by decide) ?_
                      refine g_wrVI (pc := 94) (rest := []) (wr := [iC G (A 0) 8 hd, iC G (A 1) 8 sz, jC G (A 2) 1280 el]) C (fun _ => wN G m A τ y ++ ([iC G (A 0) 8 hd, iC G (A 1) 8 sz, jC G (A 2) 1280 el, iC G (A 11) 8 (rfI rr (-2))])) rfl k_X7_no (c_X7_no l G m A τ y rr (-2) (by first | assumption | omega | decide)) ml_X7_81 rfl ⟨Nat.le_of_ble_eq_true rfl, Nat.le_of_ble_eq_true rfl⟩ rfl [0, 1, 2, 3, 4, 5, 6, 7, 8, 12] [9, 10, 11] [3, 4, 5, 6, 7, 8, 9, 10, 11, 0, 1, 2, 12] rfl (by decide) rfl (by decide) (by decide) (by decide) (fun _ => rfl) 0 rfl rfl rfl rfl (Nat.le_of_ble_eq_true rfl) ⟨by decide, by decide⟩ dX7_copy_94 (fun r94 _ e94 => ?_)
                      subst e94
                      exact g_retIW (pc := 97) C rfl rfl () (rfl) (by have e9 : rcCopy hd sz (nI p8) (nI q8) i j n = (-2) := (by first | (simp [rcCopy, *]; done) | (grind [rcCopy])); rw [if_neg (by rw [e9] <;> (first | done | decide)), e9]) (by have e9 : rcCopy hd sz (nI p8) (nI q8) i j n = (-2) := (by first | (simp [rcCopy, *]; done) | (grind [rcCopy])); rw [e9] <;> (first | done | rfl | (rw [if_neg (by decide)] <;> (first | done | rfl)))) dX7_copy_97
          · refine g_aload_n (pc := 35) C dX7_copy_35 0 rfl ?_
            refine g_iload_n (pc := 36) C dX7_copy_36 1 rfl ?_
            refine g_rdVI (pc := 37) (val := bI (isRw (hd p8))) (rest := []) C k_X7_isRow (c_X7_isRow l G m A τ y hd p8 (by first | assumption | omega | decide)) ml_X7_95 rfl ⟨Nat.le_of_ble_eq_true rfl, Nat.le_of_ble_eq_true rfl⟩ rfl [0, 1, 2, 3, 4, 5, 6, 7, 8, 9] rfl 0 rfl rfl rfl rfl (Nat.le_of_ble_eq_true rfl) ⟨by decide, by decide⟩ dX7_copy_37 ?_
            refine g_ifb_eq (pc := 40) (tgt := 91) C dX7_copy_40 (by decide) (fun h40 => ?_) (fun h40 => ?_)
            · have hrf9 : rfRows hd (nI p8) (nI q8) = -2 := (by rw [rf_v hS hp8 hq8]; grind)
              refine g_aload_n (pc := 91) C dX7_copy_91 0 rfl ?_
              refine g_bipush (pc := 92) (v := (-2)) C dX7_copy_92 (by decide) ?_
              refine g_wrVI (pc := 94) (rest := []) (wr := [iC G (A 0) 8 hd, iC G (A 1) 8 sz, jC G (A 2) 1280 el]) C (fun _ => wN G m A τ y ++ ([iC G (A 0) 8 hd, iC G (A 1) 8 sz, jC G (A 2) 1280 el, iC G (A 11) 8 (rfI rr (-2))])) rfl k_X7_no (c_X7_no l G m A τ y rr (-2) (by first | assumption | omega | decide)) ml_X7_81 rfl ⟨Nat.le_of_ble_eq_true rfl, Nat.le_of_ble_eq_true rfl⟩ rfl [0, 1, 2, 3, 4, 5, 6, 7, 8, 12] [9, 10, 11] [3, 4, 5, 6, 7, 8, 9, 10, 11, 0, 1, 2, 12] rfl (by decide) rfl (by decide) (by decide) (by decide) (fun _ => rfl) 0 rfl rfl rfl rfl (Nat.le_of_ble_eq_true rfl) ⟨by decide, by decide⟩ dX7_copy_94 (fun r94 _ e94 => ?_)
              subst e94
              exact g_retIW (pc := 97) C rfl rfl () (rfl) (by have e9 : rcCopy hd sz (nI p8) (nI q8) i j n = (-2) := (by first | (simp [rcCopy, *]; done) | (grind [rcCopy])); rw [if_neg (by rw [e9] <;> (first | done | decide)), e9]) (by have e9 : rcCopy hd sz (nI p8) (nI q8) i j n = (-2) := (by first | (simp [rcCopy, *]; done) | (grind [rcCopy])); rw [e9] <;> (first | done | rfl | (rw [if_neg (by decide)] <;> (first | done | rfl)))) dX7_copy_97
            · refine g_aload_n (pc := 43) C dX7_copy_43 0 rfl ?_
              refine g_get (pc := 44) (T := TX7) (N := 33) (v := .ref (A 0)) C ib_X7 0 rfl rfl 0 (by decide) mf_X7_7 rfl rfl rfl dX7_copy_44 ?_
              refine g_iload_n (pc := 47) C dX7_copy_47 2 rfl ?_
              refine g_iald (pc := 48) (v := hd q8) C 9 rfl q8 (rfl) ⟨by omega, by decide⟩ (rfl) dX7_copy_48 ?_
              refine g_if_lt (pc := 49) (tgt := 60) C dX7_copy_49 (by decide) (fun h49 => ?_) (fun h49 => ?_)
              · refine g_aload_n (pc := 60) C dX7_copy_60 0 rfl ?_
                refine g_iload_n (pc := 61) C dX7_copy_61 1 rfl ?_
                refine g_rdVI (pc := 62) (val := bI (isRw (hd p8))) (rest := []) C k_X7_isRow (c_X7_isRow l G m A τ y hd p8 (by first | assumption | omega | decide)) ml_X7_95 rfl ⟨Nat.le_of_ble_eq_true rfl, Nat.le_of_ble_eq_true rfl⟩ rfl [0, 1, 2, 3, 4, 5, 6, 7, 8, 9] rfl 0 rfl rfl rfl rfl (Nat.le_of_ble_eq_true rfl) ⟨by decide, by decide⟩ dX7_copy_62 ?_
                refine g_ifb_eq (pc := 65) (tgt := 98) C dX7_copy_65 (by decide) (fun h65 => ?_) (fun h65 => ?_)
                · refine g_sub (lv' := [(0, .ref m), (1, .int (nI p8)), (2, .int (nI q8)), (3, .int i), (4, .int j), (5, .int n)]) [0, 1, 2, 3, 4, 5] rfl ?_
                  exact key_98 (by grind) (by grind)
                · refine g_aload_n (pc := 68) C dX7_copy_68 0 rfl ?_
                  refine g_iload_n (pc := 69) C dX7_copy_69 2 rfl ?_
                  refine g_rdVI (pc := 70) (val := bI (isRw (hd q8))) (rest := []) C k_X7_isRow (c_X7_isRow l G m A τ y hd q8 (by first | assumption | omega | decide)) ml_X7_95 rfl ⟨Nat.le_of_ble_eq_true rfl, Nat.le_of_ble_eq_true rfl⟩ rfl [0, 1, 2, 3, 4, 5, 6, 7, 8, 9] rfl 0 rfl rfl rfl rfl (Nat.le_of_ble_eq_true rfl) ⟨by decide, by decide⟩ dX7_copy_70 ?_
                  refine g_ifb_eq (pc := 73) (tgt := 98) C dX7_copy_73 (by decide) (fun h73 => ?_) (fun h73 => ?_)
                  · refine g_sub (lv' := [(0, .ref m), (1, .int (nI p8)), (2, .int (nI q8)), (3, .int i), (4, .int j), (5, .int n)]) [0, 1, 2, 3, 4, 5] rfl ?_
                    exact key_98 (by grind) (by grind)
                  · refine g_aload_n (pc := 76) C dX7_copy_76 0 rfl ?_
                    refine g_get (pc := 77) (T := TX7) (N := 33) (v := .ref (A 0)) C ib_X7 0 rfl rfl 0 (by decide) mf_X7_7 rfl rfl rfl dX7_copy_77 ?_
                    refine g_iload_n (pc := 80) C dX7_copy_80 1 rfl ?_
                    refine g_iald (pc := 81) (v := hd p8) C 9 rfl p8 (rfl) ⟨by omega, by decide⟩ (rfl) dX7_copy_81 ?_
                    refine g_aload_n (pc := 82) C dX7_copy_82 0 rfl ?_
                    refine g_get (pc := 83) (T := TX7) (N := 33) (v := .ref (A 0)) C ib_X7 0 rfl rfl 0 (by decide) mf_X7_7 rfl rfl rfl dX7_copy_83 ?_
                    refine g_iload_n (pc := 86) C dX7_copy_86 2 rfl ?_
                    refine g_iald (pc := 87) (v := hd q8) C 9 rfl q8 (rfl) ⟨by omega, by decide⟩ (rfl) dX7_copy_87 ?_
                    refine g_icmp_eq (pc := 88) (tgt := 98) C dX7_copy_88 (by decide) (fun h88 => ?_) (fun h88 => ?_)
                    · refine g_sub (lv' := [(0, .ref m), (1, .int (nI p8)), (2, .int (nI q8)), (3, .int i), (4, .int j), (5, .int n)]) [0, 1, 2, 3, 4, 5] rfl ?_
                      exact key_98 (by grind) (by grind)
                    · have hrf9 : rfRows hd (nI p8) (nI q8) = -2 := (by rw [rf_v hS hp8 hq8]; grind)
                      refine g_aload_n (pc := 91) C dX7_copy_91 0 rfl ?_
                      refine g_bipush (pc := 92) (v := (-2)) C dX7_copy_92 (by decide) ?_
                      refine g_wrVI (pc := 94) (rest := []) (wr := [iC G (A 0) 8 hd, iC G (A 1) 8 sz, jC G (A 2) 1280 el]) C (fun _ => wN G m A τ y ++ ([iC G (A 0) 8 hd, iC G (A 1) 8 sz, jC G (A 2) 1280 el, iC G (A 11) 8 (rfI rr (-2))])) rfl k_X7_no (c_X7_no l G m A τ y rr (-2) (by first | assumption | omega | decide)) ml_X7_81 rfl ⟨Nat.le_of_ble_eq_true rfl, Nat.le_of_ble_eq_true rfl⟩ rfl [0, 1, 2, 3, 4, 5, 6, 7, 8, 12] [9, 10, 11] [3, 4, 5, 6, 7, 8, 9, 10, 11, 0, 1, 2, 12] rfl (by decide) rfl (by decide) (by decide) (by decide) (fun _ => rfl) 0 rfl rfl rfl rfl (Nat.le_of_ble_eq_true rfl) ⟨by decide, by decide⟩ dX7_copy_94 (fun r94 _ e94 => ?_)
                      subst e94
                      exact g_retIW (pc := 97) C rfl rfl () (rfl) (by have e9 : rcCopy hd sz (nI p8) (nI q8) i j n = (-2) := (by first | (simp [rcCopy, *]; done) | (grind [rcCopy])); rw [if_neg (by rw [e9] <;> (first | done | decide)), e9]) (by have e9 : rcCopy hd sz (nI p8) (nI q8) i j n = (-2) := (by first | (simp [rcCopy, *]; done) | (grind [rcCopy])); rw [e9] <;> (first | done | rfl | (rw [if_neg (by decide)] <;> (first | done | rfl)))) dX7_copy_97
              · refine g_aload_n (pc := 52) C dX7_copy_52 0 rfl ?_
                refine g_iload_n (pc := 53) C dX7_copy_53 2 rfl ?_
                refine g_rdVI (pc := 54) (val := bI (isRw (hd q8))) (rest := []) C k_X7_isRow (c_X7_isRow l G m A τ y hd q8 (by first | assumption | omega | decide)) ml_X7_95 rfl ⟨Nat.le_of_ble_eq_true rfl, Nat.le_of_ble_eq_true rfl⟩ rfl [0, 1, 2, 3, 4, 5, 6, 7, 8, 9] rfl 0 rfl rfl rfl rfl (Nat.le_of_ble_eq_true rfl) ⟨by decide, by decide⟩ dX7_copy_54 ?_
                refine g_ifb_eq (pc := 57) (tgt := 91) C dX7_copy_57 (by decide) (fun h57 => ?_) (fun h57 => ?_)
                · have hrf9 : rfRows hd (nI p8) (nI q8) = -2 := (by rw [rf_v hS hp8 hq8]; grind)
                  refine g_aload_n (pc := 91) C dX7_copy_91 0 rfl ?_
                  refine g_bipush (pc := 92) (v := (-2)) C dX7_copy_92 (by decide) ?_
                  refine g_wrVI (pc := 94) (rest := []) (wr := [iC G (A 0) 8 hd, iC G (A 1) 8 sz, jC G (A 2) 1280 el]) C (fun _ => wN G m A τ y ++ ([iC G (A 0) 8 hd, iC G (A 1) 8 sz, jC G (A 2) 1280 el, iC G (A 11) 8 (rfI rr (-2))])) rfl k_X7_no (c_X7_no l G m A τ y rr (-2) (by first | assumption | omega | decide)) ml_X7_81 rfl ⟨Nat.le_of_ble_eq_true rfl, Nat.le_of_ble_eq_true rfl⟩ rfl [0, 1, 2, 3, 4, 5, 6, 7, 8, 12] [9, 10, 11] [3, 4, 5, 6, 7, 8, 9, 10, 11, 0, 1, 2, 12] rfl (by decide) rfl (by decide) (by decide) (by decide) (fun _ => rfl) 0 rfl rfl rfl rfl (Nat.le_of_ble_eq_true rfl) ⟨by decide, by decide⟩ dX7_copy_94 (fun r94 _ e94 => ?_)
                  subst e94
                  exact g_retIW (pc := 97) C rfl rfl () (rfl) (by have e9 : rcCopy hd sz (nI p8) (nI q8) i j n = (-2) := (by first | (simp [rcCopy, *]; done) | (grind [rcCopy])); rw [if_neg (by rw [e9] <;> (first | done | decide)), e9]) (by have e9 : rcCopy hd sz (nI p8) (nI q8) i j n = (-2) := (by first | (simp [rcCopy, *]; done) | (grind [rcCopy])); rw [e9] <;> (first | done | rfl | (rw [if_neg (by decide)] <;> (first | done | rfl)))) dX7_copy_97
                · refine g_aload_n (pc := 60) C dX7_copy_60 0 rfl ?_
                  refine g_iload_n (pc := 61) C dX7_copy_61 1 rfl ?_
                  refine g_rdVI (pc := 62) (val := bI (isRw (hd p8))) (rest := []) C k_X7_isRow (c_X7_isRow l G m A τ y hd p8 (by first | assumption | omega | decide)) ml_X7_95 rfl ⟨Nat.le_of_ble_eq_true rfl, Nat.le_of_ble_eq_true rfl⟩ rfl [0, 1, 2, 3, 4, 5, 6, 7, 8, 9] rfl 0 rfl rfl rfl rfl (Nat.le_of_ble_eq_true rfl) ⟨by decide, by decide⟩ dX7_copy_62 ?_
                  refine g_ifb_eq (pc := 65) (tgt := 98) C dX7_copy_65 (by decide) (fun h65 => ?_) (fun h65 => ?_)
                  · refine g_sub (lv' := [(0, .ref m), (1, .int (nI p8)), (2, .int (nI q8)), (3, .int i), (4, .int j), (5, .int n)]) [0, 1, 2, 3, 4, 5] rfl ?_
                    exact key_98 (by grind) (by grind)
                  · refine g_aload_n (pc := 68) C dX7_copy_68 0 rfl ?_
                    refine g_iload_n (pc := 69) C dX7_copy_69 2 rfl ?_
                    refine g_rdVI (pc := 70) (val := bI (isRw (hd q8))) (rest := []) C k_X7_isRow (c_X7_isRow l G m A τ y hd q8 (by first | assumption | omega | decide)) ml_X7_95 rfl ⟨Nat.le_of_ble_eq_true rfl, Nat.le_of_ble_eq_true rfl⟩ rfl [0, 1, 2, 3, 4, 5, 6, 7, 8, 9] rfl 0 rfl rfl rfl rfl (Nat.le_of_ble_eq_true rfl) ⟨by decide, by decide⟩ dX7_copy_70 ?_
                    refine g_ifb_eq (pc := 73) (tgt := 98) C dX7_copy_73 (by decide) (fun h73 => ?_) (fun h73 => ?_)
                    · refine g_sub (lv' := [(0, .ref m), (1, .int (nI p8)), (2, .int (nI q8)), (3, .int i), (4, .int j), (5, .int n)]) [0, 1, 2, 3, 4, 5] rfl ?_
                      exact key_98 (by grind) (by grind)
                    · refine g_aload_n (pc := 76) C dX7_copy_76 0 rfl ?_
                      refine g_get (pc := 77) (T := TX7) (N := 33) (v := .ref (A 0)) C ib_X7 0 rfl rfl 0 (by decide) mf_X7_7 rfl rfl rfl dX7_copy_77 ?_
                      refine g_iload_n (pc := 80) C dX7_copy_80 1 rfl ?_
                      refine g_iald (pc := 81) (v := hd p8) C 9 rfl p8 (rfl) ⟨by omega, by decide⟩ (rfl) dX7_copy_81 ?_
                      refine g_aload_n (pc := 82) C dX7_copy_82 0 rfl ?_
                      refine g_get (pc := 83) (T := TX7) (N := 33) (v := .ref (A 0)) C ib_X7 0 rfl rfl 0 (by decide) mf_X7_7 rfl rfl rfl dX7_copy_83 ?_
                      refine g_iload_n (pc := 86) C dX7_copy_86 2 rfl ?_
                      refine g_iald (pc := 87) (v := hd q8) C 9 rfl q8 (rfl) ⟨by omega, by decide⟩ (rfl) dX7_copy_87 ?_
                      refine g_icmp_eq (pc := 88) (tgt := 98) C dX7_copy_88 (by decide) (fun h88 => ?_) (fun h88 => ?_)
                      · refine g_sub (lv' := [(0, .ref m), (1, .int (nI p8)), (2, .int (nI q8)), (3, .int i), (4, .int j), (5, .int n)]) [0, 1, 2, 3, 4, 5] rfl ?_
                        exact key_98 (by grind) (by grind)
                      · have hrf9 : rfRows hd (nI p8) (nI q8) = -2 := (by rw [rf_v hS hp8 hq8]; grind)
                        refine g_aload_n (pc := 91) C dX7_copy_91 0 rfl ?_
                        refine g_bipush (pc := 92) (v := (-2)) C dX7_copy_92 (by decide) ?_
                        refine g_wrVI (pc := 94) (rest := []) (wr := [iC G (A 0) 8 hd, iC G (A 1) 8 sz, jC G (A 2) 1280 el]) C (fun _ => wN G m A τ y ++ ([iC G (A 0) 8 hd, iC G (A 1) 8 sz, jC G (A 2) 1280 el, iC G (A 11) 8 (rfI rr (-2))])) rfl k_X7_no (c_X7_no l G m A τ y rr (-2) (by first | assumption | omega | decide)) ml_X7_81 rfl ⟨Nat.le_of_ble_eq_true rfl, Nat.le_of_ble_eq_true rfl⟩ rfl [0, 1, 2, 3, 4, 5, 6, 7, 8, 12] [9, 10, 11] [3, 4, 5, 6, 7, 8, 9, 10, 11, 0, 1, 2, 12] rfl (by decide) rfl (by decide) (by decide) (by decide) (fun _ => rfl) 0 rfl rfl rfl rfl (Nat.le_of_ble_eq_true rfl) ⟨by decide, by decide⟩ dX7_copy_94 (fun r94 _ e94 => ?_)
                        subst e94
                        exact g_retIW (pc := 97) C rfl rfl () (rfl) (by have e9 : rcCopy hd sz (nI p8) (nI q8) i j n = (-2) := (by first | (simp [rcCopy, *]; done) | (grind [rcCopy])); rw [if_neg (by rw [e9] <;> (first | done | decide)), e9]) (by have e9 : rcCopy hd sz (nI p8) (nI q8) i j n = (-2) := (by first | (simp [rcCopy, *]; done) | (grind [rcCopy])); rw [e9] <;> (first | done | rfl | (rw [if_neg (by decide)] <;> (first | done | rfl)))) dX7_copy_97
      refine g_sub (lv' := [(0, .ref m), (1, .int (nI p8)), (2, .int (nI q8)), (3, .int i), (4, .int j), (5, .int n)]) [0, 1, 2, 3, 4, 5] rfl ?_
      exact key_26 _  (Nat.lt_succ_self _)
    · have hrf9 : rfRows hd (nI p8) q = -1 := if_pos (Or.inr h17)
      refine g_aload_n (pc := 20) C dX7_copy_20 0 rfl ?_
      refine g_iconst (pc := 21) (v := (-1)) C dX7_copy_21 (by decide) ?_
      refine g_wrVI (pc := 22) (rest := []) (wr := [iC G (A 0) 8 hd, iC G (A 1) 8 sz, jC G (A 2) 1280 el]) C (fun _ => wN G m A τ y ++ ([iC G (A 0) 8 hd, iC G (A 1) 8 sz, jC G (A 2) 1280 el, iC G (A 11) 8 (rfI rr (-1))])) rfl k_X7_no (c_X7_no l G m A τ y rr (-1) (by first | assumption | omega | decide)) ml_X7_81 rfl ⟨Nat.le_of_ble_eq_true rfl, Nat.le_of_ble_eq_true rfl⟩ rfl [0, 1, 2, 3, 4, 5, 6, 7, 8, 12] [9, 10, 11] [3, 4, 5, 6, 7, 8, 9, 10, 11, 0, 1, 2, 12] rfl (by decide) rfl (by decide) (by decide) (by decide) (fun _ => rfl) 0 rfl rfl rfl rfl (Nat.le_of_ble_eq_true rfl) ⟨by decide, by decide⟩ dX7_copy_22 (fun r22 _ e22 => ?_)
      subst e22
      exact g_retIW (pc := 25) C rfl rfl () (rfl) (by have e9 : rcCopy hd sz (nI p8) q i j n = (-1) := (by first | (simp [rcCopy, *]; done) | (grind [rcCopy])); rw [if_neg (by rw [e9] <;> (first | done | decide)), e9]) (by have e9 : rcCopy hd sz (nI p8) q i j n = (-1) := (by first | (simp [rcCopy, *]; done) | (grind [rcCopy])); rw [e9] <;> (first | done | rfl | (rw [if_neg (by decide)] <;> (first | done | rfl)))) dX7_copy_25
