set_option maxRecDepth 20000 in
set_option maxHeartbeats 4000000 in
theorem c_X7_wrongOf (l : Launch) (G : gT) (m : Nat) (A : Nat → Nat) (τ : tT) (y : Nat → Int32) (q : Nat) (hT : TI τ) (hq : q < 8) : RI l yX7_wrongOf cX7_wrongOf 3 (some .int) 5 G [.ref m, .int (nI q)] (wN G m A τ y) (wrong τ q) := by
  have hk6 := (hT.k hq).2
  refine start_R (by decide) (Nat.le_of_ble_eq_true rfl) (fun p9 e9 s9 m9 a9 b9 t9 c9 C => ?_)
  refine g_lv (lv' := [(0, .ref m), (1, .int (nI q))]) rfl ?_
  refine g_aload_n (pc := 0) C dX7_wrongOf_0 0 rfl ?_
  refine g_get (pc := 1) (T := TX7) (N := 33) (v := .ref (A 3)) C ib_X7 0 rfl rfl 4 (by decide) mf_X7_20 rfl rfl rfl dX7_wrongOf_1 ?_
  refine g_iload_n (pc := 4) C dX7_wrongOf_4 1 rfl ?_
  refine g_iald (pc := 5) (v := (τ 0) q) C 1 rfl q (rfl) ⟨by omega, by decide⟩ (rfl) dX7_wrongOf_5 ?_
  refine g_top (z := nI (tK τ q)) ((hT.k hq).1) ?_
  refine g_iconst (pc := 6) (v := 2) C dX7_wrongOf_6 (by decide) ?_
  refine g_rdSI (pc := 7) (val := bI (undr (tK τ q) 2)) (rest := []) C k_X7_isUnder (c_X7_isUnder l G (tK τ q) 2 (by first | assumption | omega)) ml_X7_108 rfl ⟨Nat.le_of_ble_eq_true rfl, Nat.le_of_ble_eq_true rfl⟩ rfl [] rfl rfl (Nat.le_of_ble_eq_true rfl) ⟨by decide, by decide⟩ dX7_wrongOf_7 ?_
  refine g_ifb_eq (pc := 10) (tgt := 25) C dX7_wrongOf_10 (by decide) (fun h10 => ?_) (fun h10 => ?_)
  · refine g_aload_n (pc := 25) C dX7_wrongOf_25 0 rfl ?_
    refine g_iload_n (pc := 26) C dX7_wrongOf_26 1 rfl ?_
    refine g_rdVI (pc := 27) (val := share τ q) (rest := []) C k_X7_shareOf (c_X7_shareOf l G m A τ y q (by first | assumption | omega) (by first | assumption | omega)) ml_X7_112 rfl ⟨Nat.le_of_ble_eq_true rfl, Nat.le_of_ble_eq_true rfl⟩ rfl [0, 1, 2, 3, 4, 5, 6, 7, 8] rfl 0 rfl rfl rfl rfl (Nat.le_of_ble_eq_true rfl) ⟨by decide, by decide⟩ dX7_wrongOf_27 ?_
    refine g_istore_n (pc := 30) (lv' := [(2, .int (share τ q)), (0, .ref m), (1, .int (nI q))]) C dX7_wrongOf_30 rfl (by decide) rfl ?_
    refine g_iload_n (pc := 31) C dX7_wrongOf_31 0 rfl ?_
    refine g_aload_n (pc := 32) C dX7_wrongOf_32 1 rfl ?_
    refine g_rdVI (pc := 33) (val := hold τ) (rest := [.int (share τ q)]) C k_X7_hold (c_X7_hold l G m A τ y (by first | assumption | omega)) ml_X7_232 rfl ⟨Nat.le_of_ble_eq_true rfl, Nat.le_of_ble_eq_true rfl⟩ rfl [0, 1, 2, 3, 4, 5, 6, 7, 8] rfl 0 rfl rfl rfl rfl (Nat.le_of_ble_eq_true rfl) ⟨by decide, by decide⟩ dX7_wrongOf_33 ?_
    refine g_isub (pc := 36) C dX7_wrongOf_36 ?_
    exact g_retIR (pc := 37) C (rfl) (by rw [wrong, if_neg h10]) dX7_wrongOf_37
  · refine g_sipush (pc := 13) (v := 1000) C dX7_wrongOf_13 (by decide) ?_
    refine g_aload_n (pc := 16) C dX7_wrongOf_16 0 rfl ?_
    refine g_iload_n (pc := 17) C dX7_wrongOf_17 1 rfl ?_
    refine g_rdVI (pc := 18) (val := share τ q) (rest := [.int 1000]) C k_X7_shareOf (c_X7_shareOf l G m A τ y q (by first | assumption | omega) (by first | assumption | omega)) ml_X7_112 rfl ⟨Nat.le_of_ble_eq_true rfl, Nat.le_of_ble_eq_true rfl⟩ rfl [0, 1, 2, 3, 4, 5, 6, 7, 8] rfl 0 rfl rfl rfl rfl (Nat.le_of_ble_eq_true rfl) ⟨by decide, by decide⟩ dX7_wrongOf_18 ?_
    refine g_isub (pc := 21) C dX7_wrongOf_21 ?_
    refine g_goto (pc := 22) (tgt := 30) C dX7_wrongOf_22 (by decide) ?_
    refine g_istore_n (pc := 30) (lv' := [(2, .int (1000 - (share τ q))), (0, .ref m), (1, .int (nI q))]) C dX7_wrongOf_30 rfl (by decide) rfl ?_
    refine g_iload_n (pc := 31) C dX7_wrongOf_31 0 rfl ?_
    refine g_aload_n (pc := 32) C dX7_wrongOf_32 1 rfl ?_
    refine g_rdVI (pc := 33) (val := hold τ) (rest := [.int (1000 - (share τ q))]) C k_X7_hold (c_X7_hold l G m A τ y (by first | assumption | omega)) ml_X7_232 rfl ⟨Nat.le_of_ble_eq_true rfl, Nat.le_of_ble_eq_true rfl⟩ rfl [0, 1, 2, 3, 4, 5, 6, 7, 8] rfl 0 rfl rfl rfl rfl (Nat.le_of_ble_eq_true rfl) ⟨by decide, by decide⟩ dX7_wrongOf_33 ?_
    refine g_isub (pc := 36) C dX7_wrongOf_36 ?_
    exact g_retIR (pc := 37) C (rfl) (by rw [wrong, if_pos h10]) dX7_wrongOf_37
set_option maxRecDepth 20000 in
set_option maxHeartbeats 4000000 in
theorem c_X7_fault (l : Launch) (G : gT) (m : Nat) (A : Nat → Nat) (τ : tT) (y : Nat → Int32) : RI l yX7_fault cX7_fault 1 (some .int) 0 G [.ref m] (wN G m A τ y) (y 0) := by
  refine start_R (by decide) (Nat.le_of_ble_eq_true rfl) (fun p9 e9 s9 m9 a9 b9 t9 c9 C => ?_)
  refine g_lv (lv' := [(0, .ref m)]) rfl ?_
  refine g_aload_n (pc := 0) C dX7_fault_0 0 rfl ?_
  refine g_get (pc := 1) (T := TX7) (N := 33) (v := .int (y 0)) C ib_X7 0 rfl rfl 18 (by decide) mf_X7_78 rfl rfl rfl dX7_fault_1 ?_
  exact g_retIR (pc := 4) C (rfl) (by rfl) dX7_fault_4
set_option maxRecDepth 20000 in
set_option maxHeartbeats 4000000 in
theorem c_X7_yes (l : Launch) (G : gT) (m : Nat) (A : Nat → Nat) (τ : tT) (y : Nat → Int32) (q : Int32) (g : Int32) (n : Int32) (rr : Nat → Int32) (hT : TI τ) : WI l yX7_yes cX7_yes 4 (some .int) 12 0 0 G [.ref m, .int q, .int g, .int n] (wN G m A τ y ++ ([iC G (A 11) 8 rr])) (S := Unit) (fun r _ => r = if rcYes τ q g n = 0 then yG τ (nx q) (nx g) n else (rcYes τ q g n)) (fun _ => wN G m A τ y ++ ([iC G (A 11) 8 (rfI rr (rcYes τ q g n))])) := by
  have hg10 := hT.g10
  have hq8 := hT.q8
  intro sz9
  refine start_W (by decide) (Nat.le_of_ble_eq_true rfl) (fun p9 e9 s9 m9 a9 b9 t9 c9 C => ?_)
  refine g_lv (lv' := [(0, .ref m), (1, .int q), (2, .int g), (3, .int n)]) rfl ?_
  refine g_aload_n (pc := 0) C dX7_yes_0 0 rfl ?_
  refine g_iload_n (pc := 1) C dX7_yes_1 1 rfl ?_
  refine g_rdVI (pc := 2) (val := bI (0 ≤ q ∧ q ≤ nI (tQ τ) - 1)) (rest := []) C k_X7_isQuestion (c_X7_isQuestion l G m A τ y q (by first | assumption | omega | decide)) ml_X7_102 rfl ⟨Nat.le_of_ble_eq_true rfl, Nat.le_of_ble_eq_true rfl⟩ rfl [0, 1, 2, 3, 4, 5, 6, 7, 8] rfl 0 rfl rfl rfl rfl (Nat.le_of_ble_eq_true rfl) ⟨by decide, by decide⟩ dX7_yes_2 ?_
  refine g_ifb_eq (pc := 5) (tgt := 16) C dX7_yes_5 (by decide) (fun h5 => ?_) (fun h5 => ?_)
  · refine g_aload_n (pc := 16) C dX7_yes_16 0 rfl ?_
    refine g_iconst (pc := 17) (v := (-1)) C dX7_yes_17 (by decide) ?_
    refine g_wrVI (pc := 18) (rest := []) (wr := []) C (fun _ => wN G m A τ y ++ ([iC G (A 11) 8 (rfI rr (-1))])) rfl k_X7_no (c_X7_no l G m A τ y rr (-1) (by first | assumption | omega | decide)) ml_X7_81 rfl ⟨Nat.le_of_ble_eq_true rfl, Nat.le_of_ble_eq_true rfl⟩ rfl [0, 1, 2, 3, 4, 5, 6, 7, 8, 9] [] [0, 1, 2, 3, 4, 5, 6, 7, 8, 9] rfl (by decide) rfl (by decide) (by decide) (by decide) (fun _ => rfl) 0 rfl rfl rfl rfl (Nat.le_of_ble_eq_true rfl) ⟨by decide, by decide⟩ dX7_yes_18 (fun r18 _ e18 => ?_)
    subst e18
    exact g_retIW (pc := 21) C rfl rfl () (rfl) (by have e9 : rcYes τ q g n = (-1) := (by first | (simp [rcYes, *]; done) | (grind [rcYes])); rw [if_neg (by rw [e9] <;> (first | done | decide)), e9]) (by have e9 : rcYes τ q g n = (-1) := (by first | (simp [rcYes, *]; done) | (grind [rcYes])); rw [e9] <;> (first | done | rfl | (rw [if_neg (by decide)] <;> (first | done | rfl)))) dX7_yes_21
  · obtain ⟨q8, hq8, rfl⟩ := isQ_nI hT h5
    have eq8 : nx (nI q8) = q8 := nx_nI (by omega)
    refine g_aload_n (pc := 8) C dX7_yes_8 0 rfl ?_
    refine g_iload_n (pc := 9) C dX7_yes_9 2 rfl ?_
    refine g_rdVI (pc := 10) (val := bI (0 ≤ g ∧ g ≤ nI (tG τ) - 1)) (rest := []) C k_X7_isGroup (c_X7_isGroup l G m A τ y g (by first | assumption | omega | decide)) ml_X7_136 rfl ⟨Nat.le_of_ble_eq_true rfl, Nat.le_of_ble_eq_true rfl⟩ rfl [0, 1, 2, 3, 4, 5, 6, 7, 8] rfl 0 rfl rfl rfl rfl (Nat.le_of_ble_eq_true rfl) ⟨by decide, by decide⟩ dX7_yes_10 ?_
    refine g_ifb_ne (pc := 13) (tgt := 22) C dX7_yes_13 (by decide) (fun h13 => ?_) (fun h13 => ?_)
    · obtain ⟨g8, hg8, rfl⟩ := isG_nI hT h13
      have eg8 : nx (nI g8) = g8 := nx_nI (by omega)
      refine g_iload_n (pc := 22) C dX7_yes_22 3 rfl ?_
      refine g_iconst (pc := 23) (v := 0) C dX7_yes_23 (by decide) ?_
      refine g_sipush (pc := 24) (v := 999) C dX7_yes_24 (by decide) ?_
      refine g_rdSI (pc := 27) (val := bI (0 ≤ n ∧ n ≤ 999)) (rest := []) C k_X7_within (c_X7_within l G n 0 999) ml_X7_88 rfl ⟨Nat.le_of_ble_eq_true rfl, Nat.le_of_ble_eq_true rfl⟩ rfl [] rfl rfl (Nat.le_of_ble_eq_true rfl) ⟨by decide, by decide⟩ dX7_yes_27 ?_
      refine g_ifb_eq (pc := 30) (tgt := 43) C dX7_yes_30 (by decide) (fun h30 => ?_) (fun h30 => ?_)
      · refine g_aload_n (pc := 43) C dX7_yes_43 0 rfl ?_
        refine g_bipush (pc := 44) (v := (-6)) C dX7_yes_44 (by decide) ?_
        refine g_wrVI (pc := 46) (rest := []) (wr := []) C (fun _ => wN G m A τ y ++ ([iC G (A 11) 8 (rfI rr (-6))])) rfl k_X7_no (c_X7_no l G m A τ y rr (-6) (by first | assumption | omega | decide)) ml_X7_81 rfl ⟨Nat.le_of_ble_eq_true rfl, Nat.le_of_ble_eq_true rfl⟩ rfl [0, 1, 2, 3, 4, 5, 6, 7, 8, 9] [] [0, 1, 2, 3, 4, 5, 6, 7, 8, 9] rfl (by decide) rfl (by decide) (by decide) (by decide) (fun _ => rfl) 0 rfl rfl rfl rfl (Nat.le_of_ble_eq_true rfl) ⟨by decide, by decide⟩ dX7_yes_46 (fun r46 _ e46 => ?_)
        subst e46
        exact g_retIW (pc := 49) C rfl rfl () (rfl) (by have e9 : rcYes τ (nI q8) (nI g8) n = (-6) := (by first | (simp [rcYes, *]; done) | (grind [rcYes])); rw [if_neg (by rw [e9] <;> (first | done | decide)), e9]) (by have e9 : rcYes τ (nI q8) (nI g8) n = (-6) := (by first | (simp [rcYes, *]; done) | (grind [rcYes])); rw [e9] <;> (first | done | rfl | (rw [if_neg (by decide)] <;> (first | done | rfl)))) dX7_yes_49
      · refine g_aload_n (pc := 33) C dX7_yes_33 0 rfl ?_
        refine g_iload_n (pc := 34) C dX7_yes_34 1 rfl ?_
        refine g_iload_n (pc := 35) C dX7_yes_35 2 rfl ?_
        refine g_iload_n (pc := 36) C dX7_yes_36 3 rfl ?_
        refine g_rdVI (pc := 37) (val := yG τ q8 g8 n) (rest := []) C k_X7_yesBy (c_X7_yesBy l G m A τ y q8 g8 n (by first | assumption | omega | decide) (by first | assumption | omega | decide)) ml_X7_207 rfl ⟨Nat.le_of_ble_eq_true rfl, Nat.le_of_ble_eq_true rfl⟩ rfl [0, 1, 2, 3, 4, 5, 6, 7, 8] rfl 0 rfl rfl rfl rfl (Nat.le_of_ble_eq_true rfl) ⟨by decide, by decide⟩ dX7_yes_37 ?_
        refine g_goto (pc := 40) (tgt := 49) C dX7_yes_40 (by decide) ?_
        exact g_retIW (pc := 49) C rfl rfl () (rfl) (by have e9 : rcYes τ (nI q8) (nI g8) n = 0 := (by first | (simp [rcYes, *]; done) | (grind [rcYes])); rw [if_pos e9] <;> (rw [eq8, eg8])) (by have e9 : rcYes τ (nI q8) (nI g8) n = 0 := (by first | (simp [rcYes, *]; done) | (grind [rcYes])); rw [e9, rfI_0] <;> (rfl)) dX7_yes_49
    · refine g_aload_n (pc := 16) C dX7_yes_16 0 rfl ?_
      refine g_iconst (pc := 17) (v := (-1)) C dX7_yes_17 (by decide) ?_
      refine g_wrVI (pc := 18) (rest := []) (wr := []) C (fun _ => wN G m A τ y ++ ([iC G (A 11) 8 (rfI rr (-1))])) rfl k_X7_no (c_X7_no l G m A τ y rr (-1) (by first | assumption | omega | decide)) ml_X7_81 rfl ⟨Nat.le_of_ble_eq_true rfl, Nat.le_of_ble_eq_true rfl⟩ rfl [0, 1, 2, 3, 4, 5, 6, 7, 8, 9] [] [0, 1, 2, 3, 4, 5, 6, 7, 8, 9] rfl (by decide) rfl (by decide) (by decide) (by decide) (fun _ => rfl) 0 rfl rfl rfl rfl (Nat.le_of_ble_eq_true rfl) ⟨by decide, by decide⟩ dX7_yes_18 (fun r18 _ e18 => ?_)
      subst e18
      exact g_retIW (pc := 21) C rfl rfl () (rfl) (by have e9 : rcYes τ (nI q8) g n = (-1) := (by first | (simp [rcYes, *]; done) | (grind [rcYes])); rw [if_neg (by rw [e9] <;> (first | done | decide)), e9]) (by have e9 : rcYes τ (nI q8) g n = (-1) := (by first | (simp [rcYes, *]; done) | (grind [rcYes])); rw [e9] <;> (first | done | rfl | (rw [if_neg (by decide)] <;> (first | done | rfl)))) dX7_yes_21
set_option maxRecDepth 20000 in
set_option maxHeartbeats 4000000 in
theorem c_X7_nothing (l : Launch) (G : gT) (m : Nat) (A : Nat → Nat) (τ : tT) (y : Nat → Int32) (q : Int32) (p : Int32) (rr : Nat → Int32) (hT : TI τ) : WI l yX7_nothing cX7_nothing 3 (some .int) 12 0 0 G [.ref m, .int q, .int p] (wN G m A τ y ++ ([iC G (A 11) 8 rr])) (S := Unit) (fun r _ => r = if rcNo τ q p = 0 then 1000 - share τ (nx q) - share τ (nx p) else -10000 + (rcNo τ q p)) (fun _ => wN G m A τ y ++ ([iC G (A 11) 8 (rfI rr (rcNo τ q p))])) := by
  have hg10 := hT.g10
  have hq8 := hT.q8
  intro sz9
  refine start_W (by decide) (Nat.le_of_ble_eq_true rfl) (fun p9 e9 s9 m9 a9 b9 t9 c9 C => ?_)
  refine g_lv (lv' := [(0, .ref m), (1, .int q), (2, .int p)]) rfl ?_
  refine g_aload_n (pc := 0) C dX7_nothing_0 0 rfl ?_
  refine g_iload_n (pc := 1) C dX7_nothing_1 1 rfl ?_
  refine g_rdVI (pc := 2) (val := bI (0 ≤ q ∧ q ≤ nI (tQ τ) - 1)) (rest := []) C k_X7_isQuestion (c_X7_isQuestion l G m A τ y q (by first | assumption | omega | decide)) ml_X7_102 rfl ⟨Nat.le_of_ble_eq_true rfl, Nat.le_of_ble_eq_true rfl⟩ rfl [0, 1, 2, 3, 4, 5, 6, 7, 8] rfl 0 rfl rfl rfl rfl (Nat.le_of_ble_eq_true rfl) ⟨by decide, by decide⟩ dX7_nothing_2 ?_
  refine g_ifb_eq (pc := 5) (tgt := 16) C dX7_nothing_5 (by decide) (fun h5 => ?_) (fun h5 => ?_)
  · refine g_aload_n (pc := 16) C dX7_nothing_16 0 rfl ?_
    refine g_iconst (pc := 17) (v := (-1)) C dX7_nothing_17 (by decide) ?_
    refine g_wrVI (pc := 18) (rest := []) (wr := []) C (fun _ => wN G m A τ y ++ ([iC G (A 11) 8 (rfI rr (-1))])) rfl k_X7_noMuch (c_X7_noMuch l G m A τ y rr (-1) (by first | assumption | omega | decide)) ml_X7_127 rfl ⟨Nat.le_of_ble_eq_true rfl, Nat.le_of_ble_eq_true rfl⟩ rfl [0, 1, 2, 3, 4, 5, 6, 7, 8, 9] [] [0, 1, 2, 3, 4, 5, 6, 7, 8, 9] rfl (by decide) rfl (by decide) (by decide) (by decide) (fun _ => rfl) 0 rfl rfl rfl rfl (Nat.le_of_ble_eq_true rfl) ⟨by decide, by decide⟩ dX7_nothing_18 (fun r18 _ e18 => ?_)
    subst e18
    exact g_retIW (pc := 21) C rfl rfl () (rfl) (by have e9 : rcNo τ q p = (-1) := (by first | (simp [rcNo, *]; done) | (grind [rcNo])); rw [if_neg (by rw [e9] <;> (first | done | decide)), e9]) (by have e9 : rcNo τ q p = (-1) := (by first | (simp [rcNo, *]; done) | (grind [rcNo])); rw [e9] <;> (first | done | rfl | (rw [if_neg (by decide)] <;> (first | done | rfl)))) dX7_nothing_21
  · obtain ⟨q8, hq8, rfl⟩ := isQ_nI hT h5
    have eq8 : nx (nI q8) = q8 := nx_nI (by omega)
    refine g_aload_n (pc := 8) C dX7_nothing_8 0 rfl ?_
    refine g_iload_n (pc := 9) C dX7_nothing_9 2 rfl ?_
    refine g_rdVI (pc := 10) (val := bI (0 ≤ p ∧ p ≤ nI (tQ τ) - 1)) (rest := []) C k_X7_isQuestion (c_X7_isQuestion l G m A τ y p (by first | assumption | omega | decide)) ml_X7_102 rfl ⟨Nat.le_of_ble_eq_true rfl, Nat.le_of_ble_eq_true rfl⟩ rfl [0, 1, 2, 3, 4, 5, 6, 7, 8] rfl 0 rfl rfl rfl rfl (Nat.le_of_ble_eq_true rfl) ⟨by decide, by decide⟩ dX7_nothing_10 ?_
    refine g_ifb_ne (pc := 13) (tgt := 22) C dX7_nothing_13 (by decide) (fun h13 => ?_) (fun h13 => ?_)
    · obtain ⟨p8, hp8, rfl⟩ := isQ_nI hT h13
      have ep8 : nx (nI p8) = p8 := nx_nI (by omega)
      refine g_sipush (pc := 22) (v := 1000) C dX7_nothing_22 (by decide) ?_
      refine g_aload_n (pc := 25) C dX7_nothing_25 0 rfl ?_
      refine g_iload_n (pc := 26) C dX7_nothing_26 1 rfl ?_
      refine g_rdVI (pc := 27) (val := share τ q8) (rest := [.int 1000]) C k_X7_shareOf (c_X7_shareOf l G m A τ y q8 (by first | assumption | omega | decide) (by first | assumption | omega | decide)) ml_X7_112 rfl ⟨Nat.le_of_ble_eq_true rfl, Nat.le_of_ble_eq_true rfl⟩ rfl [0, 1, 2, 3, 4, 5, 6, 7, 8] rfl 0 rfl rfl rfl rfl (Nat.le_of_ble_eq_true rfl) ⟨by decide, by decide⟩ dX7_nothing_27 ?_
      refine g_isub (pc := 30) C dX7_nothing_30 ?_
      refine g_aload_n (pc := 31) C dX7_nothing_31 0 rfl ?_
      refine g_iload_n (pc := 32) C dX7_nothing_32 2 rfl ?_
      refine g_rdVI (pc := 33) (val := share τ p8) (rest := [.int (1000 - (share τ q8))]) C k_X7_shareOf (c_X7_shareOf l G m A τ y p8 (by first | assumption | omega | decide) (by first | assumption | omega | decide)) ml_X7_112 rfl ⟨Nat.le_of_ble_eq_true rfl, Nat.le_of_ble_eq_true rfl⟩ rfl [0, 1, 2, 3, 4, 5, 6, 7, 8] rfl 0 rfl rfl rfl rfl (Nat.le_of_ble_eq_true rfl) ⟨by decide, by decide⟩ dX7_nothing_33 ?_
      refine g_isub (pc := 36) C dX7_nothing_36 ?_
      exact g_retIW (pc := 37) C rfl rfl () (rfl) (by have e9 : rcNo τ (nI q8) (nI p8) = 0 := (by first | (simp [rcNo, *]; done) | (grind [rcNo])); rw [if_pos e9] <;> (rw [eq8, ep8])) (by have e9 : rcNo τ (nI q8) (nI p8) = 0 := (by first | (simp [rcNo, *]; done) | (grind [rcNo])); rw [e9, rfI_0] <;> (rfl)) dX7_nothing_37
    · refine g_aload_n (pc := 16) C dX7_nothing_16 0 rfl ?_
      refine g_iconst (pc := 17) (v := (-1)) C dX7_nothing_17 (by decide) ?_
      refine g_wrVI (pc := 18) (rest := []) (wr := []) C (fun _ => wN G m A τ y ++ ([iC G (A 11) 8 (rfI rr (-1))])) rfl k_X7_noMuch (c_X7_noMuch l G m A τ y rr (-1) (by first | assumption | omega | decide)) ml_X7_127 rfl ⟨Nat.le_of_ble_eq_true rfl, Nat.le_of_ble_eq_true rfl⟩ rfl [0, 1, 2, 3, 4, 5, 6, 7, 8, 9] [] [0, 1, 2, 3, 4, 5, 6, 7, 8, 9] rfl (by decide) rfl (by decide) (by decide) (by decide) (fun _ => rfl) 0 rfl rfl rfl rfl (Nat.le_of_ble_eq_true rfl) ⟨by decide, by decide⟩ dX7_nothing_18 (fun r18 _ e18 => ?_)
      subst e18
      exact g_retIW (pc := 21) C rfl rfl () (rfl) (by have e9 : rcNo τ (nI q8) p = (-1) := (by first | (simp [rcNo, *]; done) | (grind [rcNo])); rw [if_neg (by rw [e9] <;> (first | done | decide)), e9]) (by have e9 : rcNo τ (nI q8) p = (-1) := (by first | (simp [rcNo, *]; done) | (grind [rcNo])); rw [e9] <;> (first | done | rfl | (rw [if_neg (by decide)] <;> (first | done | rfl)))) dX7_nothing_21
