theorem n1_i : (-1 : Int32).toInt = -1 := rfl
theorem n0_i : (0 : Int32).toInt = 0 := rfl
theorem n100_i : (100 : Int32).toInt = 100 := rfl
theorem hd_ge {hd sz : Nat → Int32} (hS : SI hd sz) {s : Nat} (hs : s < 8) : -1 ≤ hd s := Int32.le_iff_toInt_le.mpr (by rw [n1_i]; exact (hS s hs).1.1)
theorem isQn_iff {x : Int32} (h : -1 ≤ x) : isQn x ↔ 0 ≤ x ∧ x < 100 := by
  have h1 := Int32.le_iff_toInt_le.mp h
  rw [n1_i] at h1
  have e1 : x = -1 ↔ x.toInt = -1 := ⟨fun e => by rw [e]; rfl, fun e => Int32.toInt_inj.mp (by rw [e]; rfl)⟩
  rw [isQn, e1, Int32.le_iff_toInt_le, Int32.le_iff_toInt_le, Int32.lt_iff_toInt_lt, n0_i, n100_i]
  omega
theorem ng_m1 {x : Int32} (h : -1 ≤ x) (h2 : x < 0) : x = -1 := by
  have h1 := Int32.le_iff_toInt_le.mp h
  have h3 := Int32.lt_iff_toInt_lt.mp h2
  rw [n1_i] at h1
  rw [n0_i] at h3
  exact Int32.toInt_inj.mp (by rw [n1_i]; omega)
theorem rf_v {hd sz : Nat → Int32} (hS : SI hd sz) {p q : Nat} (hp : p < 8) (hq : q < 8) : rfRows hd (nI p) (nI q) = if (0 ≤ hd p ∧ hd p < 100) ∨ (0 ≤ hd q ∧ hd q < 100) then -2 else if ¬ hd p < 100 ∧ ¬ hd q < 100 then (if hd p = hd q then 0 else -2) else -3 := by
  unfold rfRows
  rw [if_neg (fun z => z.elim (fun y => y (nI_in8 hp)) (fun y => y (nI_in8 hq))), nx_nI (by omega), nx_nI (by omega)]
  have h1 := isQn_iff (hd_ge hS hp)
  have h2 := isQn_iff (hd_ge hS hq)
  by_cases a : isQn (hd p) ∨ isQn (hd q)
  · rw [if_pos a, if_pos (by rwa [h1, h2] at a)]
  · have b : ¬ ((0 ≤ hd p ∧ hd p < 100) ∨ (0 ≤ hd q ∧ hd q < 100)) := by rwa [h1, h2] at a
    rw [if_neg a, if_neg b]
theorem rf_1 {hd : Nat → Int32} {s : Int32} (h : ¬ in8 s) : rfRows hd s s = -1 := if_pos (Or.inl h)
theorem rf_ss {hd sz : Nat → Int32} (hS : SI hd sz) {s : Nat} (hs : s < 8) : rfRows hd (nI s) (nI s) = if 0 ≤ hd s ∧ hd s < 100 then -2 else if hd s < 0 then -3 else 0 := by
  rw [rf_v hS hs hs]
  by_cases a : 0 ≤ hd s ∧ hd s < 100
  · rw [if_pos a, if_pos (Or.inl a)]
  · rw [if_neg a, if_neg (fun z => z.elim a a)]
    by_cases b : hd s < 0
    · rw [if_pos b, if_neg (fun z => z.1 (Int32.lt_trans b (by decide)))]
    · have c : ¬ hd s < 100 := fun z => a ⟨Int32.not_lt.mp b, z⟩
      rw [if_neg b, if_pos ⟨c, c⟩, if_pos rfl]
theorem rf_neg {hd : Nat → Int32} {p q : Int32} (h : ¬ 0 ≤ rfRows hd p q) : -7 ≤ rfRows hd p q ∧ rfRows hd p q ≤ -1 := by
  unfold rfRows at h ⊢
  split at h
  · rw [if_pos (by assumption)]; decide
  · rw [if_neg (by assumption)]
    split at h
    · rw [if_pos (by assumption)]; decide
    · rw [if_neg (by assumption)]
      split at h
      · rw [if_pos (by assumption)]
        split at h
        · exact absurd (by decide) h
        · rw [if_neg (by assumption)]; decide
      · rw [if_neg (by assumption)]; decide
theorem rf_ne {hd : Nat → Int32} {p q : Int32} (h : ¬ 0 ≤ rfRows hd p q) : ¬ rfRows hd p q = 0 := fun e => h (by rw [e]; decide)
theorem rf_0 {hd : Nat → Int32} {p q : Int32} (h : 0 ≤ rfRows hd p q) : rfRows hd p q = 0 := by
  unfold rfRows at h ⊢
  split at h
  · exact absurd h (by decide)
  · rw [if_neg (by assumption)]
    split at h
    · exact absurd h (by decide)
    · rw [if_neg (by assumption)]
      split at h
      · rw [if_pos (by assumption)]
        split at h
        · rw [if_pos (by assumption)]
        · exact absurd h (by decide)
      · exact absurd h (by decide)
theorem in_has {i z : Int32} (h : 0 ≤ i ∧ i ≤ z) : ¬ i < 0 ∧ ¬ z < i := ⟨Int32.not_lt.mpr h.1, Int32.not_lt.mpr h.2⟩
theorem has_in {i z : Int32} (h : ¬ i < 0 ∧ ¬ z < i) : 0 ≤ i ∧ i ≤ z := ⟨Int32.not_lt.mp h.1, Int32.not_lt.mp h.2⟩
theorem el_a {hd sz : Nat → Int32} {el : Nat → Int64} {s i : Int32} (h : ¬ in8 s) : elV hd sz el s i = 0 := if_neg (fun z => absurd z.1 (by rw [rf_1 h]; decide))
theorem el_b {hd sz : Nat → Int32} {el : Nat → Int64} {s : Nat} {i : Int32} (hs : s < 8) (h : ¬ isRw (hd s)) : elV hd sz el (nI s) i = 0 := if_neg (fun z => by
  have := (rf_in z.1).2.2.1
  rw [nx_nI (by omega)] at this
  exact h this)
theorem el_c {hd sz : Nat → Int32} {el : Nat → Int64} {s : Nat} {i : Int32} (hs : s < 8) (h : ¬ (0 ≤ i ∧ i ≤ sz s - 1)) : elV hd sz el (nI s) i = 0 := if_neg (fun z => by
  have := z.2
  rw [nx_nI (by omega)] at this
  exact h (has_in this))
theorem rf_row {hd : Nat → Int32} {s : Nat} (hs : s < 8) (h : isRw (hd s)) : rfRows hd (nI s) (nI s) = 0 := by
  unfold rfRows
  rw [if_neg (fun z => z.elim (fun y => y (nI_in8 hs)) (fun y => y (nI_in8 hs))), nx_nI (by omega)]
  have a : ¬ isQn (hd s) := fun z => z.2 (Int32.not_lt.mp h)
  rw [if_neg (fun z => z.elim a a), if_pos ⟨h, h⟩, if_pos rfl]
theorem el_d {hd sz : Nat → Int32} {el : Nat → Int64} {s i : Nat} (hs : s < 8) (h : isRw (hd s)) (h2 : 0 ≤ nI i ∧ nI i ≤ sz s - 1) (hi : i < 2147483648) : elV hd sz el (nI s) (nI i) = el (160 * s + i) := by
  have e := rf_row hs h
  have es : nx (nI s) = s := nx_nI (by omega)
  have ei : nx (nI i) = i := nx_nI hi
  unfold elV
  rw [es, ei, if_pos ⟨e, in_has h2⟩, Nat.mul_comm]
theorem row_nQ {τ : tT} (hT : TI τ) {x : Int32} (h : isRw x) : ¬ isQ τ x := fun z => by
  obtain ⟨q, hq, rfl⟩ := isQ_nI hT z
  have := hT.q8
  exact h ((nI_ltI (b := 100) (by omega) (by decide)).mpr (by omega))
theorem sYes_4 (a v g n : Int32) : sYes 4 a v g n = sPl v n * (10 - a) / 10 := by
  unfold sYes; rw [if_neg (by decide), if_neg (by decide), if_neg (by decide), if_pos rfl]
theorem sYes_6 (a v g n : Int32) : sYes 6 a v g n = n / 2 * (10 - a) / 10 := by
  unfold sYes; rw [if_neg (by decide), if_neg (by decide), if_neg (by decide), if_neg (by decide), if_neg (by decide), if_pos rfl]
theorem yQ_5 {τ : tT} {q : Nat} {k : Int32} (e : τ 0 q = nI (tK τ q)) (h : k = 4 ∨ k = 6) (hu : undr (tK τ q) k) : yQ τ q 0 5 100 = yQ τ q 0 0 100 := by
  have h0 : τ 0 q = 4 ∨ τ 0 q = 6 := by
    rcases hu with u | u | u | u | u
    · rw [e, ← u]; exact h
    · rcases h with h | h <;> rw [h] at u <;> exact absurd u (by decide)
    · rcases h with h | h <;> rw [h] at u <;> exact absurd u.2 (by decide)
    · rcases h with h | h <;> rw [h] at u <;> exact absurd u.2 (by decide)
    · right; rw [e, u.1]; rfl
  unfold yQ
  rcases h0 with h | h
  · rw [h, sYes_4, sYes_4]
  · rw [h, sYes_6, sYes_6]
set_option maxRecDepth 20000 in
set_option maxHeartbeats 4000000 in
theorem c_X7_row (l : Launch) (G : gT) (m : Nat) (A : Nat → Nat) (τ : tT) (y : Nat → Int32) (hd : Nat → Int32) (sz : Nat → Int32) (el : Nat → Int64) (s : Int32) (k : Int32) (n : Int32) (rr : Nat → Int32) : WI l yX7_row cX7_row 5 (some .int) 3 0 0 G [.ref m, .int s, .int k, .int n] (wN G m A τ y ++ ([iC G (A 0) 8 hd, iC G (A 1) 8 sz, jC G (A 2) 1280 el, iC G (A 11) 8 rr])) (S := Unit) (fun r _ => r = if rcRow s k n = 0 then 1 else (rcRow s k n)) (fun _ => wN G m A τ y ++ ([iC G (A 0) 8 (if rcRow s k n = 0 then upd hd (nx s) (100 + k) else hd), iC G (A 1) 8 (if rcRow s k n = 0 then upd sz (nx s) n else sz), jC G (A 2) 1280 (if rcRow s k n = 0 then clr el (nx s) 160 else el), iC G (A 11) 8 (rfI rr (rcRow s k n))])) := by
  intro sz9
  refine start_W (by decide) (Nat.le_of_ble_eq_true rfl) (fun p9 e9 s9 m9 a9 b9 t9 c9 C => ?_)
  refine g_lv (lv' := [(0, .ref m), (1, .int s), (2, .int k), (3, .int n)]) rfl ?_
  refine g_iload_n (pc := 0) C dX7_row_0 1 rfl ?_
  refine g_iconst (pc := 1) (v := 0) C dX7_row_1 (by decide) ?_
  refine g_bipush (pc := 2) (v := 7) C dX7_row_2 (by decide) ?_
  refine g_rdSI (pc := 4) (val := bI (0 ≤ s ∧ s ≤ 7)) (rest := []) C k_X7_within (c_X7_within l G s 0 7) ml_X7_88 rfl ⟨Nat.le_of_ble_eq_true rfl, Nat.le_of_ble_eq_true rfl⟩ rfl [] rfl rfl (Nat.le_of_ble_eq_true rfl) ⟨by decide, by decide⟩ dX7_row_4 ?_
  refine g_ifb_ne (pc := 7) (tgt := 16) C dX7_row_7 (by decide) (fun h7 => ?_) (fun h7 => ?_)
  · obtain ⟨s8, hs8, rfl⟩ := in8_nI h7
    have es8 : nx (nI s8) = s8 := nx_nI (by omega)
    refine g_iload_n (pc := 16) C dX7_row_16 3 rfl ?_
    refine g_if_ge (pc := 17) (tgt := 27) C dX7_row_17 (by decide) (fun h17 => ?_) (fun h17 => ?_)
    · refine g_iload_n (pc := 27) C dX7_row_27 2 rfl ?_
      refine g_iconst (pc := 28) (v := 0) C dX7_row_28 (by decide) ?_
      refine g_iconst (pc := 29) (v := 3) C dX7_row_29 (by decide) ?_
      refine g_rdSI (pc := 30) (val := bI (0 ≤ k ∧ k ≤ 3)) (rest := []) C k_X7_within (c_X7_within l G k 0 3) ml_X7_88 rfl ⟨Nat.le_of_ble_eq_true rfl, Nat.le_of_ble_eq_true rfl⟩ rfl [] rfl rfl (Nat.le_of_ble_eq_true rfl) ⟨by decide, by decide⟩ dX7_row_30 ?_
      refine g_ifb_ne (pc := 33) (tgt := 43) C dX7_row_33 (by decide) (fun h33 => ?_) (fun h33 => ?_)
      · refine g_iload_n (pc := 43) C dX7_row_43 3 rfl ?_
        refine g_sipush (pc := 44) (v := 160) C dX7_row_44 (by decide) ?_
        refine g_icmp_le (pc := 47) (tgt := 57) C dX7_row_47 (by decide) (fun h47 => ?_) (fun h47 => ?_)
        · refine g_aload_n (pc := 57) C dX7_row_57 0 rfl ?_
          refine g_get (pc := 58) (T := TX7) (N := 33) (v := .ref (A 0)) C ib_X7 0 rfl rfl 0 (by decide) mf_X7_7 rfl rfl rfl dX7_row_58 ?_
          refine g_iload_n (pc := 61) C dX7_row_61 1 rfl ?_
          refine g_bipush (pc := 62) (v := 100) C dX7_row_62 (by decide) ?_
          refine g_iload_n (pc := 64) C dX7_row_64 2 rfl ?_
          refine g_iadd (pc := 65) C dX7_row_65 ?_
          refine g_iast (pc := 66) (ws' := wN G m A τ y ++ ([iC G (A 0) 8 (upd hd s8 (100 + k)), iC G (A 1) 8 sz, jC G (A 2) 1280 el, iC G (A 11) 8 rr])) C rfl 9 rfl s8 (rfl) ⟨by omega, by decide⟩ dX7_row_66 rfl ?_
          refine g_aload_n (pc := 67) C dX7_row_67 0 rfl ?_
          refine g_get (pc := 68) (T := TX7) (N := 33) (v := .ref (A 1)) C ib_X7 0 rfl rfl 1 (by decide) mf_X7_13 rfl rfl rfl dX7_row_68 ?_
          refine g_iload_n (pc := 71) C dX7_row_71 1 rfl ?_
          refine g_iload_n (pc := 72) C dX7_row_72 3 rfl ?_
          refine g_iast (pc := 73) (ws' := wN G m A τ y ++ ([iC G (A 0) 8 (upd hd s8 (100 + k)), iC G (A 1) 8 (upd sz s8 n), jC G (A 2) 1280 el, iC G (A 11) 8 rr])) C rfl 10 rfl s8 (rfl) ⟨by omega, by decide⟩ dX7_row_73 rfl ?_
          refine g_iconst (pc := 74) (v := 0) C dX7_row_74 (by decide) ?_
          refine g_istore (pc := 75) (lv' := [(4, .int 0), (0, .ref m), (1, .int (nI s8)), (2, .int k), (3, .int n)]) C dX7_row_75 (by decide) rfl ?_
          have key_77 : ∀ (n77 : Nat) (i : Nat) (hi : i ≤ 160), 160 - i < n77 → GW p9 l e9 (rmh 3 0 0) s9 m9 a9 b9 t9 c9 (MQ b9 (va_Qi (fun r (_ : Unit) => r = if rcRow (nI s8) k n = 0 then 1 else (rcRow (nI s8) k n)) (BW G (wN G m A τ y ++ ([iC G (A 0) 8 hd, iC G (A 1) 8 sz, jC G (A 2) 1280 el, iC G (A 11) 8 rr])) sz9 (fun _ => wN G m A τ y ++ ([iC G (A 0) 8 (if rcRow (nI s8) k n = 0 then upd hd (nx (nI s8)) (100 + k) else hd), iC G (A 1) 8 (if rcRow (nI s8) k n = 0 then upd sz (nx (nI s8)) n else sz), jC G (A 2) 1280 (if rcRow (nI s8) k n = 0 then clr el (nx (nI s8)) 160 else el), iC G (A 11) 8 (rfI rr (rcRow (nI s8) k n))]))) (va_A (wN G m A τ y ++ ([iC G (A 0) 8 hd, iC G (A 1) 8 sz, jC G (A 2) 1280 el, iC G (A 11) 8 rr])) sz9)) a9 s9 0 0 (va_A (wN G m A τ y ++ ([iC G (A 0) 8 hd, iC G (A 1) 8 sz, jC G (A 2) 1280 el, iC G (A 11) 8 rr])) sz9)) G (va_A (wN G m A τ y ++ ([iC G (A 0) 8 hd, iC G (A 1) 8 sz, jC G (A 2) 1280 el, iC G (A 11) 8 rr])) sz9) true 5 0 0 (wN G m A τ y ++ ([iC G (A 0) 8 (upd hd s8 (100 + k)), iC G (A 1) 8 (upd sz s8 n), jC G (A 2) 1280 (clr el s8 i), iC G (A 11) 8 rr])) [(0, .ref m), (1, .int (nI s8)), (2, .int k), (3, .int n), (4, .int (nI i))] 77 [] := by
            intro n77
            induction n77 with
            | zero => intro i hi hn77; exact absurd hn77 (Nat.not_lt_zero _)
            | succ n77 ih77 =>
              intro i hi hn77
              refine g_iload (pc := 77) C dX7_row_77 4 rfl ?_
              refine g_sipush (pc := 79) (v := 160) C dX7_row_79 (by decide) ?_
              refine g_icmpN_ge (pc := 82) (i := i) (j := 160) (tgt := 105) C dX7_row_82 (by decide) ⟨by omega, by omega⟩ (fun h82 => ?_) (fun h82 => ?_)
              · refine g_iconst (pc := 105) (v := 1) C dX7_row_105 (by decide) ?_
                exact g_retIW (pc := 106) C rfl rfl () (rfl) (by have e9 : rcRow (nI s8) k n = 0 := (by first | (simp [rcRow, *]; done) | (grind [rcRow])); rw [if_pos e9] <;> (rfl)) (by have e9 : rcRow (nI s8) k n = 0 := (by first | (simp [rcRow, *]; done) | (grind [rcRow])); rw [e9, rfI_0] <;> (rw [es8, show i = 160 from by omega] <;> rfl)) dX7_row_106
              · refine g_aload_n (pc := 85) C dX7_row_85 0 rfl ?_
                refine g_get (pc := 86) (T := TX7) (N := 33) (v := .ref (A 2)) C ib_X7 0 rfl rfl 2 (by decide) mf_X7_16 rfl rfl rfl dX7_row_86 ?_
                refine g_sipush (pc := 89) (v := 160) C dX7_row_89 (by decide) ?_
                refine g_iload_n (pc := 92) C dX7_row_92 1 rfl ?_
                refine g_imulN (pc := 93) (i := 160) (j := s8) C dX7_row_93 ?_
                refine g_iload (pc := 94) C dX7_row_94 4 rfl ?_
                refine g_iaddN (pc := 96) (i := 160 * s8) (j := i) C dX7_row_96 ?_
                refine g_lconst (pc := 97) (v := 0) C dX7_row_97 rfl ?_
                refine g_last (pc := 98) (ws' := wN G m A τ y ++ ([iC G (A 0) 8 (upd hd s8 (100 + k)), iC G (A 1) 8 (upd sz s8 n), jC G (A 2) 1280 (vp_updL (clr el s8 i) ((160 * s8) + i) 0), iC G (A 11) 8 rr])) C rfl 11 rfl ((160 * s8) + i) (rfl) ⟨by omega, by decide⟩ dX7_row_98 rfl ?_
                refine g_iinc (pc := 99) (v := nI (i + 1)) (lv' := [(4, .int (nI (i + 1))), (0, .ref m), (1, .int (nI s8)), (2, .int k), (3, .int n)]) C dX7_row_99 4 rfl (nI_1 i) (by decide) rfl ?_
                refine g_goto (pc := 102) (tgt := 77) C dX7_row_102 (by decide) ?_
                refine g_ws (ws' := wN G m A τ y ++ ([iC G (A 0) 8 (upd hd s8 (100 + k)), iC G (A 1) 8 (upd sz s8 n), jC G (A 2) 1280 (clr el s8 (i + 1)), iC G (A 11) 8 rr])) (by rw [Nat.mul_comm 160 s8, clr_s]) ?_
                refine g_sub (lv' := [(0, .ref m), (1, .int (nI s8)), (2, .int k), (3, .int n), (4, .int (nI (i + 1)))]) [1, 2, 3, 4, 0] rfl ?_
                exact ih77 (i + 1) (by first | assumption | omega | decide) (by omega)
          refine g_ws (ws' := wN G m A τ y ++ ([iC G (A 0) 8 (upd hd s8 (100 + k)), iC G (A 1) 8 (upd sz s8 n), jC G (A 2) 1280 (clr el s8 0), iC G (A 11) 8 rr])) (by rw [clr_0]) ?_
          refine g_sub (lv' := [(0, .ref m), (1, .int (nI s8)), (2, .int k), (3, .int n), (4, .int (nI 0))]) [1, 2, 3, 4, 0] rfl ?_
          exact key_77 _ 0 (by first | assumption | omega | decide) (Nat.lt_succ_self _)
        · refine g_aload_n (pc := 50) C dX7_row_50 0 rfl ?_
          refine g_bipush (pc := 51) (v := (-7)) C dX7_row_51 (by decide) ?_
          refine g_wrVI (pc := 53) (rest := []) (wr := [iC G (A 0) 8 hd, iC G (A 1) 8 sz, jC G (A 2) 1280 el]) C (fun _ => wN G m A τ y ++ ([iC G (A 0) 8 hd, iC G (A 1) 8 sz, jC G (A 2) 1280 el, iC G (A 11) 8 (rfI rr (-7))])) rfl k_X7_no (c_X7_no l G m A τ y rr (-7) (by first | assumption | omega | decide)) ml_X7_81 rfl ⟨Nat.le_of_ble_eq_true rfl, Nat.le_of_ble_eq_true rfl⟩ rfl [0, 1, 2, 3, 4, 5, 6, 7, 8, 12] [9, 10, 11] [3, 4, 5, 6, 7, 8, 9, 10, 11, 0, 1, 2, 12] rfl (by decide) rfl (by decide) (by decide) (by decide) (fun _ => rfl) 0 rfl rfl rfl rfl (Nat.le_of_ble_eq_true rfl) ⟨by decide, by decide⟩ dX7_row_53 (fun r53 _ e53 => ?_)
          subst e53
          exact g_retIW (pc := 56) C rfl rfl () (rfl) (by have e9 : rcRow (nI s8) k n = (-7) := (by first | (simp [rcRow, *]; done) | (grind [rcRow])); rw [if_neg (by rw [e9] <;> (first | done | decide)), e9]) (by have e9 : rcRow (nI s8) k n = (-7) := (by first | (simp [rcRow, *]; done) | (grind [rcRow])); rw [e9] <;> (first | done | rfl | (rw [if_neg (by decide)] <;> (first | done | rfl)))) dX7_row_56
      · refine g_aload_n (pc := 36) C dX7_row_36 0 rfl ?_
        refine g_bipush (pc := 37) (v := (-6)) C dX7_row_37 (by decide) ?_
        refine g_wrVI (pc := 39) (rest := []) (wr := [iC G (A 0) 8 hd, iC G (A 1) 8 sz, jC G (A 2) 1280 el]) C (fun _ => wN G m A τ y ++ ([iC G (A 0) 8 hd, iC G (A 1) 8 sz, jC G (A 2) 1280 el, iC G (A 11) 8 (rfI rr (-6))])) rfl k_X7_no (c_X7_no l G m A τ y rr (-6) (by first | assumption | omega | decide)) ml_X7_81 rfl ⟨Nat.le_of_ble_eq_true rfl, Nat.le_of_ble_eq_true rfl⟩ rfl [0, 1, 2, 3, 4, 5, 6, 7, 8, 12] [9, 10, 11] [3, 4, 5, 6, 7, 8, 9, 10, 11, 0, 1, 2, 12] rfl (by decide) rfl (by decide) (by decide) (by decide) (fun _ => rfl) 0 rfl rfl rfl rfl (Nat.le_of_ble_eq_true rfl) ⟨by decide, by decide⟩ dX7_row_39 (fun r39 _ e39 => ?_)
        subst e39
        exact g_retIW (pc := 42) C rfl rfl () (rfl) (by have e9 : rcRow (nI s8) k n = (-6) := (by first | (simp [rcRow, *]; done) | (grind [rcRow])); rw [if_neg (by rw [e9] <;> (first | done | decide)), e9]) (by have e9 : rcRow (nI s8) k n = (-6) := (by first | (simp [rcRow, *]; done) | (grind [rcRow])); rw [e9] <;> (first | done | rfl | (rw [if_neg (by decide)] <;> (first | done | rfl)))) dX7_row_42
    · refine g_aload_n (pc := 20) C dX7_row_20 0 rfl ?_
      refine g_bipush (pc := 21) (v := (-4)) C dX7_row_21 (by decide) ?_
      refine g_wrVI (pc := 23) (rest := []) (wr := [iC G (A 0) 8 hd, iC G (A 1) 8 sz, jC G (A 2) 1280 el]) C (fun _ => wN G m A τ y ++ ([iC G (A 0) 8 hd, iC G (A 1) 8 sz, jC G (A 2) 1280 el, iC G (A 11) 8 (rfI rr (-4))])) rfl k_X7_no (c_X7_no l G m A τ y rr (-4) (by first | assumption | omega | decide)) ml_X7_81 rfl ⟨Nat.le_of_ble_eq_true rfl, Nat.le_of_ble_eq_true rfl⟩ rfl [0, 1, 2, 3, 4, 5, 6, 7, 8, 12] [9, 10, 11] [3, 4, 5, 6, 7, 8, 9, 10, 11, 0, 1, 2, 12] rfl (by decide) rfl (by decide) (by decide) (by decide) (fun _ => rfl) 0 rfl rfl rfl rfl (Nat.le_of_ble_eq_true rfl) ⟨by decide, by decide⟩ dX7_row_23 (fun r23 _ e23 => ?_)
      subst e23
      exact g_retIW (pc := 26) C rfl rfl () (rfl) (by have e9 : rcRow (nI s8) k n = (-4) := (by first | (simp [rcRow, *]; done) | (grind [rcRow])); rw [if_neg (by rw [e9] <;> (first | done | decide)), e9]) (by have e9 : rcRow (nI s8) k n = (-4) := (by first | (simp [rcRow, *]; done) | (grind [rcRow])); rw [e9] <;> (first | done | rfl | (rw [if_neg (by decide)] <;> (first | done | rfl)))) dX7_row_26
  · refine g_aload_n (pc := 10) C dX7_row_10 0 rfl ?_
    refine g_iconst (pc := 11) (v := (-1)) C dX7_row_11 (by decide) ?_
    refine g_wrVI (pc := 12) (rest := []) (wr := [iC G (A 0) 8 hd, iC G (A 1) 8 sz, jC G (A 2) 1280 el]) C (fun _ => wN G m A τ y ++ ([iC G (A 0) 8 hd, iC G (A 1) 8 sz, jC G (A 2) 1280 el, iC G (A 11) 8 (rfI rr (-1))])) rfl k_X7_no (c_X7_no l G m A τ y rr (-1) (by first | assumption | omega | decide)) ml_X7_81 rfl ⟨Nat.le_of_ble_eq_true rfl, Nat.le_of_ble_eq_true rfl⟩ rfl [0, 1, 2, 3, 4, 5, 6, 7, 8, 12] [9, 10, 11] [3, 4, 5, 6, 7, 8, 9, 10, 11, 0, 1, 2, 12] rfl (by decide) rfl (by decide) (by decide) (by decide) (fun _ => rfl) 0 rfl rfl rfl rfl (Nat.le_of_ble_eq_true rfl) ⟨by decide, by decide⟩ dX7_row_12 (fun r12 _ e12 => ?_)
    subst e12
    exact g_retIW (pc := 15) C rfl rfl () (rfl) (by have e9 : rcRow s k n = (-1) := (by first | (simp [rcRow, *]; done) | (grind [rcRow])); rw [if_neg (by rw [e9] <;> (first | done | decide)), e9]) (by have e9 : rcRow s k n = (-1) := (by first | (simp [rcRow, *]; done) | (grind [rcRow])); rw [e9] <;> (first | done | rfl | (rw [if_neg (by decide)] <;> (first | done | rfl)))) dX7_row_15
set_option maxRecDepth 20000 in
set_option maxHeartbeats 4000000 in
theorem c_X7_noRow (l : Launch) (G : gT) (m : Nat) (A : Nat → Nat) (τ : tT) (y : Nat → Int32) (hd : Nat → Int32) (sz : Nat → Int32) (s : Int32) (hS : SI hd sz) : RI l yX7_noRow cX7_noRow 2 (some .int) 1 G [.ref m, .int s] (wN G m A τ y ++ ([iC G (A 0) 8 hd])) (rfRows hd s s) := by
  refine start_R (by decide) (Nat.le_of_ble_eq_true rfl) (fun p9 e9 s9 m9 a9 b9 t9 c9 C => ?_)
  refine g_lv (lv' := [(0, .ref m), (1, .int s)]) rfl ?_
  refine g_iload_n (pc := 0) C dX7_noRow_0 1 rfl ?_
  refine g_iconst (pc := 1) (v := 0) C dX7_noRow_1 (by decide) ?_
  refine g_bipush (pc := 2) (v := 7) C dX7_noRow_2 (by decide) ?_
  refine g_rdSI (pc := 4) (val := bI (0 ≤ s ∧ s ≤ 7)) (rest := []) C k_X7_within (c_X7_within l G s 0 7) ml_X7_88 rfl ⟨Nat.le_of_ble_eq_true rfl, Nat.le_of_ble_eq_true rfl⟩ rfl [] rfl rfl (Nat.le_of_ble_eq_true rfl) ⟨by decide, by decide⟩ dX7_noRow_4 ?_
  refine g_ifb_ne (pc := 7) (tgt := 12) C dX7_noRow_7 (by decide) (fun h7 => ?_) (fun h7 => ?_)
  · obtain ⟨s8, hs8, rfl⟩ := in8_nI h7
    have es8 : nx (nI s8) = s8 := nx_nI (by omega)
    refine g_aload_n (pc := 12) C dX7_noRow_12 0 rfl ?_
    refine g_get (pc := 13) (T := TX7) (N := 33) (v := .ref (A 0)) C ib_X7 0 rfl rfl 0 (by decide) mf_X7_7 rfl rfl rfl dX7_noRow_13 ?_
    refine g_iload_n (pc := 16) C dX7_noRow_16 1 rfl ?_
    refine g_iald (pc := 17) (v := hd s8) C 9 rfl s8 (rfl) ⟨by omega, by decide⟩ (rfl) dX7_noRow_17 ?_
    refine g_if_lt (pc := 18) (tgt := 32) C dX7_noRow_18 (by decide) (fun h18 => ?_) (fun h18 => ?_)
    · refine g_aload_n (pc := 32) C dX7_noRow_32 0 rfl ?_
      refine g_get (pc := 33) (T := TX7) (N := 33) (v := .ref (A 0)) C ib_X7 0 rfl rfl 0 (by decide) mf_X7_7 rfl rfl rfl dX7_noRow_33 ?_
      refine g_iload_n (pc := 36) C dX7_noRow_36 1 rfl ?_
      refine g_iald (pc := 37) (v := hd s8) C 9 rfl s8 (rfl) ⟨by omega, by decide⟩ (rfl) dX7_noRow_37 ?_
      refine g_if_ge (pc := 38) (tgt := 46) C dX7_noRow_38 (by decide) (fun h38 => ?_) (fun h38 => ?_)
      · refine g_iconst (pc := 46) (v := 0) C dX7_noRow_46 (by decide) ?_
        exact g_retIR (pc := 47) C (rfl) (by rw [rf_ss hS hs8]; grind) dX7_noRow_47
      · refine g_bipush (pc := 41) (v := (-3)) C dX7_noRow_41 (by decide) ?_
        refine g_goto (pc := 43) (tgt := 47) C dX7_noRow_43 (by decide) ?_
        exact g_retIR (pc := 47) C (rfl) (by rw [rf_ss hS hs8]; grind) dX7_noRow_47
    · refine g_aload_n (pc := 21) C dX7_noRow_21 0 rfl ?_
      refine g_iload_n (pc := 22) C dX7_noRow_22 1 rfl ?_
      refine g_rdVI (pc := 23) (val := bI (isRw (hd s8))) (rest := []) C k_X7_isRow (c_X7_isRow l G m A τ y hd s8 (by first | assumption | omega)) ml_X7_95 rfl ⟨Nat.le_of_ble_eq_true rfl, Nat.le_of_ble_eq_true rfl⟩ rfl [0, 1, 2, 3, 4, 5, 6, 7, 8, 9] rfl 0 rfl rfl rfl rfl (Nat.le_of_ble_eq_true rfl) ⟨by decide, by decide⟩ dX7_noRow_23 ?_
      refine g_ifb_ne (pc := 26) (tgt := 32) C dX7_noRow_26 (by decide) (fun h26 => ?_) (fun h26 => ?_)
      · refine g_aload_n (pc := 32) C dX7_noRow_32 0 rfl ?_
        refine g_get (pc := 33) (T := TX7) (N := 33) (v := .ref (A 0)) C ib_X7 0 rfl rfl 0 (by decide) mf_X7_7 rfl rfl rfl dX7_noRow_33 ?_
        refine g_iload_n (pc := 36) C dX7_noRow_36 1 rfl ?_
        refine g_iald (pc := 37) (v := hd s8) C 9 rfl s8 (rfl) ⟨by omega, by decide⟩ (rfl) dX7_noRow_37 ?_
        refine g_if_ge (pc := 38) (tgt := 46) C dX7_noRow_38 (by decide) (fun h38 => ?_) (fun h38 => ?_)
        · refine g_iconst (pc := 46) (v := 0) C dX7_noRow_46 (by decide) ?_
          exact g_retIR (pc := 47) C (rfl) (by rw [rf_ss hS hs8]; grind) dX7_noRow_47
        · refine g_bipush (pc := 41) (v := (-3)) C dX7_noRow_41 (by decide) ?_
          refine g_goto (pc := 43) (tgt := 47) C dX7_noRow_43 (by decide) ?_
          exact g_retIR (pc := 47) C (rfl) (by rw [rf_ss hS hs8]; grind) dX7_noRow_47
      · refine g_bipush (pc := 29) (v := (-2)) C dX7_noRow_29 (by decide) ?_
        exact g_retIR (pc := 31) C (rfl) (by rw [rf_ss hS hs8]; grind) dX7_noRow_31
  · refine g_iconst (pc := 10) (v := (-1)) C dX7_noRow_10 (by decide) ?_
    exact g_retIR (pc := 11) C (rfl) (by rw [rf_1 h7]) dX7_noRow_11
set_option maxRecDepth 20000 in
set_option maxHeartbeats 4000000 in
theorem c_X7_set (l : Launch) (G : gT) (m : Nat) (A : Nat → Nat) (τ : tT) (y : Nat → Int32) (hd : Nat → Int32) (sz : Nat → Int32) (el : Nat → Int64) (s : Int32) (i : Int32) (v : Int64) (rr : Nat → Int32) (hS : SI hd sz) : WI l yX7_set cX7_set 7 (some .int) 10 0 0 G [.ref m, .int s, .int i, .long v] (wN G m A τ y ++ ([iC G (A 0) 8 hd, iC G (A 1) 8 sz, jC G (A 2) 1280 el, iC G (A 11) 8 rr])) (S := Unit) (fun r _ => r = if rcSet hd sz s i = 0 then 1 else (rcSet hd sz s i)) (fun _ => wN G m A τ y ++ ([iC G (A 0) 8 hd, iC G (A 1) 8 sz, jC G (A 2) 1280 (if rcSet hd sz s i = 0 then vp_updL el (nx s * 160 + nx i) (lowB (hd (nx s) - 100) v) else el), iC G (A 11) 8 (rfI rr (rcSet hd sz s i))])) := by
  intro sz9
  refine start_W (by decide) (Nat.le_of_ble_eq_true rfl) (fun p9 e9 s9 m9 a9 b9 t9 c9 C => ?_)
  refine g_lv (lv' := [(0, .ref m), (1, .int s), (2, .int i), (3, .long v)]) rfl ?_
  refine g_aload_n (pc := 0) C dX7_set_0 0 rfl ?_
  refine g_iload_n (pc := 1) C dX7_set_1 1 rfl ?_
  refine g_rdVI (pc := 2) (val := rfRows hd s s) (rest := []) C k_X7_noRow (c_X7_noRow l G m A τ y hd sz s (by first | assumption | omega | decide)) ml_X7_99 rfl ⟨Nat.le_of_ble_eq_true rfl, Nat.le_of_ble_eq_true rfl⟩ rfl [0, 1, 2, 3, 4, 5, 6, 7, 8, 9] rfl 0 rfl rfl rfl rfl (Nat.le_of_ble_eq_true rfl) ⟨by decide, by decide⟩ dX7_set_2 ?_
  refine g_istore (pc := 5) (lv' := [(5, .int (rfRows hd s s)), (0, .ref m), (1, .int s), (2, .int i), (3, .long v)]) C dX7_set_5 (by decide) rfl ?_
  refine g_iload (pc := 7) C dX7_set_7 0 rfl ?_
  refine g_if_ge (pc := 9) (tgt := 19) C dX7_set_9 (by decide) (fun h9 => ?_) (fun h9 => ?_)
  · have hrf9 := rf_0 h9
    obtain ⟨s8, hs8, rfl⟩ := in8_nI (rf_in hrf9).1
    have es8 : nx (nI s8) = s8 := nx_nI (by omega)
    have hz8 := (hS.z hs8).2
    refine g_iload_n (pc := 19) C dX7_set_19 3 rfl ?_
    refine g_iconst (pc := 20) (v := 0) C dX7_set_20 (by decide) ?_
    refine g_aload_n (pc := 21) C dX7_set_21 1 rfl ?_
    refine g_get (pc := 22) (T := TX7) (N := 33) (v := .ref (A 1)) C ib_X7 0 rfl rfl 1 (by decide) mf_X7_13 rfl rfl rfl dX7_set_22 ?_
    refine g_iload_n (pc := 25) C dX7_set_25 2 rfl ?_
    refine g_iald (pc := 26) (v := sz s8) C 10 rfl s8 (rfl) ⟨by omega, by decide⟩ (rfl) dX7_set_26 ?_
    refine g_iconst (pc := 27) (v := 1) C dX7_set_27 (by decide) ?_
    refine g_isub (pc := 28) C dX7_set_28 ?_
    refine g_rdSI (pc := 29) (val := bI (0 ≤ i ∧ i ≤ ((sz s8) - 1))) (rest := []) C k_X7_within (c_X7_within l G i 0 ((sz s8) - 1)) ml_X7_88 rfl ⟨Nat.le_of_ble_eq_true rfl, Nat.le_of_ble_eq_true rfl⟩ rfl [] rfl rfl (Nat.le_of_ble_eq_true rfl) ⟨by decide, by decide⟩ dX7_set_29 ?_
    refine g_ifb_ne (pc := 32) (tgt := 42) C dX7_set_32 (by decide) (fun h32 => ?_) (fun h32 => ?_)
    · obtain ⟨i8, hi8, rfl⟩ := has_nI (n := 1) hS hs8 (by decide) (in_has h32)
      have ei8 : nx (nI i8) = i8 := nx_nI (by omega)
      refine g_aload_n (pc := 42) C dX7_set_42 1 rfl ?_
      refine g_get (pc := 43) (T := TX7) (N := 33) (v := .ref (A 0)) C ib_X7 0 rfl rfl 0 (by decide) mf_X7_7 rfl rfl rfl dX7_set_43 ?_
      refine g_iload_n (pc := 46) C dX7_set_46 2 rfl ?_
      refine g_iald (pc := 47) (v := hd s8) C 9 rfl s8 (rfl) ⟨by omega, by decide⟩ (rfl) dX7_set_47 ?_
      refine g_bipush (pc := 48) (v := 100) C dX7_set_48 (by decide) ?_
      refine g_isub (pc := 50) C dX7_set_50 ?_
      refine g_istore (pc := 51) (lv' := [(6, .int ((hd s8) - 100)), (5, .int (rfRows hd (nI s8) (nI s8))), (0, .ref m), (1, .int (nI s8)), (2, .int (nI i8)), (3, .long v)]) C dX7_set_51 (by decide) rfl ?_
      refine g_aload_n (pc := 53) C dX7_set_53 2 rfl ?_
      refine g_get (pc := 54) (T := TX7) (N := 33) (v := .ref (A 2)) C ib_X7 0 rfl rfl 2 (by decide) mf_X7_16 rfl rfl rfl dX7_set_54 ?_
      refine g_sipush (pc := 57) (v := 160) C dX7_set_57 (by decide) ?_
      refine g_iload_n (pc := 60) C dX7_set_60 3 rfl ?_
      refine g_imulN (pc := 61) (i := 160) (j := s8) C dX7_set_61 ?_
      refine g_iload_n (pc := 62) C dX7_set_62 4 rfl ?_
      refine g_iaddN (pc := 63) (i := 160 * s8) (j := i8) C dX7_set_63 ?_
      refine g_iload (pc := 64) C dX7_set_64 0 rfl ?_
      refine g_if_ne (pc := 66) (tgt := 76) C dX7_set_66 (by decide) (fun h66 => ?_) (fun h66 => ?_)
      · refine g_iload (pc := 76) C dX7_set_76 0 rfl ?_
        refine g_iconst (pc := 78) (v := 1) C dX7_set_78 (by decide) ?_
        refine g_icmp_ne (pc := 79) (tgt := 89) C dX7_set_79 (by decide) (fun h79 => ?_) (fun h79 => ?_)
        · refine g_iload (pc := 89) C dX7_set_89 0 rfl ?_
          refine g_iconst (pc := 91) (v := 2) C dX7_set_91 (by decide) ?_
          refine g_icmp_ne (pc := 92) (tgt := 101) C dX7_set_92 (by decide) (fun h92 => ?_) (fun h92 => ?_)
          · refine g_lload_n (pc := 101) C dX7_set_101 5 rfl ?_
            refine g_last (pc := 102) (ws' := wN G m A τ y ++ ([iC G (A 0) 8 hd, iC G (A 1) 8 sz, jC G (A 2) 1280 (vp_updL el ((160 * s8) + i8) v), iC G (A 11) 8 rr])) C rfl 11 rfl ((160 * s8) + i8) (rfl) ⟨by omega, by decide⟩ dX7_set_102 rfl ?_
            refine g_iconst (pc := 103) (v := 1) C dX7_set_103 (by decide) ?_
            exact g_retIW (pc := 104) C rfl rfl () (rfl) (by have e9 : rcSet hd sz (nI s8) (nI i8) = 0 := (by first | (simp [rcSet, *]; done) | (grind [rcSet])); rw [if_pos e9] <;> (rfl)) (by have e9 : rcSet hd sz (nI s8) (nI i8) = 0 := (by first | (simp [rcSet, *]; done) | (grind [rcSet])); rw [e9, rfI_0] <;> (rw [es8, ei8, Nat.mul_comm s8 160, lowB, if_neg h66, if_neg h79, if_neg h92] <;> rfl)) dX7_set_104
          · refine g_lload_n (pc := 95) C dX7_set_95 5 rfl ?_
            refine g_l2i (pc := 96) (v := v.toInt32) C dX7_set_96 rfl ?_
            refine g_i2l (pc := 97) (v := v.toInt32.toInt64) C dX7_set_97 rfl ?_
            refine g_goto (pc := 98) (tgt := 102) C dX7_set_98 (by decide) ?_
            refine g_last (pc := 102) (ws' := wN G m A τ y ++ ([iC G (A 0) 8 hd, iC G (A 1) 8 sz, jC G (A 2) 1280 (vp_updL el ((160 * s8) + i8) v.toInt32.toInt64), iC G (A 11) 8 rr])) C rfl 11 rfl ((160 * s8) + i8) (rfl) ⟨by omega, by decide⟩ dX7_set_102 rfl ?_
            refine g_iconst (pc := 103) (v := 1) C dX7_set_103 (by decide) ?_
            exact g_retIW (pc := 104) C rfl rfl () (rfl) (by have e9 : rcSet hd sz (nI s8) (nI i8) = 0 := (by first | (simp [rcSet, *]; done) | (grind [rcSet])); rw [if_pos e9] <;> (rfl)) (by have e9 : rcSet hd sz (nI s8) (nI i8) = 0 := (by first | (simp [rcSet, *]; done) | (grind [rcSet])); rw [e9, rfI_0] <;> (rw [es8, ei8, Nat.mul_comm s8 160, lowB, if_neg h66, if_neg h79, if_pos h92] <;> rfl)) dX7_set_104
        · refine g_lload_n (pc := 82) C dX7_set_82 5 rfl ?_
          refine g_l2i (pc := 83) (v := v.toInt32) C dX7_set_83 rfl ?_
          refine g_i2s (pc := 84) (v := v.toInt32.toInt16.toInt32) C dX7_set_84 rfl ?_
          refine g_i2l (pc := 85) (v := v.toInt32.toInt16.toInt32.toInt64) C dX7_set_85 rfl ?_
          refine g_goto (pc := 86) (tgt := 102) C dX7_set_86 (by decide) ?_
          refine g_last (pc := 102) (ws' := wN G m A τ y ++ ([iC G (A 0) 8 hd, iC G (A 1) 8 sz, jC G (A 2) 1280 (vp_updL el ((160 * s8) + i8) v.toInt32.toInt16.toInt32.toInt64), iC G (A 11) 8 rr])) C rfl 11 rfl ((160 * s8) + i8) (rfl) ⟨by omega, by decide⟩ dX7_set_102 rfl ?_
          refine g_iconst (pc := 103) (v := 1) C dX7_set_103 (by decide) ?_
          exact g_retIW (pc := 104) C rfl rfl () (rfl) (by have e9 : rcSet hd sz (nI s8) (nI i8) = 0 := (by first | (simp [rcSet, *]; done) | (grind [rcSet])); rw [if_pos e9] <;> (rfl)) (by have e9 : rcSet hd sz (nI s8) (nI i8) = 0 := (by first | (simp [rcSet, *]; done) | (grind [rcSet])); rw [e9, rfI_0] <;> (rw [es8, ei8, Nat.mul_comm s8 160, lowB, if_neg h66, if_pos h79] <;> rfl)) dX7_set_104
      · refine g_lload_n (pc := 69) C dX7_set_69 5 rfl ?_
        refine g_l2i (pc := 70) (v := v.toInt32) C dX7_set_70 rfl ?_
        refine g_i2b (pc := 71) (v := v.toInt32.toInt8.toInt32) C dX7_set_71 rfl ?_
        refine g_i2l (pc := 72) (v := v.toInt32.toInt8.toInt32.toInt64) C dX7_set_72 rfl ?_
        refine g_goto (pc := 73) (tgt := 102) C dX7_set_73 (by decide) ?_
        refine g_last (pc := 102) (ws' := wN G m A τ y ++ ([iC G (A 0) 8 hd, iC G (A 1) 8 sz, jC G (A 2) 1280 (vp_updL el ((160 * s8) + i8) v.toInt32.toInt8.toInt32.toInt64), iC G (A 11) 8 rr])) C rfl 11 rfl ((160 * s8) + i8) (rfl) ⟨by omega, by decide⟩ dX7_set_102 rfl ?_
        refine g_iconst (pc := 103) (v := 1) C dX7_set_103 (by decide) ?_
        exact g_retIW (pc := 104) C rfl rfl () (rfl) (by have e9 : rcSet hd sz (nI s8) (nI i8) = 0 := (by first | (simp [rcSet, *]; done) | (grind [rcSet])); rw [if_pos e9] <;> (rfl)) (by have e9 : rcSet hd sz (nI s8) (nI i8) = 0 := (by first | (simp [rcSet, *]; done) | (grind [rcSet])); rw [e9, rfI_0] <;> (rw [es8, ei8, Nat.mul_comm s8 160, lowB, if_pos h66] <;> rfl)) dX7_set_104
    · refine g_aload_n (pc := 35) C dX7_set_35 1 rfl ?_
      refine g_bipush (pc := 36) (v := (-5)) C dX7_set_36 (by decide) ?_
      refine g_wrVI (pc := 38) (rest := []) (wr := [iC G (A 0) 8 hd, iC G (A 1) 8 sz, jC G (A 2) 1280 el]) C (fun _ => wN G m A τ y ++ ([iC G (A 0) 8 hd, iC G (A 1) 8 sz, jC G (A 2) 1280 el, iC G (A 11) 8 (rfI rr (-5))])) rfl k_X7_no (c_X7_no l G m A τ y rr (-5) (by first | assumption | omega | decide)) ml_X7_81 rfl ⟨Nat.le_of_ble_eq_true rfl, Nat.le_of_ble_eq_true rfl⟩ rfl [0, 1, 2, 3, 4, 5, 6, 7, 8, 12] [9, 10, 11] [3, 4, 5, 6, 7, 8, 9, 10, 11, 0, 1, 2, 12] rfl (by decide) rfl (by decide) (by decide) (by decide) (fun _ => rfl) 0 rfl rfl rfl rfl (Nat.le_of_ble_eq_true rfl) ⟨by decide, by decide⟩ dX7_set_38 (fun r38 _ e38 => ?_)
      subst e38
      exact g_retIW (pc := 41) C rfl rfl () (rfl) (by have e9 : rcSet hd sz (nI s8) i = (-5) := (by first | (simp [rcSet, *]; done) | (grind [rcSet])); rw [if_neg (by rw [e9] <;> (first | done | decide)), e9]) (by have e9 : rcSet hd sz (nI s8) i = (-5) := (by first | (simp [rcSet, *]; done) | (grind [rcSet])); rw [e9] <;> (first | done | rfl | (rw [if_neg (by decide)] <;> (first | done | rfl)))) dX7_set_41
  · have hne9 := rf_ne h9
    refine g_aload_n (pc := 12) C dX7_set_12 1 rfl ?_
    refine g_iload (pc := 13) C dX7_set_13 0 rfl ?_
    refine g_wrVI (pc := 15) (rest := []) (wr := [iC G (A 0) 8 hd, iC G (A 1) 8 sz, jC G (A 2) 1280 el]) C (fun _ => wN G m A τ y ++ ([iC G (A 0) 8 hd, iC G (A 1) 8 sz, jC G (A 2) 1280 el, iC G (A 11) 8 (rfI rr (rfRows hd s s))])) rfl k_X7_no (c_X7_no l G m A τ y rr (rfRows hd s s) (rf_neg h9)) ml_X7_81 rfl ⟨Nat.le_of_ble_eq_true rfl, Nat.le_of_ble_eq_true rfl⟩ rfl [0, 1, 2, 3, 4, 5, 6, 7, 8, 12] [9, 10, 11] [3, 4, 5, 6, 7, 8, 9, 10, 11, 0, 1, 2, 12] rfl (by decide) rfl (by decide) (by decide) (by decide) (fun _ => rfl) 0 rfl rfl rfl rfl (Nat.le_of_ble_eq_true rfl) ⟨by decide, by decide⟩ dX7_set_15 (fun r15 _ e15 => ?_)
    subst e15
    exact g_retIW (pc := 18) C rfl rfl () (rfl) (by have e9 : rcSet hd sz s i = (rfRows hd s s) := (by first | (simp [rcSet, *]; done) | (grind [rcSet])); rw [if_neg (by rw [e9] <;> (first | done | assumption)), e9]) (by have e9 : rcSet hd sz s i = (rfRows hd s s) := (by first | (simp [rcSet, *]; done) | (grind [rcSet])); rw [e9] <;> (first | done | rfl | (rw [if_neg (by assumption)] <;> (first | done | rfl)))) dX7_set_18
set_option maxRecDepth 20000 in
set_option maxHeartbeats 4000000 in
theorem c_X7_element (l : Launch) (G : gT) (m : Nat) (A : Nat → Nat) (τ : tT) (y : Nat → Int32) (hd : Nat → Int32) (sz : Nat → Int32) (el : Nat → Int64) (s : Int32) (i : Int32) (hS : SI hd sz) : RLg l yX7_element cX7_element 3 (some .long) 10 G [.ref m, .int s, .int i] (wN G m A τ y ++ ([iC G (A 0) 8 hd, iC G (A 1) 8 sz, jC G (A 2) 1280 el])) (elV hd sz el s i) := by
  refine start_R (by decide) (Nat.le_of_ble_eq_true rfl) (fun p9 e9 s9 m9 a9 b9 t9 c9 C => ?_)
  refine g_lv (lv' := [(0, .ref m), (1, .int s), (2, .int i)]) rfl ?_
  refine g_iload_n (pc := 0) C dX7_element_0 1 rfl ?_
  refine g_iconst (pc := 1) (v := 0) C dX7_element_1 (by decide) ?_
  refine g_bipush (pc := 2) (v := 7) C dX7_element_2 (by decide) ?_
  refine g_rdSI (pc := 4) (val := bI (0 ≤ s ∧ s ≤ 7)) (rest := []) C k_X7_within (c_X7_within l G s 0 7) ml_X7_88 rfl ⟨Nat.le_of_ble_eq_true rfl, Nat.le_of_ble_eq_true rfl⟩ rfl [] rfl rfl (Nat.le_of_ble_eq_true rfl) ⟨by decide, by decide⟩ dX7_element_4 ?_
  refine g_ifb_eq (pc := 7) (tgt := 49) C dX7_element_7 (by decide) (fun h7 => ?_) (fun h7 => ?_)
  · refine g_lconst (pc := 49) (v := 0) C dX7_element_49 rfl ?_
    exact g_retLR (pc := 50) C (by rw [el_a h7]) dX7_element_50
  · obtain ⟨s8, hs8, rfl⟩ := in8_nI h7
    have es8 : nx (nI s8) = s8 := nx_nI (by omega)
    refine g_aload_n (pc := 10) C dX7_element_10 0 rfl ?_
    refine g_iload_n (pc := 11) C dX7_element_11 1 rfl ?_
    refine g_rdVI (pc := 12) (val := bI (isRw (hd s8))) (rest := []) C k_X7_isRow (c_X7_isRow l G m A τ y hd s8 (by first | assumption | omega)) ml_X7_95 rfl ⟨Nat.le_of_ble_eq_true rfl, Nat.le_of_ble_eq_true rfl⟩ rfl [0, 1, 2, 3, 4, 5, 6, 7, 8, 9] rfl 0 rfl rfl rfl rfl (Nat.le_of_ble_eq_true rfl) ⟨by decide, by decide⟩ dX7_element_12 ?_
    refine g_ifb_eq (pc := 15) (tgt := 49) C dX7_element_15 (by decide) (fun h15 => ?_) (fun h15 => ?_)
    · refine g_lconst (pc := 49) (v := 0) C dX7_element_49 rfl ?_
      exact g_retLR (pc := 50) C (by rw [el_b hs8 h15]) dX7_element_50
    · refine g_iload_n (pc := 18) C dX7_element_18 2 rfl ?_
      refine g_iconst (pc := 19) (v := 0) C dX7_element_19 (by decide) ?_
      refine g_aload_n (pc := 20) C dX7_element_20 0 rfl ?_
      refine g_get (pc := 21) (T := TX7) (N := 33) (v := .ref (A 1)) C ib_X7 0 rfl rfl 1 (by decide) mf_X7_13 rfl rfl rfl dX7_element_21 ?_
      refine g_iload_n (pc := 24) C dX7_element_24 1 rfl ?_
      refine g_iald (pc := 25) (v := sz s8) C 10 rfl s8 (rfl) ⟨by omega, by decide⟩ (rfl) dX7_element_25 ?_
      refine g_iconst (pc := 26) (v := 1) C dX7_element_26 (by decide) ?_
      refine g_isub (pc := 27) C dX7_element_27 ?_
      refine g_rdSI (pc := 28) (val := bI (0 ≤ i ∧ i ≤ ((sz s8) - 1))) (rest := []) C k_X7_within (c_X7_within l G i 0 ((sz s8) - 1)) ml_X7_88 rfl ⟨Nat.le_of_ble_eq_true rfl, Nat.le_of_ble_eq_true rfl⟩ rfl [] rfl rfl (Nat.le_of_ble_eq_true rfl) ⟨by decide, by decide⟩ dX7_element_28 ?_
      refine g_ifb_eq (pc := 31) (tgt := 49) C dX7_element_31 (by decide) (fun h31 => ?_) (fun h31 => ?_)
      · refine g_lconst (pc := 49) (v := 0) C dX7_element_49 rfl ?_
        exact g_retLR (pc := 50) C (by rw [el_c hs8 h31]) dX7_element_50
      · have hz8 := (hS.z hs8).2
        obtain ⟨i8, hi8, rfl⟩ := has_nI (n := 1) hS hs8 (by decide) (in_has h31)
        have ei8 : nx (nI i8) = i8 := nx_nI (by omega)
        refine g_aload_n (pc := 34) C dX7_element_34 0 rfl ?_
        refine g_get (pc := 35) (T := TX7) (N := 33) (v := .ref (A 2)) C ib_X7 0 rfl rfl 2 (by decide) mf_X7_16 rfl rfl rfl dX7_element_35 ?_
        refine g_sipush (pc := 38) (v := 160) C dX7_element_38 (by decide) ?_
        refine g_iload_n (pc := 41) C dX7_element_41 1 rfl ?_
        refine g_imulN (pc := 42) (i := 160) (j := s8) C dX7_element_42 ?_
        refine g_iload_n (pc := 43) C dX7_element_43 2 rfl ?_
        refine g_iaddN (pc := 44) (i := 160 * s8) (j := i8) C dX7_element_44 ?_
        refine g_lald (pc := 45) (v := el ((160 * s8) + i8)) C 11 rfl ((160 * s8) + i8) (rfl) ⟨by omega, by decide⟩ (rfl) dX7_element_45 ?_
        refine g_goto (pc := 46) (tgt := 50) C dX7_element_46 (by decide) ?_
        exact g_retLR (pc := 50) C (by rw [el_d hs8 h15 h31 (by omega)]) dX7_element_50
set_option maxRecDepth 20000 in
set_option maxHeartbeats 4000000 in
theorem c_X7_show (l : Launch) (G : gT) (m : Nat) (A : Nat → Nat) (τ : tT) (y : Nat → Int32) (hd : Nat → Int32) (s : Int32) (q : Int32) (rr : Nat → Int32) (hT : TI τ) : WI l yX7_show cX7_show 3 (some .int) 12 0 0 G [.ref m, .int s, .int q] (wN G m A τ y ++ ([iC G (A 0) 8 hd, iC G (A 11) 8 rr])) (S := Unit) (fun r _ => r = if rcShow τ s q = 0 then (if q = -1 then 0 else 1) else (rcShow τ s q)) (fun _ => wN G m A τ y ++ ([iC G (A 0) 8 (if rcShow τ s q = 0 then upd hd (nx s) q else hd), iC G (A 11) 8 (rfI rr (rcShow τ s q))])) := by
  have hg10 := hT.g10
  have hq8 := hT.q8
  intro sz9
  refine start_W (by decide) (Nat.le_of_ble_eq_true rfl) (fun p9 e9 s9 m9 a9 b9 t9 c9 C => ?_)
  refine g_lv (lv' := [(0, .ref m), (1, .int s), (2, .int q)]) rfl ?_
  refine g_iload_n (pc := 0) C dX7_show_0 1 rfl ?_
  refine g_iconst (pc := 1) (v := 0) C dX7_show_1 (by decide) ?_
  refine g_bipush (pc := 2) (v := 7) C dX7_show_2 (by decide) ?_
  refine g_rdSI (pc := 4) (val := bI (0 ≤ s ∧ s ≤ 7)) (rest := []) C k_X7_within (c_X7_within l G s 0 7) ml_X7_88 rfl ⟨Nat.le_of_ble_eq_true rfl, Nat.le_of_ble_eq_true rfl⟩ rfl [] rfl rfl (Nat.le_of_ble_eq_true rfl) ⟨by decide, by decide⟩ dX7_show_4 ?_
  refine g_ifb_eq (pc := 7) (tgt := 23) C dX7_show_7 (by decide) (fun h7 => ?_) (fun h7 => ?_)
  · refine g_aload_n (pc := 23) C dX7_show_23 0 rfl ?_
    refine g_iconst (pc := 24) (v := (-1)) C dX7_show_24 (by decide) ?_
    refine g_wrVI (pc := 25) (rest := []) (wr := [iC G (A 0) 8 hd]) C (fun _ => wN G m A τ y ++ ([iC G (A 0) 8 hd, iC G (A 11) 8 (rfI rr (-1))])) rfl k_X7_no (c_X7_no l G m A τ y rr (-1) (by first | assumption | omega | decide)) ml_X7_81 rfl ⟨Nat.le_of_ble_eq_true rfl, Nat.le_of_ble_eq_true rfl⟩ rfl [0, 1, 2, 3, 4, 5, 6, 7, 8, 10] [9] [1, 2, 3, 4, 5, 6, 7, 8, 9, 0, 10] rfl (by decide) rfl (by decide) (by decide) (by decide) (fun _ => rfl) 0 rfl rfl rfl rfl (Nat.le_of_ble_eq_true rfl) ⟨by decide, by decide⟩ dX7_show_25 (fun r25 _ e25 => ?_)
    subst e25
    exact g_retIW (pc := 28) C rfl rfl () (rfl) (by have e9 : rcShow τ s q = (-1) := (by first | (simp [rcShow, *]; done) | (grind [rcShow])); rw [if_neg (by rw [e9] <;> (first | done | decide)), e9]) (by have e9 : rcShow τ s q = (-1) := (by first | (simp [rcShow, *]; done) | (grind [rcShow])); rw [e9] <;> (first | done | rfl | (rw [if_neg (by decide)] <;> (first | done | rfl)))) dX7_show_28
  · obtain ⟨s8, hs8, rfl⟩ := in8_nI h7
    have es8 : nx (nI s8) = s8 := nx_nI (by omega)
    refine g_iload_n (pc := 10) C dX7_show_10 2 rfl ?_
    refine g_iconst (pc := 11) (v := (-1)) C dX7_show_11 (by decide) ?_
    refine g_icmp_eq (pc := 12) (tgt := 29) C dX7_show_12 (by decide) (fun h12 => ?_) (fun h12 => ?_)
    · refine g_aload_n (pc := 29) C dX7_show_29 0 rfl ?_
      refine g_get (pc := 30) (T := TX7) (N := 33) (v := .ref (A 0)) C ib_X7 0 rfl rfl 0 (by decide) mf_X7_7 rfl rfl rfl dX7_show_30 ?_
      refine g_iload_n (pc := 33) C dX7_show_33 1 rfl ?_
      refine g_iload_n (pc := 34) C dX7_show_34 2 rfl ?_
      refine g_iast (pc := 35) (ws' := wN G m A τ y ++ ([iC G (A 0) 8 (upd hd s8 q), iC G (A 11) 8 rr])) C rfl 9 rfl s8 (rfl) ⟨by omega, by decide⟩ dX7_show_35 rfl ?_
      refine g_iload_n (pc := 36) C dX7_show_36 2 rfl ?_
      refine g_iconst (pc := 37) (v := (-1)) C dX7_show_37 (by decide) ?_
      refine g_icmp_ne (pc := 38) (tgt := 45) C dX7_show_38 (by decide) (fun h38 => ?_) (fun h38 => ?_)
      · refine g_iconst (pc := 45) (v := 1) C dX7_show_45 (by decide) ?_
        exact g_retIW (pc := 46) C rfl rfl () (rfl) (by have e9 : rcShow τ (nI s8) q = 0 := (by first | (simp [rcShow, *]; done) | (grind [rcShow])); rw [if_pos e9] <;> (first | (simp [*]; done) | (simp_all; done))) (by have e9 : rcShow τ (nI s8) q = 0 := (by first | (simp [rcShow, *]; done) | (grind [rcShow])); rw [e9, rfI_0] <;> (rw [es8] <;> rfl)) dX7_show_46
      · refine g_iconst (pc := 41) (v := 0) C dX7_show_41 (by decide) ?_
        refine g_goto (pc := 42) (tgt := 46) C dX7_show_42 (by decide) ?_
        exact g_retIW (pc := 46) C rfl rfl () (rfl) (by have e9 : rcShow τ (nI s8) q = 0 := (by first | (simp [rcShow, *]; done) | (grind [rcShow])); rw [if_pos e9] <;> (first | (simp [*]; done) | (simp_all; done))) (by have e9 : rcShow τ (nI s8) q = 0 := (by first | (simp [rcShow, *]; done) | (grind [rcShow])); rw [e9, rfI_0] <;> (rw [es8] <;> rfl)) dX7_show_46
    · refine g_aload_n (pc := 15) C dX7_show_15 0 rfl ?_
      refine g_iload_n (pc := 16) C dX7_show_16 2 rfl ?_
      refine g_rdVI (pc := 17) (val := bI (0 ≤ q ∧ q ≤ nI (tQ τ) - 1)) (rest := []) C k_X7_isQuestion (c_X7_isQuestion l G m A τ y q (by first | assumption | omega | decide)) ml_X7_102 rfl ⟨Nat.le_of_ble_eq_true rfl, Nat.le_of_ble_eq_true rfl⟩ rfl [0, 1, 2, 3, 4, 5, 6, 7, 8] rfl 0 rfl rfl rfl rfl (Nat.le_of_ble_eq_true rfl) ⟨by decide, by decide⟩ dX7_show_17 ?_
      refine g_ifb_ne (pc := 20) (tgt := 29) C dX7_show_20 (by decide) (fun h20 => ?_) (fun h20 => ?_)
      · obtain ⟨q8, hq8, rfl⟩ := isQ_nI hT h20
        have eq8 : nx (nI q8) = q8 := nx_nI (by omega)
        refine g_aload_n (pc := 29) C dX7_show_29 0 rfl ?_
        refine g_get (pc := 30) (T := TX7) (N := 33) (v := .ref (A 0)) C ib_X7 0 rfl rfl 0 (by decide) mf_X7_7 rfl rfl rfl dX7_show_30 ?_
        refine g_iload_n (pc := 33) C dX7_show_33 1 rfl ?_
        refine g_iload_n (pc := 34) C dX7_show_34 2 rfl ?_
        refine g_iast (pc := 35) (ws' := wN G m A τ y ++ ([iC G (A 0) 8 (upd hd s8 (nI q8)), iC G (A 11) 8 rr])) C rfl 9 rfl s8 (rfl) ⟨by omega, by decide⟩ dX7_show_35 rfl ?_
        refine g_iload_n (pc := 36) C dX7_show_36 2 rfl ?_
        refine g_iconst (pc := 37) (v := (-1)) C dX7_show_37 (by decide) ?_
        refine g_icmp_ne (pc := 38) (tgt := 45) C dX7_show_38 (by decide) (fun h38 => ?_) (fun h38 => ?_)
        · refine g_iconst (pc := 45) (v := 1) C dX7_show_45 (by decide) ?_
          exact g_retIW (pc := 46) C rfl rfl () (rfl) (by have e9 : rcShow τ (nI s8) (nI q8) = 0 := (by first | (simp [rcShow, *]; done) | (grind [rcShow])); rw [if_pos e9] <;> (first | (simp [*]; done) | (simp_all; done))) (by have e9 : rcShow τ (nI s8) (nI q8) = 0 := (by first | (simp [rcShow, *]; done) | (grind [rcShow])); rw [e9, rfI_0] <;> (rw [es8] <;> rfl)) dX7_show_46
        · refine g_iconst (pc := 41) (v := 0) C dX7_show_41 (by decide) ?_
          refine g_goto (pc := 42) (tgt := 46) C dX7_show_42 (by decide) ?_
          exact g_retIW (pc := 46) C rfl rfl () (rfl) (by have e9 : rcShow τ (nI s8) (nI q8) = 0 := (by first | (simp [rcShow, *]; done) | (grind [rcShow])); rw [if_pos e9] <;> (first | (simp [*]; done) | (simp_all; done))) (by have e9 : rcShow τ (nI s8) (nI q8) = 0 := (by first | (simp [rcShow, *]; done) | (grind [rcShow])); rw [e9, rfI_0] <;> (rw [es8] <;> rfl)) dX7_show_46
      · refine g_aload_n (pc := 23) C dX7_show_23 0 rfl ?_
        refine g_iconst (pc := 24) (v := (-1)) C dX7_show_24 (by decide) ?_
        refine g_wrVI (pc := 25) (rest := []) (wr := [iC G (A 0) 8 hd]) C (fun _ => wN G m A τ y ++ ([iC G (A 0) 8 hd, iC G (A 11) 8 (rfI rr (-1))])) rfl k_X7_no (c_X7_no l G m A τ y rr (-1) (by first | assumption | omega | decide)) ml_X7_81 rfl ⟨Nat.le_of_ble_eq_true rfl, Nat.le_of_ble_eq_true rfl⟩ rfl [0, 1, 2, 3, 4, 5, 6, 7, 8, 10] [9] [1, 2, 3, 4, 5, 6, 7, 8, 9, 0, 10] rfl (by decide) rfl (by decide) (by decide) (by decide) (fun _ => rfl) 0 rfl rfl rfl rfl (Nat.le_of_ble_eq_true rfl) ⟨by decide, by decide⟩ dX7_show_25 (fun r25 _ e25 => ?_)
        subst e25
        exact g_retIW (pc := 28) C rfl rfl () (rfl) (by have e9 : rcShow τ (nI s8) q = (-1) := (by first | (simp [rcShow, *]; done) | (grind [rcShow])); rw [if_neg (by rw [e9] <;> (first | done | decide)), e9]) (by have e9 : rcShow τ (nI s8) q = (-1) := (by first | (simp [rcShow, *]; done) | (grind [rcShow])); rw [e9] <;> (first | done | rfl | (rw [if_neg (by decide)] <;> (first | done | rfl)))) dX7_show_28
set_option maxRecDepth 20000 in
set_option maxHeartbeats 4000000 in
theorem c_X7_holds (l : Launch) (G : gT) (m : Nat) (A : Nat → Nat) (τ : tT) (y : Nat → Int32) (hd : Nat → Int32) (s : Int32) : RI l yX7_holds cX7_holds 2 (some .int) 10 G [.ref m, .int s] (wN G m A τ y ++ ([iC G (A 0) 8 hd])) (if in8 s then hd (nx s) else -1) := by
  refine start_R (by decide) (Nat.le_of_ble_eq_true rfl) (fun p9 e9 s9 m9 a9 b9 t9 c9 C => ?_)
  refine g_lv (lv' := [(0, .ref m), (1, .int s)]) rfl ?_
  refine g_iload_n (pc := 0) C dX7_holds_0 1 rfl ?_
  refine g_iconst (pc := 1) (v := 0) C dX7_holds_1 (by decide) ?_
  refine g_bipush (pc := 2) (v := 7) C dX7_holds_2 (by decide) ?_
  refine g_rdSI (pc := 4) (val := bI (0 ≤ s ∧ s ≤ 7)) (rest := []) C k_X7_within (c_X7_within l G s 0 7) ml_X7_88 rfl ⟨Nat.le_of_ble_eq_true rfl, Nat.le_of_ble_eq_true rfl⟩ rfl [] rfl rfl (Nat.le_of_ble_eq_true rfl) ⟨by decide, by decide⟩ dX7_holds_4 ?_
  refine g_ifb_eq (pc := 7) (tgt := 19) C dX7_holds_7 (by decide) (fun h7 => ?_) (fun h7 => ?_)
  · refine g_iconst (pc := 19) (v := (-1)) C dX7_holds_19 (by decide) ?_
    exact g_retIR (pc := 20) C (rfl) (by first | rw [if_pos (by assumption), es8] | rw [if_neg (by assumption)]) dX7_holds_20
  · obtain ⟨s8, hs8, rfl⟩ := in8_nI h7
    have es8 : nx (nI s8) = s8 := nx_nI (by omega)
    refine g_aload_n (pc := 10) C dX7_holds_10 0 rfl ?_
    refine g_get (pc := 11) (T := TX7) (N := 33) (v := .ref (A 0)) C ib_X7 0 rfl rfl 0 (by decide) mf_X7_7 rfl rfl rfl dX7_holds_11 ?_
    refine g_iload_n (pc := 14) C dX7_holds_14 1 rfl ?_
    refine g_iald (pc := 15) (v := hd s8) C 9 rfl s8 (rfl) ⟨by omega, by decide⟩ (rfl) dX7_holds_15 ?_
    refine g_goto (pc := 16) (tgt := 20) C dX7_holds_16 (by decide) ?_
    exact g_retIR (pc := 20) C (rfl) (by first | rw [if_pos (by assumption), es8] | rw [if_neg (by assumption)]) dX7_holds_20
set_option maxRecDepth 20000 in
set_option maxHeartbeats 4000000 in
theorem c_X7_says (l : Launch) (G : gT) (m : Nat) (A : Nat → Nat) (τ : tT) (y : Nat → Int32) (hd : Nat → Int32) (sz : Nat → Int32) (s : Int32) (k : Int32) (rr : Nat → Int32) (hT : TI τ) (hS : SI hd sz) (hD : ∀ s, s < 8 → isQn (hd s) → ∃ q, q < tQ τ ∧ hd s = nI q) : WI l yX7_says cX7_says 4 (some .int) 12 0 0 G [.ref m, .int s, .int k] (wN G m A τ y ++ ([iC G (A 0) 8 hd, iC G (A 11) 8 rr])) (S := Unit) (fun r _ => r = if rcSays τ hd s k = 0 then saV τ (nx (hd (nx s))) k else (rcSays τ hd s k)) (fun _ => wN G m A τ y ++ ([iC G (A 0) 8 hd, iC G (A 11) 8 (rfI rr (rcSays τ hd s k))])) := by
  have hg10 := hT.g10
  have hq8 := hT.q8
  intro sz9
  refine start_W (by decide) (Nat.le_of_ble_eq_true rfl) (fun p9 e9 s9 m9 a9 b9 t9 c9 C => ?_)
  refine g_lv (lv' := [(0, .ref m), (1, .int s), (2, .int k)]) rfl ?_
  refine g_iload_n (pc := 0) C dX7_says_0 1 rfl ?_
  refine g_iconst (pc := 1) (v := 0) C dX7_says_1 (by decide) ?_
  refine g_bipush (pc := 2) (v := 7) C dX7_says_2 (by decide) ?_
  refine g_rdSI (pc := 4) (val := bI (0 ≤ s ∧ s ≤ 7)) (rest := []) C k_X7_within (c_X7_within l G s 0 7) ml_X7_88 rfl ⟨Nat.le_of_ble_eq_true rfl, Nat.le_of_ble_eq_true rfl⟩ rfl [] rfl rfl (Nat.le_of_ble_eq_true rfl) ⟨by decide, by decide⟩ dX7_says_4 ?_
  refine g_ifb_eq (pc := 7) (tgt := 20) C dX7_says_7 (by decide) (fun h7 => ?_) (fun h7 => ?_)
  · refine g_aload_n (pc := 20) C dX7_says_20 0 rfl ?_
    refine g_iconst (pc := 21) (v := (-1)) C dX7_says_21 (by decide) ?_
    refine g_wrVI (pc := 22) (rest := []) (wr := [iC G (A 0) 8 hd]) C (fun _ => wN G m A τ y ++ ([iC G (A 0) 8 hd, iC G (A 11) 8 (rfI rr (-1))])) rfl k_X7_no (c_X7_no l G m A τ y rr (-1) (by first | assumption | omega | decide)) ml_X7_81 rfl ⟨Nat.le_of_ble_eq_true rfl, Nat.le_of_ble_eq_true rfl⟩ rfl [0, 1, 2, 3, 4, 5, 6, 7, 8, 10] [9] [1, 2, 3, 4, 5, 6, 7, 8, 9, 0, 10] rfl (by decide) rfl (by decide) (by decide) (by decide) (fun _ => rfl) 0 rfl rfl rfl rfl (Nat.le_of_ble_eq_true rfl) ⟨by decide, by decide⟩ dX7_says_22 (fun r22 _ e22 => ?_)
    subst e22
    exact g_retIW (pc := 25) C rfl rfl () (rfl) (by have e9 : rcSays τ hd s k = (-1) := (by first | (simp [rcSays, *]; done) | (grind [rcSays])); rw [if_neg (by rw [e9] <;> (first | done | decide)), e9]) (by have e9 : rcSays τ hd s k = (-1) := (by first | (simp [rcSays, *]; done) | (grind [rcSays])); rw [e9] <;> (first | done | rfl | (rw [if_neg (by decide)] <;> (first | done | rfl)))) dX7_says_25
  · obtain ⟨s8, hs8, rfl⟩ := in8_nI h7
    have es8 : nx (nI s8) = s8 := nx_nI (by omega)
    refine g_iload_n (pc := 10) C dX7_says_10 2 rfl ?_
    refine g_iconst (pc := 11) (v := 0) C dX7_says_11 (by decide) ?_
    refine g_bipush (pc := 12) (v := 6) C dX7_says_12 (by decide) ?_
    refine g_rdSI (pc := 14) (val := bI (0 ≤ k ∧ k ≤ 6)) (rest := []) C k_X7_within (c_X7_within l G k 0 6) ml_X7_88 rfl ⟨Nat.le_of_ble_eq_true rfl, Nat.le_of_ble_eq_true rfl⟩ rfl [] rfl rfl (Nat.le_of_ble_eq_true rfl) ⟨by decide, by decide⟩ dX7_says_14 ?_
    refine g_ifb_ne (pc := 17) (tgt := 26) C dX7_says_17 (by decide) (fun h17 => ?_) (fun h17 => ?_)
    · refine g_aload_n (pc := 26) C dX7_says_26 0 rfl ?_
      refine g_get (pc := 27) (T := TX7) (N := 33) (v := .ref (A 0)) C ib_X7 0 rfl rfl 0 (by decide) mf_X7_7 rfl rfl rfl dX7_says_27 ?_
      refine g_iload_n (pc := 30) C dX7_says_30 1 rfl ?_
      refine g_iald (pc := 31) (v := hd s8) C 9 rfl s8 (rfl) ⟨by omega, by decide⟩ (rfl) dX7_says_31 ?_
      refine g_istore_n (pc := 32) (lv' := [(3, .int (hd s8)), (0, .ref m), (1, .int (nI s8)), (2, .int k)]) C dX7_says_32 rfl (by decide) rfl ?_
      refine g_iload_n (pc := 33) C dX7_says_33 0 rfl ?_
      refine g_if_lt (pc := 34) (tgt := 65) C dX7_says_34 (by decide) (fun h34 => ?_) (fun h34 => ?_)
      · refine g_iload_n (pc := 65) C dX7_says_65 0 rfl ?_
        refine g_if_ge (pc := 66) (tgt := 76) C dX7_says_66 (by decide) (fun h66 => ?_) (fun h66 => ?_)
        · exact absurd h66 (Int32.not_le.mpr h34)
        · have hm9 := ng_m1 (hd_ge hS hs8) h34
          refine g_aload_n (pc := 69) C dX7_says_69 1 rfl ?_
          refine g_bipush (pc := 70) (v := (-3)) C dX7_says_70 (by decide) ?_
          refine g_wrVI (pc := 72) (rest := []) (wr := [iC G (A 0) 8 hd]) C (fun _ => wN G m A τ y ++ ([iC G (A 0) 8 hd, iC G (A 11) 8 (rfI rr (-3))])) rfl k_X7_no (c_X7_no l G m A τ y rr (-3) (by first | assumption | omega | decide)) ml_X7_81 rfl ⟨Nat.le_of_ble_eq_true rfl, Nat.le_of_ble_eq_true rfl⟩ rfl [0, 1, 2, 3, 4, 5, 6, 7, 8, 10] [9] [1, 2, 3, 4, 5, 6, 7, 8, 9, 0, 10] rfl (by decide) rfl (by decide) (by decide) (by decide) (fun _ => rfl) 0 rfl rfl rfl rfl (Nat.le_of_ble_eq_true rfl) ⟨by decide, by decide⟩ dX7_says_72 (fun r72 _ e72 => ?_)
          subst e72
          exact g_retIW (pc := 75) C rfl rfl () (rfl) (by have e9 : rcSays τ hd (nI s8) k = (-3) := (by first | (simp [rcSays, *]; done) | (grind [rcSays])); rw [if_neg (by rw [e9] <;> (first | done | decide)), e9]) (by have e9 : rcSays τ hd (nI s8) k = (-3) := (by first | (simp [rcSays, *]; done) | (grind [rcSays])); rw [e9] <;> (first | done | rfl | (rw [if_neg (by decide)] <;> (first | done | rfl)))) dX7_says_75
      · refine g_aload_n (pc := 37) C dX7_says_37 1 rfl ?_
        refine g_iload_n (pc := 38) C dX7_says_38 2 rfl ?_
        refine g_rdVI (pc := 39) (val := bI (isRw (hd s8))) (rest := []) C k_X7_isRow (c_X7_isRow l G m A τ y hd s8 (by first | assumption | omega | decide)) ml_X7_95 rfl ⟨Nat.le_of_ble_eq_true rfl, Nat.le_of_ble_eq_true rfl⟩ rfl [0, 1, 2, 3, 4, 5, 6, 7, 8, 9] rfl 0 rfl rfl rfl rfl (Nat.le_of_ble_eq_true rfl) ⟨by decide, by decide⟩ dX7_says_39 ?_
        refine g_ifb_ne (pc := 42) (tgt := 58) C dX7_says_42 (by decide) (fun h42 => ?_) (fun h42 => ?_)
        · have hm9 : ¬ hd s8 = -1 := fun z => h34 (by rw [z]; decide)
          have hnQ := row_nQ hT h42
          refine g_aload_n (pc := 58) C dX7_says_58 1 rfl ?_
          refine g_bipush (pc := 59) (v := (-2)) C dX7_says_59 (by decide) ?_
          refine g_wrVI (pc := 61) (rest := []) (wr := [iC G (A 0) 8 hd]) C (fun _ => wN G m A τ y ++ ([iC G (A 0) 8 hd, iC G (A 11) 8 (rfI rr (-2))])) rfl k_X7_no (c_X7_no l G m A τ y rr (-2) (by first | assumption | omega | decide)) ml_X7_81 rfl ⟨Nat.le_of_ble_eq_true rfl, Nat.le_of_ble_eq_true rfl⟩ rfl [0, 1, 2, 3, 4, 5, 6, 7, 8, 10] [9] [1, 2, 3, 4, 5, 6, 7, 8, 9, 0, 10] rfl (by decide) rfl (by decide) (by decide) (by decide) (fun _ => rfl) 0 rfl rfl rfl rfl (Nat.le_of_ble_eq_true rfl) ⟨by decide, by decide⟩ dX7_says_61 (fun r61 _ e61 => ?_)
          subst e61
          exact g_retIW (pc := 64) C rfl rfl () (rfl) (by have e9 : rcSays τ hd (nI s8) k = (-2) := (by first | (simp [rcSays, *]; done) | (grind [rcSays])); rw [if_neg (by rw [e9] <;> (first | done | decide)), e9]) (by have e9 : rcSays τ hd (nI s8) k = (-2) := (by first | (simp [rcSays, *]; done) | (grind [rcSays])); rw [e9] <;> (first | done | rfl | (rw [if_neg (by decide)] <;> (first | done | rfl)))) dX7_says_64
        · obtain ⟨q9, hq9, eq9⟩ := hD s8 hs8 ((isQn_iff (hd_ge hS hs8)).mpr ⟨Int32.not_lt.mp h34, Classical.not_not.mp h42⟩)
          have hQ9 := nI_isQ hT hq9
          have en9 : nx (nI q9) = q9 := nx_nI (by omega)
          have hm9 : ¬ nI q9 = -1 := tw_n (by omega)
          have hk6 := (hT.k (show q9 < 8 from by omega)).2
          refine g_lv (lv' := [(3, .int (nI q9)), (0, .ref m), (1, .int (nI s8)), (2, .int k)]) (congrArg (fun z9 : Int32 => ([(3, .int z9), (0, .ref m), (1, .int (nI s8)), (2, .int k)] : List (Nat × Value))) (eq9)) ?_
          refine g_aload_n (pc := 45) C dX7_says_45 1 rfl ?_
          refine g_get (pc := 46) (T := TX7) (N := 33) (v := .ref (A 3)) C ib_X7 0 rfl rfl 4 (by decide) mf_X7_20 rfl rfl rfl dX7_says_46 ?_
          refine g_iload_n (pc := 49) C dX7_says_49 0 rfl ?_
          refine g_iald (pc := 50) (v := (τ 0) q9) C 1 rfl q9 (rfl) ⟨by omega, by decide⟩ (rfl) dX7_says_50 ?_
          refine g_top (z := nI (tK τ q9)) ((hT.k (show q9 < 8 from by omega)).1) ?_
          refine g_iload_n (pc := 51) C dX7_says_51 3 rfl ?_
          refine g_rdSI (pc := 52) (val := bI (undr (tK τ q9) k)) (rest := []) C k_X7_isUnder (c_X7_isUnder l G (tK τ q9) k (by first | assumption | omega | decide)) ml_X7_108 rfl ⟨Nat.le_of_ble_eq_true rfl, Nat.le_of_ble_eq_true rfl⟩ rfl [] rfl rfl (Nat.le_of_ble_eq_true rfl) ⟨by decide, by decide⟩ dX7_says_52 ?_
          refine g_ifb_ne (pc := 55) (tgt := 65) C dX7_says_55 (by decide) (fun h55 => ?_) (fun h55 => ?_)
          · refine g_iload_n (pc := 65) C dX7_says_65 0 rfl ?_
            refine g_if_ge (pc := 66) (tgt := 76) C dX7_says_66 (by decide) (fun h66 => ?_) (fun h66 => ?_)
            · refine g_iload_n (pc := 76) C dX7_says_76 3 rfl ?_
              by_cases h77_0 : k = 0
              · refine g_top (z := 0) h77_0 ?_
                refine g_lookup (pc := 77) (off := 35) (tgt := 112) C dX7_says_77 (by decide) (by decide) (by decide) ?_
                refine g_aload_n (pc := 112) C dX7_says_112 1 rfl ?_
                refine g_iload_n (pc := 113) C dX7_says_113 0 rfl ?_
                refine g_rdVI (pc := 114) (val := share τ q9) (rest := []) C k_X7_shareOf (c_X7_shareOf l G m A τ y q9 (by first | assumption | omega | decide) (by first | assumption | omega | decide)) ml_X7_112 rfl ⟨Nat.le_of_ble_eq_true rfl, Nat.le_of_ble_eq_true rfl⟩ rfl [0, 1, 2, 3, 4, 5, 6, 7, 8] rfl 0 rfl rfl rfl rfl (Nat.le_of_ble_eq_true rfl) ⟨by decide, by decide⟩ dX7_says_114 ?_
                exact g_retIW (pc := 117) C rfl rfl () (rfl) (by have e9 : rcSays τ hd (nI s8) k = 0 := (by first | (simp [rcSays, *]; done) | (grind [rcSays])); rw [if_pos e9] <;> (rw [es8, eq9, en9, saV, if_pos h77_0])) (by have e9 : rcSays τ hd (nI s8) k = 0 := (by first | (simp [rcSays, *]; done) | (grind [rcSays])); rw [e9, rfI_0] <;> (rfl)) dX7_says_117
              by_cases h77_4 : k = 4
              · refine g_top (z := 4) h77_4 ?_
                refine g_lookup (pc := 77) (off := 41) (tgt := 118) C dX7_says_77 (by decide) (by decide) (by decide) ?_
                refine g_aload_n (pc := 118) C dX7_says_118 1 rfl ?_
                refine g_iload_n (pc := 119) C dX7_says_119 0 rfl ?_
                refine g_iconst (pc := 120) (v := 0) C dX7_says_120 (by decide) ?_
                refine g_iconst (pc := 121) (v := 5) C dX7_says_121 (by decide) ?_
                refine g_bipush (pc := 122) (v := 100) C dX7_says_122 (by decide) ?_
                refine g_rdVI (pc := 124) (val := yQ τ q9 0 5 100) (rest := []) C k_X7_yesOf (c_X7_yesOf l G m A τ y q9 0 5 100 (by first | assumption | omega | decide)) ml_X7_115 rfl ⟨Nat.le_of_ble_eq_true rfl, Nat.le_of_ble_eq_true rfl⟩ rfl [0, 1, 2, 3, 4, 5, 6, 7, 8] rfl 0 rfl rfl rfl rfl (Nat.le_of_ble_eq_true rfl) ⟨by decide, by decide⟩ dX7_says_124 ?_
                exact g_retIW (pc := 127) C rfl rfl () (rfl) (by have e9 : rcSays τ hd (nI s8) k = 0 := (by first | (simp [rcSays, *]; done) | (grind [rcSays])); rw [if_pos e9] <;> (rw [es8, eq9, en9, saV, if_neg (by rw [h77_4]; decide), if_pos (by rw [h77_4]; decide), yQ_5 (hT.k (show q9 < 8 from by omega)).1 (by rw [h77_4]; decide) h55])) (by have e9 : rcSays τ hd (nI s8) k = 0 := (by first | (simp [rcSays, *]; done) | (grind [rcSays])); rw [e9, rfI_0] <;> (rfl)) dX7_says_127
              by_cases h77_6 : k = 6
              · refine g_top (z := 6) h77_6 ?_
                refine g_lookup (pc := 77) (off := 41) (tgt := 118) C dX7_says_77 (by decide) (by decide) (by decide) ?_
                refine g_aload_n (pc := 118) C dX7_says_118 1 rfl ?_
                refine g_iload_n (pc := 119) C dX7_says_119 0 rfl ?_
                refine g_iconst (pc := 120) (v := 0) C dX7_says_120 (by decide) ?_
                refine g_iconst (pc := 121) (v := 5) C dX7_says_121 (by decide) ?_
                refine g_bipush (pc := 122) (v := 100) C dX7_says_122 (by decide) ?_
                refine g_rdVI (pc := 124) (val := yQ τ q9 0 5 100) (rest := []) C k_X7_yesOf (c_X7_yesOf l G m A τ y q9 0 5 100 (by first | assumption | omega | decide)) ml_X7_115 rfl ⟨Nat.le_of_ble_eq_true rfl, Nat.le_of_ble_eq_true rfl⟩ rfl [0, 1, 2, 3, 4, 5, 6, 7, 8] rfl 0 rfl rfl rfl rfl (Nat.le_of_ble_eq_true rfl) ⟨by decide, by decide⟩ dX7_says_124 ?_
                exact g_retIW (pc := 127) C rfl rfl () (rfl) (by have e9 : rcSays τ hd (nI s8) k = 0 := (by first | (simp [rcSays, *]; done) | (grind [rcSays])); rw [if_pos e9] <;> (rw [es8, eq9, en9, saV, if_neg (by rw [h77_6]; decide), if_pos (by rw [h77_6]; decide), yQ_5 (hT.k (show q9 < 8 from by omega)).1 (by rw [h77_6]; decide) h55])) (by have e9 : rcSays τ hd (nI s8) k = 0 := (by first | (simp [rcSays, *]; done) | (grind [rcSays])); rw [e9, rfI_0] <;> (rfl)) dX7_says_127
              refine g_lookup (pc := 77) (off := 51) (tgt := 128) C dX7_says_77 (by decide) ((lv_osw h77_0 rfl).trans ((lv_osw h77_4 rfl).trans ((lv_osw h77_6 rfl).trans (rfl)))) (by decide) ?_
              refine g_aload_n (pc := 128) C dX7_says_128 1 rfl ?_
              refine g_iload_n (pc := 129) C dX7_says_129 0 rfl ?_
              refine g_iconst (pc := 130) (v := 1) C dX7_says_130 (by decide) ?_
              refine g_iconst (pc := 131) (v := 5) C dX7_says_131 (by decide) ?_
              refine g_bipush (pc := 132) (v := 100) C dX7_says_132 (by decide) ?_
              refine g_rdVI (pc := 134) (val := yQ τ q9 1 5 100) (rest := []) C k_X7_yesOf (c_X7_yesOf l G m A τ y q9 1 5 100 (by first | assumption | omega | decide)) ml_X7_115 rfl ⟨Nat.le_of_ble_eq_true rfl, Nat.le_of_ble_eq_true rfl⟩ rfl [0, 1, 2, 3, 4, 5, 6, 7, 8] rfl 0 rfl rfl rfl rfl (Nat.le_of_ble_eq_true rfl) ⟨by decide, by decide⟩ dX7_says_134 ?_
              exact g_retIW (pc := 137) C rfl rfl () (rfl) (by have e9 : rcSays τ hd (nI s8) k = 0 := (by first | (simp [rcSays, *]; done) | (grind [rcSays])); rw [if_pos e9] <;> (rw [es8, eq9, en9, saV, if_neg h77_0, if_neg (fun z => z.elim h77_4 h77_6)])) (by have e9 : rcSays τ hd (nI s8) k = 0 := (by first | (simp [rcSays, *]; done) | (grind [rcSays])); rw [e9, rfI_0] <;> (rfl)) dX7_says_137
            · exact absurd (nI_pos' (n := q9) (by omega)) h66
          · refine g_aload_n (pc := 58) C dX7_says_58 1 rfl ?_
            refine g_bipush (pc := 59) (v := (-2)) C dX7_says_59 (by decide) ?_
            refine g_wrVI (pc := 61) (rest := []) (wr := [iC G (A 0) 8 hd]) C (fun _ => wN G m A τ y ++ ([iC G (A 0) 8 hd, iC G (A 11) 8 (rfI rr (-2))])) rfl k_X7_no (c_X7_no l G m A τ y rr (-2) (by first | assumption | omega | decide)) ml_X7_81 rfl ⟨Nat.le_of_ble_eq_true rfl, Nat.le_of_ble_eq_true rfl⟩ rfl [0, 1, 2, 3, 4, 5, 6, 7, 8, 10] [9] [1, 2, 3, 4, 5, 6, 7, 8, 9, 0, 10] rfl (by decide) rfl (by decide) (by decide) (by decide) (fun _ => rfl) 0 rfl rfl rfl rfl (Nat.le_of_ble_eq_true rfl) ⟨by decide, by decide⟩ dX7_says_61 (fun r61 _ e61 => ?_)
            subst e61
            exact g_retIW (pc := 64) C rfl rfl () (rfl) (by have e9 : rcSays τ hd (nI s8) k = (-2) := (by first | (simp [rcSays, *]; done) | (grind [rcSays])); rw [if_neg (by rw [e9] <;> (first | done | decide)), e9]) (by have e9 : rcSays τ hd (nI s8) k = (-2) := (by first | (simp [rcSays, *]; done) | (grind [rcSays])); rw [e9] <;> (first | done | rfl | (rw [if_neg (by decide)] <;> (first | done | rfl)))) dX7_says_64
    · refine g_aload_n (pc := 20) C dX7_says_20 0 rfl ?_
      refine g_iconst (pc := 21) (v := (-1)) C dX7_says_21 (by decide) ?_
      refine g_wrVI (pc := 22) (rest := []) (wr := [iC G (A 0) 8 hd]) C (fun _ => wN G m A τ y ++ ([iC G (A 0) 8 hd, iC G (A 11) 8 (rfI rr (-1))])) rfl k_X7_no (c_X7_no l G m A τ y rr (-1) (by first | assumption | omega | decide)) ml_X7_81 rfl ⟨Nat.le_of_ble_eq_true rfl, Nat.le_of_ble_eq_true rfl⟩ rfl [0, 1, 2, 3, 4, 5, 6, 7, 8, 10] [9] [1, 2, 3, 4, 5, 6, 7, 8, 9, 0, 10] rfl (by decide) rfl (by decide) (by decide) (by decide) (fun _ => rfl) 0 rfl rfl rfl rfl (Nat.le_of_ble_eq_true rfl) ⟨by decide, by decide⟩ dX7_says_22 (fun r22 _ e22 => ?_)
      subst e22
      exact g_retIW (pc := 25) C rfl rfl () (rfl) (by have e9 : rcSays τ hd (nI s8) k = (-1) := (by first | (simp [rcSays, *]; done) | (grind [rcSays])); rw [if_neg (by rw [e9] <;> (first | done | decide)), e9]) (by have e9 : rcSays τ hd (nI s8) k = (-1) := (by first | (simp [rcSays, *]; done) | (grind [rcSays])); rw [e9] <;> (first | done | rfl | (rw [if_neg (by decide)] <;> (first | done | rfl)))) dX7_says_25
