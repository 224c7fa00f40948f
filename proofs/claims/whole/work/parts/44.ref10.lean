theorem mvP_nI {τ : tT} (hT : TI τ) : ∀ g, g ≤ tG τ → mvP τ g ≤ 999 * g
  | 0, _ => Nat.le_refl _
  | g + 1, h => by
    have := mvP_nI hT g (by omega)
    have := (hT.c (g := g) (by omega)).2.1
    rw [mvP]; split <;> omega
theorem mvG_t {τ : tT} {g n : Nat} (h : τ 4 g = 2) : mvG τ g n = min (n - mvP τ g) (tC τ g) := if_pos h
theorem mvG_f {τ : tT} {g n : Nat} (h : ¬ τ 4 g = 2) : mvG τ g n = 0 := if_neg h
theorem mv_rest (τ : tT) (g n : Nat) : n - mvP τ g - mvG τ g n = n - mvP τ (g + 1) := by
  by_cases h : τ 4 g = 2
  · rw [mvG_t h, mvP_s τ h]; omega
  · rw [mvG_f h, mvP_n τ h]; omega
theorem mvG_le {τ : tT} (hT : TI τ) {g n : Nat} (h : g < tG τ) : mvG τ g n ≤ tC τ g ∧ mvG τ g n ≤ n - mvP τ g := by
  by_cases h2 : τ 4 g = 2
  · rw [mvG_t h2]; omega
  · rw [mvG_f h2]; omega
set_option maxRecDepth 20000 in
set_option maxHeartbeats 4000000 in
theorem c_X7_shareMoved (l : Launch) (G : gT) (m : Nat) (A : Nat → Nat) (τ : tT) (y : Nat → Int32) (q : Nat) (n : Nat) (hT : TI τ) (hq : q < 8) (hn : n ≤ 20000) : RI l yX7_shareMoved cX7_shareMoved 7 (some .int) 3 G [.ref m, .int (nI q), .int (nI n)] (wN G m A τ y) (sTh (mvS τ q n) (ppl τ)) := by
  have hg10 := hT.g10
  have hq8 := hT.q8
  refine start_R (by decide) (Nat.le_of_ble_eq_true rfl) (fun p9 e9 s9 m9 a9 b9 t9 c9 C => ?_)
  refine g_lv (lv' := [(0, .ref m), (1, .int (nI q)), (2, .int (nI n))]) rfl ?_
  refine g_iconst (pc := 0) (v := 0) C dX7_shareMoved_0 (by decide) ?_
  refine g_istore_n (pc := 1) (lv' := [(3, .int 0), (0, .ref m), (1, .int (nI q)), (2, .int (nI n))]) C dX7_shareMoved_1 rfl (by decide) rfl ?_
  refine g_iload_n (pc := 2) C dX7_shareMoved_2 3 rfl ?_
  refine g_istore (pc := 3) (lv' := [(4, .int (nI n)), (3, .int 0), (0, .ref m), (1, .int (nI q)), (2, .int (nI n))]) C dX7_shareMoved_3 (by decide) rfl ?_
  refine g_iconst (pc := 5) (v := 0) C dX7_shareMoved_5 (by decide) ?_
  refine g_istore (pc := 6) (lv' := [(5, .int 0), (4, .int (nI n)), (3, .int 0), (0, .ref m), (1, .int (nI q)), (2, .int (nI n))]) C dX7_shareMoved_6 (by decide) rfl ?_
  have key_8 : ∀ (n8 : Nat) (i : Nat) (hi : i ≤ tG τ), tG τ - i < n8 → GW p9 l e9 (rmh 3 0 0) s9 m9 a9 b9 t9 c9 (MQ b9 (QcI (sTh (mvS τ q n) (ppl τ))) a9 s9 0 0 NoA) G NoA false 7 0 0 (wN G m A τ y) [(0, .ref m), (1, .int (nI q)), (2, .int (nI n)), (3, .int (sumN (mvT τ q n) i)), (4, .int (nI (n - mvP τ i))), (5, .int (nI i))] 8 [] := by
    intro n8
    induction n8 with
    | zero => intro i hi hn8; exact absurd hn8 (Nat.not_lt_zero _)
    | succ n8 ih8 =>
      intro i hi hn8
      refine g_iload (pc := 8) C dX7_shareMoved_8 5 rfl ?_
      refine g_aload_n (pc := 10) C dX7_shareMoved_10 0 rfl ?_
      refine g_get (pc := 11) (T := TX7) (N := 33) (v := .int (τ 8 1)) C ib_X7 0 rfl rfl 7 (by decide) mf_X7_92 rfl rfl rfl dX7_shareMoved_11 ?_
      refine g_top (z := nI (tG τ)) (hT.g) ?_
      refine g_icmpN_ge (pc := 14) (i := i) (j := tG τ) (tgt := 95) C dX7_shareMoved_14 (by decide) ⟨by omega, by omega⟩ (fun h14 => ?_) (fun h14 => ?_)
      · refine g_iload_n (pc := 95) C dX7_shareMoved_95 3 rfl ?_
        refine g_aload_n (pc := 96) C dX7_shareMoved_96 0 rfl ?_
        refine g_rdVI (pc := 97) (val := ppl τ) (rest := [.int (sumN (mvT τ q n) i)]) C k_X7_people (c_X7_people l G m A τ y (by first | assumption | omega)) ml_X7_211 rfl ⟨Nat.le_of_ble_eq_true rfl, Nat.le_of_ble_eq_true rfl⟩ rfl [0, 1, 2, 3, 4, 5, 6, 7, 8] rfl 0 rfl rfl rfl rfl (Nat.le_of_ble_eq_true rfl) ⟨by decide, by decide⟩ dX7_shareMoved_97 ?_
        refine g_rdSI (pc := 100) (val := sTh (sumN (mvT τ q n) i) (ppl τ)) (rest := []) C k_X7_thousandths (c_X7_thousandths l G (sumN (mvT τ q n) i) (ppl τ)) ml_X7_214 rfl ⟨Nat.le_of_ble_eq_true rfl, Nat.le_of_ble_eq_true rfl⟩ rfl [] rfl rfl (Nat.le_of_ble_eq_true rfl) ⟨by decide, by decide⟩ dX7_shareMoved_100 ?_
        exact g_retIR (pc := 103) C (rfl) (by rw [show i = tG τ from by omega]; rfl) dX7_shareMoved_103
      · refine g_aload_n (pc := 17) C dX7_shareMoved_17 0 rfl ?_
        refine g_get (pc := 18) (T := TX7) (N := 33) (v := .ref (A 7)) C ib_X7 0 rfl rfl 9 (by decide) mf_X7_32 rfl rfl rfl dX7_shareMoved_18 ?_
        refine g_iload (pc := 21) C dX7_shareMoved_21 5 rfl ?_
        refine g_iald (pc := 23) (v := (τ 4) i) C 5 rfl i (rfl) ⟨by omega, by decide⟩ (rfl) dX7_shareMoved_23 ?_
        refine g_iconst (pc := 24) (v := 2) C dX7_shareMoved_24 (by decide) ?_
        refine g_icmp_ne (pc := 25) (tgt := 43) C dX7_shareMoved_25 (by decide) (fun h25 => ?_) (fun h25 => ?_)
        · refine g_iconst (pc := 43) (v := 0) C dX7_shareMoved_43 (by decide) ?_
          refine g_top (z := nI (mvG τ i n)) (by rw [mvG_f h25]; rfl) ?_
          have hm9 := mvG_le hT (n := n) (show i < tG τ from by omega)
          refine g_istore (pc := 44) (lv' := [(6, .int (nI (mvG τ i n))), (0, .ref m), (1, .int (nI q)), (2, .int (nI n)), (3, .int (sumN (mvT τ q n) i)), (4, .int (nI (n - mvP τ i))), (5, .int (nI i))]) C dX7_shareMoved_44 (by decide) rfl ?_
          refine g_iload (pc := 46) C dX7_shareMoved_46 5 rfl ?_
          refine g_iload (pc := 48) C dX7_shareMoved_48 0 rfl ?_
          refine g_isub (pc := 50) C dX7_shareMoved_50 ?_
          refine g_top (z := nI (n - mvP τ (i + 1))) (by rw [pk_sub hm9.2, mv_rest]) ?_
          refine g_istore (pc := 51) (lv' := [(4, .int (nI (n - mvP τ (i + 1)))), (6, .int (nI (mvG τ i n))), (0, .ref m), (1, .int (nI q)), (2, .int (nI n)), (3, .int (sumN (mvT τ q n) i)), (5, .int (nI i))]) C dX7_shareMoved_51 (by decide) rfl ?_
          refine g_iload_n (pc := 53) C dX7_shareMoved_53 5 rfl ?_
          refine g_aload_n (pc := 54) C dX7_shareMoved_54 2 rfl ?_
          refine g_iload_n (pc := 55) C dX7_shareMoved_55 3 rfl ?_
          refine g_iload (pc := 56) C dX7_shareMoved_56 6 rfl ?_
          refine g_aload_n (pc := 58) C dX7_shareMoved_58 2 rfl ?_
          refine g_get (pc := 59) (T := TX7) (N := 33) (v := .ref (A 6)) C ib_X7 0 rfl rfl 8 (by decide) mf_X7_29 rfl rfl rfl dX7_shareMoved_59 ?_
          refine g_iload (pc := 62) C dX7_shareMoved_62 6 rfl ?_
          refine g_iald (pc := 64) (v := nI (tC τ i)) C 4 rfl i (rfl) ⟨by omega, by decide⟩ ((hT.c (show i < tG τ from by omega)).1) dX7_shareMoved_64 ?_
          refine g_iload (pc := 65) C dX7_shareMoved_65 1 rfl ?_
          refine g_isub (pc := 67) C dX7_shareMoved_67 ?_
          refine g_top (z := nI (tC τ i - mvG τ i n)) (pk_sub hm9.1) ?_
          refine g_rdVI (pc := 68) (val := yG τ q i (nI (tC τ i - mvG τ i n))) (rest := [.int (sumN (mvT τ q n) i)]) C k_X7_yesBy (c_X7_yesBy l G m A τ y q i (nI (tC τ i - mvG τ i n)) (by first | assumption | omega) (by first | assumption | omega)) ml_X7_207 rfl ⟨Nat.le_of_ble_eq_true rfl, Nat.le_of_ble_eq_true rfl⟩ rfl [0, 1, 2, 3, 4, 5, 6, 7, 8] rfl 0 rfl rfl rfl rfl (Nat.le_of_ble_eq_true rfl) ⟨by decide, by decide⟩ dX7_shareMoved_68 ?_
          refine g_aload_n (pc := 71) C dX7_shareMoved_71 2 rfl ?_
          refine g_iload_n (pc := 72) C dX7_shareMoved_72 3 rfl ?_
          refine g_iconst (pc := 73) (v := 0) C dX7_shareMoved_73 (by decide) ?_
          refine g_aload_n (pc := 74) C dX7_shareMoved_74 2 rfl ?_
          refine g_get (pc := 75) (T := TX7) (N := 33) (v := .ref (A 8)) C ib_X7 0 rfl rfl 10 (by decide) mf_X7_35 rfl rfl rfl dX7_shareMoved_75 ?_
          refine g_iload (pc := 78) C dX7_shareMoved_78 6 rfl ?_
          refine g_iald (pc := 80) (v := (τ 5) i) C 6 rfl i (rfl) ⟨by omega, by decide⟩ (rfl) dX7_shareMoved_80 ?_
          refine g_iload (pc := 81) C dX7_shareMoved_81 1 rfl ?_
          refine g_rdVI (pc := 83) (val := yQ τ q 0 ((τ 5) i) (nI (mvG τ i n))) (rest := [.int (yG τ q i (nI (tC τ i - mvG τ i n))), .int (sumN (mvT τ q n) i)]) C k_X7_yesOf (c_X7_yesOf l G m A τ y q 0 ((τ 5) i) (nI (mvG τ i n)) (by first | assumption | omega)) ml_X7_115 rfl ⟨Nat.le_of_ble_eq_true rfl, Nat.le_of_ble_eq_true rfl⟩ rfl [0, 1, 2, 3, 4, 5, 6, 7, 8] rfl 0 rfl rfl rfl rfl (Nat.le_of_ble_eq_true rfl) ⟨by decide, by decide⟩ dX7_shareMoved_83 ?_
          refine g_iadd (pc := 86) C dX7_shareMoved_86 ?_
          refine g_iadd (pc := 87) C dX7_shareMoved_87 ?_
          refine g_istore_n (pc := 88) (lv' := [(3, .int ((sumN (mvT τ q n) i) + ((yG τ q i (nI (tC τ i - mvG τ i n))) + (yQ τ q 0 ((τ 5) i) (nI (mvG τ i n)))))), (4, .int (nI (n - mvP τ (i + 1)))), (6, .int (nI (mvG τ i n))), (0, .ref m), (1, .int (nI q)), (2, .int (nI n)), (5, .int (nI i))]) C dX7_shareMoved_88 rfl (by decide) rfl ?_
          refine g_iinc (pc := 89) (v := nI (i + 1)) (lv' := [(5, .int (nI (i + 1))), (3, .int ((sumN (mvT τ q n) i) + ((yG τ q i (nI (tC τ i - mvG τ i n))) + (yQ τ q 0 ((τ 5) i) (nI (mvG τ i n)))))), (4, .int (nI (n - mvP τ (i + 1)))), (6, .int (nI (mvG τ i n))), (0, .ref m), (1, .int (nI q)), (2, .int (nI n))]) C dX7_shareMoved_89 6 rfl (nI_1 i) (by decide) rfl ?_
          refine g_goto (pc := 92) (tgt := 8) C dX7_shareMoved_92 (by decide) ?_
          refine g_sub (lv' := [(0, .ref m), (1, .int (nI q)), (2, .int (nI n)), (3, .int ((sumN (mvT τ q n) i) + ((yG τ q i (nI (tC τ i - mvG τ i n))) + (yQ τ q 0 ((τ 5) i) (nI (mvG τ i n)))))), (4, .int (nI (n - mvP τ (i + 1)))), (5, .int (nI (i + 1)))]) [4, 5, 6, 1, 2, 0] rfl ?_
          refine g_lv (lv' := [(0, .ref m), (1, .int (nI q)), (2, .int (nI n)), (3, .int (sumN (mvT τ q n) (i + 1))), (4, .int (nI (n - mvP τ (i + 1)))), (5, .int (nI (i + 1)))]) (by rw [sumN, mvT] <;> rfl) ?_
          exact ih8 (i + 1) (by first | assumption | omega) (by omega)
        · refine g_iload (pc := 28) C dX7_shareMoved_28 4 rfl ?_
          refine g_aload_n (pc := 30) C dX7_shareMoved_30 0 rfl ?_
          refine g_get (pc := 31) (T := TX7) (N := 33) (v := .ref (A 6)) C ib_X7 0 rfl rfl 8 (by decide) mf_X7_29 rfl rfl rfl dX7_shareMoved_31 ?_
          refine g_iload (pc := 34) C dX7_shareMoved_34 5 rfl ?_
          refine g_iald (pc := 36) (v := nI (tC τ i)) C 4 rfl i (rfl) ⟨by omega, by decide⟩ ((hT.c (show i < tG τ from by omega)).1) dX7_shareMoved_36 ?_
          refine g_mmin (pc := 37) (v := mMin (nI (n - mvP τ i)) (nI (tC τ i))) C ml_X7_202 rfl ⟨Nat.le_of_ble_eq_true rfl, Nat.le_of_ble_eq_true rfl⟩ ⟨by decide, by decide⟩ rfl dX7_shareMoved_37 ?_
          refine g_goto (pc := 40) (tgt := 44) C dX7_shareMoved_40 (by decide) ?_
          refine g_top (z := nI (mvG τ i n)) (by rw [mvG_t h25, ← mMin_nI (by omega) (by have := (hT.c (show i < tG τ from by omega)).2.1; omega)]) ?_
          have hm9 := mvG_le hT (n := n) (show i < tG τ from by omega)
          refine g_istore (pc := 44) (lv' := [(6, .int (nI (mvG τ i n))), (0, .ref m), (1, .int (nI q)), (2, .int (nI n)), (3, .int (sumN (mvT τ q n) i)), (4, .int (nI (n - mvP τ i))), (5, .int (nI i))]) C dX7_shareMoved_44 (by decide) rfl ?_
          refine g_iload (pc := 46) C dX7_shareMoved_46 5 rfl ?_
          refine g_iload (pc := 48) C dX7_shareMoved_48 0 rfl ?_
          refine g_isub (pc := 50) C dX7_shareMoved_50 ?_
          refine g_top (z := nI (n - mvP τ (i + 1))) (by rw [pk_sub hm9.2, mv_rest]) ?_
          refine g_istore (pc := 51) (lv' := [(4, .int (nI (n - mvP τ (i + 1)))), (6, .int (nI (mvG τ i n))), (0, .ref m), (1, .int (nI q)), (2, .int (nI n)), (3, .int (sumN (mvT τ q n) i)), (5, .int (nI i))]) C dX7_shareMoved_51 (by decide) rfl ?_
          refine g_iload_n (pc := 53) C dX7_shareMoved_53 5 rfl ?_
          refine g_aload_n (pc := 54) C dX7_shareMoved_54 2 rfl ?_
          refine g_iload_n (pc := 55) C dX7_shareMoved_55 3 rfl ?_
          refine g_iload (pc := 56) C dX7_shareMoved_56 6 rfl ?_
          refine g_aload_n (pc := 58) C dX7_shareMoved_58 2 rfl ?_
          refine g_get (pc := 59) (T := TX7) (N := 33) (v := .ref (A 6)) C ib_X7 0 rfl rfl 8 (by decide) mf_X7_29 rfl rfl rfl dX7_shareMoved_59 ?_
          refine g_iload (pc := 62) C dX7_shareMoved_62 6 rfl ?_
          refine g_iald (pc := 64) (v := nI (tC τ i)) C 4 rfl i (rfl) ⟨by omega, by decide⟩ ((hT.c (show i < tG τ from by omega)).1) dX7_shareMoved_64 ?_
          refine g_iload (pc := 65) C dX7_shareMoved_65 1 rfl ?_
          refine g_isub (pc := 67) C dX7_shareMoved_67 ?_
          refine g_top (z := nI (tC τ i - mvG τ i n)) (pk_sub hm9.1) ?_
          refine g_rdVI (pc := 68) (val := yG τ q i (nI (tC τ i - mvG τ i n))) (rest := [.int (sumN (mvT τ q n) i)]) C k_X7_yesBy (c_X7_yesBy l G m A τ y q i (nI (tC τ i - mvG τ i n)) (by first | assumption | omega) (by first | assumption | omega)) ml_X7_207 rfl ⟨Nat.le_of_ble_eq_true rfl, Nat.le_of_ble_eq_true rfl⟩ rfl [0, 1, 2, 3, 4, 5, 6, 7, 8] rfl 0 rfl rfl rfl rfl (Nat.le_of_ble_eq_true rfl) ⟨by decide, by decide⟩ dX7_shareMoved_68 ?_
          refine g_aload_n (pc := 71) C dX7_shareMoved_71 2 rfl ?_
          refine g_iload_n (pc := 72) C dX7_shareMoved_72 3 rfl ?_
          refine g_iconst (pc := 73) (v := 0) C dX7_shareMoved_73 (by decide) ?_
          refine g_aload_n (pc := 74) C dX7_shareMoved_74 2 rfl ?_
          refine g_get (pc := 75) (T := TX7) (N := 33) (v := .ref (A 8)) C ib_X7 0 rfl rfl 10 (by decide) mf_X7_35 rfl rfl rfl dX7_shareMoved_75 ?_
          refine g_iload (pc := 78) C dX7_shareMoved_78 6 rfl ?_
          refine g_iald (pc := 80) (v := (τ 5) i) C 6 rfl i (rfl) ⟨by omega, by decide⟩ (rfl) dX7_shareMoved_80 ?_
          refine g_iload (pc := 81) C dX7_shareMoved_81 1 rfl ?_
          refine g_rdVI (pc := 83) (val := yQ τ q 0 ((τ 5) i) (nI (mvG τ i n))) (rest := [.int (yG τ q i (nI (tC τ i - mvG τ i n))), .int (sumN (mvT τ q n) i)]) C k_X7_yesOf (c_X7_yesOf l G m A τ y q 0 ((τ 5) i) (nI (mvG τ i n)) (by first | assumption | omega)) ml_X7_115 rfl ⟨Nat.le_of_ble_eq_true rfl, Nat.le_of_ble_eq_true rfl⟩ rfl [0, 1, 2, 3, 4, 5, 6, 7, 8] rfl 0 rfl rfl rfl rfl (Nat.le_of_ble_eq_true rfl) ⟨by decide, by decide⟩ dX7_shareMoved_83 ?_
          refine g_iadd (pc := 86) C dX7_shareMoved_86 ?_
          refine g_iadd (pc := 87) C dX7_shareMoved_87 ?_
          refine g_istore_n (pc := 88) (lv' := [(3, .int ((sumN (mvT τ q n) i) + ((yG τ q i (nI (tC τ i - mvG τ i n))) + (yQ τ q 0 ((τ 5) i) (nI (mvG τ i n)))))), (4, .int (nI (n - mvP τ (i + 1)))), (6, .int (nI (mvG τ i n))), (0, .ref m), (1, .int (nI q)), (2, .int (nI n)), (5, .int (nI i))]) C dX7_shareMoved_88 rfl (by decide) rfl ?_
          refine g_iinc (pc := 89) (v := nI (i + 1)) (lv' := [(5, .int (nI (i + 1))), (3, .int ((sumN (mvT τ q n) i) + ((yG τ q i (nI (tC τ i - mvG τ i n))) + (yQ τ q 0 ((τ 5) i) (nI (mvG τ i n)))))), (4, .int (nI (n - mvP τ (i + 1)))), (6, .int (nI (mvG τ i n))), (0, .ref m), (1, .int (nI q)), (2, .int (nI n))]) C dX7_shareMoved_89 6 rfl (nI_1 i) (by decide) rfl ?_
          refine g_goto (pc := 92) (tgt := 8) C dX7_shareMoved_92 (by decide) ?_
          refine g_sub (lv' := [(0, .ref m), (1, .int (nI q)), (2, .int (nI n)), (3, .int ((sumN (mvT τ q n) i) + ((yG τ q i (nI (tC τ i - mvG τ i n))) + (yQ τ q 0 ((τ 5) i) (nI (mvG τ i n)))))), (4, .int (nI (n - mvP τ (i + 1)))), (5, .int (nI (i + 1)))]) [4, 5, 6, 1, 2, 0] rfl ?_
          refine g_lv (lv' := [(0, .ref m), (1, .int (nI q)), (2, .int (nI n)), (3, .int (sumN (mvT τ q n) (i + 1))), (4, .int (nI (n - mvP τ (i + 1)))), (5, .int (nI (i + 1)))]) (by rw [sumN, mvT] <;> rfl) ?_
          exact ih8 (i + 1) (by first | assumption | omega) (by omega)
  refine g_sub (lv' := [(0, .ref m), (1, .int (nI q)), (2, .int (nI n)), (3, .int (sumN (mvT τ q n) 0)), (4, .int (nI (n - mvP τ 0))), (5, .int (nI 0))]) [3, 4, 5, 2, 1, 0] rfl ?_
  exact key_8 _ 0 (by first | assumption | omega) (Nat.lt_succ_self _)
