theorem frW_lt {f a : Nat → Int32} {n k : Nat} (h : k < n) : frW f a n k = f k := if_pos h
theorem frW_ge {f a : Nat → Int32} {n k : Nat} (h : n ≤ k) : frW f a n k = a k := if_neg (by omega)
def shN (τ : tT) (q : Nat) (an : Nat → Int32) (z : Int32) : Int32 := sTh (sumN (fun x9 => yG τ q x9 (an x9)) (tG τ)) z
theorem anB_0 (τ : tT) (t : Nat) : anB τ 0 t = sumN (fun x9 => anN τ x9 t) (tG τ) := sumN_congr _ (fun k _ => Int32.sub_zero _)
theorem shA_0 (τ : tT) (q t : Nat) (an : Nat → Int32) : shN τ q (frW (fun x9 => anN τ x9 t) an (tG τ)) (sumN (fun x9 => anN τ x9 t) (tG τ)) = shA τ q 0 t := by
  unfold shN shA
  rw [anB_0]
  congr 1
  refine sumN_congr _ (fun k hk => ?_)
  rw [frW_lt hk]
  show yG τ q k (anN τ k t) = yG τ q k (anN τ k t - 0)
  rw [Int32.sub_zero]
theorem an_dif (τ : tT) (g : Nat) {t : Nat} (h : 1 ≤ t) : lfN τ g (t - 1) * τ 6 g / 10 * τ 7 g / 10 = anN τ g t - anN τ g (t - 1) := by
  obtain ⟨u, rfl⟩ : ∃ u, t = u + 1 := ⟨t - 1, by omega⟩
  show lfN τ g u * τ 6 g / 10 * τ 7 g / 10 = anN τ g u + lfN τ g u * τ 6 g / 10 * τ 7 g / 10 - anN τ g u
  rw [Int32.add_comm, Int32.add_sub_cancel]
theorem lf_dif (τ : tT) (g : Nat) {t : Nat} (h : 1 ≤ t) : lfN τ g (t - 1) - lfN τ g (t - 1) * τ 6 g / 10 = lfN τ g t := by
  obtain ⟨u, rfl⟩ : ∃ u, t = u + 1 := ⟨t - 1, by omega⟩
  rfl
set_option maxRecDepth 20000 in
set_option maxHeartbeats 4000000 in
theorem c_X7_shareOfAnswers (l : Launch) (G : gT) (m : Nat) (A : Nat → Nat) (τ : tT) (y : Nat → Int32) (an : Nat → Int32) (q : Nat) (z : Int32) (hT : TI τ) (hq : q < 8) : RI l yX7_shareOfAnswers cX7_shareOfAnswers 5 (some .int) 3 G [.ref m, .int (nI q), .int z] (wN G m A τ y ++ ([iC G (A 16) 10 an])) (shN τ q an z) := by
  have hg10 := hT.g10
  have hq8 := hT.q8
  refine start_R (by decide) (Nat.le_of_ble_eq_true rfl) (fun p9 e9 s9 m9 a9 b9 t9 c9 C => ?_)
  refine g_lv (lv' := [(0, .ref m), (1, .int (nI q)), (2, .int z)]) rfl ?_
  refine g_iconst (pc := 0) (v := 0) C dX7_shareOfAnswers_0 (by decide) ?_
  refine g_istore_n (pc := 1) (lv' := [(3, .int 0), (0, .ref m), (1, .int (nI q)), (2, .int z)]) C dX7_shareOfAnswers_1 rfl (by decide) rfl ?_
  refine g_iconst (pc := 2) (v := 0) C dX7_shareOfAnswers_2 (by decide) ?_
  refine g_istore (pc := 3) (lv' := [(4, .int 0), (3, .int 0), (0, .ref m), (1, .int (nI q)), (2, .int z)]) C dX7_shareOfAnswers_3 (by decide) rfl ?_
  have key_5 : ∀ (n5 : Nat) (i : Nat) (hi : i ≤ tG τ), tG τ - i < n5 → GW p9 l e9 (rmh 3 0 0) s9 m9 a9 b9 t9 c9 (MQ b9 (QcI (shN τ q an z)) a9 s9 0 0 NoA) G NoA false 5 0 0 (wN G m A τ y ++ ([iC G (A 16) 10 an])) [(0, .ref m), (1, .int (nI q)), (2, .int z), (3, .int (sumN (fun x9 => yG τ q x9 (an x9)) i)), (4, .int (nI i))] 5 [] := by
    intro n5
    induction n5 with
    | zero => intro i hi hn5; exact absurd hn5 (Nat.not_lt_zero _)
    | succ n5 ih5 =>
      intro i hi hn5
      refine g_iload (pc := 5) C dX7_shareOfAnswers_5 4 rfl ?_
      refine g_aload_n (pc := 7) C dX7_shareOfAnswers_7 0 rfl ?_
      refine g_get (pc := 8) (T := TX7) (N := 33) (v := .int (τ 8 1)) C ib_X7 0 rfl rfl 7 (by decide) mf_X7_92 rfl rfl rfl dX7_shareOfAnswers_8 ?_
      refine g_top (z := nI (tG τ)) (hT.g) ?_
      refine g_icmpN_ge (pc := 11) (i := i) (j := tG τ) (tgt := 37) C dX7_shareOfAnswers_11 (by decide) ⟨by omega, by omega⟩ (fun h11 => ?_) (fun h11 => ?_)
      · refine g_iload_n (pc := 37) C dX7_shareOfAnswers_37 3 rfl ?_
        refine g_iload_n (pc := 38) C dX7_shareOfAnswers_38 2 rfl ?_
        refine g_rdSI (pc := 39) (val := sTh (sumN (fun x9 => yG τ q x9 (an x9)) i) z) (rest := []) C k_X7_thousandths (c_X7_thousandths l G (sumN (fun x9 => yG τ q x9 (an x9)) i) z) ml_X7_214 rfl ⟨Nat.le_of_ble_eq_true rfl, Nat.le_of_ble_eq_true rfl⟩ rfl [] rfl rfl (Nat.le_of_ble_eq_true rfl) ⟨by decide, by decide⟩ dX7_shareOfAnswers_39 ?_
        exact g_retIR (pc := 42) C (rfl) (by rw [show i = tG τ from by omega]; rfl) dX7_shareOfAnswers_42
      · refine g_iload_n (pc := 14) C dX7_shareOfAnswers_14 3 rfl ?_
        refine g_aload_n (pc := 15) C dX7_shareOfAnswers_15 0 rfl ?_
        refine g_iload_n (pc := 16) C dX7_shareOfAnswers_16 1 rfl ?_
        refine g_iload (pc := 17) C dX7_shareOfAnswers_17 4 rfl ?_
        refine g_aload_n (pc := 19) C dX7_shareOfAnswers_19 0 rfl ?_
        refine g_get (pc := 20) (T := TX7) (N := 33) (v := .ref (A 16)) C ib_X7 0 rfl rfl 28 (by decide) mf_X7_59 rfl rfl rfl dX7_shareOfAnswers_20 ?_
        refine g_iload (pc := 23) C dX7_shareOfAnswers_23 4 rfl ?_
        refine g_iald (pc := 25) (v := an i) C 9 rfl i (rfl) ⟨by omega, by decide⟩ (rfl) dX7_shareOfAnswers_25 ?_
        refine g_rdVI (pc := 26) (val := yG τ q i (an i)) (rest := [.int (sumN (fun x9 => yG τ q x9 (an x9)) i)]) C k_X7_yesBy (c_X7_yesBy l G m A τ y q i (an i) (by first | assumption | omega) (by first | assumption | omega)) ml_X7_207 rfl ⟨Nat.le_of_ble_eq_true rfl, Nat.le_of_ble_eq_true rfl⟩ rfl [0, 1, 2, 3, 4, 5, 6, 7, 8] rfl 0 rfl rfl rfl rfl (Nat.le_of_ble_eq_true rfl) ⟨by decide, by decide⟩ dX7_shareOfAnswers_26 ?_
        refine g_iadd (pc := 29) C dX7_shareOfAnswers_29 ?_
        refine g_istore_n (pc := 30) (lv' := [(3, .int ((sumN (fun x9 => yG τ q x9 (an x9)) i) + (yG τ q i (an i)))), (0, .ref m), (1, .int (nI q)), (2, .int z), (4, .int (nI i))]) C dX7_shareOfAnswers_30 rfl (by decide) rfl ?_
        refine g_iinc (pc := 31) (v := nI (i + 1)) (lv' := [(4, .int (nI (i + 1))), (3, .int ((sumN (fun x9 => yG τ q x9 (an x9)) i) + (yG τ q i (an i)))), (0, .ref m), (1, .int (nI q)), (2, .int z)]) C dX7_shareOfAnswers_31 4 rfl (nI_1 i) (by decide) rfl ?_
        refine g_goto (pc := 34) (tgt := 5) C dX7_shareOfAnswers_34 (by decide) ?_
        refine g_sub (lv' := [(0, .ref m), (1, .int (nI q)), (2, .int z), (3, .int (sumN (fun x9 => yG τ q x9 (an x9)) (i + 1))), (4, .int (nI (i + 1)))]) [2, 3, 4, 1, 0] rfl ?_
        exact ih5 (i + 1) (by first | assumption | omega) (by omega)
  refine g_sub (lv' := [(0, .ref m), (1, .int (nI q)), (2, .int z), (3, .int (sumN (fun x9 => yG τ q x9 (an x9)) 0)), (4, .int (nI 0))]) [2, 3, 4, 1, 0] rfl ?_
  exact key_5 _ 0 (by first | assumption | omega) (Nat.lt_succ_self _)
set_option maxRecDepth 20000 in
set_option maxHeartbeats 4000000 in
theorem c_X7_offBy (l : Launch) (G : gT) (m : Nat) (A : Nat → Nat) (τ : tT) (y : Nat → Int32) (le : Nat → Int32) (an : Nat → Int32) (q : Nat) (t : Nat) (hT : TI τ) (hq : q < 8) (ht : t ≤ 9) : WI l yX7_offBy cX7_offBy 3 (some .int) 5 0 0 G [.ref m, .int (nI q), .int (nI t)] (wN G m A τ y ++ ([iC G (A 16) 10 an, iC G (A 17) 10 le])) (S := Unit) (fun r _ => r = off τ q t) (fun _ => wN G m A τ y ++ ([iC G (A 16) 10 (frW (fun x9 => anN τ x9 t) an (tG τ)), iC G (A 17) 10 (frW (fun x9 => lfN τ x9 t) le (tG τ))])) := by
  intro sz9
  refine start_W (by decide) (Nat.le_of_ble_eq_true rfl) (fun p9 e9 s9 m9 a9 b9 t9 c9 C => ?_)
  refine g_lv (lv' := [(0, .ref m), (1, .int (nI q)), (2, .int (nI t))]) rfl ?_
  refine g_aload_n (pc := 0) C dX7_offBy_0 0 rfl ?_
  refine g_iload_n (pc := 1) C dX7_offBy_1 1 rfl ?_
  refine g_aload_n (pc := 2) C dX7_offBy_2 0 rfl ?_
  refine g_iload_n (pc := 3) C dX7_offBy_3 2 rfl ?_
  refine g_wrVI (pc := 4) (rest := [.int (nI q), .ref m]) (wr := []) C (fun _ => wN G m A τ y ++ ([iC G (A 16) 10 (frW (fun x9 => anN τ x9 t) an (tG τ)), iC G (A 17) 10 (frW (fun x9 => lfN τ x9 t) le (tG τ))])) rfl k_X7_answered (c_X7_answered l G m A τ y le an t (by first | assumption | omega) (by first | assumption | omega)) ml_X7_220 rfl ⟨Nat.le_of_ble_eq_true rfl, Nat.le_of_ble_eq_true rfl⟩ rfl [0, 1, 2, 3, 4, 5, 6, 7, 8, 9, 10] [] [0, 1, 2, 3, 4, 5, 6, 7, 8, 9, 10] rfl (by decide) rfl (by decide) (by decide) (by decide) (fun _ => rfl) 0 rfl rfl rfl rfl (Nat.le_of_ble_eq_true rfl) ⟨by decide, by decide⟩ dX7_offBy_4 (fun r4 _ e4 => ?_)
  subst e4
  refine g_rdVI (pc := 7) (val := shN τ q (frW (fun x9 => anN τ x9 t) an (tG τ)) (sumN (fun x9 => anN τ x9 t) (tG τ))) (rest := []) C k_X7_shareOfAnswers (c_X7_shareOfAnswers l G m A τ y (frW (fun x9 => anN τ x9 t) an (tG τ)) q (sumN (fun x9 => anN τ x9 t) (tG τ)) (by first | assumption | omega) (by first | assumption | omega)) ml_X7_226 rfl ⟨Nat.le_of_ble_eq_true rfl, Nat.le_of_ble_eq_true rfl⟩ rfl [0, 1, 2, 3, 4, 5, 6, 7, 8, 9] rfl 0 rfl rfl rfl rfl (Nat.le_of_ble_eq_true rfl) ⟨by decide, by decide⟩ dX7_offBy_7 ?_
  refine g_aload_n (pc := 10) C dX7_offBy_10 0 rfl ?_
  refine g_iload_n (pc := 11) C dX7_offBy_11 1 rfl ?_
  refine g_rdVI (pc := 12) (val := share τ q) (rest := [.int (shN τ q (frW (fun x9 => anN τ x9 t) an (tG τ)) (sumN (fun x9 => anN τ x9 t) (tG τ)))]) C k_X7_shareOf (c_X7_shareOf l G m A τ y q (by first | assumption | omega) (by first | assumption | omega)) ml_X7_112 rfl ⟨Nat.le_of_ble_eq_true rfl, Nat.le_of_ble_eq_true rfl⟩ rfl [0, 1, 2, 3, 4, 5, 6, 7, 8] rfl 0 rfl rfl rfl rfl (Nat.le_of_ble_eq_true rfl) ⟨by decide, by decide⟩ dX7_offBy_12 ?_
  refine g_isub (pc := 15) C dX7_offBy_15 ?_
  exact g_retIW (pc := 16) C rfl rfl () (rfl) (by rw [shA_0]; rfl) (by rfl) dX7_offBy_16
set_option maxRecDepth 20000 in
set_option maxHeartbeats 4000000 in
theorem c_X7_answeredLate (l : Launch) (G : gT) (m : Nat) (A : Nat → Nat) (τ : tT) (y : Nat → Int32) (le : Nat → Int32) (an : Nat → Int32) (t : Nat) (hT : TI τ) (ht : t ≤ 9) (ht1 : 1 ≤ t) : WI l yX7_answeredLate cX7_answeredLate 4 (some .int) 2 0 0 G [.ref m, .int (nI t)] (wN G m A τ y ++ ([iC G (A 16) 10 an, iC G (A 17) 10 le])) (S := Unit) (fun r _ => r = anB τ (t - 1) t) (fun _ => wN G m A τ y ++ ([iC G (A 16) 10 (frW (fun x9 => anN τ x9 t - anN τ x9 (t - 1)) (frW (fun x9 => anN τ x9 (t - 1)) an (tG τ)) (tG τ)), iC G (A 17) 10 (frW (fun x9 => lfN τ x9 t) (frW (fun x9 => lfN τ x9 (t - 1)) le (tG τ)) (tG τ))])) := by
  have hg10 := hT.g10
  have hq8 := hT.q8
  intro sz9
  refine start_W (by decide) (Nat.le_of_ble_eq_true rfl) (fun p9 e9 s9 m9 a9 b9 t9 c9 C => ?_)
  refine g_lv (lv' := [(0, .ref m), (1, .int (nI t))]) rfl ?_
  refine g_iconst (pc := 0) (v := 0) C dX7_answeredLate_0 (by decide) ?_
  refine g_istore_n (pc := 1) (lv' := [(2, .int 0), (0, .ref m), (1, .int (nI t))]) C dX7_answeredLate_1 rfl (by decide) rfl ?_
  refine g_aload_n (pc := 2) C dX7_answeredLate_2 1 rfl ?_
  refine g_iload_n (pc := 3) C dX7_answeredLate_3 2 rfl ?_
  refine g_iconst (pc := 4) (v := 1) C dX7_answeredLate_4 (by decide) ?_
  refine g_isub (pc := 5) C dX7_answeredLate_5 ?_
  refine g_top (z := nI (t - 1)) (pk_sub (a := t) (b := 1) ht1) ?_
  refine g_wrVI (pc := 6) (rest := []) (wr := []) C (fun _ => wN G m A τ y ++ ([iC G (A 16) 10 (frW (fun x9 => anN τ x9 (t - 1)) an (tG τ)), iC G (A 17) 10 (frW (fun x9 => lfN τ x9 (t - 1)) le (tG τ))])) rfl k_X7_answered (c_X7_answered l G m A τ y le an (t - 1) (by first | assumption | omega) (by first | assumption | omega)) ml_X7_220 rfl ⟨Nat.le_of_ble_eq_true rfl, Nat.le_of_ble_eq_true rfl⟩ rfl [0, 1, 2, 3, 4, 5, 6, 7, 8, 9, 10] [] [0, 1, 2, 3, 4, 5, 6, 7, 8, 9, 10] rfl (by decide) rfl (by decide) (by decide) (by decide) (fun _ => rfl) 0 rfl rfl rfl rfl (Nat.le_of_ble_eq_true rfl) ⟨by decide, by decide⟩ dX7_answeredLate_6 (fun r6 _ e6 => ?_)
  subst e6
  refine g_pop (pc := 9) C dX7_answeredLate_9 rfl ?_
  refine g_iconst (pc := 10) (v := 0) C dX7_answeredLate_10 (by decide) ?_
  refine g_istore_n (pc := 11) (lv' := [(3, .int 0), (2, .int 0), (0, .ref m), (1, .int (nI t))]) C dX7_answeredLate_11 rfl (by decide) rfl ?_
  have key_12 : ∀ (n12 : Nat) (i : Nat) (hi : i ≤ tG τ), tG τ - i < n12 → GW p9 l e9 (rmh 2 0 0) s9 m9 a9 b9 t9 c9 (MQ b9 (va_Qi (fun r (_ : Unit) => r = anB τ (t - 1) t) (BW G (wN G m A τ y ++ ([iC G (A 16) 10 an, iC G (A 17) 10 le])) sz9 (fun _ => wN G m A τ y ++ ([iC G (A 16) 10 (frW (fun x9 => anN τ x9 t - anN τ x9 (t - 1)) (frW (fun x9 => anN τ x9 (t - 1)) an (tG τ)) (tG τ)), iC G (A 17) 10 (frW (fun x9 => lfN τ x9 t) (frW (fun x9 => lfN τ x9 (t - 1)) le (tG τ)) (tG τ))]))) (va_A (wN G m A τ y ++ ([iC G (A 16) 10 an, iC G (A 17) 10 le])) sz9)) a9 s9 0 0 (va_A (wN G m A τ y ++ ([iC G (A 16) 10 an, iC G (A 17) 10 le])) sz9)) G (va_A (wN G m A τ y ++ ([iC G (A 16) 10 an, iC G (A 17) 10 le])) sz9) true 4 0 0 (wN G m A τ y ++ ([iC G (A 16) 10 (frW (fun x9 => anN τ x9 t - anN τ x9 (t - 1)) (frW (fun x9 => anN τ x9 (t - 1)) an (tG τ)) i), iC G (A 17) 10 (frW (fun x9 => lfN τ x9 t) (frW (fun x9 => lfN τ x9 (t - 1)) le (tG τ)) i)])) [(0, .ref m), (1, .int (nI t)), (2, .int (sumN (fun x9 => anN τ x9 t - anN τ x9 (t - 1)) i)), (3, .int (nI i))] 12 [] := by
    intro n12
    induction n12 with
    | zero => intro i hi hn12; exact absurd hn12 (Nat.not_lt_zero _)
    | succ n12 ih12 =>
      intro i hi hn12
      refine g_iload_n (pc := 12) C dX7_answeredLate_12 3 rfl ?_
      refine g_aload_n (pc := 13) C dX7_answeredLate_13 0 rfl ?_
      refine g_get (pc := 14) (T := TX7) (N := 33) (v := .int (τ 8 1)) C ib_X7 0 rfl rfl 7 (by decide) mf_X7_92 rfl rfl rfl dX7_answeredLate_14 ?_
      refine g_top (z := nI (tG τ)) (hT.g) ?_
      refine g_icmpN_ge (pc := 17) (i := i) (j := tG τ) (tgt := 46) C dX7_answeredLate_17 (by decide) ⟨by omega, by omega⟩ (fun h17 => ?_) (fun h17 => ?_)
      · refine g_iload_n (pc := 46) C dX7_answeredLate_46 2 rfl ?_
        exact g_retIW (pc := 47) C rfl rfl () (rfl) (by rw [show i = tG τ from by omega]; rfl) (by rw [show i = tG τ from by omega]) dX7_answeredLate_47
      · refine g_aload_n (pc := 20) C dX7_answeredLate_20 0 rfl ?_
        refine g_get (pc := 21) (T := TX7) (N := 33) (v := .ref (A 16)) C ib_X7 0 rfl rfl 28 (by decide) mf_X7_59 rfl rfl rfl dX7_answeredLate_21 ?_
        refine g_iload_n (pc := 24) C dX7_answeredLate_24 3 rfl ?_
        refine g_aload_n (pc := 25) C dX7_answeredLate_25 0 rfl ?_
        refine g_iload_n (pc := 26) C dX7_answeredLate_26 3 rfl ?_
        refine g_wrVI (pc := 27) (rest := [.int (nI i), .ref (A 16)]) (wr := [iC G (A 16) 10 (frW (fun x9 => anN τ x9 t - anN τ x9 (t - 1)) (frW (fun x9 => anN τ x9 (t - 1)) an (tG τ)) i)]) C (fun _ => wN G m A τ y ++ ([iC G (A 16) 10 (frW (fun x9 => anN τ x9 t - anN τ x9 (t - 1)) (frW (fun x9 => anN τ x9 (t - 1)) an (tG τ)) i), iC G (A 17) 10 (upd (frW (fun x9 => lfN τ x9 t) (frW (fun x9 => lfN τ x9 (t - 1)) le (tG τ)) i) i ((frW (fun x9 => lfN τ x9 t) (frW (fun x9 => lfN τ x9 (t - 1)) le (tG τ)) i) i - (frW (fun x9 => lfN τ x9 t) (frW (fun x9 => lfN τ x9 (t - 1)) le (tG τ)) i) i * τ 6 i / 10))])) rfl k_X7_tries (c_X7_tries l G m A τ y (frW (fun x9 => lfN τ x9 t) (frW (fun x9 => lfN τ x9 (t - 1)) le (tG τ)) i) i (by first | assumption | omega)) ml_X7_217 rfl ⟨Nat.le_of_ble_eq_true rfl, Nat.le_of_ble_eq_true rfl⟩ rfl [0, 1, 2, 3, 4, 5, 6, 7, 8, 10] [9] [1, 2, 3, 4, 5, 6, 7, 8, 9, 0, 10] rfl (by decide) rfl (by decide) (by decide) (by decide) (fun _ => rfl) 0 rfl rfl rfl rfl (Nat.le_of_ble_eq_true rfl) ⟨by decide, by decide⟩ dX7_answeredLate_27 (fun r27 _ e27 => ?_)
        subst e27
        refine g_top (z := anN τ i t - anN τ i (t - 1)) (by rw [frW_ge (Nat.le_refl i), frW_lt (by omega), an_dif τ i ht1]) ?_
        refine g_iast (pc := 30) (ws' := wN G m A τ y ++ ([iC G (A 16) 10 (upd (frW (fun x9 => anN τ x9 t - anN τ x9 (t - 1)) (frW (fun x9 => anN τ x9 (t - 1)) an (tG τ)) i) i (anN τ i t - anN τ i (t - 1))), iC G (A 17) 10 (upd (frW (fun x9 => lfN τ x9 t) (frW (fun x9 => lfN τ x9 (t - 1)) le (tG τ)) i) i ((frW (fun x9 => lfN τ x9 t) (frW (fun x9 => lfN τ x9 (t - 1)) le (tG τ)) i) i - (frW (fun x9 => lfN τ x9 t) (frW (fun x9 => lfN τ x9 (t - 1)) le (tG τ)) i) i * τ 6 i / 10))])) C rfl 9 rfl i (rfl) ⟨by omega, by decide⟩ dX7_answeredLate_30 rfl ?_
        refine g_iload_n (pc := 31) C dX7_answeredLate_31 2 rfl ?_
        refine g_aload_n (pc := 32) C dX7_answeredLate_32 0 rfl ?_
        refine g_get (pc := 33) (T := TX7) (N := 33) (v := .ref (A 16)) C ib_X7 0 rfl rfl 28 (by decide) mf_X7_59 rfl rfl rfl dX7_answeredLate_33 ?_
        refine g_iload_n (pc := 36) C dX7_answeredLate_36 3 rfl ?_
        refine g_iald (pc := 37) (v := (upd (frW (fun x9 => anN τ x9 t - anN τ x9 (t - 1)) (frW (fun x9 => anN τ x9 (t - 1)) an (tG τ)) i) i (anN τ i t - anN τ i (t - 1))) i) C 9 rfl i (rfl) ⟨by omega, by decide⟩ (rfl) dX7_answeredLate_37 ?_
        refine g_iadd (pc := 38) C dX7_answeredLate_38 ?_
        refine g_istore_n (pc := 39) (lv' := [(2, .int ((sumN (fun x9 => anN τ x9 t - anN τ x9 (t - 1)) i) + ((upd (frW (fun x9 => anN τ x9 t - anN τ x9 (t - 1)) (frW (fun x9 => anN τ x9 (t - 1)) an (tG τ)) i) i (anN τ i t - anN τ i (t - 1))) i))), (0, .ref m), (1, .int (nI t)), (3, .int (nI i))]) C dX7_answeredLate_39 rfl (by decide) rfl ?_
        refine g_iinc (pc := 40) (v := nI (i + 1)) (lv' := [(3, .int (nI (i + 1))), (2, .int ((sumN (fun x9 => anN τ x9 t - anN τ x9 (t - 1)) i) + ((upd (frW (fun x9 => anN τ x9 t - anN τ x9 (t - 1)) (frW (fun x9 => anN τ x9 (t - 1)) an (tG τ)) i) i (anN τ i t - anN τ i (t - 1))) i))), (0, .ref m), (1, .int (nI t))]) C dX7_answeredLate_40 3 rfl (nI_1 i) (by decide) rfl ?_
        refine g_goto (pc := 43) (tgt := 12) C dX7_answeredLate_43 (by decide) ?_
        refine g_ws (ws' := wN G m A τ y ++ ([iC G (A 16) 10 (frW (fun x9 => anN τ x9 t - anN τ x9 (t - 1)) (frW (fun x9 => anN τ x9 (t - 1)) an (tG τ)) (i + 1)), iC G (A 17) 10 (frW (fun x9 => lfN τ x9 t) (frW (fun x9 => lfN τ x9 (t - 1)) le (tG τ)) (i + 1))])) (by rw [← frW_s, ← frW_s (fun x9 => lfN τ x9 t), frW_ge (a := frW (fun x9 => lfN τ x9 (t - 1)) le (tG τ)) (Nat.le_refl i), frW_lt (n := tG τ) (by omega), lf_dif τ i ht1] <;> rfl) ?_
        refine g_sub (lv' := [(0, .ref m), (1, .int (nI t)), (2, .int ((sumN (fun x9 => anN τ x9 t - anN τ x9 (t - 1)) i) + ((upd (frW (fun x9 => anN τ x9 t - anN τ x9 (t - 1)) (frW (fun x9 => anN τ x9 (t - 1)) an (tG τ)) i) i (anN τ i t - anN τ i (t - 1))) i))), (3, .int (nI (i + 1)))]) [2, 3, 1, 0] rfl ?_
        refine g_lv (lv' := [(0, .ref m), (1, .int (nI t)), (2, .int (sumN (fun x9 => anN τ x9 t - anN τ x9 (t - 1)) (i + 1))), (3, .int (nI (i + 1)))]) (by rw [upd_at] <;> rfl) ?_
        exact ih12 (i + 1) (by first | assumption | omega) (by omega)
  refine g_ws (ws' := wN G m A τ y ++ ([iC G (A 16) 10 (frW (fun x9 => anN τ x9 t - anN τ x9 (t - 1)) (frW (fun x9 => anN τ x9 (t - 1)) an (tG τ)) 0), iC G (A 17) 10 (frW (fun x9 => lfN τ x9 t) (frW (fun x9 => lfN τ x9 (t - 1)) le (tG τ)) 0)])) (by rw [frW_0, frW_0]) ?_
  refine g_sub (lv' := [(0, .ref m), (1, .int (nI t)), (2, .int (sumN (fun x9 => anN τ x9 t - anN τ x9 (t - 1)) 0)), (3, .int (nI 0))]) [2, 3, 1, 0] rfl ?_
  exact key_12 _ 0 (by first | assumption | omega) (Nat.lt_succ_self _)
