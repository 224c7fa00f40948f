def τz : tT := fun _ _ => 0
theorem rng_0 {a b : Int} (h : a ≤ 0 ∧ 0 ≤ b) : rng 0 a b := h
theorem ti_z : TI τz := by
  refine ⟨⟨rfl, Nat.zero_le _⟩, ⟨rfl, Nat.zero_le _⟩, fun q _ => ⟨rng_0 (by decide), rng_0 (by decide)⟩, fun i j _ _ => ⟨rng_0 (by decide), fun _ => rfl⟩, fun g hg => absurd hg (Nat.not_lt_zero g), rng_0 (by decide), rng_0 (by decide)⟩
theorem ti_0 : TI τ0 := by
  refine ⟨⟨rfl, Nat.zero_le _⟩, ⟨rfl, Nat.zero_le _⟩, fun q _ => ⟨rng_0 (by decide), rng_0 (by decide)⟩, fun i j _ _ => ⟨rng_0 (by decide), fun _ => rfl⟩, fun g hg => absurd hg (Nat.not_lt_zero g), ?_, rng_0 (by decide)⟩
  show rng 5 0 99
  exact ⟨by decide, by decide⟩
theorem li_0 : LI 0 (-1) τ0 τ0 τz (fun _ => 0) (fun _ => -1) (fun _ => 0) (fun _ => 0) (fun _ => 0) 0 yI (fun _ => 0) := by
  refine ⟨⟨ti_0, ti_0, ti_z, ⟨fun _ _ => ⟨rfl, rfl⟩, fun _ _ => rfl, fun _ _ => ⟨rfl, rfl, rfl, rfl, rfl⟩, rfl, rfl, rfl, rfl, rfl, rfl, rfl⟩, fun h => absurd rfl h⟩, ⟨fun s _ => ⟨show rng (-1) (-1) 200 from ⟨by decide, by decide⟩, rng_0 (by decide)⟩, fun s _ h => absurd rfl h.1, fun _ _ _ _ => rfl⟩, rfl, by decide, rfl, rfl, rfl⟩
theorem six_in {L i : Nat} (hL : L ≤ 3072) (hi : i ≤ L) (h : ¬ nI L - 6 < nI i) : i + 6 ≤ L := by
  have h1 := Int32.le_iff_toInt_le.mp (Int32.not_lt.mp h)
  rw [Int32.toInt_sub, nI_toInt (by omega), nI_toInt (by omega), show (6 : Int32).toInt = 6 from rfl, Int.bmod_def] at h1
  omega
set_option maxRecDepth 20000 in
set_option maxHeartbeats 4000000 in
theorem law_loop {p9 : Program} {l : Launch} {e9 : Env} {s9 : State} {m9 : MethodId} {a9 : Array Value} {b9 : List Frame} {t9 : Method} {c9 : Code} {Q9 : State → Prop} {G : gT} {A9 : Nat → Prop} {F : Nat → Nat} {m : Nat} {A : Nat → Nat} {bs L : Nat} {xs : Nat → Int32} (C : Cx p9 s9 m9 a9 t9 c9 G A9 true 4 cL_law yL_law ret) (hX : va_X bs L xs s9 s9.heap) (hbl : bs < s9.heap.size) (hbA : ¬ A9 bs) (hL : L ≤ 3072) (E9 : ∀ (cells slots : Nat) (ws : va_W) (lv : List (Nat × Value)), cells ≤ 600000 → slots ≤ 7302250 → GW p9 l e9 room_1 s9 m9 a9 b9 t9 c9 Q9 G A9 true 4 cells slots ws lv 1550 [.int 1]) : ∀ (n i : Nat), i ≤ L → L < i + n → ∀ (σ2 : tT) (it : Int32) (lf : Int32) (τ : tT) (σ : tT) (sh : Nat → Int32) (lr : Nat → Int32) (hd : Nat → Int32) (sz : Nat → Int32) (el : Nat → Int64) (f0 : Int32) (s0 : Int32) (p0 : Int32) (lt : Nat → Int32) (ν0 : tT) (kp : Nat → Int32) (bc : Nat) (nm : Int32) (kd : Int32) (aa : Int32) (rr : Nat → Int32) (y : Nat → Int32) (el2 : Nat → Int64) (od : Nat → Int32) (ah : Nat → Int32) (nu : Nat → Int32) (an : Nat → Int32) (le : Nat → Int32) (o2 : Nat → Nat) (b2 : Nat → Nat), LI it lf τ σ σ2 lr hd sz el el2 bc y od → GW p9 l e9 room_1 s9 m9 a9 b9 t9 c9 Q9 G A9 true 4 (46 + i) (5000 + 8 * i) (LW G F m A it lf τ σ sh lr hd sz el f0 s0 p0 lt ν0 kp bc nm kd aa rr y el2 od ah nu an le o2 b2) [(0, .ref bs), (1, .ref (F 0)), (2, .ref m), (3, .int (nI i))] 18 [] := by
  intro n
  induction n with
  | zero => intro i hi1 hi2; omega
  | succ n ih =>
    intro i hi1 hi2 σ2 it lf τ σ sh lr hd sz el f0 s0 p0 lt ν0 kp bc nm kd aa rr y el2 od ah nu an le o2 b2 hI
    refine g_iload_n (pc := 18) C dL_law_18 3 rfl ?_
    refine g_aload_n (pc := 19) C dL_law_19 0 rfl ?_
    refine g_slen (pc := 20) C hX hbl hbA dL_law_20 ?_
    refine g_bipush (pc := 21) (v := 6) C dL_law_21 (by decide) ?_
    refine g_isub (pc := 23) C dL_law_23 ?_
    refine g_icmp_gt (pc := 24) (tgt := 1549) C dL_law_24 (by decide) (fun h24 => ?_) (fun h24 => ?_)
    · refine g_iconst (pc := 1549) (v := 1) C dL_law_1549 (by decide) ?_
      exact E9 _ _ _ _ (by omega) (by omega)
    · have hi := six_in hL hi1 h24
      have K : LK p9 l e9 s9 m9 a9 b9 t9 c9 Q9 G A9 F m A bs (i + 6) := fun σ2 it lf τ σ sh lr hd sz el f0 s0 p0 lt ν0 kp bc nm kd aa rr y el2 od ah nu an le o2 b2 hI => ih (i + 6) (by omega) (by omega) σ2 it lf τ σ sh lr hd sz el f0 s0 p0 lt ν0 kp bc nm kd aa rr y el2 od ah nu an le o2 b2 hI
      refine g_aload_n (pc := 27) C dL_law_27 0 rfl ?_
      refine g_iload_n (pc := 28) C dL_law_28 3 rfl ?_
      refine g_sld (pc := 29) C hX hbl hbA i rfl ⟨by omega, by omega⟩ dL_law_29 ?_
      refine g_bipush (pc := 30) (v := 63) C dL_law_30 (by decide) ?_
      refine g_iand (pc := 32) C dL_law_32 ?_
      by_cases h33_0 : (xs i) &&& 63 = 0
      · refine g_top (z := 0) h33_0 ?_
        refine g_tsIn (pc := 33) (off := 183) (tgt := 216) C dL_law_33 (by decide) (by decide) (by decide) (by decide) ?_
        exact law_row C hX hbl hbA hL hi σ2 it lf τ σ sh lr hd sz el f0 s0 p0 lt ν0 kp bc nm kd aa rr y el2 od ah nu an le o2 b2 hI K
      by_cases h33_1 : (xs i) &&& 63 = 1
      · refine g_top (z := 1) h33_1 ?_
        refine g_tsIn (pc := 33) (off := 226) (tgt := 259) C dL_law_33 (by decide) (by decide) (by decide) (by decide) ?_
        exact law_set C hX hbl hbA hL hi σ2 it lf τ σ sh lr hd sz el f0 s0 p0 lt ν0 kp bc nm kd aa rr y el2 od ah nu an le o2 b2 hI K
      by_cases h33_2 : (xs i) &&& 63 = 2
      · refine g_top (z := 2) h33_2 ?_
        refine g_tsIn (pc := 33) (off := 299) (tgt := 332) C dL_law_33 (by decide) (by decide) (by decide) (by decide) ?_
        exact law_copy C hX hbl hbA hL hi σ2 it lf τ σ sh lr hd sz el f0 s0 p0 lt ν0 kp bc nm kd aa rr y el2 od ah nu an le o2 b2 hI K
      by_cases h33_3 : (xs i) &&& 63 = 3
      · refine g_top (z := 3) h33_3 ?_
        refine g_tsIn (pc := 33) (off := 362) (tgt := 395) C dL_law_33 (by decide) (by decide) (by decide) (by decide) ?_
        exact law_element C hX hbl hbA hL hi σ2 it lf τ σ sh lr hd sz el f0 s0 p0 lt ν0 kp bc nm kd aa rr y el2 od ah nu an le o2 b2 hI K
      by_cases h33_4 : (xs i) &&& 63 = 4
      · refine g_top (z := 4) h33_4 ?_
        refine g_tsIn (pc := 33) (off := 396) (tgt := 429) C dL_law_33 (by decide) (by decide) (by decide) (by decide) ?_
        exact law_show C hX hbl hbA hL hi σ2 it lf τ σ sh lr hd sz el f0 s0 p0 lt ν0 kp bc nm kd aa rr y el2 od ah nu an le o2 b2 hI K
      by_cases h33_5 : (xs i) &&& 63 = 5
      · refine g_top (z := 5) h33_5 ?_
        refine g_tsIn (pc := 33) (off := 429) (tgt := 462) C dL_law_33 (by decide) (by decide) (by decide) (by decide) ?_
        exact law_holds C hX hbl hbA hL hi σ2 it lf τ σ sh lr hd sz el f0 s0 p0 lt ν0 kp bc nm kd aa rr y el2 od ah nu an le o2 b2 hI K
      by_cases h33_6 : (xs i) &&& 63 = 6
      · refine g_top (z := 6) h33_6 ?_
        refine g_tsIn (pc := 33) (off := 452) (tgt := 485) C dL_law_33 (by decide) (by decide) (by decide) (by decide) ?_
        exact law_says C hX hbl hbA hL hi σ2 it lf τ σ sh lr hd sz el f0 s0 p0 lt ν0 kp bc nm kd aa rr y el2 od ah nu an le o2 b2 hI K
      by_cases h33_7 : (xs i) &&& 63 = 7
      · refine g_top (z := 7) h33_7 ?_
        refine g_tsIn (pc := 33) (off := 485) (tgt := 518) C dL_law_33 (by decide) (by decide) (by decide) (by decide) ?_
        exact law_question C hX hbl hbA hL hi σ2 it lf τ σ sh lr hd sz el f0 s0 p0 lt ν0 kp bc nm kd aa rr y el2 od ah nu an le o2 b2 hI K
      by_cases h33_8 : (xs i) &&& 63 = 8
      · refine g_top (z := 8) h33_8 ?_
        refine g_tsIn (pc := 33) (off := 518) (tgt := 551) C dL_law_33 (by decide) (by decide) (by decide) (by decide) ?_
        exact law_group C hX hbl hbA hL hi σ2 it lf τ σ sh lr hd sz el f0 s0 p0 lt ν0 kp bc nm kd aa rr y el2 od ah nu an le o2 b2 hI K
      by_cases h33_9 : (xs i) &&& 63 = 9
      · refine g_top (z := 9) h33_9 ?_
        refine g_tsIn (pc := 33) (off := 581) (tgt := 614) C dL_law_33 (by decide) (by decide) (by decide) (by decide) ?_
        exact law_questionOf C hX hbl hbA hL hi σ2 it lf τ σ sh lr hd sz el f0 s0 p0 lt ν0 kp bc nm kd aa rr y el2 od ah nu an le o2 b2 hI K
      by_cases h33_10 : (xs i) &&& 63 = 10
      · refine g_top (z := 10) h33_10 ?_
        refine g_tsIn (pc := 33) (off := 614) (tgt := 647) C dL_law_33 (by decide) (by decide) (by decide) (by decide) ?_
        exact law_groupOf C hX hbl hbA hL hi σ2 it lf τ σ sh lr hd sz el f0 s0 p0 lt ν0 kp bc nm kd aa rr y el2 od ah nu an le o2 b2 hI K
      by_cases h33_11 : (xs i) &&& 63 = 11
      · refine g_top (z := 11) h33_11 ?_
        refine g_tsIn (pc := 33) (off := 647) (tgt := 680) C dL_law_33 (by decide) (by decide) (by decide) (by decide) ?_
        exact law_bears C hX hbl hbA hL hi σ2 it lf τ σ sh lr hd sz el f0 s0 p0 lt ν0 kp bc nm kd aa rr y el2 od ah nu an le o2 b2 hI K
      by_cases h33_12 : (xs i) &&& 63 = 12
      · refine g_top (z := 12) h33_12 ?_
        refine g_tsIn (pc := 33) (off := 690) (tgt := 723) C dL_law_33 (by decide) (by decide) (by decide) (by decide) ?_
        exact law_ask C hX hbl hbA hL hi σ2 it lf τ σ sh lr hd sz el f0 s0 p0 lt ν0 kp bc nm kd aa rr y el2 od ah nu an le o2 b2 hI K
      by_cases h33_13 : (xs i) &&& 63 = 13
      · refine g_top (z := 13) h33_13 ?_
        refine g_tsIn (pc := 33) (off := 723) (tgt := 756) C dL_law_33 (by decide) (by decide) (by decide) (by decide) ?_
        exact law_town C hX hbl hbA hL hi σ2 it lf τ σ sh lr hd sz el f0 s0 p0 lt ν0 kp bc nm kd aa rr y el2 od ah nu an le o2 b2 hI K
      by_cases h33_14 : (xs i) &&& 63 = 14
      · refine g_top (z := 14) h33_14 ?_
        refine g_tsIn (pc := 33) (off := 746) (tgt := 779) C dL_law_33 (by decide) (by decide) (by decide) (by decide) ?_
        exact law_fault C hX hbl hbA hL hi σ2 it lf τ σ sh lr hd sz el f0 s0 p0 lt ν0 kp bc nm kd aa rr y el2 od ah nu an le o2 b2 hI K
      by_cases h33_15 : (xs i) &&& 63 = 15
      · refine g_top (z := 15) h33_15 ?_
        refine g_tsIn (pc := 33) (off := 759) (tgt := 792) C dL_law_33 (by decide) (by decide) (by decide) (by decide) ?_
        exact law_yes C hX hbl hbA hL hi σ2 it lf τ σ sh lr hd sz el f0 s0 p0 lt ν0 kp bc nm kd aa rr y el2 od ah nu an le o2 b2 hI K
      by_cases h33_16 : (xs i) &&& 63 = 16
      · refine g_top (z := 16) h33_16 ?_
        refine g_tsIn (pc := 33) (off := 802) (tgt := 835) C dL_law_33 (by decide) (by decide) (by decide) (by decide) ?_
        exact law_answers C hX hbl hbA hL hi σ2 it lf τ σ sh lr hd sz el f0 s0 p0 lt ν0 kp bc nm kd aa rr y el2 od ah nu an le o2 b2 hI K
      by_cases h33_17 : (xs i) &&& 63 = 17
      · refine g_top (z := 17) h33_17 ?_
        refine g_tsIn (pc := 33) (off := 835) (tgt := 868) C dL_law_33 (by decide) (by decide) (by decide) (by decide) ?_
        exact law_by C hX hbl hbA hL hi σ2 it lf τ σ sh lr hd sz el f0 s0 p0 lt ν0 kp bc nm kd aa rr y el2 od ah nu an le o2 b2 hI K
      by_cases h33_18 : (xs i) &&& 63 = 18
      · refine g_top (z := 18) h33_18 ?_
        refine g_tsIn (pc := 33) (off := 878) (tgt := 911) C dL_law_33 (by decide) (by decide) (by decide) (by decide) ?_
        exact law_hold C hX hbl hbA hL hi σ2 it lf τ σ sh lr hd sz el f0 s0 p0 lt ν0 kp bc nm kd aa rr y el2 od ah nu an le o2 b2 hI K
      by_cases h33_19 : (xs i) &&& 63 = 19
      · refine g_top (z := 19) h33_19 ?_
        refine g_tsIn (pc := 33) (off := 891) (tgt := 924) C dL_law_33 (by decide) (by decide) (by decide) (by decide) ?_
        exact law_order C hX hbl hbA hL hi σ2 it lf τ σ sh lr hd sz el f0 s0 p0 lt ν0 kp bc nm kd aa rr y el2 od ah nu an le o2 b2 hI K
      by_cases h33_20 : (xs i) &&& 63 = 20
      · refine g_top (z := 20) h33_20 ?_
        refine g_tsIn (pc := 33) (off := 924) (tgt := 957) C dL_law_33 (by decide) (by decide) (by decide) (by decide) ?_
        exact law_blame C hX hbl hbA hL hi σ2 it lf τ σ sh lr hd sz el f0 s0 p0 lt ν0 kp bc nm kd aa rr y el2 od ah nu an le o2 b2 hI K
      by_cases h33_21 : (xs i) &&& 63 = 21
      · refine g_top (z := 21) h33_21 ?_
        refine g_tsIn (pc := 33) (off := 937) (tgt := 970) C dL_law_33 (by decide) (by decide) (by decide) (by decide) ?_
        exact law_nothing C hX hbl hbA hL hi σ2 it lf τ σ sh lr hd sz el f0 s0 p0 lt ν0 kp bc nm kd aa rr y el2 od ah nu an le o2 b2 hI K
      by_cases h33_22 : (xs i) &&& 63 = 22
      · refine g_top (z := 22) h33_22 ?_
        refine g_tsIn (pc := 33) (off := 970) (tgt := 1003) C dL_law_33 (by decide) (by decide) (by decide) (by decide) ?_
        exact law_enough C hX hbl hbA hL hi σ2 it lf τ σ sh lr hd sz el f0 s0 p0 lt ν0 kp bc nm kd aa rr y el2 od ah nu an le o2 b2 hI K
      by_cases h33_23 : (xs i) &&& 63 = 23
      · refine g_top (z := 23) h33_23 ?_
        refine g_tsIn (pc := 33) (off := 1003) (tgt := 1036) C dL_law_33 (by decide) (by decide) (by decide) (by decide) ?_
        exact law_cost C hX hbl hbA hL hi σ2 it lf τ σ sh lr hd sz el f0 s0 p0 lt ν0 kp bc nm kd aa rr y el2 od ah nu an le o2 b2 hI K
      by_cases h33_24 : (xs i) &&& 63 = 24
      · refine g_top (z := 24) h33_24 ?_
        refine g_tsIn (pc := 33) (off := 1026) (tgt := 1059) C dL_law_33 (by decide) (by decide) (by decide) (by decide) ?_
        exact law_fine C hX hbl hbA hL hi σ2 it lf τ σ sh lr hd sz el f0 s0 p0 lt ν0 kp bc nm kd aa rr y el2 od ah nu an le o2 b2 hI K
      by_cases h33_25 : (xs i) &&& 63 = 25
      · refine g_top (z := 25) h33_25 ?_
        refine g_tsIn (pc := 33) (off := 1059) (tgt := 1092) C dL_law_33 (by decide) (by decide) (by decide) (by decide) ?_
        exact law_never C hX hbl hbA hL hi σ2 it lf τ σ sh lr hd sz el f0 s0 p0 lt ν0 kp bc nm kd aa rr y el2 od ah nu an le o2 b2 hI K
      by_cases h33_26 : (xs i) &&& 63 = 26
      · refine g_top (z := 26) h33_26 ?_
        refine g_tsIn (pc := 33) (off := 1072) (tgt := 1105) C dL_law_33 (by decide) (by decide) (by decide) (by decide) ?_
        exact law_late C hX hbl hbA hL hi σ2 it lf τ σ sh lr hd sz el f0 s0 p0 lt ν0 kp bc nm kd aa rr y el2 od ah nu an le o2 b2 hI K
      by_cases h33_27 : (xs i) &&& 63 = 27
      · refine g_top (z := 27) h33_27 ?_
        refine g_tsIn (pc := 33) (off := 1105) (tgt := 1138) C dL_law_33 (by decide) (by decide) (by decide) (by decide) ?_
        exact law_fits C hX hbl hbA hL hi σ2 it lf τ σ sh lr hd sz el f0 s0 p0 lt ν0 kp bc nm kd aa rr y el2 od ah nu an le o2 b2 hI K
      by_cases h33_28 : (xs i) &&& 63 = 28
      · refine g_top (z := 28) h33_28 ?_
        refine g_tsIn (pc := 33) (off := 1138) (tgt := 1171) C dL_law_33 (by decide) (by decide) (by decide) (by decide) ?_
        exact law_halves C hX hbl hbA hL hi σ2 it lf τ σ sh lr hd sz el f0 s0 p0 lt ν0 kp bc nm kd aa rr y el2 od ah nu an le o2 b2 hI K
      by_cases h33_29 : (xs i) &&& 63 = 29
      · refine g_top (z := 29) h33_29 ?_
        refine g_tsIn (pc := 33) (off := 1161) (tgt := 1194) C dL_law_33 (by decide) (by decide) (by decide) (by decide) ?_
        exact law_twin C hX hbl hbA hL hi σ2 it lf τ σ sh lr hd sz el f0 s0 p0 lt ν0 kp bc nm kd aa rr y el2 od ah nu an le o2 b2 hI K
      by_cases h33_30 : (xs i) &&& 63 = 30
      · refine g_top (z := 30) h33_30 ?_
        refine g_tsIn (pc := 33) (off := 1184) (tgt := 1217) C dL_law_33 (by decide) (by decide) (by decide) (by decide) ?_
        exact law_nearest C hX hbl hbA hL hi σ2 it lf τ σ sh lr hd sz el f0 s0 p0 lt ν0 kp bc nm kd aa rr y el2 od ah nu an le o2 b2 hI K
      by_cases h33_31 : (xs i) &&& 63 = 31
      · refine g_top (z := 31) h33_31 ?_
        refine g_tsIn (pc := 33) (off := 1197) (tgt := 1230) C dL_law_33 (by decide) (by decide) (by decide) (by decide) ?_
        exact law_move C hX hbl hbA hL hi σ2 it lf τ σ sh lr hd sz el f0 s0 p0 lt ν0 kp bc nm kd aa rr y el2 od ah nu an le o2 b2 hI K
      by_cases h33_32 : (xs i) &&& 63 = 32
      · refine g_top (z := 32) h33_32 ?_
        refine g_tsIn (pc := 33) (off := 1230) (tgt := 1263) C dL_law_33 (by decide) (by decide) (by decide) (by decide) ?_
        exact law_judge C hX hbl hbA hL hi σ2 it lf τ σ sh lr hd sz el f0 s0 p0 lt ν0 kp bc nm kd aa rr y el2 od ah nu an le o2 b2 hI K
      by_cases h33_33 : (xs i) &&& 63 = 33
      · refine g_top (z := 33) h33_33 ?_
        refine g_tsIn (pc := 33) (off := 1263) (tgt := 1296) C dL_law_33 (by decide) (by decide) (by decide) (by decide) ?_
        exact law_round C hX hbl hbA hL hi σ2 it lf τ σ sh lr hd sz el f0 s0 p0 lt ν0 kp bc nm kd aa rr y el2 od ah nu an le o2 b2 hI K
      by_cases h33_34 : (xs i) &&& 63 = 34
      · refine g_top (z := 34) h33_34 ?_
        refine g_tsIn (pc := 33) (off := 1306) (tgt := 1339) C dL_law_33 (by decide) (by decide) (by decide) (by decide) ?_
        exact law_change C hX hbl hbA hL hi σ2 it lf τ σ sh lr hd sz el f0 s0 p0 lt ν0 kp bc nm kd aa rr y el2 od ah nu an le o2 b2 hI K
      by_cases h33_35 : (xs i) &&& 63 = 35
      · refine g_top (z := 35) h33_35 ?_
        refine g_tsIn (pc := 33) (off := 1349) (tgt := 1382) C dL_law_33 (by decide) (by decide) (by decide) (by decide) ?_
        exact law_doors C hX hbl hbA hL hi σ2 it lf τ σ sh lr hd sz el f0 s0 p0 lt ν0 kp bc nm kd aa rr y el2 od ah nu an le o2 b2 hI K
      by_cases h33_36 : (xs i) &&& 63 = 36
      · refine g_top (z := 36) h33_36 ?_
        refine g_tsIn (pc := 33) (off := 1372) (tgt := 1405) C dL_law_33 (by decide) (by decide) (by decide) (by decide) ?_
        exact law_seed C hX hbl hbA hL hi σ2 it lf τ σ sh lr hd sz el f0 s0 p0 lt ν0 kp bc nm kd aa rr y el2 od ah nu an le o2 b2 hI K
      by_cases h33_37 : (xs i) &&& 63 = 37
      · refine g_top (z := 37) h33_37 ?_
        refine g_tsIn (pc := 33) (off := 1395) (tgt := 1428) C dL_law_33 (by decide) (by decide) (by decide) (by decide) ?_
        exact law_act C hX hbl hbA hL hi σ2 it lf τ σ sh lr hd sz el f0 s0 p0 lt ν0 kp bc nm kd aa rr y el2 od ah nu an le o2 b2 hI K
      by_cases h33_38 : (xs i) &&& 63 = 38
      · refine g_top (z := 38) h33_38 ?_
        refine g_tsIn (pc := 33) (off := 1438) (tgt := 1471) C dL_law_33 (by decide) (by decide) (by decide) (by decide) ?_
        exact law_trace C hX hbl hbA hL hi σ2 it lf τ σ sh lr hd sz el f0 s0 p0 lt ν0 kp bc nm kd aa rr y el2 od ah nu an le o2 b2 hI K
      by_cases h33_39 : (xs i) &&& 63 = 39
      · refine g_top (z := 39) h33_39 ?_
        refine g_tsIn (pc := 33) (off := 1461) (tgt := 1494) C dL_law_33 (by decide) (by decide) (by decide) (by decide) ?_
        exact law_image C hX hbl hbA hL hi σ2 it lf τ σ sh lr hd sz el f0 s0 p0 lt ν0 kp bc nm kd aa rr y el2 od ah nu an le o2 b2 hI K
      by_cases h33_40 : (xs i) &&& 63 = 40
      · refine g_top (z := 40) h33_40 ?_
        refine g_tsIn (pc := 33) (off := 1474) (tgt := 1507) C dL_law_33 (by decide) (by decide) (by decide) (by decide) ?_
        exact law_restore C hX hbl hbA hL hi σ2 it lf τ σ sh lr hd sz el f0 s0 p0 lt ν0 kp bc nm kd aa rr y el2 od ah nu an le o2 b2 hI K
      by_cases h33_41 : (xs i) &&& 63 = 41
      · refine g_top (z := 41) h33_41 ?_
        refine g_tsIn (pc := 33) (off := 1487) (tgt := 1520) C dL_law_33 (by decide) (by decide) (by decide) (by decide) ?_
        exact law_status C hX hbl hbA hL hi σ2 it lf τ σ sh lr hd sz el f0 s0 p0 lt ν0 kp bc nm kd aa rr y el2 od ah nu an le o2 b2 hI K
      refine g_tsOut (pc := 33) (tgt := 1543) C dL_law_33 (by have a0 := lv_neT h33_0 (a := 0) rfl; have a1 := lv_neT h33_1 (a := 1) rfl; have a2 := lv_neT h33_2 (a := 2) rfl; have a3 := lv_neT h33_3 (a := 3) rfl; have a4 := lv_neT h33_4 (a := 4) rfl; have a5 := lv_neT h33_5 (a := 5) rfl; have a6 := lv_neT h33_6 (a := 6) rfl; have a7 := lv_neT h33_7 (a := 7) rfl; have a8 := lv_neT h33_8 (a := 8) rfl; have a9 := lv_neT h33_9 (a := 9) rfl; have a10 := lv_neT h33_10 (a := 10) rfl; have a11 := lv_neT h33_11 (a := 11) rfl; have a12 := lv_neT h33_12 (a := 12) rfl; have a13 := lv_neT h33_13 (a := 13) rfl; have a14 := lv_neT h33_14 (a := 14) rfl; have a15 := lv_neT h33_15 (a := 15) rfl; have a16 := lv_neT h33_16 (a := 16) rfl; have a17 := lv_neT h33_17 (a := 17) rfl; have a18 := lv_neT h33_18 (a := 18) rfl; have a19 := lv_neT h33_19 (a := 19) rfl; have a20 := lv_neT h33_20 (a := 20) rfl; have a21 := lv_neT h33_21 (a := 21) rfl; have a22 := lv_neT h33_22 (a := 22) rfl; have a23 := lv_neT h33_23 (a := 23) rfl; have a24 := lv_neT h33_24 (a := 24) rfl; have a25 := lv_neT h33_25 (a := 25) rfl; have a26 := lv_neT h33_26 (a := 26) rfl; have a27 := lv_neT h33_27 (a := 27) rfl; have a28 := lv_neT h33_28 (a := 28) rfl; have a29 := lv_neT h33_29 (a := 29) rfl; have a30 := lv_neT h33_30 (a := 30) rfl; have a31 := lv_neT h33_31 (a := 31) rfl; have a32 := lv_neT h33_32 (a := 32) rfl; have a33 := lv_neT h33_33 (a := 33) rfl; have a34 := lv_neT h33_34 (a := 34) rfl; have a35 := lv_neT h33_35 (a := 35) rfl; have a36 := lv_neT h33_36 (a := 36) rfl; have a37 := lv_neT h33_37 (a := 37) rfl; have a38 := lv_neT h33_38 (a := 38) rfl; have a39 := lv_neT h33_39 (a := 39) rfl; have a40 := lv_neT h33_40 (a := 40) rfl; have a41 := lv_neT h33_41 (a := 41) rfl; omega) (by decide) ?_
      refine g_iinc (pc := 1543) (v := nI (i + 6)) (lv' := [(3, .int (nI (i + 6))), (0, .ref bs), (1, .ref (F 0)), (2, .ref m)]) C dL_law_1543 3 rfl (nI_add i 6) (by decide) rfl ?_
      refine g_goto (pc := 1546) (tgt := 18) C dL_law_1546 (by decide) ?_
      refine g_sub (lv' := [(0, .ref bs), (1, .ref (F 0)), (2, .ref m), (3, .int (nI (i + 6)))]) [1, 2, 3, 0] rfl ?_
      refine g_widen (k := 46 + (i + 6)) (n := 5000 + 8 * (i + 6)) (by omega) (by omega) ?_
      exact K σ2 it lf τ σ sh lr hd sz el f0 s0 p0 lt ν0 kp bc nm kd aa rr y el2 od ah nu an le o2 b2 hI
