def nA (o : Nat → Nat) : Nat → Int32 := fun k => nI (o k % 8)
theorem m8 (a : Nat) : a % 8 < 8 := Nat.mod_lt _ (by decide)
def sw (o : Nat → Nat) (i j : Nat) : Nat → Nat := fun k => if k = j then o i else if k = i then o j else o k
theorem sw_A (o : Nat → Nat) (i j : Nat) : upd (upd (nA o) i (nA o j)) j (nA o i) = nA (sw o i j) := by
  funext k; unfold upd nA sw
  by_cases h : k = j
  · rw [if_pos h, if_pos h]
  · rw [if_neg h, if_neg h]; split <;> rfl
def pI (o : Nat → Nat) : Nat → Nat
  | 0 => 0
  | c + 1 => if o c % 8 ≤ o (c + 1) % 8 then c + 1 else pI o c
def pJ (o : Nat → Nat) (v : Nat) : Nat → Nat
  | 0 => 0
  | j + 1 => if o (j + 1) % 8 < v then pJ o v j else j + 1
def rvF : Nat → (Nat → Nat) → Nat → Nat → (Nat → Nat)
  | 0, o, _, _ => o
  | f + 1, o, a, b => if a < b then rvF f (sw o a b) (a + 1) (b - 1) else o
theorem rvF_go {f : Nat} {o : Nat → Nat} {a b : Nat} (h : a < b) (hf : 0 < f) : rvF f o a b = rvF (f - 1) (sw o a b) (a + 1) (b - 1) := by
  cases f with
  | zero => omega
  | succ f => rw [rvF, if_pos h]; rfl
theorem rvF_no {f : Nat} {o : Nat → Nat} {a b : Nat} (h : ¬ a < b) : rvF f o a b = o := by
  cases f with
  | zero => rfl
  | succ f => rw [rvF, if_neg h]
theorem pI_yes {o : Nat → Nat} {c : Nat} (h0 : 0 < c) (h : o (c - 1) % 8 ≤ o c % 8) : pI o c = c := by
  obtain ⟨d, rfl⟩ : ∃ d, c = d + 1 := ⟨c - 1, by omega⟩
  exact if_pos h
theorem pI_no {o : Nat → Nat} {c : Nat} (h0 : 0 < c) (h : ¬ o (c - 1) % 8 ≤ o c % 8) : pI o c = pI o (c - 1) := by
  obtain ⟨d, rfl⟩ : ∃ d, c = d + 1 := ⟨c - 1, by omega⟩
  exact if_neg h
theorem pI_le (o : Nat → Nat) : ∀ c, pI o c ≤ c
  | 0 => Nat.le_refl _
  | c + 1 => by rw [pI]; have := pI_le o c; split <;> omega
theorem pJ_yes {o : Nat → Nat} {v j : Nat} (h0 : 0 < j) (h : o j % 8 < v) : pJ o v j = pJ o v (j - 1) := by
  obtain ⟨d, rfl⟩ : ∃ d, j = d + 1 := ⟨j - 1, by omega⟩
  rw [pJ, if_pos h]; rfl
theorem pJ_no {o : Nat → Nat} {v j : Nat} (h : ¬ o j % 8 < v) (h0 : 0 < j) : pJ o v j = j := by
  obtain ⟨d, rfl⟩ : ∃ d, j = d + 1 := ⟨j - 1, by omega⟩
  rw [pJ, if_neg h]
def nxO (o : Nat → Nat) (n : Nat) : Nat → Nat := if 0 < pI o (n - 1) then rvF 6 (sw o (pI o (n - 1) - 1) (pJ o (o (pI o (n - 1) - 1) % 8) (n - 1))) (pI o (n - 1)) (n - 1) else o
theorem j1 (j : Nat) (h : 0 < j) : nI j + (-1) = nI (j - 1) := by rw [m1_d, m1_c j h]
theorem n2_c (n : Nat) (h : 1 ≤ n) (h2 : n < 100) : nI n - 2 = nI (n - 1) - 1 := by
  rw [← m1_c n (by omega)]
  apply Int32.toInt_inj.mp
  rw [Int32.toInt_sub, Int32.toInt_sub, Int32.toInt_sub, nI_toInt (by omega), show (2 : Int32).toInt = 2 from rfl, show (1 : Int32).toInt = 1 from rfl, Int.bmod_def, Int.bmod_def, Int.bmod_def]
  omega
set_option maxRecDepth 20000 in
set_option maxHeartbeats 4000000 in
theorem c_X7_swap (l : Launch) (G : gT) (m : Nat) (A : Nat → Nat) (τ : tT) (y : Nat → Int32) (o : Nat → Nat) (i : Nat) (j : Nat) (hi : i < 6) (hj : j < 6) : WV l yX7_swap cX7_swap 4 (none) 0 0 0 G [.ref m, .int (nI i), .int (nI j)] (wN G m A τ y ++ ([iC G (A 18) 6 (nA o)])) (S := Unit) (fun _ => True) (fun _ => wN G m A τ y ++ ([iC G (A 18) 6 (nA (sw o i j))])) := by
  intro sz9
  refine start_W (by decide) (Nat.le_of_ble_eq_true rfl) (fun p9 e9 s9 m9 a9 b9 t9 c9 C => ?_)
  refine g_lv (lv' := [(0, .ref m), (1, .int (nI i)), (2, .int (nI j))]) rfl ?_
  refine g_aload_n (pc := 0) C dX7_swap_0 0 rfl ?_
  refine g_get (pc := 1) (T := TX7) (N := 33) (v := .ref (A 18)) C ib_X7 0 rfl rfl 30 (by decide) mf_X7_65 rfl rfl rfl dX7_swap_1 ?_
  refine g_iload_n (pc := 4) C dX7_swap_4 1 rfl ?_
  refine g_iald (pc := 5) (v := (nA o) i) C 9 rfl i (rfl) ⟨by omega, by decide⟩ (rfl) dX7_swap_5 ?_
  refine g_istore_n (pc := 6) (lv' := [(3, .int ((nA o) i)), (0, .ref m), (1, .int (nI i)), (2, .int (nI j))]) C dX7_swap_6 rfl (by decide) rfl ?_
  refine g_aload_n (pc := 7) C dX7_swap_7 1 rfl ?_
  refine g_get (pc := 8) (T := TX7) (N := 33) (v := .ref (A 18)) C ib_X7 0 rfl rfl 30 (by decide) mf_X7_65 rfl rfl rfl dX7_swap_8 ?_
  refine g_iload_n (pc := 11) C dX7_swap_11 2 rfl ?_
  refine g_aload_n (pc := 12) C dX7_swap_12 1 rfl ?_
  refine g_get (pc := 13) (T := TX7) (N := 33) (v := .ref (A 18)) C ib_X7 0 rfl rfl 30 (by decide) mf_X7_65 rfl rfl rfl dX7_swap_13 ?_
  refine g_iload_n (pc := 16) C dX7_swap_16 3 rfl ?_
  refine g_iald (pc := 17) (v := (nA o) j) C 9 rfl j (rfl) ⟨by omega, by decide⟩ (rfl) dX7_swap_17 ?_
  refine g_iast (pc := 18) (ws' := wN G m A τ y ++ ([iC G (A 18) 6 (upd (nA o) i ((nA o) j))])) C rfl 9 rfl i (rfl) ⟨by omega, by decide⟩ dX7_swap_18 rfl ?_
  refine g_aload_n (pc := 19) C dX7_swap_19 1 rfl ?_
  refine g_get (pc := 20) (T := TX7) (N := 33) (v := .ref (A 18)) C ib_X7 0 rfl rfl 30 (by decide) mf_X7_65 rfl rfl rfl dX7_swap_20 ?_
  refine g_iload_n (pc := 23) C dX7_swap_23 3 rfl ?_
  refine g_iload_n (pc := 24) C dX7_swap_24 0 rfl ?_
  refine g_iast (pc := 25) (ws' := wN G m A τ y ++ ([iC G (A 18) 6 (upd (upd (nA o) i ((nA o) j)) j ((nA o) i))])) C rfl 9 rfl j (rfl) ⟨by omega, by decide⟩ dX7_swap_25 rfl ?_
  exact g_retVW (pc := 26) C rfl rfl () trivial (by rw [← sw_A] <;> rfl) dX7_swap_26
set_option maxRecDepth 20000 in
set_option maxHeartbeats 4000000 in
theorem c_X7_next_0 (l : Launch) (G : gT) (m : Nat) (A : Nat → Nat) (τ : tT) (y : Nat → Int32) (o : Nat → Nat) (hy : y 5 = 0) : WI l yX7_next cX7_next 5 (some .boolean) 1 0 0 G [.ref m] (wN G m A τ y ++ ([iC G (A 18) 6 (nA o)])) (S := Unit) (fun r _ => r = bI (0 < pI o (0 - 1))) (fun _ => wN G m A τ y ++ ([iC G (A 18) 6 (nA (nxO o 0))])) := by
  intro sz9
  refine start_W (by decide) (Nat.le_of_ble_eq_true rfl) (fun p9 e9 s9 m9 a9 b9 t9 c9 C => ?_)
  refine g_lv (lv' := [(0, .ref m)]) rfl ?_
  refine g_aload_n (pc := 0) C dX7_next_0 0 rfl ?_
  refine g_get (pc := 1) (T := TX7) (N := 33) (v := .int (y 5)) C ib_X7 0 rfl rfl 32 (by decide) mf_X7_245 rfl rfl rfl dX7_next_1 ?_
  refine g_top (z := nI 0) (hy) ?_
  refine g_iconst (pc := 4) (v := 2) C dX7_next_4 (by decide) ?_
  refine g_isub (pc := 5) C dX7_next_5 ?_
  refine g_istore_n (pc := 6) (lv' := [(1, .int (0 - 2)), (0, .ref m)]) C dX7_next_6 rfl (by decide) rfl ?_
  refine g_iload_n (pc := 7) C dX7_next_7 0 rfl ?_
  refine g_if_lt (pc := 8) (tgt := 34) C dX7_next_8 (by decide) (fun h8 => ?_) (fun h8 => absurd h8 (by decide))
  refine g_iload_n (pc := 34) C dX7_next_34 0 rfl ?_
  refine g_if_ge (pc := 35) (tgt := 40) C dX7_next_35 (by decide) (fun h35 => absurd h35 (by decide)) (fun h35 => ?_)
  refine g_iconst (pc := 38) (v := 0) C dX7_next_38 (by decide) ?_
  exact g_retIW (pc := 39) C rfl rfl () (rfl) (by rfl) (by rfl) dX7_next_39
set_option maxRecDepth 20000 in
set_option maxHeartbeats 4000000 in
theorem c_X7_next_1 (l : Launch) (G : gT) (m : Nat) (A : Nat → Nat) (τ : tT) (y : Nat → Int32) (o : Nat → Nat) (n : Nat) (hy : y 5 = nI n) (h1 : 1 ≤ n) (hn6 : n ≤ 6) : WI l yX7_next cX7_next 5 (some .boolean) 1 0 0 G [.ref m] (wN G m A τ y ++ ([iC G (A 18) 6 (nA o)])) (S := Unit) (fun r _ => r = bI (0 < pI o (n - 1))) (fun _ => wN G m A τ y ++ ([iC G (A 18) 6 (nA (nxO o n))])) := by
  intro sz9
  refine start_W (by decide) (Nat.le_of_ble_eq_true rfl) (fun p9 e9 s9 m9 a9 b9 t9 c9 C => ?_)
  refine g_lv (lv' := [(0, .ref m)]) rfl ?_
  refine g_aload_n (pc := 0) C dX7_next_0 0 rfl ?_
  refine g_get (pc := 1) (T := TX7) (N := 33) (v := .int (y 5)) C ib_X7 0 rfl rfl 32 (by decide) mf_X7_245 rfl rfl rfl dX7_next_1 ?_
  refine g_top (z := nI n) (hy) ?_
  refine g_iconst (pc := 4) (v := 2) C dX7_next_4 (by decide) ?_
  refine g_isub (pc := 5) C dX7_next_5 ?_
  refine g_istore_n (pc := 6) (lv' := [(1, .int ((nI n) - 2)), (0, .ref m)]) C dX7_next_6 rfl (by decide) rfl ?_
  have key_7 : ∀ (n7 : Nat) (c : Nat) (hc : c ≤ n - 1) (hv : pI o (n - 1) = pI o c), c < n7 → GW p9 l e9 (rmh 1 0 0) s9 m9 a9 b9 t9 c9 (MQ b9 (va_Qi (fun r (_ : Unit) => r = bI (0 < pI o (n - 1))) (BW G (wN G m A τ y ++ ([iC G (A 18) 6 (nA o)])) sz9 (fun _ => wN G m A τ y ++ ([iC G (A 18) 6 (nA (nxO o n))]))) (va_A (wN G m A τ y ++ ([iC G (A 18) 6 (nA o)])) sz9)) a9 s9 0 0 (va_A (wN G m A τ y ++ ([iC G (A 18) 6 (nA o)])) sz9)) G (va_A (wN G m A τ y ++ ([iC G (A 18) 6 (nA o)])) sz9) true 5 0 0 (wN G m A τ y ++ ([iC G (A 18) 6 (nA o)])) [(0, .ref m), (1, .int (nI c - 1))] 7 [] := by
    intro n7
    induction n7 with
    | zero => intro c hc hv hn7; exact absurd hn7 (Nat.not_lt_zero _)
    | succ n7 ih7 =>
      intro c hc hv hn7
      refine g_iload_n (pc := 7) C dX7_next_7 1 rfl ?_
      refine g_if_lt (pc := 8) (tgt := 34) C dX7_next_8 (by decide) (fun h8 => ?_) (fun h8 => ?_)
      · refine g_iload_n (pc := 34) C dX7_next_34 1 rfl ?_
        refine g_if_ge (pc := 35) (tgt := 40) C dX7_next_35 (by decide) (fun h35 => ?_) (fun h35 => ?_)
        · exact absurd h8 (Int32.not_lt.mpr h35)
        · refine g_iconst (pc := 38) (v := 0) C dX7_next_38 (by decide) ?_
          exact g_retIW (pc := 39) C rfl rfl () (rfl) (by exact (bI_f (by rw [hv, (m1_0 (by omega)).mp h8]; exact Nat.lt_irrefl 0)).symm) (by rw [show nxO o n = o from if_neg (by rw [hv, (m1_0 (by omega)).mp h8]; exact Nat.lt_irrefl 0)]) dX7_next_39
      · have hc0 : 0 < c := Nat.pos_of_ne_zero (fun z => h8 ((m1_0 (by omega)).mpr z))
        refine g_lv (lv' := [(0, .ref m), (1, .int (nI (c - 1)))]) (congrArg (fun z9 : Int32 => ([(0, .ref m), (1, .int z9)] : List (Nat × Value))) (m1_c c hc0)) ?_
        have hcc : c - 1 + 1 = c := by omega
        refine g_aload_n (pc := 11) C dX7_next_11 0 rfl ?_
        refine g_get (pc := 12) (T := TX7) (N := 33) (v := .ref (A 18)) C ib_X7 0 rfl rfl 30 (by decide) mf_X7_65 rfl rfl rfl dX7_next_12 ?_
        refine g_iload_n (pc := 15) C dX7_next_15 1 rfl ?_
        refine g_iald (pc := 16) (v := nI (o (c - 1) % 8)) C 9 rfl (c - 1) (rfl) ⟨by omega, by decide⟩ (rfl) dX7_next_16 ?_
        refine g_aload_n (pc := 17) C dX7_next_17 0 rfl ?_
        refine g_get (pc := 18) (T := TX7) (N := 33) (v := .ref (A 18)) C ib_X7 0 rfl rfl 30 (by decide) mf_X7_65 rfl rfl rfl dX7_next_18 ?_
        refine g_iload_n (pc := 21) C dX7_next_21 1 rfl ?_
        refine g_iconst (pc := 22) (v := 1) C dX7_next_22 (by decide) ?_
        refine g_iaddN (pc := 23) (i := c - 1) (j := 1) C dX7_next_23 ?_
        refine g_iald (pc := 24) (v := nI (o c % 8)) C 9 rfl c (by rw [hcc]) ⟨by omega, by decide⟩ (rfl) dX7_next_24 ?_
        refine g_icmpN_le (pc := 25) (i := o (c - 1) % 8) (j := o c % 8) (tgt := 34) C dX7_next_25 (by decide) ⟨by have := m8 (o c); have := m8 (o (c - 1)); omega, by have := m8 (o c); have := m8 (o (c - 1)); omega⟩ (fun h25 => ?_) (fun h25 => ?_)
        · refine g_iload_n (pc := 34) C dX7_next_34 1 rfl ?_
          refine g_if_ge (pc := 35) (tgt := 40) C dX7_next_35 (by decide) (fun h35 => ?_) (fun h35 => ?_)
          · refine g_aload_n (pc := 40) C dX7_next_40 0 rfl ?_
            refine g_get (pc := 41) (T := TX7) (N := 33) (v := .int (y 5)) C ib_X7 0 rfl rfl 32 (by decide) mf_X7_245 rfl rfl rfl dX7_next_41 ?_
            refine g_top (z := nI n) (hy) ?_
            refine g_iconst (pc := 44) (v := 1) C dX7_next_44 (by decide) ?_
            refine g_isub (pc := 45) C dX7_next_45 ?_
            refine g_top (z := nI (n - 1)) (m1_c n h1) ?_
            have hpc : pI o (n - 1) = c := hv.trans (pI_yes hc0 h25)
            refine g_istore_n (pc := 46) (lv' := [(2, .int (nI (n - 1))), (0, .ref m), (1, .int (nI (c - 1)))]) C dX7_next_46 rfl (by decide) rfl ?_
            have key_47 : ∀ (n47 : Nat) (j : Nat) (hj : j ≤ n - 1) (hcj : c ≤ j) (hvj : pJ o (o (c - 1) % 8) (n - 1) = pJ o (o (c - 1) % 8) j), j < n47 → GW p9 l e9 (rmh 1 0 0) s9 m9 a9 b9 t9 c9 (MQ b9 (va_Qi (fun r (_ : Unit) => r = bI (0 < pI o (n - 1))) (BW G (wN G m A τ y ++ ([iC G (A 18) 6 (nA o)])) sz9 (fun _ => wN G m A τ y ++ ([iC G (A 18) 6 (nA (nxO o n))]))) (va_A (wN G m A τ y ++ ([iC G (A 18) 6 (nA o)])) sz9)) a9 s9 0 0 (va_A (wN G m A τ y ++ ([iC G (A 18) 6 (nA o)])) sz9)) G (va_A (wN G m A τ y ++ ([iC G (A 18) 6 (nA o)])) sz9) true 5 0 0 (wN G m A τ y ++ ([iC G (A 18) 6 (nA o)])) [(0, .ref m), (1, .int (nI (c - 1))), (2, .int (nI j))] 47 [] := by
              intro n47
              induction n47 with
              | zero => intro j hj hcj hvj hn47; exact absurd hn47 (Nat.not_lt_zero _)
              | succ n47 ih47 =>
                intro j hj hcj hvj hn47
                refine g_aload_n (pc := 47) C dX7_next_47 0 rfl ?_
                refine g_get (pc := 48) (T := TX7) (N := 33) (v := .ref (A 18)) C ib_X7 0 rfl rfl 30 (by decide) mf_X7_65 rfl rfl rfl dX7_next_48 ?_
                refine g_iload_n (pc := 51) C dX7_next_51 2 rfl ?_
                refine g_iald (pc := 52) (v := nI (o j % 8)) C 9 rfl j (rfl) ⟨by omega, by decide⟩ (rfl) dX7_next_52 ?_
                refine g_aload_n (pc := 53) C dX7_next_53 0 rfl ?_
                refine g_get (pc := 54) (T := TX7) (N := 33) (v := .ref (A 18)) C ib_X7 0 rfl rfl 30 (by decide) mf_X7_65 rfl rfl rfl dX7_next_54 ?_
                refine g_iload_n (pc := 57) C dX7_next_57 1 rfl ?_
                refine g_iald (pc := 58) (v := nI (o (c - 1) % 8)) C 9 rfl (c - 1) (rfl) ⟨by omega, by decide⟩ (rfl) dX7_next_58 ?_
                refine g_icmpN_ge (pc := 59) (i := o j % 8) (j := o (c - 1) % 8) (tgt := 68) C dX7_next_59 (by decide) ⟨by have := m8 (o j); have := m8 (o (c - 1)); omega, by have := m8 (o j); have := m8 (o (c - 1)); omega⟩ (fun h59 => ?_) (fun h59 => ?_)
                · have hpj : pJ o (o (c - 1) % 8) (n - 1) = j := hvj.trans (pJ_no (by omega) (by omega))
                  refine g_aload_n (pc := 68) C dX7_next_68 0 rfl ?_
                  refine g_iload_n (pc := 69) C dX7_next_69 1 rfl ?_
                  refine g_iload_n (pc := 70) C dX7_next_70 2 rfl ?_
                  refine g_wrVV (pc := 71) (rest := []) (wr := []) C (fun _ => wN G m A τ y ++ ([iC G (A 18) 6 (nA (sw o (c - 1) j))])) rfl k_X7_swap (c_X7_swap l G m A τ y o (c - 1) j (by first | assumption | omega) (by first | assumption | omega)) ml_X7_248 rfl ⟨Nat.le_of_ble_eq_true rfl, Nat.le_of_ble_eq_true rfl⟩ rfl [0, 1, 2, 3, 4, 5, 6, 7, 8, 9] [] [0, 1, 2, 3, 4, 5, 6, 7, 8, 9] rfl (by decide) rfl (by decide) (by decide) (by decide) (fun _ => rfl) 0 rfl rfl rfl rfl (Nat.le_of_ble_eq_true rfl) ⟨by decide, by decide⟩ dX7_next_71 (fun _ _ => ?_)
                  refine g_iload_n (pc := 74) C dX7_next_74 1 rfl ?_
                  refine g_iconst (pc := 75) (v := 1) C dX7_next_75 (by decide) ?_
                  refine g_iaddN (pc := 76) (i := c - 1) (j := 1) C dX7_next_76 ?_
                  refine g_top (z := nI c) (by rw [hcc]) ?_
                  refine g_istore_n (pc := 77) (lv' := [(3, .int (nI c)), (0, .ref m), (1, .int (nI (c - 1))), (2, .int (nI j))]) C dX7_next_77 rfl (by decide) rfl ?_
                  refine g_aload_n (pc := 78) C dX7_next_78 1 rfl ?_
                  refine g_get (pc := 79) (T := TX7) (N := 33) (v := .int (y 5)) C ib_X7 0 rfl rfl 32 (by decide) mf_X7_245 rfl rfl rfl dX7_next_79 ?_
                  refine g_top (z := nI n) (hy) ?_
                  refine g_iconst (pc := 82) (v := 1) C dX7_next_82 (by decide) ?_
                  refine g_isub (pc := 83) C dX7_next_83 ?_
                  refine g_top (z := nI (n - 1)) (m1_c n h1) ?_
                  refine g_istore (pc := 84) (lv' := [(4, .int (nI (n - 1))), (3, .int (nI c)), (0, .ref m), (1, .int (nI (c - 1))), (2, .int (nI j))]) C dX7_next_84 (by decide) rfl ?_
                  have key_86 : ∀ (n86 : Nat) (f : Nat) (o2 : Nat → Nat) (a : Nat) (b : Nat) (ha : a ≤ 6) (hb : b ≤ 5) (hf : b ≤ a + f) (hvf : nxO o n = rvF f o2 a b), b - a < n86 → GW p9 l e9 (rmh 1 0 0) s9 m9 a9 b9 t9 c9 (MQ b9 (va_Qi (fun r (_ : Unit) => r = bI (0 < pI o (n - 1))) (BW G (wN G m A τ y ++ ([iC G (A 18) 6 (nA o)])) sz9 (fun _ => wN G m A τ y ++ ([iC G (A 18) 6 (nA (nxO o n))]))) (va_A (wN G m A τ y ++ ([iC G (A 18) 6 (nA o)])) sz9)) a9 s9 0 0 (va_A (wN G m A τ y ++ ([iC G (A 18) 6 (nA o)])) sz9)) G (va_A (wN G m A τ y ++ ([iC G (A 18) 6 (nA o)])) sz9) true 5 0 0 (wN G m A τ y ++ ([iC G (A 18) 6 (nA o2)])) [(0, .ref m), (3, .int (nI a)), (4, .int (nI b))] 86 [] := by
                    intro n86
                    induction n86 with
                    | zero => intro f o2 a b ha hb hf hvf hn86; exact absurd hn86 (Nat.not_lt_zero _)
                    | succ n86 ih86 =>
                      intro f o2 a b ha hb hf hvf hn86
                      refine g_iload_n (pc := 86) C dX7_next_86 1 rfl ?_
                      refine g_iload (pc := 87) C dX7_next_87 2 rfl ?_
                      refine g_icmpN_ge (pc := 89) (i := a) (j := b) (tgt := 108) C dX7_next_89 (by decide) ⟨by omega, by omega⟩ (fun h89 => ?_) (fun h89 => ?_)
                      · refine g_iconst (pc := 108) (v := 1) C dX7_next_108 (by decide) ?_
                        exact g_retIW (pc := 109) C rfl rfl () (rfl) (by exact (bI_t (by rw [hpc]; exact hc0)).symm) (by rw [hvf, rvF_no (by omega)]) dX7_next_109
                      · refine g_aload_n (pc := 92) C dX7_next_92 0 rfl ?_
                        refine g_iload_n (pc := 93) C dX7_next_93 1 rfl ?_
                        refine g_iload (pc := 94) C dX7_next_94 2 rfl ?_
                        refine g_wrVV (pc := 96) (rest := []) (wr := []) C (fun _ => wN G m A τ y ++ ([iC G (A 18) 6 (nA (sw o2 a b))])) rfl k_X7_swap (c_X7_swap l G m A τ y o2 a b (by first | assumption | omega) (by first | assumption | omega)) ml_X7_248 rfl ⟨Nat.le_of_ble_eq_true rfl, Nat.le_of_ble_eq_true rfl⟩ rfl [0, 1, 2, 3, 4, 5, 6, 7, 8, 9] [] [0, 1, 2, 3, 4, 5, 6, 7, 8, 9] rfl (by decide) rfl (by decide) (by decide) (by decide) (fun _ => rfl) 0 rfl rfl rfl rfl (Nat.le_of_ble_eq_true rfl) ⟨by decide, by decide⟩ dX7_next_96 (fun _ _ => ?_)
                        refine g_iinc (pc := 99) (v := nI (a + 1)) (lv' := [(3, .int (nI (a + 1))), (0, .ref m), (4, .int (nI b))]) C dX7_next_99 1 rfl (nI_1 a) (by decide) rfl ?_
                        refine g_iinc (pc := 102) (v := nI (b - 1)) (lv' := [(4, .int (nI (b - 1))), (3, .int (nI (a + 1))), (0, .ref m)]) C dX7_next_102 2 rfl (j1 b (by omega)) (by decide) rfl ?_
                        refine g_goto (pc := 105) (tgt := 86) C dX7_next_105 (by decide) ?_
                        refine g_ws (ws' := wN G m A τ y ++ ([iC G (A 18) 6 (nA (sw o2 a b))])) (rfl) ?_
                        refine g_sub (lv' := [(0, .ref m), (3, .int (nI (a + 1))), (4, .int (nI (b - 1)))]) [2, 1, 0] rfl ?_
                        exact ih86 (f - 1) (sw o2 a b) (a + 1) (b - 1) (by first | assumption | omega) (by first | assumption | omega) (by first | assumption | omega) (by rw [hvf, rvF_go h89 (by omega)]) (by omega)
                  refine g_ws (ws' := wN G m A τ y ++ ([iC G (A 18) 6 (nA (sw o (c - 1) j))])) (rfl) ?_
                  refine g_sub (lv' := [(0, .ref m), (3, .int (nI c)), (4, .int (nI (n - 1)))]) [2, 1, 0] rfl ?_
                  exact key_86 _ 6 (sw o (c - 1) j) c (n - 1) (by first | assumption | omega) (by first | assumption | omega) (by first | assumption | omega) (by rw [nxO, hpc, if_pos hc0, hpj]) (Nat.lt_succ_self _)
                · have hcj0 : o j % 8 < o (c - 1) % 8 → c < j := fun z => Nat.lt_of_le_of_ne hcj (fun w => by rw [← w] at z; omega)
                  refine g_iinc (pc := 62) (v := nI (j - 1)) (lv' := [(2, .int (nI (j - 1))), (0, .ref m), (1, .int (nI (c - 1)))]) C dX7_next_62 2 rfl (j1 j (by have := hcj0 h59; omega)) (by decide) rfl ?_
                  refine g_goto (pc := 65) (tgt := 47) C dX7_next_65 (by decide) ?_
                  refine g_sub (lv' := [(0, .ref m), (1, .int (nI (c - 1))), (2, .int (nI (j - 1)))]) [1, 2, 0] rfl ?_
                  exact ih47 (j - 1) (by first | assumption | omega) (by have := hcj0 h59; omega) (hvj.trans (pJ_yes (by omega) h59)) (by omega)
            refine g_sub (lv' := [(0, .ref m), (1, .int (nI (c - 1))), (2, .int (nI (n - 1)))]) [1, 2, 0] rfl ?_
            exact key_47 _ (n - 1) (by first | assumption | omega) (by first | assumption | omega) rfl (Nat.lt_succ_self _)
          · exact absurd (nI_pos' (n := c - 1) (by omega)) h35
        · refine g_iinc (pc := 28) (v := nI (c - 1) + (-1)) (lv' := [(1, .int (nI (c - 1) + (-1))), (0, .ref m)]) C dX7_next_28 1 rfl rfl (by decide) rfl ?_
          refine g_goto (pc := 31) (tgt := 7) C dX7_next_31 (by decide) ?_
          refine g_sub (lv' := [(0, .ref m), (1, .int (nI (c - 1) + (-1)))]) [1, 0] rfl ?_
          refine g_lv (lv' := [(0, .ref m), (1, .int (nI (c - 1) - 1))]) (by rw [m1_d]) ?_
          exact ih7 (c - 1) (by first | assumption | omega) (hv.trans (pI_no hc0 (by omega))) (by omega)
  refine g_sub (lv' := [(0, .ref m), (1, .int ((nI n) - 2))]) [1, 0] rfl ?_
  refine g_lv (lv' := [(0, .ref m), (1, .int (nI (n - 1) - 1))]) (by rw [n2_c n h1 (by omega)]) ?_
  exact key_7 _ (n - 1) (by first | assumption | omega) rfl (Nat.lt_succ_self _)
theorem c_X7_next (l : Launch) (G : gT) (m : Nat) (A : Nat → Nat) (τ : tT) (y : Nat → Int32) (o : Nat → Nat) (n : Nat) (hy : y 5 = nI n) (hn6 : n ≤ 6) : WI l yX7_next cX7_next 5 (some .boolean) 1 0 0 G [.ref m] (wN G m A τ y ++ ([iC G (A 18) 6 (nA o)])) (S := Unit) (fun r _ => r = bI (0 < pI o (n - 1))) (fun _ => wN G m A τ y ++ ([iC G (A 18) 6 (nA (nxO o n))])) := by
  by_cases h0 : n = 0
  · subst h0; exact c_X7_next_0 l G m A τ y o hy
  · exact c_X7_next_1 l G m A τ y o n hy (by omega) hn6
