def wI (tx al dr : Nat) (f s p : Int32) : Nat × va_E := oC tx 4 [.ref al, .ref dr, .int f, .int s, .int p]
theorem rdS_stop {lt : Nat → Int32} {n : Nat} {z : Nat × Int32} {ν : tT} {k : Nat} (h : ¬ (z.2 = -1 ∧ z.1 < n)) : ∀ m, rdS lt n m z ν k = (z, ν, k)
  | 0 => rfl
  | m + 1 => by rw [rdS, if_neg h]
theorem rdS_go {lt : Nat → Int32} {n : Nat} {z : Nat × Int32} {ν : tT} {k m : Nat} (h : z.2 = -1 ∧ z.1 < n) (hm : 0 < m) : rdS lt n m z ν k = rdS lt n (m - 1) (itS lt n ν (rlS lt n 59 z)) (itT lt n ν (rlS lt n 59 z)) (k + 1) := by
  cases m with
  | zero => omega
  | succ m => rw [rdS, if_pos h]; rfl
theorem ne59 : ¬ (59 : Int32) = -1 := by decide
set_option maxRecDepth 20000 in
set_option maxHeartbeats 4000000 in
theorem c_X4_read (l : Launch) (G : gT) (tx : Nat) (al : Nat) (dr : Nat) (n : Nat) (f0 : Int32) (s0 : Int32) (p0 : Int32) (lt : Nat → Int32) (da : Nat) (db : Nat) (dc : Nat) (ν0 : tT) (t : Nat) (ta : Nat) (tb : Nat) (tc : Nat) (τ : tT) (hT : TI τ) (hn : n ≤ 160) : WI l yX4_read cX4_read 5 (some .int) 7 0 0 G [.ref tx, .int (nI n), .ref t] ([wI tx al dr f0 s0 p0, iC G al 160 lt] ++ (wT G dr da db dc ν0 ++ (wT G t ta tb tc τ))) (S := Unit) (fun r _ => r = nI ((rdZ lt n τ).2.2)) (fun _ => [wI tx al dr ((rdZ lt n τ).1.2) (nI n) (nI (rdZ lt n τ).1.1), iC G al 160 lt] ++ (wT G dr da db dc ((rdZ lt n τ).2.1) ++ (wT G t ta tb tc τ))) := by
  intro sz9
  refine start_W (by decide) (Nat.le_of_ble_eq_true rfl) (fun p9 e9 s9 m9 a9 b9 t9 c9 C => ?_)
  refine g_lv (lv' := [(0, .ref tx), (1, .int (nI n)), (2, .ref t)]) rfl ?_
  refine g_aload_n (pc := 0) C dX4_read_0 0 rfl ?_
  refine g_get (pc := 1) (T := TX4) (N := 5) (v := .ref dr) C ib_X4 0 rfl rfl 1 (by decide) mf_X4_18 rfl rfl rfl dX4_read_1 ?_
  refine g_aload_n (pc := 4) C dX4_read_4 2 rfl ?_
  refine g_wrVV (pc := 5) (rest := []) (wr := [wI tx al dr f0 s0 p0, iC G al 160 lt]) C (fun _ => [wI tx al dr f0 s0 p0, iC G al 160 lt] ++ (wT G dr da db dc τ ++ (wT G t ta tb tc τ))) rfl k_X3_become (c_X3_become l G dr da db dc ν0 t ta tb tc τ) ml_X4_26 rfl ⟨Nat.le_of_ble_eq_true rfl, Nat.le_of_ble_eq_true rfl⟩ rfl [2, 3, 4, 5, 6, 7, 8, 9] [0, 1] [0, 1, 2, 3, 4, 5, 6, 7, 8, 9] rfl (by decide) rfl (by decide) (by decide) (by decide) (fun _ => rfl) 2 rfl rfl rfl rfl (Nat.le_of_ble_eq_true rfl) ⟨by decide, by decide⟩ dX4_read_5 (fun _ _ => ?_)
  refine g_aload_n (pc := 8) C dX4_read_8 0 rfl ?_
  refine g_iload_n (pc := 9) C dX4_read_9 1 rfl ?_
  refine g_put (pc := 10) (T := TX4) (N := 5) (ty := .int) (ws' := [oC tx 4 [.ref al, .ref dr, .int f0, .int (nI n), .int p0], iC G al 160 lt] ++ (wT G dr da db dc τ ++ (wT G t ta tb tc τ))) C rfl ib_X4 tyX4 tyX4_ok nmX4 0 rfl rfl 3 (by decide) mf_X4_30 rfl rfl rfl (by decide +kernel) rfl rfl (Nat.le_of_ble_eq_true rfl) dX4_read_10 rfl ?_
  refine g_aload_n (pc := 13) C dX4_read_13 0 rfl ?_
  refine g_iconst (pc := 14) (v := 0) C dX4_read_14 (by decide) ?_
  refine g_put (pc := 15) (T := TX4) (N := 5) (ty := .int) (ws' := [oC tx 4 [.ref al, .ref dr, .int f0, .int (nI n), .int 0], iC G al 160 lt] ++ (wT G dr da db dc τ ++ (wT G t ta tb tc τ))) C rfl ib_X4 tyX4 tyX4_ok nmX4 0 rfl rfl 4 (by decide) mf_X4_33 rfl rfl rfl (by decide +kernel) rfl rfl (Nat.le_of_ble_eq_true rfl) dX4_read_15 rfl ?_
  refine g_aload_n (pc := 18) C dX4_read_18 0 rfl ?_
  refine g_iconst (pc := 19) (v := (-1)) C dX4_read_19 (by decide) ?_
  refine g_put (pc := 20) (T := TX4) (N := 5) (ty := .int) (ws' := [oC tx 4 [.ref al, .ref dr, .int (-1), .int (nI n), .int 0], iC G al 160 lt] ++ (wT G dr da db dc τ ++ (wT G t ta tb tc τ))) C rfl ib_X4 tyX4 tyX4_ok nmX4 0 rfl rfl 2 (by decide) mf_X4_22 rfl rfl rfl (by decide +kernel) rfl rfl (Nat.le_of_ble_eq_true rfl) dX4_read_20 rfl ?_
  refine g_ws (ws' := wP G tx al dr n (0, -1) lt ++ (wT G dr da db dc τ ++ (wT G t ta tb tc τ))) (rfl) ?_
  refine g_aload_n (pc := 23) C dX4_read_23 0 rfl ?_
  refine g_wrVV (pc := 24) (rest := []) (wr := [oC t 3 [.ref ta, .ref tb, .ref tc, .int (τ 8 0), .int (τ 8 1), .int (τ 8 2), .int (τ 8 3), .int (τ 8 4), .int (τ 8 5), .int (τ 8 6)], iC G ta 16 (fq τ), iC G tb 64 (τ 2), iC G tc 50 (fg τ)]) C (fun _ => wP G tx al dr n (itS lt n τ (0, -1)) lt ++ (wT G dr da db dc (itT lt n τ (0, -1)) ++ (wT G t ta tb tc τ))) rfl k_X4_readItem (c_X4_readItem l G tx al dr n (0, -1) lt da db dc τ (by first | assumption | omega) (Nat.zero_le n) (by first | assumption | omega)) ml_X4_36 rfl ⟨Nat.le_of_ble_eq_true rfl, Nat.le_of_ble_eq_true rfl⟩ rfl [0, 1, 2, 3, 4, 5] [6, 7, 8, 9] [4, 5, 6, 7, 8, 9, 0, 1, 2, 3] rfl (by decide) rfl (by decide) (by decide) (by decide) (fun _ => rfl) 0 rfl rfl rfl rfl (Nat.le_of_ble_eq_true rfl) ⟨by decide, by decide⟩ dX4_read_24 (fun _ _ => ?_)
  refine g_iconst (pc := 27) (v := 1) C dX4_read_27 (by decide) ?_
  refine g_istore_n (pc := 28) (lv' := [(3, .int 1), (0, .ref tx), (1, .int (nI n)), (2, .ref t)]) C dX4_read_28 rfl (by decide) rfl ?_
  refine g_iconst (pc := 29) (v := 0) C dX4_read_29 (by decide) ?_
  refine g_istore (pc := 30) (lv' := [(4, .int 0), (3, .int 1), (0, .ref tx), (1, .int (nI n)), (2, .ref t)]) C dX4_read_30 (by decide) rfl ?_
  have key_32 : ∀ (n32 : Nat) (i : Nat) (z : Nat × Int32) (ν : tT) (k : Nat) (hi : i ≤ n) (hz : z.1 ≤ n) (hν : z.2 = -1 → TI ν) (hv : rdZ lt n τ = rdS lt n (n - i) z ν k), n - i < n32 → GW p9 l e9 (rmh 7 0 0) s9 m9 a9 b9 t9 c9 (MQ b9 (va_Qi (fun r (_ : Unit) => r = nI ((rdZ lt n τ).2.2)) (BW G ([wI tx al dr f0 s0 p0, iC G al 160 lt] ++ (wT G dr da db dc ν0 ++ (wT G t ta tb tc τ))) sz9 (fun _ => [wI tx al dr ((rdZ lt n τ).1.2) (nI n) (nI (rdZ lt n τ).1.1), iC G al 160 lt] ++ (wT G dr da db dc ((rdZ lt n τ).2.1) ++ (wT G t ta tb tc τ)))) (va_A ([wI tx al dr f0 s0 p0, iC G al 160 lt] ++ (wT G dr da db dc ν0 ++ (wT G t ta tb tc τ))) sz9)) a9 s9 0 0 (va_A ([wI tx al dr f0 s0 p0, iC G al 160 lt] ++ (wT G dr da db dc ν0 ++ (wT G t ta tb tc τ))) sz9)) G (va_A ([wI tx al dr f0 s0 p0, iC G al 160 lt] ++ (wT G dr da db dc ν0 ++ (wT G t ta tb tc τ))) sz9) true 5 0 0 (wP G tx al dr n z lt ++ (wT G dr da db dc ν ++ (wT G t ta tb tc τ))) [(0, .ref tx), (1, .int (nI n)), (2, .ref t), (3, .int (nI k)), (4, .int (nI i))] 32 [] := by
    intro n32
    induction n32 with
    | zero => intro i z ν k hi hz hν hv hn32; exact absurd hn32 (Nat.not_lt_zero _)
    | succ n32 ih32 =>
      intro i z ν k hi hz hν hv hn32
      refine g_iload (pc := 32) C dX4_read_32 4 rfl ?_
      refine g_iload_n (pc := 34) C dX4_read_34 1 rfl ?_
      refine g_icmpN_ge (pc := 35) (i := i) (j := n) (tgt := 76) C dX4_read_35 (by decide) ⟨by omega, by omega⟩ (fun h35 => ?_) (fun h35 => ?_)
      · have hd : rdZ lt n τ = (z, ν, k) := (by rw [hv, show n - i = 0 from by omega]; rfl)
        refine g_iload_n (pc := 76) C dX4_read_76 3 rfl ?_
        exact g_retIW (pc := 77) C rfl rfl () (rfl) (by rw [hd]) (by rw [hd] <;> rfl) dX4_read_77
      · refine g_aload_n (pc := 38) C dX4_read_38 0 rfl ?_
        refine g_get (pc := 39) (T := TX4) (N := 5) (v := .int z.2) C ib_X4 0 rfl rfl 2 (by decide) mf_X4_22 rfl rfl rfl dX4_read_39 ?_
        refine g_iconst (pc := 42) (v := (-1)) C dX4_read_42 (by decide) ?_
        refine g_icmp_ne (pc := 43) (tgt := 76) C dX4_read_43 (by decide) (fun h43 => ?_) (fun h43 => ?_)
        · have hd : rdZ lt n τ = (z, ν, k) := (by rw [hv, rdS_stop (fun q => h43 q.1)])
          refine g_iload_n (pc := 76) C dX4_read_76 3 rfl ?_
          exact g_retIW (pc := 77) C rfl rfl () (rfl) (by rw [hd]) (by rw [hd] <;> rfl) dX4_read_77
        · refine g_aload_n (pc := 46) C dX4_read_46 0 rfl ?_
          refine g_get (pc := 47) (T := TX4) (N := 5) (v := .int (nI z.1)) C ib_X4 0 rfl rfl 4 (by decide) mf_X4_33 rfl rfl rfl dX4_read_47 ?_
          refine g_aload_n (pc := 50) C dX4_read_50 0 rfl ?_
          refine g_get (pc := 51) (T := TX4) (N := 5) (v := .int (nI n)) C ib_X4 0 rfl rfl 3 (by decide) mf_X4_30 rfl rfl rfl dX4_read_51 ?_
          refine g_icmpN_ge (pc := 54) (i := z.1) (j := n) (tgt := 76) C dX4_read_54 (by decide) ⟨by omega, by omega⟩ (fun h54 => ?_) (fun h54 => ?_)
          · have hd : rdZ lt n τ = (z, ν, k) := (by rw [hv, rdS_stop (fun q => by have := q.2; omega)])
            refine g_iload_n (pc := 76) C dX4_read_76 3 rfl ?_
            exact g_retIW (pc := 77) C rfl rfl () (rfl) (by rw [hd]) (by rw [hd] <;> rfl) dX4_read_77
          · refine g_aload_n (pc := 57) C dX4_read_57 0 rfl ?_
            refine g_bipush (pc := 58) (v := 59) C dX4_read_58 (by decide) ?_
            refine g_wrVV (pc := 60) (rest := []) (wr := [oC dr 3 [.ref da, .ref db, .ref dc, .int (ν 8 0), .int (ν 8 1), .int (ν 8 2), .int (ν 8 3), .int (ν 8 4), .int (ν 8 5), .int (ν 8 6)], iC G da 16 (fq ν), iC G db 64 (ν 2), iC G dc 50 (fg ν), oC t 3 [.ref ta, .ref tb, .ref tc, .int (τ 8 0), .int (τ 8 1), .int (τ 8 2), .int (τ 8 3), .int (τ 8 4), .int (τ 8 5), .int (τ 8 6)], iC G ta 16 (fq τ), iC G tb 64 (τ 2), iC G tc 50 (fg τ)]) C (fun _ => wP G tx al dr n (rlS lt n 59 z) lt ++ (wT G dr da db dc ν ++ (wT G t ta tb tc τ))) rfl k_X4_readLetter (c_X4_readLetter l G tx al dr n z lt 59 (by first | assumption | omega) (by first | assumption | omega)) ml_X4_39 rfl ⟨Nat.le_of_ble_eq_true rfl, Nat.le_of_ble_eq_true rfl⟩ rfl [0, 1] [2, 3, 4, 5, 6, 7, 8, 9] [8, 9, 0, 1, 2, 3, 4, 5, 6, 7] rfl (by decide) rfl (by decide) (by decide) (by decide) (fun _ => rfl) 0 rfl rfl rfl rfl (Nat.le_of_ble_eq_true rfl) ⟨by decide, by decide⟩ dX4_read_60 (fun _ _ => ?_)
            refine g_aload_n (pc := 63) C dX4_read_63 0 rfl ?_
            refine g_wrVV (pc := 64) (rest := []) (wr := [oC t 3 [.ref ta, .ref tb, .ref tc, .int (τ 8 0), .int (τ 8 1), .int (τ 8 2), .int (τ 8 3), .int (τ 8 4), .int (τ 8 5), .int (τ 8 6)], iC G ta 16 (fq τ), iC G tb 64 (τ 2), iC G tc 50 (fg τ)]) C (fun _ => wP G tx al dr n (itS lt n ν (rlS lt n 59 z)) lt ++ (wT G dr da db dc (itT lt n ν (rlS lt n 59 z)) ++ (wT G t ta tb tc τ))) rfl k_X4_readItem (c_X4_readItem l G tx al dr n (rlS lt n 59 z) lt da db dc ν (hν h43) (rlS_le ne59 hz) (by first | assumption | omega)) ml_X4_36 rfl ⟨Nat.le_of_ble_eq_true rfl, Nat.le_of_ble_eq_true rfl⟩ rfl [0, 1, 2, 3, 4, 5] [6, 7, 8, 9] [4, 5, 6, 7, 8, 9, 0, 1, 2, 3] rfl (by decide) rfl (by decide) (by decide) (by decide) (fun _ => rfl) 0 rfl rfl rfl rfl (Nat.le_of_ble_eq_true rfl) ⟨by decide, by decide⟩ dX4_read_64 (fun _ _ => ?_)
            refine g_iinc (pc := 67) (v := nI (k + 1)) (lv' := [(3, .int (nI (k + 1))), (0, .ref tx), (1, .int (nI n)), (2, .ref t), (4, .int (nI i))]) C dX4_read_67 3 rfl (nI_1 k) (by decide) rfl ?_
            refine g_iinc (pc := 70) (v := nI (i + 1)) (lv' := [(4, .int (nI (i + 1))), (3, .int (nI (k + 1))), (0, .ref tx), (1, .int (nI n)), (2, .ref t)]) C dX4_read_70 4 rfl (nI_1 i) (by decide) rfl ?_
            refine g_goto (pc := 73) (tgt := 32) C dX4_read_73 (by decide) ?_
            refine g_ws (ws' := wP G tx al dr n (itS lt n ν (rlS lt n 59 z)) lt ++ (wT G dr da db dc (itT lt n ν (rlS lt n 59 z)) ++ (wT G t ta tb tc τ))) (rfl) ?_
            refine g_sub (lv' := [(0, .ref tx), (1, .int (nI n)), (2, .ref t), (3, .int (nI (k + 1))), (4, .int (nI (i + 1)))]) [2, 3, 4, 1, 0] rfl ?_
            exact ih32 (i + 1) (itS lt n ν (rlS lt n 59 z)) (itT lt n ν (rlS lt n 59 z)) (k + 1) (by first | assumption | omega) (itS_le (rlS_le ne59 hz)) (fun h => itT_ok (hν h43) hn (rlS_le ne59 hz) h) (by rw [hv, rdS_go ⟨h43, h54⟩ (by omega)] <;> rfl) (by omega)
  refine g_ws (ws' := wP G tx al dr n (itS lt n τ (0, -1)) lt ++ (wT G dr da db dc (itT lt n τ (0, -1)) ++ (wT G t ta tb tc τ))) (rfl) ?_
  refine g_sub (lv' := [(0, .ref tx), (1, .int (nI n)), (2, .ref t), (3, .int (nI 1)), (4, .int (nI 0))]) [2, 3, 4, 1, 0] rfl ?_
  exact key_32 _ 0 (itS lt n τ (0, -1)) (itT lt n τ (0, -1)) 1 (by first | assumption | omega) (itS_le (Nat.zero_le n)) (fun h => itT_ok hT hn (Nat.zero_le n) h) rfl (Nat.lt_succ_self _)
def toL (hd sz : Nat → Int32) (el : Nat → Int64) (lt : Nat → Int32) (s : Int32) : Nat → Int32 := txt el (nx s) lt (zN sz (nx s))
def toZ (hd sz : Nat → Int32) (el : Nat → Int64) (lt : Nat → Int32) (τ : tT) (s : Int32) : (Nat × Int32) × tT × Nat := rdZ (toL hd sz el lt s) (zN sz (nx s)) τ
def rcTo (hd sz : Nat → Int32) (el : Nat → Int64) (lt : Nat → Int32) (τ : tT) (s : Int32) : Int32 := if ¬ rfRows hd s s = 0 then rfRows hd s s else if ¬ (toZ hd sz el lt τ s).1.2 = -1 then -6 else 0
set_option maxRecDepth 20000 in
set_option maxHeartbeats 4000000 in
theorem c_X6_town (l : Launch) (G : gT) (x : Nat) (t : Nat) (im : Nat) (it : Int32) (o : Nat) (sv : Nat) (tx : Nat) (ac : Nat) (rf : Nat) (lf : Int32) (ta : Nat) (tb : Nat) (tc : Nat) (τ : tT) (sa : Nat) (sb : Nat) (sc : Nat) (hd : Nat → Int32) (sz : Nat → Int32) (el : Nat → Int64) (al : Nat) (dr : Nat) (f0 : Int32) (s0 : Int32) (p0 : Int32) (lt : Nat → Int32) (da : Nat) (db : Nat) (dc : Nat) (ν0 : tT) (s : Int32) (rr : Nat → Int32) (hT : TI τ) (hS : SI hd sz) : WI l yX6_town cX6_town 4 (some .int) 10 0 0 G [.ref x, .int s] ([wX x t im it o sv tx ac rf lf] ++ (wT G t ta tb tc τ ++ (wS G sv sa sb sc hd sz el ++ ([wI tx al dr f0 s0 p0, iC G al 160 lt] ++ (wT G dr da db dc ν0 ++ ([iC G rf 8 rr])))))) (S := Unit) (fun r _ => r = if rcTo hd sz el lt τ s = 0 then nI (toZ hd sz el lt τ s).2.2 else (rcTo hd sz el lt τ s)) (fun _ => [wX x t im it o sv tx ac rf (if rfRows hd s s = 0 then (toZ hd sz el lt τ s).1.2 else lf)] ++ (wT G t ta tb tc (if rcTo hd sz el lt τ s = 0 then (toZ hd sz el lt τ s).2.1 else τ) ++ (wS G sv sa sb sc hd sz el ++ ([wI tx al dr (if rfRows hd s s = 0 then (toZ hd sz el lt τ s).1.2 else f0) (if rfRows hd s s = 0 then nI (zN sz (nx s)) else s0) (if rfRows hd s s = 0 then nI (toZ hd sz el lt τ s).1.1 else p0), iC G al 160 (if rfRows hd s s = 0 then toL hd sz el lt s else lt)] ++ (wT G dr da db dc (if rfRows hd s s = 0 then (toZ hd sz el lt τ s).2.1 else ν0) ++ ([iC G rf 8 (rfI rr (rcTo hd sz el lt τ s))])))))) := by
  have hg10 := hT.g10
  have hq8 := hT.q8
  intro sz9
  refine start_W (by decide) (Nat.le_of_ble_eq_true rfl) (fun p9 e9 s9 m9 a9 b9 t9 c9 C => ?_)
  refine g_lv (lv' := [(0, .ref x), (1, .int s)]) rfl ?_
  refine g_aload_n (pc := 0) C dX6_town_0 0 rfl ?_
  refine g_get (pc := 1) (T := TX6) (N := 9) (v := .ref sv) C ib_X6 0 rfl rfl 4 (by decide) mf_X6_29 rfl rfl rfl dX6_town_1 ?_
  refine g_iload_n (pc := 4) C dX6_town_4 1 rfl ?_
  refine g_rdVI (pc := 5) (val := rfRows hd s s) (rest := []) C k_X2_refusalOfRow (c_X2_refusalOfRow l G sv sa sb sc hd sz el s) ml_X6_71 rfl ⟨Nat.le_of_ble_eq_true rfl, Nat.le_of_ble_eq_true rfl⟩ rfl [5, 6, 7, 8] rfl 5 rfl rfl rfl rfl (Nat.le_of_ble_eq_true rfl) ⟨by decide, by decide⟩ dX6_town_5 ?_
  refine g_istore_n (pc := 8) (lv' := [(2, .int (rfRows hd s s)), (0, .ref x), (1, .int s)]) C dX6_town_8 rfl (by decide) rfl ?_
  refine g_iload_n (pc := 9) C dX6_town_9 0 rfl ?_
  refine g_if_eq (pc := 10) (tgt := 19) C dX6_town_10 (by decide) (fun h10 => ?_) (fun h10 => ?_)
  · obtain ⟨s8, hs8, rfl⟩ := in8_nI (rf_in h10).1
    have es8 : nx (nI s8) = s8 := nx_nI (by omega)
    have hz8 := hS.z hs8
    have eL : toL hd sz el lt (nI s8) = txt el s8 lt (zN sz s8) := (by rw [toL, es8])
    have eZ : toZ hd sz el lt τ (nI s8) = rdZ (txt el s8 lt (zN sz s8)) (zN sz s8) τ := (by rw [toZ, es8, eL])
    refine g_aload_n (pc := 19) C dX6_town_19 1 rfl ?_
    refine g_get (pc := 20) (T := TX6) (N := 9) (v := .ref sv) C ib_X6 0 rfl rfl 4 (by decide) mf_X6_29 rfl rfl rfl dX6_town_20 ?_
    refine g_iload_n (pc := 23) C dX6_town_23 2 rfl ?_
    refine g_aload_n (pc := 24) C dX6_town_24 1 rfl ?_
    refine g_get (pc := 25) (T := TX6) (N := 9) (v := .ref tx) C ib_X6 0 rfl rfl 5 (by decide) mf_X6_36 rfl rfl rfl dX6_town_25 ?_
    refine g_get (pc := 28) (T := TX4) (N := 5) (v := .ref al) C ib_X4 9 rfl rfl 0 (by decide) mf_X6_176 rfl rfl rfl dX6_town_28 ?_
    refine g_wrVV (pc := 31) (rest := []) (wr := [wX x t im it o sv tx ac rf lf, oC t 3 [.ref ta, .ref tb, .ref tc, .int (τ 8 0), .int (τ 8 1), .int (τ 8 2), .int (τ 8 3), .int (τ 8 4), .int (τ 8 5), .int (τ 8 6)], iC G ta 16 (fq τ), iC G tb 64 (τ 2), iC G tc 50 (fg τ), wI tx al dr f0 s0 p0, oC dr 3 [.ref da, .ref db, .ref dc, .int (ν0 8 0), .int (ν0 8 1), .int (ν0 8 2), .int (ν0 8 3), .int (ν0 8 4), .int (ν0 8 5), .int (ν0 8 6)], iC G da 16 (fq ν0), iC G db 64 (ν0 2), iC G dc 50 (fg ν0), iC G rf 8 rr]) C (fun _ => [wX x t im it o sv tx ac rf lf] ++ (wT G t ta tb tc τ ++ (wS G sv sa sb sc hd sz el ++ ([wI tx al dr f0 s0 p0, iC G al 160 (txt el s8 lt (zN sz s8))] ++ (wT G dr da db dc ν0 ++ ([iC G rf 8 rr])))))) rfl k_X2_copyInts (c_X2_copyInts l G sv sa sb sc hd sz el s8 al lt (by first | assumption | omega) (by first | assumption | omega)) ml_X6_179 rfl ⟨Nat.le_of_ble_eq_true rfl, Nat.le_of_ble_eq_true rfl⟩ rfl [5, 6, 7, 8, 10] [0, 1, 2, 3, 4, 9, 11, 12, 13, 14, 15] [0, 1, 2, 3, 4, 11, 12, 13, 14, 5, 15, 6, 7, 8, 9, 10] rfl (by decide) rfl (by decide) (by decide) (by decide) (fun _ => rfl) 5 rfl rfl rfl rfl (Nat.le_of_ble_eq_true rfl) ⟨by decide, by decide⟩ dX6_town_31 (fun _ _ => ?_)
    refine g_aload_n (pc := 34) C dX6_town_34 1 rfl ?_
    refine g_get (pc := 35) (T := TX6) (N := 9) (v := .ref tx) C ib_X6 0 rfl rfl 5 (by decide) mf_X6_36 rfl rfl rfl dX6_town_35 ?_
    refine g_aload_n (pc := 38) C dX6_town_38 1 rfl ?_
    refine g_get (pc := 39) (T := TX6) (N := 9) (v := .ref sv) C ib_X6 0 rfl rfl 4 (by decide) mf_X6_29 rfl rfl rfl dX6_town_39 ?_
    refine g_iload_n (pc := 42) C dX6_town_42 2 rfl ?_
    refine g_rdVI (pc := 43) (val := sz s8) (rest := [.ref tx]) C k_X2_sizeOf (c_X2_sizeOf l G sv sa sb sc hd sz el s8 (by first | assumption | omega)) ml_X6_183 rfl ⟨Nat.le_of_ble_eq_true rfl, Nat.le_of_ble_eq_true rfl⟩ rfl [5, 6, 7, 8] rfl 5 rfl rfl rfl rfl (Nat.le_of_ble_eq_true rfl) ⟨by decide, by decide⟩ dX6_town_43 ?_
    refine g_top (z := nI (zN sz s8)) (hz8.1) ?_
    refine g_aload_n (pc := 46) C dX6_town_46 1 rfl ?_
    refine g_get (pc := 47) (T := TX6) (N := 9) (v := .ref t) C ib_X6 0 rfl rfl 0 (by decide) mf_X6_10 rfl rfl rfl dX6_town_47 ?_
    refine g_wrVI (pc := 50) (rest := []) (wr := [wX x t im it o sv tx ac rf lf, oC sv 2 [.ref sa, .ref sb, .ref sc], iC G sa 8 hd, iC G sb 8 sz, jC G sc 1280 el, iC G rf 8 rr]) C (fun _ => [wX x t im it o sv tx ac rf lf] ++ (wT G t ta tb tc τ ++ (wS G sv sa sb sc hd sz el ++ ([wI tx al dr ((rdZ (txt el s8 lt (zN sz s8)) (zN sz s8) τ).1.2) (nI (zN sz s8)) (nI (rdZ (txt el s8 lt (zN sz s8)) (zN sz s8) τ).1.1), iC G al 160 (txt el s8 lt (zN sz s8))] ++ (wT G dr da db dc ((rdZ (txt el s8 lt (zN sz s8)) (zN sz s8) τ).2.1) ++ ([iC G rf 8 rr])))))) rfl k_X4_read (c_X4_read l G tx al dr (zN sz s8) f0 s0 p0 (txt el s8 lt (zN sz s8)) da db dc ν0 t ta tb tc τ (by first | assumption | omega) (by first | assumption | omega)) ml_X6_186 rfl ⟨Nat.le_of_ble_eq_true rfl, Nat.le_of_ble_eq_true rfl⟩ rfl [9, 10, 11, 12, 13, 14, 1, 2, 3, 4] [0, 5, 6, 7, 8, 15] [0, 12, 13, 14, 15, 1, 2, 3, 4, 6, 7, 8, 9, 10, 11, 5] rfl (by decide) rfl (by decide) (by decide) (by decide) (fun _ => rfl) 9 rfl rfl rfl rfl (Nat.le_of_ble_eq_true rfl) ⟨by decide, by decide⟩ dX6_town_50 (fun r50 _ e50 => ?_)
    subst e50
    refine g_istore_n (pc := 53) (lv' := [(3, .int (nI ((rdZ (txt el s8 lt (zN sz s8)) (zN sz s8) τ).2.2))), (2, .int (rfRows hd (nI s8) (nI s8))), (0, .ref x), (1, .int (nI s8))]) C dX6_town_53 rfl (by decide) rfl ?_
    refine g_aload_n (pc := 54) C dX6_town_54 2 rfl ?_
    refine g_aload_n (pc := 55) C dX6_town_55 2 rfl ?_
    refine g_get (pc := 56) (T := TX6) (N := 9) (v := .ref tx) C ib_X6 0 rfl rfl 5 (by decide) mf_X6_36 rfl rfl rfl dX6_town_56 ?_
    refine g_get (pc := 59) (T := TX4) (N := 5) (v := .int ((rdZ (txt el s8 lt (zN sz s8)) (zN sz s8) τ).1.2)) C ib_X4 9 rfl rfl 2 (by decide) mf_X6_190 rfl rfl rfl dX6_town_59 ?_
    refine g_put (pc := 62) (T := TX6) (N := 9) (ty := .int) (ws' := [oC x 5 [.ref t, .ref im, .int it, .ref o, .ref sv, .ref tx, .ref ac, .ref rf, .int ((rdZ (txt el s8 lt (zN sz s8)) (zN sz s8) τ).1.2)]] ++ (wT G t ta tb tc τ ++ (wS G sv sa sb sc hd sz el ++ ([wI tx al dr ((rdZ (txt el s8 lt (zN sz s8)) (zN sz s8) τ).1.2) (nI (zN sz s8)) (nI (rdZ (txt el s8 lt (zN sz s8)) (zN sz s8) τ).1.1), iC G al 160 (txt el s8 lt (zN sz s8))] ++ (wT G dr da db dc ((rdZ (txt el s8 lt (zN sz s8)) (zN sz s8) τ).2.1) ++ ([iC G rf 8 rr])))))) C rfl ib_X6 tyX6 tyX6_ok nmX6 0 rfl rfl 8 (by decide) mf_X6_51 rfl rfl rfl (by decide +kernel) rfl rfl (Nat.le_of_ble_eq_true rfl) dX6_town_62 rfl ?_
    refine g_aload_n (pc := 65) C dX6_town_65 2 rfl ?_
    refine g_get (pc := 66) (T := TX6) (N := 9) (v := .int ((rdZ (txt el s8 lt (zN sz s8)) (zN sz s8) τ).1.2)) C ib_X6 0 rfl rfl 8 (by decide) mf_X6_51 rfl rfl rfl dX6_town_66 ?_
    refine g_iconst (pc := 69) (v := (-1)) C dX6_town_69 (by decide) ?_
    refine g_icmp_eq (pc := 70) (tgt := 80) C dX6_town_70 (by decide) (fun h70 => ?_) (fun h70 => ?_)
    · refine g_aload_n (pc := 80) C dX6_town_80 2 rfl ?_
      refine g_get (pc := 81) (T := TX6) (N := 9) (v := .ref t) C ib_X6 0 rfl rfl 0 (by decide) mf_X6_10 rfl rfl rfl dX6_town_81 ?_
      refine g_aload_n (pc := 84) C dX6_town_84 2 rfl ?_
      refine g_get (pc := 85) (T := TX6) (N := 9) (v := .ref tx) C ib_X6 0 rfl rfl 5 (by decide) mf_X6_36 rfl rfl rfl dX6_town_85 ?_
      refine g_get (pc := 88) (T := TX4) (N := 5) (v := .ref dr) C ib_X4 9 rfl rfl 1 (by decide) mf_X6_193 rfl rfl rfl dX6_town_88 ?_
      refine g_wrVV (pc := 91) (rest := []) (wr := [oC x 5 [.ref t, .ref im, .int it, .ref o, .ref sv, .ref tx, .ref ac, .ref rf, .int ((rdZ (txt el s8 lt (zN sz s8)) (zN sz s8) τ).1.2)], oC sv 2 [.ref sa, .ref sb, .ref sc], iC G sa 8 hd, iC G sb 8 sz, jC G sc 1280 el, wI tx al dr ((rdZ (txt el s8 lt (zN sz s8)) (zN sz s8) τ).1.2) (nI (zN sz s8)) (nI (rdZ (txt el s8 lt (zN sz s8)) (zN sz s8) τ).1.1), iC G al 160 (txt el s8 lt (zN sz s8)), iC G rf 8 rr]) C (fun _ => [oC x 5 [.ref t, .ref im, .int it, .ref o, .ref sv, .ref tx, .ref ac, .ref rf, .int ((rdZ (txt el s8 lt (zN sz s8)) (zN sz s8) τ).1.2)]] ++ (wT G t ta tb tc ((rdZ (txt el s8 lt (zN sz s8)) (zN sz s8) τ).2.1) ++ (wS G sv sa sb sc hd sz el ++ ([wI tx al dr ((rdZ (txt el s8 lt (zN sz s8)) (zN sz s8) τ).1.2) (nI (zN sz s8)) (nI (rdZ (txt el s8 lt (zN sz s8)) (zN sz s8) τ).1.1), iC G al 160 (txt el s8 lt (zN sz s8))] ++ (wT G dr da db dc ((rdZ (txt el s8 lt (zN sz s8)) (zN sz s8) τ).2.1) ++ ([iC G rf 8 rr])))))) rfl k_X3_become (c_X3_become l G t ta tb tc τ dr da db dc ((rdZ (txt el s8 lt (zN sz s8)) (zN sz s8) τ).2.1)) ml_X6_196 rfl ⟨Nat.le_of_ble_eq_true rfl, Nat.le_of_ble_eq_true rfl⟩ rfl [1, 2, 3, 4, 11, 12, 13, 14] [0, 5, 6, 7, 8, 9, 10, 15] [0, 8, 9, 10, 11, 1, 2, 3, 4, 5, 6, 12, 13, 14, 15, 7] rfl (by decide) rfl (by decide) (by decide) (by decide) (fun _ => rfl) 1 rfl rfl rfl rfl (Nat.le_of_ble_eq_true rfl) ⟨by decide, by decide⟩ dX6_town_91 (fun _ _ => ?_)
      refine g_iload_n (pc := 94) C dX6_town_94 0 rfl ?_
      exact g_retIW (pc := 95) C rfl rfl () (rfl) (by have e9 : rcTo hd sz el lt τ (nI s8) = 0 := (by first | (simp [rcTo, *]; done) | (grind [rcTo])); rw [if_pos e9] <;> (rw [eZ])) (by have e9 : rcTo hd sz el lt τ (nI s8) = 0 := (by first | (simp [rcTo, *]; done) | (grind [rcTo])); rw [e9, rfI_0] <;> (simp only [if_pos h10, eZ, eL, es8] <;> rfl)) dX6_town_95
    · refine g_aload_n (pc := 73) C dX6_town_73 2 rfl ?_
      refine g_bipush (pc := 74) (v := (-6)) C dX6_town_74 (by decide) ?_
      refine g_wrVI (pc := 76) (rest := []) (wr := [oC t 3 [.ref ta, .ref tb, .ref tc, .int (τ 8 0), .int (τ 8 1), .int (τ 8 2), .int (τ 8 3), .int (τ 8 4), .int (τ 8 5), .int (τ 8 6)], iC G ta 16 (fq τ), iC G tb 64 (τ 2), iC G tc 50 (fg τ), oC sv 2 [.ref sa, .ref sb, .ref sc], iC G sa 8 hd, iC G sb 8 sz, jC G sc 1280 el, wI tx al dr ((rdZ (txt el s8 lt (zN sz s8)) (zN sz s8) τ).1.2) (nI (zN sz s8)) (nI (rdZ (txt el s8 lt (zN sz s8)) (zN sz s8) τ).1.1), iC G al 160 (txt el s8 lt (zN sz s8)), oC dr 3 [.ref da, .ref db, .ref dc, .int (((rdZ (txt el s8 lt (zN sz s8)) (zN sz s8) τ).2.1) 8 0), .int (((rdZ (txt el s8 lt (zN sz s8)) (zN sz s8) τ).2.1) 8 1), .int (((rdZ (txt el s8 lt (zN sz s8)) (zN sz s8) τ).2.1) 8 2), .int (((rdZ (txt el s8 lt (zN sz s8)) (zN sz s8) τ).2.1) 8 3), .int (((rdZ (txt el s8 lt (zN sz s8)) (zN sz s8) τ).2.1) 8 4), .int (((rdZ (txt el s8 lt (zN sz s8)) (zN sz s8) τ).2.1) 8 5), .int (((rdZ (txt el s8 lt (zN sz s8)) (zN sz s8) τ).2.1) 8 6)], iC G da 16 (fq ((rdZ (txt el s8 lt (zN sz s8)) (zN sz s8) τ).2.1)), iC G db 64 (((rdZ (txt el s8 lt (zN sz s8)) (zN sz s8) τ).2.1) 2), iC G dc 50 (fg ((rdZ (txt el s8 lt (zN sz s8)) (zN sz s8) τ).2.1))]) C (fun _ => [wX x t im it o sv tx ac rf ((rdZ (txt el s8 lt (zN sz s8)) (zN sz s8) τ).1.2)] ++ (wT G t ta tb tc τ ++ (wS G sv sa sb sc hd sz el ++ ([wI tx al dr ((rdZ (txt el s8 lt (zN sz s8)) (zN sz s8) τ).1.2) (nI (zN sz s8)) (nI (rdZ (txt el s8 lt (zN sz s8)) (zN sz s8) τ).1.1), iC G al 160 (txt el s8 lt (zN sz s8))] ++ (wT G dr da db dc ((rdZ (txt el s8 lt (zN sz s8)) (zN sz s8) τ).2.1) ++ ([iC G rf 8 (rfI rr (-6))])))))) rfl k_X6_refuse (c_X6_refuse l G x t im it o sv tx ac rf ((rdZ (txt el s8 lt (zN sz s8)) (zN sz s8) τ).1.2) rr (-6)) ml_X6_59 rfl ⟨Nat.le_of_ble_eq_true rfl, Nat.le_of_ble_eq_true rfl⟩ rfl [0, 15] [1, 2, 3, 4, 5, 6, 7, 8, 9, 10, 11, 12, 13, 14] [14, 0, 1, 2, 3, 4, 5, 6, 7, 8, 9, 10, 11, 12, 13, 15] rfl (by decide) rfl (by decide) (by decide) (by decide) (fun _ => rfl) 0 rfl rfl rfl rfl (Nat.le_of_ble_eq_true rfl) ⟨by decide, by decide⟩ dX6_town_76 (fun r76 _ e76 => ?_)
      subst e76
      exact g_retIW (pc := 79) C rfl rfl () (rfl) (by have e9 : rcTo hd sz el lt τ (nI s8) = (-6) := (by first | (simp [rcTo, *]; done) | (grind [rcTo])); rw [if_neg (by rw [e9] <;> (first | done | decide)), e9]) (by have e9 : rcTo hd sz el lt τ (nI s8) = (-6) := (by first | (simp [rcTo, *]; done) | (grind [rcTo])); rw [e9]; simp only [if_pos h10, eZ, eL, es8, if_neg (show ¬ (-6 : Int32) = 0 by decide)] <;> rfl) dX6_town_79
  · refine g_aload_n (pc := 13) C dX6_town_13 1 rfl ?_
    refine g_iload_n (pc := 14) C dX6_town_14 0 rfl ?_
    refine g_wrVI (pc := 15) (rest := []) (wr := [oC t 3 [.ref ta, .ref tb, .ref tc, .int (τ 8 0), .int (τ 8 1), .int (τ 8 2), .int (τ 8 3), .int (τ 8 4), .int (τ 8 5), .int (τ 8 6)], iC G ta 16 (fq τ), iC G tb 64 (τ 2), iC G tc 50 (fg τ), oC sv 2 [.ref sa, .ref sb, .ref sc], iC G sa 8 hd, iC G sb 8 sz, jC G sc 1280 el, wI tx al dr f0 s0 p0, iC G al 160 lt, oC dr 3 [.ref da, .ref db, .ref dc, .int (ν0 8 0), .int (ν0 8 1), .int (ν0 8 2), .int (ν0 8 3), .int (ν0 8 4), .int (ν0 8 5), .int (ν0 8 6)], iC G da 16 (fq ν0), iC G db 64 (ν0 2), iC G dc 50 (fg ν0)]) C (fun _ => [wX x t im it o sv tx ac rf lf] ++ (wT G t ta tb tc τ ++ (wS G sv sa sb sc hd sz el ++ ([wI tx al dr f0 s0 p0, iC G al 160 lt] ++ (wT G dr da db dc ν0 ++ ([iC G rf 8 (rfI rr (rfRows hd s s))])))))) rfl k_X6_refuse (c_X6_refuse l G x t im it o sv tx ac rf lf rr (rfRows hd s s)) ml_X6_59 rfl ⟨Nat.le_of_ble_eq_true rfl, Nat.le_of_ble_eq_true rfl⟩ rfl [0, 15] [1, 2, 3, 4, 5, 6, 7, 8, 9, 10, 11, 12, 13, 14] [14, 0, 1, 2, 3, 4, 5, 6, 7, 8, 9, 10, 11, 12, 13, 15] rfl (by decide) rfl (by decide) (by decide) (by decide) (fun _ => rfl) 0 rfl rfl rfl rfl (Nat.le_of_ble_eq_true rfl) ⟨by decide, by decide⟩ dX6_town_15 (fun r15 _ e15 => ?_)
    subst e15
    exact g_retIW (pc := 18) C rfl rfl () (rfl) (by have e9 : rcTo hd sz el lt τ s = (rfRows hd s s) := (by first | (simp [rcTo, *]; done) | (grind [rcTo])); rw [if_neg (by rw [e9] <;> (first | done | assumption)), e9]) (by have e9 : rcTo hd sz el lt τ s = (rfRows hd s s) := (by first | (simp [rcTo, *]; done) | (grind [rcTo])); rw [e9]; simp only [if_neg h10]) dX6_town_18
