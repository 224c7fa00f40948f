def wI (tx al dr : Nat) (f s p : Int32) : Nat × va_E := oC tx 4 [.ref al, .ref dr, .int f, .int s, .int p]
theorem rdS_stop {lt : Nat → Int32} {n : Nat} {z : Nat × Int32} {ν : tT} {k : Nat} (h : ¬ (z.2 = -1 ∧ z.1 < n)) : ∀ m, rdS lt n m z ν k = (z, ν, k)
  | 0 => rfl
  | m + 1 => by rw [rdS, if_neg h]
theorem rdS_go {lt : Nat → Int32} {n : Nat} {z : Nat × Int32} {ν : tT} {k m : Nat} (h : z.2 = -1 ∧ z.1 < n) (hm : 0 < m) : rdS lt n m z ν k = rdS lt n (m - 1) (itS lt n ν (rlS lt n 59 z)) (itT lt n ν (rlS lt n 59 z)) (k + 1) := by
  cases m with
  | zero => omega
  | succ m => rw [rdS, if_pos h]; rfl
theorem ne59 : ¬ (59 : Int32) = -1 := by decide
set_option maxRecDepth 20000 in
set_option maxHeartbeats 4000000 in
theorem c_X4_read (l : Launch) (G : gT) (tx : Nat) (al : Nat) (dr : Nat) (n : Nat) (f0 : Int32) (s0 : Int32) (p0 : Int32) (lt : Nat → Int32) (da : Nat) (db : Nat) (dc : Nat) (ν0 : tT) (t : Nat) (ta : Nat) (tb : Nat) (tc : Nat) (τ : tT) (hT : TI τ) (hn : n ≤ 160) : WI l yX4_read cX4_read 5 (some .int) 7 0 0 G [.ref tx, .int (nI n), .ref t] ([wI tx al dr f0 s0 p0, iC G al 160 lt] ++ (wT G dr da db dc ν0 ++ (wT G t ta tb tc τ))) (S := Unit) (fun r _ => r = nI ((rdZ lt n τ).2.2)) (fun _ => wP G tx al dr n ((rdZ lt n τ).1) lt ++ (wT G dr da db dc ((rdZ lt n τ).2.1) ++ (wT G t ta tb tc τ))) := by
  intro sz9
  refine start_W (by decide) (Nat.le_of_ble_eq_true rfl) (fun p9 e9 s9 m9 a9 b9 t9 c9 C => ?_)
  refine g_lv (lv' := [(0, .ref tx), (1, .int (nI n)), (2, .ref t)]) rfl ?_
  refine g_aload_n (pc := 0) C dX4_read_0 0 rfl ?_
  refine g_get (pc := 1) (T := TX4) (N := 5) (v := .ref dr) C ib_X4 0 rfl rfl 1 (by decide) mf_X4_18 rfl rfl rfl dX4_read_1 ?_
  refine g_aload_n (pc := 4) C dX4_read_4 2 rfl ?_
  refine g_wrVV (pc := 5) (rest := []) (wr := [wI tx al dr f0 s0 p0, iC G al 160 lt]) C (fun _ => [wI tx al dr f0 s0 p0, iC G al 160 lt] ++ (wT G dr da db dc τ ++ (wT G t ta tb tc τ))) rfl k_X3_become (c_X3_become l G dr da db dc ν0 t ta tb tc τ) ml_X4_26 rfl ⟨Nat.le_of_ble_eq_true rfl, Nat.le_of_ble_eq_true rfl⟩ rfl [2, 3, 4, 5, 6, 7, 8, 9] [0, 1] [0, 1, 2, 3, 4, 5, 6, 7, 8, 9] rfl (by decide) rfl (by decide) (by decide) (by decide) (fun _ => rfl) 2 rfl rfl rfl rfl (Nat.le_of_ble_eq_true rfl) ⟨by decide, by decide⟩ dX4_read_5 (fun _ _ => ?_)
  refine g_aload_n (pc := 8) C dX4_read_8 0 rfl ?_
  refine g_iload_n (pc := 9) C dX4_read_9 1 rfl ?_
  refine g_put (pc := 10) (T := TX4) (N := 5) (ty := .int) (ws' := [oC tx 4 [.ref al, .ref dr, .int f0, .int (nI n), .int p0], iC G al 160 lt] ++ (wT G dr da db dc τ ++ (wT G t ta tb tc τ))) C rfl ib_X4 tyX4 tyX4_ok nmX4 0 rfl rfl 3 (by decide) mf_X4_30 rfl rfl rfl (by decide +kernel) rfl rfl (Nat.le_of_ble_eq_true rfl) dX4_read_10 rfl ?_
  refine g_aload_n (pc := 13) C dX4_read_13 0 rfl ?_
  refine g_iconst (pc := 14) (v := 0) C dX4_read_14 (by decide) ?_
  refine g_put (pc := 15) (T := TX4) (N := 5) (ty := .int) (ws' := [oC tx 4 [.ref al, .ref dr, .int f0, .int (nI n), .int 0], iC G al 160 lt] ++ (wT G dr da db dc τ ++ (wT G t ta tb tc τ))) C rfl ib_X4 tyX4 tyX4_ok nmX4 0 rfl rfl 4 (by decide) mf_X4_33 rfl rfl rfl (by decide +kernel) rfl rfl (Nat.le_of_ble_eq_true rfl) dX4_read_15 rfl ?_
  refine g_aload_n (pc := 18) C dX4_read_18 0 rfl ?_
  refine g_iconst (pc := 19) (v := (-1)) C dX4_read_19 (by decide) ?_
  refine g_put (pc := 20) (T := TX4) (N := 5) (ty := .int) (ws' := [oC tx 4 [.ref al, .ref dr, .int (-1), .int (nI n), .int 0], iC G al 160 lt] ++ (wT G dr da db dc τ ++ (wT G t ta tb tc τ))) C rfl ib_X4 tyX4 tyX4_ok nmX4 0 rfl rfl 2 (by decide) mf_X4_22 rfl rfl rfl (by decide +kernel) rfl rfl (Nat.le_of_ble_eq_true rfl) dX4_read_20 rfl ?_
  refine g_ws (ws' := wP G tx al dr n (0, -1) lt ++ (wT G dr da db dc τ ++ (wT G t ta tb tc τ))) (rfl) ?_
  refine g_aload_n (pc := 23) C dX4_read_23 0 rfl ?_
  refine g_wrVV (pc := 24) (rest := []) (wr := [oC t 3 [.ref ta, .ref tb, .ref tc, .int (τ 8 0), .int (τ 8 1), .int (τ 8 2), .int (τ 8 3), .int (τ 8 4), .int (τ 8 5), .int (τ 8 6)], iC G ta 16 (fq τ), iC G tb 64 (τ 2), iC G tc 50 (fg τ)]) C (fun _ => wP G tx al dr n (itS lt n τ (0, -1)) lt ++ (wT G dr da db dc (itT lt n τ (0, -1)) ++ (wT G t ta tb tc τ))) rfl k_X4_readItem (c_X4_readItem l G tx al dr n (0, -1) lt da db dc τ (by first | assumption | omega) (Nat.zero_le n) (by first | assumption | omega)) ml_X4_36 rfl ⟨Nat.le_of_ble_eq_true rfl, Nat.le_of_ble_eq_true rfl⟩ rfl [0, 1, 2, 3, 4, 5] [6, 7, 8, 9] [4, 5, 6, 7, 8, 9, 0, 1, 2, 3] rfl (by decide) rfl (by decide) (by decide) (by decide) (fun _ => rfl) 0 rfl rfl rfl rfl (Nat.le_of_ble_eq_true rfl) ⟨by decide, by decide⟩ dX4_read_24 (fun _ _ => ?_)
  refine g_iconst (pc := 27) (v := 1) C dX4_read_27 (by decide) ?_
  refine g_istore_n (pc := 28) (lv' := [(3, .int 1), (0, .ref tx), (1, .int (nI n)), (2, .ref t)]) C dX4_read_28 rfl (by decide) rfl ?_
  refine g_iconst (pc := 29) (v := 0) C dX4_read_29 (by decide) ?_
  refine g_istore (pc := 30) (lv' := [(4, .int 0), (3, .int 1), (0, .ref tx), (1, .int (nI n)), (2, .ref t)]) C dX4_read_30 (by decide) rfl ?_
  have key_32 : ∀ (n32 : Nat) (i : Nat) (z : Nat × Int32) (ν : tT) (k : Nat) (hi : i ≤ n) (hz : z.1 ≤ n) (hν : z.2 = -1 → TI ν) (hv : rdZ lt n τ = rdS lt n (n - i) z ν k), n - i < n32 → GW p9 l e9 (rmh 7 0 0) s9 m9 a9 b9 t9 c9 (MQ b9 (va_Qi (fun r (_ : Unit) => r = nI ((rdZ lt n τ).2.2)) (BW G ([wI tx al dr f0 s0 p0, iC G al 160 lt] ++ (wT G dr da db dc ν0 ++ (wT G t ta tb tc τ))) sz9 (fun _ => wP G tx al dr n ((rdZ lt n τ).1) lt ++ (wT G dr da db dc ((rdZ lt n τ).2.1) ++ (wT G t ta tb tc τ)))) (va_A ([wI tx al dr f0 s0 p0, iC G al 160 lt] ++ (wT G dr da db dc ν0 ++ (wT G t ta tb tc τ))) sz9)) a9 s9 0 0 (va_A ([wI tx al dr f0 s0 p0, iC G al 160 lt] ++ (wT G dr da db dc ν0 ++ (wT G t ta tb tc τ))) sz9)) G (va_A ([wI tx al dr f0 s0 p0, iC G al 160 lt] ++ (wT G dr da db dc ν0 ++ (wT G t ta tb tc τ))) sz9) true 5 0 0 (wP G tx al dr n z lt ++ (wT G dr da db dc ν ++ (wT G t ta tb tc τ))) [(0, .ref tx), (1, .int (nI n)), (2, .ref t), (3, .int (nI k)), (4, .int (nI i))] 32 [] := by
    intro n32
    induction n32 with
    | zero => intro i z ν k hi hz hν hv hn32; exact absurd hn32 (Nat.not_lt_zero _)
    | succ n32 ih32 =>
      intro i z ν k hi hz hν hv hn32
      refine g_iload (pc := 32) C dX4_read_32 4 rfl ?_
      refine g_iload_n (pc := 34) C dX4_read_34 1 rfl ?_
      refine g_icmpN_ge (pc := 35) (i := i) (j := n) (tgt := 76) C dX4_read_35 (by decide) ⟨by omega, by omega⟩ (fun h35 => ?_) (fun h35 => ?_)
      · have hd : rdZ lt n τ = (z, ν, k) := (by rw [hv, show n - i = 0 from by omega]; rfl)
        refine g_iload_n (pc := 76) C dX4_read_76 3 rfl ?_
        exact g_retIW (pc := 77) C rfl rfl () (rfl) (by rw [hd]) (by rw [hd]) dX4_read_77
      · refine g_aload_n (pc := 38) C dX4_read_38 0 rfl ?_
        refine g_get (pc := 39) (T := TX4) (N := 5) (v := .int z.2) C ib_X4 0 rfl rfl 2 (by decide) mf_X4_22 rfl rfl rfl dX4_read_39 ?_
        refine g_iconst (pc := 42) (v := (-1)) C dX4_read_42 (by decide) ?_
        refine g_icmp_ne (pc := 43) (tgt := 76) C dX4_read_43 (by decide) (fun h43 => ?_) (fun h43 => ?_)
        · have hd : rdZ lt n τ = (z, ν, k) := (by rw [hv, rdS_stop (fun q => h43 q.1)])
          refine g_iload_n (pc := 76) C dX4_read_76 3 rfl ?_
          exact g_retIW (pc := 77) C rfl rfl () (rfl) (by rw [hd]) (by rw [hd]) dX4_read_77
        · refine g_aload_n (pc := 46) C dX4_read_46 0 rfl ?_
          refine g_get (pc := 47) (T := TX4) (N := 5) (v := .int (nI z.1)) C ib_X4 0 rfl rfl 4 (by decide) mf_X4_33 rfl rfl rfl dX4_read_47 ?_
          refine g_aload_n (pc := 50) C dX4_read_50 0 rfl ?_
          refine g_get (pc := 51) (T := TX4) (N := 5) (v := .int (nI n)) C ib_X4 0 rfl rfl 3 (by decide) mf_X4_30 rfl rfl rfl dX4_read_51 ?_
          refine g_icmpN_ge (pc := 54) (i := z.1) (j := n) (tgt := 76) C dX4_read_54 (by decide) ⟨by omega, by omega⟩ (fun h54 => ?_) (fun h54 => ?_)
          · have hd : rdZ lt n τ = (z, ν, k) := (by rw [hv, rdS_stop (fun q => by have := q.2; omega)])
            refine g_iload_n (pc := 76) C dX4_read_76 3 rfl ?_
            exact g_retIW (pc := 77) C rfl rfl () (rfl) (by rw [hd]) (by rw [hd]) dX4_read_77
          · refine g_aload_n (pc := 57) C dX4_read_57 0 rfl ?_
            refine g_bipush (pc := 58) (v := 59) C dX4_read_58 (by decide) ?_
            refine g_wrVV (pc := 60) (rest := []) (wr := [oC dr 3 [.ref da, .ref db, .ref dc, .int (ν 8 0), .int (ν 8 1), .int (ν 8 2), .int (ν 8 3), .int (ν 8 4), .int (ν 8 5), .int (ν 8 6)], iC G da 16 (fq ν), iC G db 64 (ν 2), iC G dc 50 (fg ν), oC t 3 [.ref ta, .ref tb, .ref tc, .int (τ 8 0), .int (τ 8 1), .int (τ 8 2), .int (τ 8 3), .int (τ 8 4), .int (τ 8 5), .int (τ 8 6)], iC G ta 16 (fq τ), iC G tb 64 (τ 2), iC G tc 50 (fg τ)]) C (fun _ => wP G tx al dr n (rlS lt n 59 z) lt ++ (wT G dr da db dc ν ++ (wT G t ta tb tc τ))) rfl k_X4_readLetter (c_X4_readLetter l G tx al dr n z lt 59 (by first | assumption | omega) (by first | assumption | omega)) ml_X4_39 rfl ⟨Nat.le_of_ble_eq_true rfl, Nat.le_of_ble_eq_true rfl⟩ rfl [0, 1] [2, 3, 4, 5, 6, 7, 8, 9] [8, 9, 0, 1, 2, 3, 4, 5, 6, 7] rfl (by decide) rfl (by decide) (by decide) (by decide) (fun _ => rfl) 0 rfl rfl rfl rfl (Nat.le_of_ble_eq_true rfl) ⟨by decide, by decide⟩ dX4_read_60 (fun _ _ => ?_)
            refine g_aload_n (pc := 63) C dX4_read_63 0 rfl ?_
            refine g_wrVV (pc := 64) (rest := []) (wr := [oC t 3 [.ref ta, .ref tb, .ref tc, .int (τ 8 0), .int (τ 8 1), .int (τ 8 2), .int (τ 8 3), .int (τ 8 4), .int (τ 8 5), .int (τ 8 6)], iC G ta 16 (fq τ), iC G tb 64 (τ 2), iC G tc 50 (fg τ)]) C (fun _ => wP G tx al dr n (itS lt n ν (rlS lt n 59 z)) lt ++ (wT G dr da db dc (itT lt n ν (rlS lt n 59 z)) ++ (wT G t ta tb tc τ))) rfl k_X4_readItem (c_X4_readItem l G tx al dr n (rlS lt n 59 z) lt da db dc ν (hν h43) (rlS_le ne59 hz) (by first | assumption | omega)) ml_X4_36 rfl ⟨Nat.le_of_ble_eq_true rfl, Nat.le_of_ble_eq_true rfl⟩ rfl [0, 1, 2, 3, 4, 5] [6, 7, 8, 9] [4, 5, 6, 7, 8, 9, 0, 1, 2, 3] rfl (by decide) rfl (by decide) (by decide) (by decide) (fun _ => rfl) 0 rfl rfl rfl rfl (Nat.le_of_ble_eq_true rfl) ⟨by decide, by decide⟩ dX4_read_64 (fun _ _ => ?_)
            refine g_iinc (pc := 67) (v := nI (k + 1)) (lv' := [(3, .int (nI (k + 1))), (0, .ref tx), (1, .int (nI n)), (2, .ref t), (4, .int (nI i))]) C dX4_read_67 3 rfl (nI_1 k) (by decide) rfl ?_
            refine g_iinc (pc := 70) (v := nI (i + 1)) (lv' := [(4, .int (nI (i + 1))), (3, .int (nI (k + 1))), (0, .ref tx), (1, .int (nI n)), (2, .ref t)]) C dX4_read_70 4 rfl (nI_1 i) (by decide) rfl ?_
            refine g_goto (pc := 73) (tgt := 32) C dX4_read_73 (by decide) ?_
            refine g_ws (ws' := wP G tx al dr n (itS lt n ν (rlS lt n 59 z)) lt ++ (wT G dr da db dc (itT lt n ν (rlS lt n 59 z)) ++ (wT G t ta tb tc τ))) (rfl) ?_
            refine g_sub (lv' := [(0, .ref tx), (1, .int (nI n)), (2, .ref t), (3, .int (nI (k + 1))), (4, .int (nI (i + 1)))]) [2, 3, 4, 1, 0] rfl ?_
            exact ih32 (i + 1) (itS lt n ν (rlS lt n 59 z)) (itT lt n ν (rlS lt n 59 z)) (k + 1) (by first | assumption | omega) (itS_le (rlS_le ne59 hz)) (fun h => itT_ok (hν h43) hn (rlS_le ne59 hz) h) (by rw [hv, rdS_go ⟨h43, h54⟩ (by omega)] <;> rfl) (by omega)
  refine g_ws (ws' := wP G tx al dr n (itS lt n τ (0, -1)) lt ++ (wT G dr da db dc (itT lt n τ (0, -1)) ++ (wT G t ta tb tc τ))) (rfl) ?_
  refine g_sub (lv' := [(0, .ref tx), (1, .int (nI n)), (2, .ref t), (3, .int (nI 1)), (4, .int (nI 0))]) [2, 3, 4, 1, 0] rfl ?_
  exact key_32 _ 0 (itS lt n τ (0, -1)) (itT lt n τ (0, -1)) 1 (by first | assumption | omega) (itS_le (Nat.zero_le n)) (fun h => itT_ok hT hn (Nat.zero_le n) h) rfl (Nat.lt_succ_self _)
