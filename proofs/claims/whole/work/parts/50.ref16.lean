theorem upd_y (y : Nat → Int32) (k : Nat) (x z : Int32) : upd (upd y k x) k z = upd y k z := upd_2 y k x z
set_option maxRecDepth 20000 in
set_option maxHeartbeats 4000000 in
theorem c_X7_ran (l : Launch) (G : gT) (m : Nat) (A : Nat → Nat) (τ : tT) (y : Nat → Int32) (kp : Nat → Int32) (b : Nat) (x : Int32) (hb : b < 1000) : WV l yX7_ran cX7_ran 2 (none) 0 0 0 G [.ref m, .int x] (wN G m A τ (upd y 1 (nI b)) ++ ([iC G (A 12) 20 kp])) (S := Unit) (fun _ => True) (fun _ => wN G m A τ (upd y 1 (nI (b + 1))) ++ ([iC G (A 12) 20 (bgK kp b x)])) := by
  intro sz9
  refine start_W (by decide) (Nat.le_of_ble_eq_true rfl) (fun p9 e9 s9 m9 a9 b9 t9 c9 C => ?_)
  refine g_lv (lv' := [(0, .ref m), (1, .int x)]) rfl ?_
  refine g_aload_n (pc := 0) C dX7_ran_0 0 rfl ?_
  refine g_get (pc := 1) (T := TX7) (N := 33) (v := .int ((upd y 1 (nI b)) 1)) C ib_X7 0 rfl rfl 20 (by decide) mf_X7_300 rfl rfl rfl dX7_ran_1 ?_
  refine g_top (z := nI b) (rfl) ?_
  refine g_bipush (pc := 4) (v := 20) C dX7_ran_4 (by decide) ?_
  refine g_icmpN_ge (pc := 6) (i := b) (j := 20) (tgt := 19) C dX7_ran_6 (by decide) ⟨by omega, by omega⟩ (fun h6 => ?_) (fun h6 => ?_)
  · refine g_aload_n (pc := 19) C dX7_ran_19 0 rfl ?_
    refine g_dup (pc := 20) C dX7_ran_20 rfl ?_
    refine g_get (pc := 21) (T := TX7) (N := 33) (v := .int ((upd y 1 (nI b)) 1)) C ib_X7 0 rfl rfl 20 (by decide) mf_X7_300 rfl rfl rfl dX7_ran_21 ?_
    refine g_top (z := nI b) (rfl) ?_
    refine g_iconst (pc := 24) (v := 1) C dX7_ran_24 (by decide) ?_
    refine g_iaddN (pc := 25) (i := b) (j := 1) C dX7_ran_25 ?_
    refine g_put (pc := 26) (T := TX7) (N := 33) (ty := .int) (ws' := [oC m 6 [.ref (A 0), .ref (A 1), .ref (A 2), .int (τ 8 0), .ref (A 3), .ref (A 4), .ref (A 5), .int (τ 8 1), .ref (A 6), .ref (A 7), .ref (A 8), .ref (A 9), .ref (A 10), .int (τ 8 2), .int (τ 8 3), .int (τ 8 5), .int (τ 8 6), .int (τ 8 4), .int ((upd y 1 (nI b)) 0), .ref (A 11), .int (nI (b + 1)), .ref (A 12), .int ((upd y 1 (nI b)) 2), .ref (A 13), .ref (A 14), .int ((upd y 1 (nI b)) 3), .int ((upd y 1 (nI b)) 4), .ref (A 15), .ref (A 16), .ref (A 17), .ref (A 18), .ref (A 19), .int ((upd y 1 (nI b)) 5)], iC G (A 3) 8 (τ 0), iC G (A 4) 8 (τ 1), iC G (A 5) 64 (τ 2), iC G (A 6) 10 (τ 3), iC G (A 7) 10 (τ 4), iC G (A 8) 10 (τ 5), iC G (A 9) 10 (τ 6), iC G (A 10) 10 (τ 7), iC G (A 12) 20 kp]) C rfl ib_X7 tyX7 tyX7_ok nmX7 0 rfl rfl 20 (by decide) mf_X7_300 rfl rfl rfl (by decide +kernel) rfl rfl (Nat.le_of_ble_eq_true rfl) dX7_ran_26 rfl ?_
    exact g_retVW (pc := 29) C rfl rfl () trivial (by rw [bgK, if_neg (by omega)]; rfl) dX7_ran_29
  · refine g_aload_n (pc := 9) C dX7_ran_9 0 rfl ?_
    refine g_get (pc := 10) (T := TX7) (N := 33) (v := .ref (A 12)) C ib_X7 0 rfl rfl 21 (by decide) mf_X7_47 rfl rfl rfl dX7_ran_10 ?_
    refine g_aload_n (pc := 13) C dX7_ran_13 0 rfl ?_
    refine g_get (pc := 14) (T := TX7) (N := 33) (v := .int ((upd y 1 (nI b)) 1)) C ib_X7 0 rfl rfl 20 (by decide) mf_X7_300 rfl rfl rfl dX7_ran_14 ?_
    refine g_top (z := nI b) (rfl) ?_
    refine g_iload_n (pc := 17) C dX7_ran_17 1 rfl ?_
    refine g_iast (pc := 18) (ws' := wN G m A τ (upd y 1 (nI b)) ++ ([iC G (A 12) 20 (upd kp b x)])) C rfl 9 rfl b (rfl) ⟨by omega, by decide⟩ dX7_ran_18 rfl ?_
    refine g_aload_n (pc := 19) C dX7_ran_19 0 rfl ?_
    refine g_dup (pc := 20) C dX7_ran_20 rfl ?_
    refine g_get (pc := 21) (T := TX7) (N := 33) (v := .int ((upd y 1 (nI b)) 1)) C ib_X7 0 rfl rfl 20 (by decide) mf_X7_300 rfl rfl rfl dX7_ran_21 ?_
    refine g_top (z := nI b) (rfl) ?_
    refine g_iconst (pc := 24) (v := 1) C dX7_ran_24 (by decide) ?_
    refine g_iaddN (pc := 25) (i := b) (j := 1) C dX7_ran_25 ?_
    refine g_put (pc := 26) (T := TX7) (N := 33) (ty := .int) (ws' := [oC m 6 [.ref (A 0), .ref (A 1), .ref (A 2), .int (τ 8 0), .ref (A 3), .ref (A 4), .ref (A 5), .int (τ 8 1), .ref (A 6), .ref (A 7), .ref (A 8), .ref (A 9), .ref (A 10), .int (τ 8 2), .int (τ 8 3), .int (τ 8 5), .int (τ 8 6), .int (τ 8 4), .int ((upd y 1 (nI b)) 0), .ref (A 11), .int (nI (b + 1)), .ref (A 12), .int ((upd y 1 (nI b)) 2), .ref (A 13), .ref (A 14), .int ((upd y 1 (nI b)) 3), .int ((upd y 1 (nI b)) 4), .ref (A 15), .ref (A 16), .ref (A 17), .ref (A 18), .ref (A 19), .int ((upd y 1 (nI b)) 5)], iC G (A 3) 8 (τ 0), iC G (A 4) 8 (τ 1), iC G (A 5) 64 (τ 2), iC G (A 6) 10 (τ 3), iC G (A 7) 10 (τ 4), iC G (A 8) 10 (τ 5), iC G (A 9) 10 (τ 6), iC G (A 10) 10 (τ 7), iC G (A 12) 20 (upd kp b x)]) C rfl ib_X7 tyX7 tyX7_ok nmX7 0 rfl rfl 20 (by decide) mf_X7_300 rfl rfl rfl (by decide +kernel) rfl rfl (Nat.le_of_ble_eq_true rfl) dX7_ran_26 rfl ?_
    exact g_retVW (pc := 29) C rfl rfl () trivial (by rw [bgK, if_pos (by omega)]; rfl) dX7_ran_29
set_option maxRecDepth 20000 in
set_option maxHeartbeats 4000000 in
theorem c_X7_asksBy_0 (l : Launch) (G : gT) (m : Nat) (A : Nat → Nat) (τ : tT) (y : Nat → Int32) (kp : Nat → Int32) (b : Nat) (q : Nat) (x : Int32) (hq : q < 8) (hk : τ 0 q = 0) (hb : b < 900) : WI l yX7_asksBy cX7_asksBy 5 (some .int) 1 0 0 G [.ref m, .int (nI q), .int x] (wN G m A τ (upd y 1 (nI b)) ++ ([iC G (A 12) 20 kp])) (S := Unit) (fun r _ => r = akV 0 (nI q) (τ 1 q) x) (fun _ => wN G m A τ (upd y 1 (nI (b + (akL 0).length))) ++ ([iC G (A 12) 20 (rnK kp b (akL 0))])) := by
  intro sz9
  refine start_W (by decide) (Nat.le_of_ble_eq_true rfl) (fun p9 e9 s9 m9 a9 b9 t9 c9 C => ?_)
  refine g_lv (lv' := [(0, .ref m), (1, .int (nI q)), (2, .int x)]) rfl ?_
  refine g_aload_n (pc := 0) C dX7_asksBy_0 0 rfl ?_
  refine g_get (pc := 1) (T := TX7) (N := 33) (v := .ref (A 3)) C ib_X7 0 rfl rfl 4 (by decide) mf_X7_20 rfl rfl rfl dX7_asksBy_1 ?_
  refine g_iload_n (pc := 4) C dX7_asksBy_4 1 rfl ?_
  refine g_iald (pc := 5) (v := (τ 0) q) C 1 rfl q (rfl) ⟨by omega, by decide⟩ (rfl) dX7_asksBy_5 ?_
  refine g_top (z := nI 0) (hk) ?_
  refine g_istore_n (pc := 6) (lv' := [(3, .int 0), (0, .ref m), (1, .int (nI q)), (2, .int x)]) C dX7_asksBy_6 rfl (by decide) rfl ?_
  refine g_iload_n (pc := 7) C dX7_asksBy_7 0 rfl ?_
  refine g_bipush (pc := 8) (v := 6) C dX7_asksBy_8 (by decide) ?_
  refine g_icmpN_ne (pc := 10) (i := 0) (j := 6) (tgt := 19) C dX7_asksBy_10 (by decide) ⟨by omega, by omega⟩ (fun h10 => ?_) (fun h10 => absurd h10 (by decide))
  refine g_iload_n (pc := 19) C dX7_asksBy_19 0 rfl ?_
  refine g_iconst (pc := 20) (v := 4) C dX7_asksBy_20 (by decide) ?_
  refine g_icmpN_eq (pc := 21) (i := 0) (j := 4) (tgt := 30) C dX7_asksBy_21 (by decide) ⟨by omega, by omega⟩ (fun h21 => absurd h21 (by decide)) (fun h21 => ?_)
  refine g_iload_n (pc := 24) C dX7_asksBy_24 0 rfl ?_
  refine g_bipush (pc := 25) (v := 6) C dX7_asksBy_25 (by decide) ?_
  refine g_icmpN_ne (pc := 27) (i := 0) (j := 6) (tgt := 36) C dX7_asksBy_27 (by decide) ⟨by omega, by omega⟩ (fun h27 => ?_) (fun h27 => absurd h27 (by decide))
  refine g_iload_n (pc := 36) C dX7_asksBy_36 0 rfl ?_
  refine g_iconst (pc := 37) (v := 1) C dX7_asksBy_37 (by decide) ?_
  refine g_icmpN_eq (pc := 38) (i := 0) (j := 1) (tgt := 46) C dX7_asksBy_38 (by decide) ⟨by omega, by omega⟩ (fun h38 => absurd h38 (by decide)) (fun h38 => ?_)
  refine g_iload_n (pc := 41) C dX7_asksBy_41 0 rfl ?_
  refine g_iconst (pc := 42) (v := 3) C dX7_asksBy_42 (by decide) ?_
  refine g_icmpN_ne (pc := 43) (i := 0) (j := 3) (tgt := 52) C dX7_asksBy_43 (by decide) ⟨by omega, by omega⟩ (fun h43 => ?_) (fun h43 => absurd h43 (by decide))
  refine g_aload_n (pc := 52) C dX7_asksBy_52 1 rfl ?_
  refine g_bipush (pc := 53) (v := 10) C dX7_asksBy_53 (by decide) ?_
  refine g_wrVV (pc := 55) (rest := []) (wr := []) C (fun _ => wN G m A τ (upd y 1 (nI (b + 1))) ++ ([iC G (A 12) 20 (bgK kp b 10)])) rfl k_X7_ran (c_X7_ran l G m A τ y kp b 10 (by first | assumption | omega)) ml_X7_303 rfl ⟨Nat.le_of_ble_eq_true rfl, Nat.le_of_ble_eq_true rfl⟩ rfl [0, 1, 2, 3, 4, 5, 6, 7, 8, 9] [] [0, 1, 2, 3, 4, 5, 6, 7, 8, 9] rfl (by decide) rfl (by decide) (by decide) (by decide) (fun _ => rfl) 0 rfl rfl rfl rfl (Nat.le_of_ble_eq_true rfl) ⟨by decide, by decide⟩ dX7_asksBy_55 (fun _ _ => ?_)
  refine g_iload_n (pc := 58) C dX7_asksBy_58 3 rfl ?_
  refine g_iload_n (pc := 59) C dX7_asksBy_59 2 rfl ?_
  refine g_iadd (pc := 60) C dX7_asksBy_60 ?_
  refine g_istore (pc := 61) (lv' := [(4, .int (x + (nI q))), (3, .int 0), (0, .ref m), (1, .int (nI q)), (2, .int x)]) C dX7_asksBy_61 (by decide) rfl ?_
  refine g_iload_n (pc := 63) C dX7_asksBy_63 1 rfl ?_
  refine g_iconst (pc := 64) (v := 1) C dX7_asksBy_64 (by decide) ?_
  refine g_icmpN_eq (pc := 65) (i := 0) (j := 1) (tgt := 73) C dX7_asksBy_65 (by decide) ⟨by omega, by omega⟩ (fun h65 => absurd h65 (by decide)) (fun h65 => ?_)
  refine g_iload_n (pc := 68) C dX7_asksBy_68 1 rfl ?_
  refine g_iconst (pc := 69) (v := 3) C dX7_asksBy_69 (by decide) ?_
  refine g_icmpN_ne (pc := 70) (i := 0) (j := 3) (tgt := 83) C dX7_asksBy_70 (by decide) ⟨by omega, by omega⟩ (fun h70 => ?_) (fun h70 => absurd h70 (by decide))
  refine g_iload_n (pc := 83) C dX7_asksBy_83 1 rfl ?_
  refine g_iconst (pc := 84) (v := 4) C dX7_asksBy_84 (by decide) ?_
  refine g_icmpN_ne (pc := 85) (i := 0) (j := 4) (tgt := 95) C dX7_asksBy_85 (by decide) ⟨by omega, by omega⟩ (fun h85 => ?_) (fun h85 => absurd h85 (by decide))
  refine g_iload_n (pc := 95) C dX7_asksBy_95 1 rfl ?_
  refine g_bipush (pc := 96) (v := 6) C dX7_asksBy_96 (by decide) ?_
  refine g_icmpN_ne (pc := 98) (i := 0) (j := 6) (tgt := 110) C dX7_asksBy_98 (by decide) ⟨by omega, by omega⟩ (fun h98 => ?_) (fun h98 => absurd h98 (by decide))
  refine g_iload (pc := 110) C dX7_asksBy_110 0 rfl ?_
  exact g_retIW (pc := 112) C rfl rfl () (rfl) (by rfl) (by rfl) dX7_asksBy_112
set_option maxRecDepth 20000 in
set_option maxHeartbeats 4000000 in
theorem c_X7_asksBy_1 (l : Launch) (G : gT) (m : Nat) (A : Nat → Nat) (τ : tT) (y : Nat → Int32) (kp : Nat → Int32) (b : Nat) (q : Nat) (x : Int32) (hq : q < 8) (hk : τ 0 q = 1) (hb : b < 900) : WI l yX7_asksBy cX7_asksBy 5 (some .int) 1 0 0 G [.ref m, .int (nI q), .int x] (wN G m A τ (upd y 1 (nI b)) ++ ([iC G (A 12) 20 kp])) (S := Unit) (fun r _ => r = akV 1 (nI q) (τ 1 q) x) (fun _ => wN G m A τ (upd y 1 (nI (b + (akL 1).length))) ++ ([iC G (A 12) 20 (rnK kp b (akL 1))])) := by
  intro sz9
  refine start_W (by decide) (Nat.le_of_ble_eq_true rfl) (fun p9 e9 s9 m9 a9 b9 t9 c9 C => ?_)
  refine g_lv (lv' := [(0, .ref m), (1, .int (nI q)), (2, .int x)]) rfl ?_
  refine g_aload_n (pc := 0) C dX7_asksBy_0 0 rfl ?_
  refine g_get (pc := 1) (T := TX7) (N := 33) (v := .ref (A 3)) C ib_X7 0 rfl rfl 4 (by decide) mf_X7_20 rfl rfl rfl dX7_asksBy_1 ?_
  refine g_iload_n (pc := 4) C dX7_asksBy_4 1 rfl ?_
  refine g_iald (pc := 5) (v := (τ 0) q) C 1 rfl q (rfl) ⟨by omega, by decide⟩ (rfl) dX7_asksBy_5 ?_
  refine g_top (z := nI 1) (hk) ?_
  refine g_istore_n (pc := 6) (lv' := [(3, .int 1), (0, .ref m), (1, .int (nI q)), (2, .int x)]) C dX7_asksBy_6 rfl (by decide) rfl ?_
  refine g_iload_n (pc := 7) C dX7_asksBy_7 0 rfl ?_
  refine g_bipush (pc := 8) (v := 6) C dX7_asksBy_8 (by decide) ?_
  refine g_icmpN_ne (pc := 10) (i := 1) (j := 6) (tgt := 19) C dX7_asksBy_10 (by decide) ⟨by omega, by omega⟩ (fun h10 => ?_) (fun h10 => absurd h10 (by decide))
  refine g_iload_n (pc := 19) C dX7_asksBy_19 0 rfl ?_
  refine g_iconst (pc := 20) (v := 4) C dX7_asksBy_20 (by decide) ?_
  refine g_icmpN_eq (pc := 21) (i := 1) (j := 4) (tgt := 30) C dX7_asksBy_21 (by decide) ⟨by omega, by omega⟩ (fun h21 => absurd h21 (by decide)) (fun h21 => ?_)
  refine g_iload_n (pc := 24) C dX7_asksBy_24 0 rfl ?_
  refine g_bipush (pc := 25) (v := 6) C dX7_asksBy_25 (by decide) ?_
  refine g_icmpN_ne (pc := 27) (i := 1) (j := 6) (tgt := 36) C dX7_asksBy_27 (by decide) ⟨by omega, by omega⟩ (fun h27 => ?_) (fun h27 => absurd h27 (by decide))
  refine g_iload_n (pc := 36) C dX7_asksBy_36 0 rfl ?_
  refine g_iconst (pc := 37) (v := 1) C dX7_asksBy_37 (by decide) ?_
  refine g_icmpN_eq (pc := 38) (i := 1) (j := 1) (tgt := 46) C dX7_asksBy_38 (by decide) ⟨by omega, by omega⟩ (fun h38 => ?_) (fun h38 => absurd h38 (by decide))
  refine g_aload_n (pc := 46) C dX7_asksBy_46 1 rfl ?_
  refine g_bipush (pc := 47) (v := 20) C dX7_asksBy_47 (by decide) ?_
  refine g_wrVV (pc := 49) (rest := []) (wr := []) C (fun _ => wN G m A τ (upd y 1 (nI (b + 1))) ++ ([iC G (A 12) 20 (bgK kp b 20)])) rfl k_X7_ran (c_X7_ran l G m A τ y kp b 20 (by first | assumption | omega)) ml_X7_303 rfl ⟨Nat.le_of_ble_eq_true rfl, Nat.le_of_ble_eq_true rfl⟩ rfl [0, 1, 2, 3, 4, 5, 6, 7, 8, 9] [] [0, 1, 2, 3, 4, 5, 6, 7, 8, 9] rfl (by decide) rfl (by decide) (by decide) (by decide) (fun _ => rfl) 0 rfl rfl rfl rfl (Nat.le_of_ble_eq_true rfl) ⟨by decide, by decide⟩ dX7_asksBy_49 (fun _ _ => ?_)
  refine g_aload_n (pc := 52) C dX7_asksBy_52 1 rfl ?_
  refine g_bipush (pc := 53) (v := 10) C dX7_asksBy_53 (by decide) ?_
  refine g_wrVV (pc := 55) (rest := []) (wr := []) C (fun _ => wN G m A τ (upd y 1 (nI ((b + 1) + 1))) ++ ([iC G (A 12) 20 (bgK (bgK kp b 20) (b + 1) 10)])) rfl k_X7_ran (c_X7_ran l G m A τ y (bgK kp b 20) (b + 1) 10 (by first | assumption | omega)) ml_X7_303 rfl ⟨Nat.le_of_ble_eq_true rfl, Nat.le_of_ble_eq_true rfl⟩ rfl [0, 1, 2, 3, 4, 5, 6, 7, 8, 9] [] [0, 1, 2, 3, 4, 5, 6, 7, 8, 9] rfl (by decide) rfl (by decide) (by decide) (by decide) (fun _ => rfl) 0 rfl rfl rfl rfl (Nat.le_of_ble_eq_true rfl) ⟨by decide, by decide⟩ dX7_asksBy_55 (fun _ _ => ?_)
  refine g_iload_n (pc := 58) C dX7_asksBy_58 3 rfl ?_
  refine g_iload_n (pc := 59) C dX7_asksBy_59 2 rfl ?_
  refine g_iadd (pc := 60) C dX7_asksBy_60 ?_
  refine g_istore (pc := 61) (lv' := [(4, .int (x + (nI q))), (3, .int 1), (0, .ref m), (1, .int (nI q)), (2, .int x)]) C dX7_asksBy_61 (by decide) rfl ?_
  refine g_iload_n (pc := 63) C dX7_asksBy_63 1 rfl ?_
  refine g_iconst (pc := 64) (v := 1) C dX7_asksBy_64 (by decide) ?_
  refine g_icmpN_eq (pc := 65) (i := 1) (j := 1) (tgt := 73) C dX7_asksBy_65 (by decide) ⟨by omega, by omega⟩ (fun h65 => ?_) (fun h65 => absurd h65 (by decide))
  refine g_iload (pc := 73) C dX7_asksBy_73 0 rfl ?_
  refine g_aload_n (pc := 75) C dX7_asksBy_75 2 rfl ?_
  refine g_get (pc := 76) (T := TX7) (N := 33) (v := .ref (A 4)) C ib_X7 0 rfl rfl 5 (by decide) mf_X7_23 rfl rfl rfl dX7_asksBy_76 ?_
  refine g_iload_n (pc := 79) C dX7_asksBy_79 3 rfl ?_
  refine g_iald (pc := 80) (v := (τ 1) q) C 2 rfl q (rfl) ⟨by omega, by decide⟩ (rfl) dX7_asksBy_80 ?_
  refine g_iadd (pc := 81) C dX7_asksBy_81 ?_
  exact g_retIW (pc := 82) C rfl rfl () (rfl) (by rfl) (by rfl) dX7_asksBy_82
set_option maxRecDepth 20000 in
set_option maxHeartbeats 4000000 in
theorem c_X7_asksBy_2 (l : Launch) (G : gT) (m : Nat) (A : Nat → Nat) (τ : tT) (y : Nat → Int32) (kp : Nat → Int32) (b : Nat) (q : Nat) (x : Int32) (hq : q < 8) (hk : τ 0 q = 2) (hb : b < 900) : WI l yX7_asksBy cX7_asksBy 5 (some .int) 1 0 0 G [.ref m, .int (nI q), .int x] (wN G m A τ (upd y 1 (nI b)) ++ ([iC G (A 12) 20 kp])) (S := Unit) (fun r _ => r = akV 2 (nI q) (τ 1 q) x) (fun _ => wN G m A τ (upd y 1 (nI (b + (akL 2).length))) ++ ([iC G (A 12) 20 (rnK kp b (akL 2))])) := by
  intro sz9
  refine start_W (by decide) (Nat.le_of_ble_eq_true rfl) (fun p9 e9 s9 m9 a9 b9 t9 c9 C => ?_)
  refine g_lv (lv' := [(0, .ref m), (1, .int (nI q)), (2, .int x)]) rfl ?_
  refine g_aload_n (pc := 0) C dX7_asksBy_0 0 rfl ?_
  refine g_get (pc := 1) (T := TX7) (N := 33) (v := .ref (A 3)) C ib_X7 0 rfl rfl 4 (by decide) mf_X7_20 rfl rfl rfl dX7_asksBy_1 ?_
  refine g_iload_n (pc := 4) C dX7_asksBy_4 1 rfl ?_
  refine g_iald (pc := 5) (v := (τ 0) q) C 1 rfl q (rfl) ⟨by omega, by decide⟩ (rfl) dX7_asksBy_5 ?_
  refine g_top (z := nI 2) (hk) ?_
  refine g_istore_n (pc := 6) (lv' := [(3, .int 2), (0, .ref m), (1, .int (nI q)), (2, .int x)]) C dX7_asksBy_6 rfl (by decide) rfl ?_
  refine g_iload_n (pc := 7) C dX7_asksBy_7 0 rfl ?_
  refine g_bipush (pc := 8) (v := 6) C dX7_asksBy_8 (by decide) ?_
  refine g_icmpN_ne (pc := 10) (i := 2) (j := 6) (tgt := 19) C dX7_asksBy_10 (by decide) ⟨by omega, by omega⟩ (fun h10 => ?_) (fun h10 => absurd h10 (by decide))
  refine g_iload_n (pc := 19) C dX7_asksBy_19 0 rfl ?_
  refine g_iconst (pc := 20) (v := 4) C dX7_asksBy_20 (by decide) ?_
  refine g_icmpN_eq (pc := 21) (i := 2) (j := 4) (tgt := 30) C dX7_asksBy_21 (by decide) ⟨by omega, by omega⟩ (fun h21 => absurd h21 (by decide)) (fun h21 => ?_)
  refine g_iload_n (pc := 24) C dX7_asksBy_24 0 rfl ?_
  refine g_bipush (pc := 25) (v := 6) C dX7_asksBy_25 (by decide) ?_
  refine g_icmpN_ne (pc := 27) (i := 2) (j := 6) (tgt := 36) C dX7_asksBy_27 (by decide) ⟨by omega, by omega⟩ (fun h27 => ?_) (fun h27 => absurd h27 (by decide))
  refine g_iload_n (pc := 36) C dX7_asksBy_36 0 rfl ?_
  refine g_iconst (pc := 37) (v := 1) C dX7_asksBy_37 (by decide) ?_
  refine g_icmpN_eq (pc := 38) (i := 2) (j := 1) (tgt := 46) C dX7_asksBy_38 (by decide) ⟨by omega, by omega⟩ (fun h38 => absurd h38 (by decide)) (fun h38 => ?_)
  refine g_iload_n (pc := 41) C dX7_asksBy_41 0 rfl ?_
  refine g_iconst (pc := 42) (v := 3) C dX7_asksBy_42 (by decide) ?_
  refine g_icmpN_ne (pc := 43) (i := 2) (j := 3) (tgt := 52) C dX7_asksBy_43 (by decide) ⟨by omega, by omega⟩ (fun h43 => ?_) (fun h43 => absurd h43 (by decide))
  refine g_aload_n (pc := 52) C dX7_asksBy_52 1 rfl ?_
  refine g_bipush (pc := 53) (v := 10) C dX7_asksBy_53 (by decide) ?_
  refine g_wrVV (pc := 55) (rest := []) (wr := []) C (fun _ => wN G m A τ (upd y 1 (nI (b + 1))) ++ ([iC G (A 12) 20 (bgK kp b 10)])) rfl k_X7_ran (c_X7_ran l G m A τ y kp b 10 (by first | assumption | omega)) ml_X7_303 rfl ⟨Nat.le_of_ble_eq_true rfl, Nat.le_of_ble_eq_true rfl⟩ rfl [0, 1, 2, 3, 4, 5, 6, 7, 8, 9] [] [0, 1, 2, 3, 4, 5, 6, 7, 8, 9] rfl (by decide) rfl (by decide) (by decide) (by decide) (fun _ => rfl) 0 rfl rfl rfl rfl (Nat.le_of_ble_eq_true rfl) ⟨by decide, by decide⟩ dX7_asksBy_55 (fun _ _ => ?_)
  refine g_iload_n (pc := 58) C dX7_asksBy_58 3 rfl ?_
  refine g_iload_n (pc := 59) C dX7_asksBy_59 2 rfl ?_
  refine g_iadd (pc := 60) C dX7_asksBy_60 ?_
  refine g_istore (pc := 61) (lv' := [(4, .int (x + (nI q))), (3, .int 2), (0, .ref m), (1, .int (nI q)), (2, .int x)]) C dX7_asksBy_61 (by decide) rfl ?_
  refine g_iload_n (pc := 63) C dX7_asksBy_63 1 rfl ?_
  refine g_iconst (pc := 64) (v := 1) C dX7_asksBy_64 (by decide) ?_
  refine g_icmpN_eq (pc := 65) (i := 2) (j := 1) (tgt := 73) C dX7_asksBy_65 (by decide) ⟨by omega, by omega⟩ (fun h65 => absurd h65 (by decide)) (fun h65 => ?_)
  refine g_iload_n (pc := 68) C dX7_asksBy_68 1 rfl ?_
  refine g_iconst (pc := 69) (v := 3) C dX7_asksBy_69 (by decide) ?_
  refine g_icmpN_ne (pc := 70) (i := 2) (j := 3) (tgt := 83) C dX7_asksBy_70 (by decide) ⟨by omega, by omega⟩ (fun h70 => ?_) (fun h70 => absurd h70 (by decide))
  refine g_iload_n (pc := 83) C dX7_asksBy_83 1 rfl ?_
  refine g_iconst (pc := 84) (v := 4) C dX7_asksBy_84 (by decide) ?_
  refine g_icmpN_ne (pc := 85) (i := 2) (j := 4) (tgt := 95) C dX7_asksBy_85 (by decide) ⟨by omega, by omega⟩ (fun h85 => ?_) (fun h85 => absurd h85 (by decide))
  refine g_iload_n (pc := 95) C dX7_asksBy_95 1 rfl ?_
  refine g_bipush (pc := 96) (v := 6) C dX7_asksBy_96 (by decide) ?_
  refine g_icmpN_ne (pc := 98) (i := 2) (j := 6) (tgt := 110) C dX7_asksBy_98 (by decide) ⟨by omega, by omega⟩ (fun h98 => ?_) (fun h98 => absurd h98 (by decide))
  refine g_iload (pc := 110) C dX7_asksBy_110 0 rfl ?_
  exact g_retIW (pc := 112) C rfl rfl () (rfl) (by rfl) (by rfl) dX7_asksBy_112
set_option maxRecDepth 20000 in
set_option maxHeartbeats 4000000 in
theorem c_X7_asksBy_3 (l : Launch) (G : gT) (m : Nat) (A : Nat → Nat) (τ : tT) (y : Nat → Int32) (kp : Nat → Int32) (b : Nat) (q : Nat) (x : Int32) (hq : q < 8) (hk : τ 0 q = 3) (hb : b < 900) : WI l yX7_asksBy cX7_asksBy 5 (some .int) 1 0 0 G [.ref m, .int (nI q), .int x] (wN G m A τ (upd y 1 (nI b)) ++ ([iC G (A 12) 20 kp])) (S := Unit) (fun r _ => r = akV 3 (nI q) (τ 1 q) x) (fun _ => wN G m A τ (upd y 1 (nI (b + (akL 3).length))) ++ ([iC G (A 12) 20 (rnK kp b (akL 3))])) := by
  intro sz9
  refine start_W (by decide) (Nat.le_of_ble_eq_true rfl) (fun p9 e9 s9 m9 a9 b9 t9 c9 C => ?_)
  refine g_lv (lv' := [(0, .ref m), (1, .int (nI q)), (2, .int x)]) rfl ?_
  refine g_aload_n (pc := 0) C dX7_asksBy_0 0 rfl ?_
  refine g_get (pc := 1) (T := TX7) (N := 33) (v := .ref (A 3)) C ib_X7 0 rfl rfl 4 (by decide) mf_X7_20 rfl rfl rfl dX7_asksBy_1 ?_
  refine g_iload_n (pc := 4) C dX7_asksBy_4 1 rfl ?_
  refine g_iald (pc := 5) (v := (τ 0) q) C 1 rfl q (rfl) ⟨by omega, by decide⟩ (rfl) dX7_asksBy_5 ?_
  refine g_top (z := nI 3) (hk) ?_
  refine g_istore_n (pc := 6) (lv' := [(3, .int 3), (0, .ref m), (1, .int (nI q)), (2, .int x)]) C dX7_asksBy_6 rfl (by decide) rfl ?_
  refine g_iload_n (pc := 7) C dX7_asksBy_7 0 rfl ?_
  refine g_bipush (pc := 8) (v := 6) C dX7_asksBy_8 (by decide) ?_
  refine g_icmpN_ne (pc := 10) (i := 3) (j := 6) (tgt := 19) C dX7_asksBy_10 (by decide) ⟨by omega, by omega⟩ (fun h10 => ?_) (fun h10 => absurd h10 (by decide))
  refine g_iload_n (pc := 19) C dX7_asksBy_19 0 rfl ?_
  refine g_iconst (pc := 20) (v := 4) C dX7_asksBy_20 (by decide) ?_
  refine g_icmpN_eq (pc := 21) (i := 3) (j := 4) (tgt := 30) C dX7_asksBy_21 (by decide) ⟨by omega, by omega⟩ (fun h21 => absurd h21 (by decide)) (fun h21 => ?_)
  refine g_iload_n (pc := 24) C dX7_asksBy_24 0 rfl ?_
  refine g_bipush (pc := 25) (v := 6) C dX7_asksBy_25 (by decide) ?_
  refine g_icmpN_ne (pc := 27) (i := 3) (j := 6) (tgt := 36) C dX7_asksBy_27 (by decide) ⟨by omega, by omega⟩ (fun h27 => ?_) (fun h27 => absurd h27 (by decide))
  refine g_iload_n (pc := 36) C dX7_asksBy_36 0 rfl ?_
  refine g_iconst (pc := 37) (v := 1) C dX7_asksBy_37 (by decide) ?_
  refine g_icmpN_eq (pc := 38) (i := 3) (j := 1) (tgt := 46) C dX7_asksBy_38 (by decide) ⟨by omega, by omega⟩ (fun h38 => absurd h38 (by decide)) (fun h38 => ?_)
  refine g_iload_n (pc := 41) C dX7_asksBy_41 0 rfl ?_
  refine g_iconst (pc := 42) (v := 3) C dX7_asksBy_42 (by decide) ?_
  refine g_icmpN_ne (pc := 43) (i := 3) (j := 3) (tgt := 52) C dX7_asksBy_43 (by decide) ⟨by omega, by omega⟩ (fun h43 => absurd h43 (by decide)) (fun h43 => ?_)
  refine g_aload_n (pc := 46) C dX7_asksBy_46 1 rfl ?_
  refine g_bipush (pc := 47) (v := 20) C dX7_asksBy_47 (by decide) ?_
  refine g_wrVV (pc := 49) (rest := []) (wr := []) C (fun _ => wN G m A τ (upd y 1 (nI (b + 1))) ++ ([iC G (A 12) 20 (bgK kp b 20)])) rfl k_X7_ran (c_X7_ran l G m A τ y kp b 20 (by first | assumption | omega)) ml_X7_303 rfl ⟨Nat.le_of_ble_eq_true rfl, Nat.le_of_ble_eq_true rfl⟩ rfl [0, 1, 2, 3, 4, 5, 6, 7, 8, 9] [] [0, 1, 2, 3, 4, 5, 6, 7, 8, 9] rfl (by decide) rfl (by decide) (by decide) (by decide) (fun _ => rfl) 0 rfl rfl rfl rfl (Nat.le_of_ble_eq_true rfl) ⟨by decide, by decide⟩ dX7_asksBy_49 (fun _ _ => ?_)
  refine g_aload_n (pc := 52) C dX7_asksBy_52 1 rfl ?_
  refine g_bipush (pc := 53) (v := 10) C dX7_asksBy_53 (by decide) ?_
  refine g_wrVV (pc := 55) (rest := []) (wr := []) C (fun _ => wN G m A τ (upd y 1 (nI ((b + 1) + 1))) ++ ([iC G (A 12) 20 (bgK (bgK kp b 20) (b + 1) 10)])) rfl k_X7_ran (c_X7_ran l G m A τ y (bgK kp b 20) (b + 1) 10 (by first | assumption | omega)) ml_X7_303 rfl ⟨Nat.le_of_ble_eq_true rfl, Nat.le_of_ble_eq_true rfl⟩ rfl [0, 1, 2, 3, 4, 5, 6, 7, 8, 9] [] [0, 1, 2, 3, 4, 5, 6, 7, 8, 9] rfl (by decide) rfl (by decide) (by decide) (by decide) (fun _ => rfl) 0 rfl rfl rfl rfl (Nat.le_of_ble_eq_true rfl) ⟨by decide, by decide⟩ dX7_asksBy_55 (fun _ _ => ?_)
  refine g_iload_n (pc := 58) C dX7_asksBy_58 3 rfl ?_
  refine g_iload_n (pc := 59) C dX7_asksBy_59 2 rfl ?_
  refine g_iadd (pc := 60) C dX7_asksBy_60 ?_
  refine g_istore (pc := 61) (lv' := [(4, .int (x + (nI q))), (3, .int 3), (0, .ref m), (1, .int (nI q)), (2, .int x)]) C dX7_asksBy_61 (by decide) rfl ?_
  refine g_iload_n (pc := 63) C dX7_asksBy_63 1 rfl ?_
  refine g_iconst (pc := 64) (v := 1) C dX7_asksBy_64 (by decide) ?_
  refine g_icmpN_eq (pc := 65) (i := 3) (j := 1) (tgt := 73) C dX7_asksBy_65 (by decide) ⟨by omega, by omega⟩ (fun h65 => absurd h65 (by decide)) (fun h65 => ?_)
  refine g_iload_n (pc := 68) C dX7_asksBy_68 1 rfl ?_
  refine g_iconst (pc := 69) (v := 3) C dX7_asksBy_69 (by decide) ?_
  refine g_icmpN_ne (pc := 70) (i := 3) (j := 3) (tgt := 83) C dX7_asksBy_70 (by decide) ⟨by omega, by omega⟩ (fun h70 => absurd h70 (by decide)) (fun h70 => ?_)
  refine g_iload (pc := 73) C dX7_asksBy_73 0 rfl ?_
  refine g_aload_n (pc := 75) C dX7_asksBy_75 2 rfl ?_
  refine g_get (pc := 76) (T := TX7) (N := 33) (v := .ref (A 4)) C ib_X7 0 rfl rfl 5 (by decide) mf_X7_23 rfl rfl rfl dX7_asksBy_76 ?_
  refine g_iload_n (pc := 79) C dX7_asksBy_79 3 rfl ?_
  refine g_iald (pc := 80) (v := (τ 1) q) C 2 rfl q (rfl) ⟨by omega, by decide⟩ (rfl) dX7_asksBy_80 ?_
  refine g_iadd (pc := 81) C dX7_asksBy_81 ?_
  exact g_retIW (pc := 82) C rfl rfl () (rfl) (by rfl) (by rfl) dX7_asksBy_82
set_option maxRecDepth 20000 in
set_option maxHeartbeats 4000000 in
theorem c_X7_asksBy_4 (l : Launch) (G : gT) (m : Nat) (A : Nat → Nat) (τ : tT) (y : Nat → Int32) (kp : Nat → Int32) (b : Nat) (q : Nat) (x : Int32) (hq : q < 8) (hk : τ 0 q = 4) (hb : b < 900) : WI l yX7_asksBy cX7_asksBy 5 (some .int) 1 0 0 G [.ref m, .int (nI q), .int x] (wN G m A τ (upd y 1 (nI b)) ++ ([iC G (A 12) 20 kp])) (S := Unit) (fun r _ => r = akV 4 (nI q) (τ 1 q) x) (fun _ => wN G m A τ (upd y 1 (nI (b + (akL 4).length))) ++ ([iC G (A 12) 20 (rnK kp b (akL 4))])) := by
  intro sz9
  refine start_W (by decide) (Nat.le_of_ble_eq_true rfl) (fun p9 e9 s9 m9 a9 b9 t9 c9 C => ?_)
  refine g_lv (lv' := [(0, .ref m), (1, .int (nI q)), (2, .int x)]) rfl ?_
  refine g_aload_n (pc := 0) C dX7_asksBy_0 0 rfl ?_
  refine g_get (pc := 1) (T := TX7) (N := 33) (v := .ref (A 3)) C ib_X7 0 rfl rfl 4 (by decide) mf_X7_20 rfl rfl rfl dX7_asksBy_1 ?_
  refine g_iload_n (pc := 4) C dX7_asksBy_4 1 rfl ?_
  refine g_iald (pc := 5) (v := (τ 0) q) C 1 rfl q (rfl) ⟨by omega, by decide⟩ (rfl) dX7_asksBy_5 ?_
  refine g_top (z := nI 4) (hk) ?_
  refine g_istore_n (pc := 6) (lv' := [(3, .int 4), (0, .ref m), (1, .int (nI q)), (2, .int x)]) C dX7_asksBy_6 rfl (by decide) rfl ?_
  refine g_iload_n (pc := 7) C dX7_asksBy_7 0 rfl ?_
  refine g_bipush (pc := 8) (v := 6) C dX7_asksBy_8 (by decide) ?_
  refine g_icmpN_ne (pc := 10) (i := 4) (j := 6) (tgt := 19) C dX7_asksBy_10 (by decide) ⟨by omega, by omega⟩ (fun h10 => ?_) (fun h10 => absurd h10 (by decide))
  refine g_iload_n (pc := 19) C dX7_asksBy_19 0 rfl ?_
  refine g_iconst (pc := 20) (v := 4) C dX7_asksBy_20 (by decide) ?_
  refine g_icmpN_eq (pc := 21) (i := 4) (j := 4) (tgt := 30) C dX7_asksBy_21 (by decide) ⟨by omega, by omega⟩ (fun h21 => ?_) (fun h21 => absurd h21 (by decide))
  refine g_aload_n (pc := 30) C dX7_asksBy_30 1 rfl ?_
  refine g_bipush (pc := 31) (v := 51) C dX7_asksBy_31 (by decide) ?_
  refine g_wrVV (pc := 33) (rest := []) (wr := []) C (fun _ => wN G m A τ (upd y 1 (nI (b + 1))) ++ ([iC G (A 12) 20 (bgK kp b 51)])) rfl k_X7_ran (c_X7_ran l G m A τ y kp b 51 (by first | assumption | omega)) ml_X7_303 rfl ⟨Nat.le_of_ble_eq_true rfl, Nat.le_of_ble_eq_true rfl⟩ rfl [0, 1, 2, 3, 4, 5, 6, 7, 8, 9] [] [0, 1, 2, 3, 4, 5, 6, 7, 8, 9] rfl (by decide) rfl (by decide) (by decide) (by decide) (fun _ => rfl) 0 rfl rfl rfl rfl (Nat.le_of_ble_eq_true rfl) ⟨by decide, by decide⟩ dX7_asksBy_33 (fun _ _ => ?_)
  refine g_iload_n (pc := 36) C dX7_asksBy_36 0 rfl ?_
  refine g_iconst (pc := 37) (v := 1) C dX7_asksBy_37 (by decide) ?_
  refine g_icmpN_eq (pc := 38) (i := 4) (j := 1) (tgt := 46) C dX7_asksBy_38 (by decide) ⟨by omega, by omega⟩ (fun h38 => absurd h38 (by decide)) (fun h38 => ?_)
  refine g_iload_n (pc := 41) C dX7_asksBy_41 0 rfl ?_
  refine g_iconst (pc := 42) (v := 3) C dX7_asksBy_42 (by decide) ?_
  refine g_icmpN_ne (pc := 43) (i := 4) (j := 3) (tgt := 52) C dX7_asksBy_43 (by decide) ⟨by omega, by omega⟩ (fun h43 => ?_) (fun h43 => absurd h43 (by decide))
  refine g_aload_n (pc := 52) C dX7_asksBy_52 1 rfl ?_
  refine g_bipush (pc := 53) (v := 10) C dX7_asksBy_53 (by decide) ?_
  refine g_wrVV (pc := 55) (rest := []) (wr := []) C (fun _ => wN G m A τ (upd y 1 (nI ((b + 1) + 1))) ++ ([iC G (A 12) 20 (bgK (bgK kp b 51) (b + 1) 10)])) rfl k_X7_ran (c_X7_ran l G m A τ y (bgK kp b 51) (b + 1) 10 (by first | assumption | omega)) ml_X7_303 rfl ⟨Nat.le_of_ble_eq_true rfl, Nat.le_of_ble_eq_true rfl⟩ rfl [0, 1, 2, 3, 4, 5, 6, 7, 8, 9] [] [0, 1, 2, 3, 4, 5, 6, 7, 8, 9] rfl (by decide) rfl (by decide) (by decide) (by decide) (fun _ => rfl) 0 rfl rfl rfl rfl (Nat.le_of_ble_eq_true rfl) ⟨by decide, by decide⟩ dX7_asksBy_55 (fun _ _ => ?_)
  refine g_iload_n (pc := 58) C dX7_asksBy_58 3 rfl ?_
  refine g_iload_n (pc := 59) C dX7_asksBy_59 2 rfl ?_
  refine g_iadd (pc := 60) C dX7_asksBy_60 ?_
  refine g_istore (pc := 61) (lv' := [(4, .int (x + (nI q))), (3, .int 4), (0, .ref m), (1, .int (nI q)), (2, .int x)]) C dX7_asksBy_61 (by decide) rfl ?_
  refine g_iload_n (pc := 63) C dX7_asksBy_63 1 rfl ?_
  refine g_iconst (pc := 64) (v := 1) C dX7_asksBy_64 (by decide) ?_
  refine g_icmpN_eq (pc := 65) (i := 4) (j := 1) (tgt := 73) C dX7_asksBy_65 (by decide) ⟨by omega, by omega⟩ (fun h65 => absurd h65 (by decide)) (fun h65 => ?_)
  refine g_iload_n (pc := 68) C dX7_asksBy_68 1 rfl ?_
  refine g_iconst (pc := 69) (v := 3) C dX7_asksBy_69 (by decide) ?_
  refine g_icmpN_ne (pc := 70) (i := 4) (j := 3) (tgt := 83) C dX7_asksBy_70 (by decide) ⟨by omega, by omega⟩ (fun h70 => ?_) (fun h70 => absurd h70 (by decide))
  refine g_iload_n (pc := 83) C dX7_asksBy_83 1 rfl ?_
  refine g_iconst (pc := 84) (v := 4) C dX7_asksBy_84 (by decide) ?_
  refine g_icmpN_ne (pc := 85) (i := 4) (j := 4) (tgt := 95) C dX7_asksBy_85 (by decide) ⟨by omega, by omega⟩ (fun h85 => absurd h85 (by decide)) (fun h85 => ?_)
  refine g_iload (pc := 88) C dX7_asksBy_88 0 rfl ?_
  refine g_iload_n (pc := 90) C dX7_asksBy_90 3 rfl ?_
  refine g_isub (pc := 91) C dX7_asksBy_91 ?_
  refine g_goto (pc := 92) (tgt := 112) C dX7_asksBy_92 (by decide) ?_
  exact g_retIW (pc := 112) C rfl rfl () (rfl) (by rfl) (by rfl) dX7_asksBy_112
set_option maxRecDepth 20000 in
set_option maxHeartbeats 4000000 in
theorem c_X7_asksBy_5 (l : Launch) (G : gT) (m : Nat) (A : Nat → Nat) (τ : tT) (y : Nat → Int32) (kp : Nat → Int32) (b : Nat) (q : Nat) (x : Int32) (hq : q < 8) (hk : τ 0 q = 5) (hb : b < 900) : WI l yX7_asksBy cX7_asksBy 5 (some .int) 1 0 0 G [.ref m, .int (nI q), .int x] (wN G m A τ (upd y 1 (nI b)) ++ ([iC G (A 12) 20 kp])) (S := Unit) (fun r _ => r = akV 5 (nI q) (τ 1 q) x) (fun _ => wN G m A τ (upd y 1 (nI (b + (akL 5).length))) ++ ([iC G (A 12) 20 (rnK kp b (akL 5))])) := by
  intro sz9
  refine start_W (by decide) (Nat.le_of_ble_eq_true rfl) (fun p9 e9 s9 m9 a9 b9 t9 c9 C => ?_)
  refine g_lv (lv' := [(0, .ref m), (1, .int (nI q)), (2, .int x)]) rfl ?_
  refine g_aload_n (pc := 0) C dX7_asksBy_0 0 rfl ?_
  refine g_get (pc := 1) (T := TX7) (N := 33) (v := .ref (A 3)) C ib_X7 0 rfl rfl 4 (by decide) mf_X7_20 rfl rfl rfl dX7_asksBy_1 ?_
  refine g_iload_n (pc := 4) C dX7_asksBy_4 1 rfl ?_
  refine g_iald (pc := 5) (v := (τ 0) q) C 1 rfl q (rfl) ⟨by omega, by decide⟩ (rfl) dX7_asksBy_5 ?_
  refine g_top (z := nI 5) (hk) ?_
  refine g_istore_n (pc := 6) (lv' := [(3, .int 5), (0, .ref m), (1, .int (nI q)), (2, .int x)]) C dX7_asksBy_6 rfl (by decide) rfl ?_
  refine g_iload_n (pc := 7) C dX7_asksBy_7 0 rfl ?_
  refine g_bipush (pc := 8) (v := 6) C dX7_asksBy_8 (by decide) ?_
  refine g_icmpN_ne (pc := 10) (i := 5) (j := 6) (tgt := 19) C dX7_asksBy_10 (by decide) ⟨by omega, by omega⟩ (fun h10 => ?_) (fun h10 => absurd h10 (by decide))
  refine g_iload_n (pc := 19) C dX7_asksBy_19 0 rfl ?_
  refine g_iconst (pc := 20) (v := 4) C dX7_asksBy_20 (by decide) ?_
  refine g_icmpN_eq (pc := 21) (i := 5) (j := 4) (tgt := 30) C dX7_asksBy_21 (by decide) ⟨by omega, by omega⟩ (fun h21 => absurd h21 (by decide)) (fun h21 => ?_)
  refine g_iload_n (pc := 24) C dX7_asksBy_24 0 rfl ?_
  refine g_bipush (pc := 25) (v := 6) C dX7_asksBy_25 (by decide) ?_
  refine g_icmpN_ne (pc := 27) (i := 5) (j := 6) (tgt := 36) C dX7_asksBy_27 (by decide) ⟨by omega, by omega⟩ (fun h27 => ?_) (fun h27 => absurd h27 (by decide))
  refine g_iload_n (pc := 36) C dX7_asksBy_36 0 rfl ?_
  refine g_iconst (pc := 37) (v := 1) C dX7_asksBy_37 (by decide) ?_
  refine g_icmpN_eq (pc := 38) (i := 5) (j := 1) (tgt := 46) C dX7_asksBy_38 (by decide) ⟨by omega, by omega⟩ (fun h38 => absurd h38 (by decide)) (fun h38 => ?_)
  refine g_iload_n (pc := 41) C dX7_asksBy_41 0 rfl ?_
  refine g_iconst (pc := 42) (v := 3) C dX7_asksBy_42 (by decide) ?_
  refine g_icmpN_ne (pc := 43) (i := 5) (j := 3) (tgt := 52) C dX7_asksBy_43 (by decide) ⟨by omega, by omega⟩ (fun h43 => ?_) (fun h43 => absurd h43 (by decide))
  refine g_aload_n (pc := 52) C dX7_asksBy_52 1 rfl ?_
  refine g_bipush (pc := 53) (v := 10) C dX7_asksBy_53 (by decide) ?_
  refine g_wrVV (pc := 55) (rest := []) (wr := []) C (fun _ => wN G m A τ (upd y 1 (nI (b + 1))) ++ ([iC G (A 12) 20 (bgK kp b 10)])) rfl k_X7_ran (c_X7_ran l G m A τ y kp b 10 (by first | assumption | omega)) ml_X7_303 rfl ⟨Nat.le_of_ble_eq_true rfl, Nat.le_of_ble_eq_true rfl⟩ rfl [0, 1, 2, 3, 4, 5, 6, 7, 8, 9] [] [0, 1, 2, 3, 4, 5, 6, 7, 8, 9] rfl (by decide) rfl (by decide) (by decide) (by decide) (fun _ => rfl) 0 rfl rfl rfl rfl (Nat.le_of_ble_eq_true rfl) ⟨by decide, by decide⟩ dX7_asksBy_55 (fun _ _ => ?_)
  refine g_iload_n (pc := 58) C dX7_asksBy_58 3 rfl ?_
  refine g_iload_n (pc := 59) C dX7_asksBy_59 2 rfl ?_
  refine g_iadd (pc := 60) C dX7_asksBy_60 ?_
  refine g_istore (pc := 61) (lv' := [(4, .int (x + (nI q))), (3, .int 5), (0, .ref m), (1, .int (nI q)), (2, .int x)]) C dX7_asksBy_61 (by decide) rfl ?_
  refine g_iload_n (pc := 63) C dX7_asksBy_63 1 rfl ?_
  refine g_iconst (pc := 64) (v := 1) C dX7_asksBy_64 (by decide) ?_
  refine g_icmpN_eq (pc := 65) (i := 5) (j := 1) (tgt := 73) C dX7_asksBy_65 (by decide) ⟨by omega, by omega⟩ (fun h65 => absurd h65 (by decide)) (fun h65 => ?_)
  refine g_iload_n (pc := 68) C dX7_asksBy_68 1 rfl ?_
  refine g_iconst (pc := 69) (v := 3) C dX7_asksBy_69 (by decide) ?_
  refine g_icmpN_ne (pc := 70) (i := 5) (j := 3) (tgt := 83) C dX7_asksBy_70 (by decide) ⟨by omega, by omega⟩ (fun h70 => ?_) (fun h70 => absurd h70 (by decide))
  refine g_iload_n (pc := 83) C dX7_asksBy_83 1 rfl ?_
  refine g_iconst (pc := 84) (v := 4) C dX7_asksBy_84 (by decide) ?_
  refine g_icmpN_ne (pc := 85) (i := 5) (j := 4) (tgt := 95) C dX7_asksBy_85 (by decide) ⟨by omega, by omega⟩ (fun h85 => ?_) (fun h85 => absurd h85 (by decide))
  refine g_iload_n (pc := 95) C dX7_asksBy_95 1 rfl ?_
  refine g_bipush (pc := 96) (v := 6) C dX7_asksBy_96 (by decide) ?_
  refine g_icmpN_ne (pc := 98) (i := 5) (j := 6) (tgt := 110) C dX7_asksBy_98 (by decide) ⟨by omega, by omega⟩ (fun h98 => ?_) (fun h98 => absurd h98 (by decide))
  refine g_iload (pc := 110) C dX7_asksBy_110 0 rfl ?_
  exact g_retIW (pc := 112) C rfl rfl () (rfl) (by rfl) (by rfl) dX7_asksBy_112
set_option maxRecDepth 20000 in
set_option maxHeartbeats 4000000 in
theorem c_X7_asksBy_6 (l : Launch) (G : gT) (m : Nat) (A : Nat → Nat) (τ : tT) (y : Nat → Int32) (kp : Nat → Int32) (b : Nat) (q : Nat) (x : Int32) (hq : q < 8) (hk : τ 0 q = 6) (hb : b < 900) : WI l yX7_asksBy cX7_asksBy 5 (some .int) 1 0 0 G [.ref m, .int (nI q), .int x] (wN G m A τ (upd y 1 (nI b)) ++ ([iC G (A 12) 20 kp])) (S := Unit) (fun r _ => r = akV 6 (nI q) (τ 1 q) x) (fun _ => wN G m A τ (upd y 1 (nI (b + (akL 6).length))) ++ ([iC G (A 12) 20 (rnK kp b (akL 6))])) := by
  intro sz9
  refine start_W (by decide) (Nat.le_of_ble_eq_true rfl) (fun p9 e9 s9 m9 a9 b9 t9 c9 C => ?_)
  refine g_lv (lv' := [(0, .ref m), (1, .int (nI q)), (2, .int x)]) rfl ?_
  refine g_aload_n (pc := 0) C dX7_asksBy_0 0 rfl ?_
  refine g_get (pc := 1) (T := TX7) (N := 33) (v := .ref (A 3)) C ib_X7 0 rfl rfl 4 (by decide) mf_X7_20 rfl rfl rfl dX7_asksBy_1 ?_
  refine g_iload_n (pc := 4) C dX7_asksBy_4 1 rfl ?_
  refine g_iald (pc := 5) (v := (τ 0) q) C 1 rfl q (rfl) ⟨by omega, by decide⟩ (rfl) dX7_asksBy_5 ?_
  refine g_top (z := nI 6) (hk) ?_
  refine g_istore_n (pc := 6) (lv' := [(3, .int 6), (0, .ref m), (1, .int (nI q)), (2, .int x)]) C dX7_asksBy_6 rfl (by decide) rfl ?_
  refine g_iload_n (pc := 7) C dX7_asksBy_7 0 rfl ?_
  refine g_bipush (pc := 8) (v := 6) C dX7_asksBy_8 (by decide) ?_
  refine g_icmpN_ne (pc := 10) (i := 6) (j := 6) (tgt := 19) C dX7_asksBy_10 (by decide) ⟨by omega, by omega⟩ (fun h10 => absurd h10 (by decide)) (fun h10 => ?_)
  refine g_aload_n (pc := 13) C dX7_asksBy_13 1 rfl ?_
  refine g_bipush (pc := 14) (v := 70) C dX7_asksBy_14 (by decide) ?_
  refine g_wrVV (pc := 16) (rest := []) (wr := []) C (fun _ => wN G m A τ (upd y 1 (nI (b + 1))) ++ ([iC G (A 12) 20 (bgK kp b 70)])) rfl k_X7_ran (c_X7_ran l G m A τ y kp b 70 (by first | assumption | omega)) ml_X7_303 rfl ⟨Nat.le_of_ble_eq_true rfl, Nat.le_of_ble_eq_true rfl⟩ rfl [0, 1, 2, 3, 4, 5, 6, 7, 8, 9] [] [0, 1, 2, 3, 4, 5, 6, 7, 8, 9] rfl (by decide) rfl (by decide) (by decide) (by decide) (fun _ => rfl) 0 rfl rfl rfl rfl (Nat.le_of_ble_eq_true rfl) ⟨by decide, by decide⟩ dX7_asksBy_16 (fun _ _ => ?_)
  refine g_iload_n (pc := 19) C dX7_asksBy_19 0 rfl ?_
  refine g_iconst (pc := 20) (v := 4) C dX7_asksBy_20 (by decide) ?_
  refine g_icmpN_eq (pc := 21) (i := 6) (j := 4) (tgt := 30) C dX7_asksBy_21 (by decide) ⟨by omega, by omega⟩ (fun h21 => absurd h21 (by decide)) (fun h21 => ?_)
  refine g_iload_n (pc := 24) C dX7_asksBy_24 0 rfl ?_
  refine g_bipush (pc := 25) (v := 6) C dX7_asksBy_25 (by decide) ?_
  refine g_icmpN_ne (pc := 27) (i := 6) (j := 6) (tgt := 36) C dX7_asksBy_27 (by decide) ⟨by omega, by omega⟩ (fun h27 => absurd h27 (by decide)) (fun h27 => ?_)
  refine g_aload_n (pc := 30) C dX7_asksBy_30 1 rfl ?_
  refine g_bipush (pc := 31) (v := 51) C dX7_asksBy_31 (by decide) ?_
  refine g_wrVV (pc := 33) (rest := []) (wr := []) C (fun _ => wN G m A τ (upd y 1 (nI ((b + 1) + 1))) ++ ([iC G (A 12) 20 (bgK (bgK kp b 70) (b + 1) 51)])) rfl k_X7_ran (c_X7_ran l G m A τ y (bgK kp b 70) (b + 1) 51 (by first | assumption | omega)) ml_X7_303 rfl ⟨Nat.le_of_ble_eq_true rfl, Nat.le_of_ble_eq_true rfl⟩ rfl [0, 1, 2, 3, 4, 5, 6, 7, 8, 9] [] [0, 1, 2, 3, 4, 5, 6, 7, 8, 9] rfl (by decide) rfl (by decide) (by decide) (by decide) (fun _ => rfl) 0 rfl rfl rfl rfl (Nat.le_of_ble_eq_true rfl) ⟨by decide, by decide⟩ dX7_asksBy_33 (fun _ _ => ?_)
  refine g_iload_n (pc := 36) C dX7_asksBy_36 0 rfl ?_
  refine g_iconst (pc := 37) (v := 1) C dX7_asksBy_37 (by decide) ?_
  refine g_icmpN_eq (pc := 38) (i := 6) (j := 1) (tgt := 46) C dX7_asksBy_38 (by decide) ⟨by omega, by omega⟩ (fun h38 => absurd h38 (by decide)) (fun h38 => ?_)
  refine g_iload_n (pc := 41) C dX7_asksBy_41 0 rfl ?_
  refine g_iconst (pc := 42) (v := 3) C dX7_asksBy_42 (by decide) ?_
  refine g_icmpN_ne (pc := 43) (i := 6) (j := 3) (tgt := 52) C dX7_asksBy_43 (by decide) ⟨by omega, by omega⟩ (fun h43 => ?_) (fun h43 => absurd h43 (by decide))
  refine g_aload_n (pc := 52) C dX7_asksBy_52 1 rfl ?_
  refine g_bipush (pc := 53) (v := 10) C dX7_asksBy_53 (by decide) ?_
  refine g_wrVV (pc := 55) (rest := []) (wr := []) C (fun _ => wN G m A τ (upd y 1 (nI (((b + 1) + 1) + 1))) ++ ([iC G (A 12) 20 (bgK (bgK (bgK kp b 70) (b + 1) 51) ((b + 1) + 1) 10)])) rfl k_X7_ran (c_X7_ran l G m A τ y (bgK (bgK kp b 70) (b + 1) 51) ((b + 1) + 1) 10 (by first | assumption | omega)) ml_X7_303 rfl ⟨Nat.le_of_ble_eq_true rfl, Nat.le_of_ble_eq_true rfl⟩ rfl [0, 1, 2, 3, 4, 5, 6, 7, 8, 9] [] [0, 1, 2, 3, 4, 5, 6, 7, 8, 9] rfl (by decide) rfl (by decide) (by decide) (by decide) (fun _ => rfl) 0 rfl rfl rfl rfl (Nat.le_of_ble_eq_true rfl) ⟨by decide, by decide⟩ dX7_asksBy_55 (fun _ _ => ?_)
  refine g_iload_n (pc := 58) C dX7_asksBy_58 3 rfl ?_
  refine g_iload_n (pc := 59) C dX7_asksBy_59 2 rfl ?_
  refine g_iadd (pc := 60) C dX7_asksBy_60 ?_
  refine g_istore (pc := 61) (lv' := [(4, .int (x + (nI q))), (3, .int 6), (0, .ref m), (1, .int (nI q)), (2, .int x)]) C dX7_asksBy_61 (by decide) rfl ?_
  refine g_iload_n (pc := 63) C dX7_asksBy_63 1 rfl ?_
  refine g_iconst (pc := 64) (v := 1) C dX7_asksBy_64 (by decide) ?_
  refine g_icmpN_eq (pc := 65) (i := 6) (j := 1) (tgt := 73) C dX7_asksBy_65 (by decide) ⟨by omega, by omega⟩ (fun h65 => absurd h65 (by decide)) (fun h65 => ?_)
  refine g_iload_n (pc := 68) C dX7_asksBy_68 1 rfl ?_
  refine g_iconst (pc := 69) (v := 3) C dX7_asksBy_69 (by decide) ?_
  refine g_icmpN_ne (pc := 70) (i := 6) (j := 3) (tgt := 83) C dX7_asksBy_70 (by decide) ⟨by omega, by omega⟩ (fun h70 => ?_) (fun h70 => absurd h70 (by decide))
  refine g_iload_n (pc := 83) C dX7_asksBy_83 1 rfl ?_
  refine g_iconst (pc := 84) (v := 4) C dX7_asksBy_84 (by decide) ?_
  refine g_icmpN_ne (pc := 85) (i := 6) (j := 4) (tgt := 95) C dX7_asksBy_85 (by decide) ⟨by omega, by omega⟩ (fun h85 => ?_) (fun h85 => absurd h85 (by decide))
  refine g_iload_n (pc := 95) C dX7_asksBy_95 1 rfl ?_
  refine g_bipush (pc := 96) (v := 6) C dX7_asksBy_96 (by decide) ?_
  refine g_icmpN_ne (pc := 98) (i := 6) (j := 6) (tgt := 110) C dX7_asksBy_98 (by decide) ⟨by omega, by omega⟩ (fun h98 => absurd h98 (by decide)) (fun h98 => ?_)
  refine g_iload (pc := 101) C dX7_asksBy_101 0 rfl ?_
  refine g_iload_n (pc := 103) C dX7_asksBy_103 3 rfl ?_
  refine g_isub (pc := 104) C dX7_asksBy_104 ?_
  refine g_iconst (pc := 105) (v := 2) C dX7_asksBy_105 (by decide) ?_
  refine g_imul (pc := 106) C dX7_asksBy_106 ?_
  refine g_goto (pc := 107) (tgt := 112) C dX7_asksBy_107 (by decide) ?_
  exact g_retIW (pc := 112) C rfl rfl () (rfl) (by rfl) (by rfl) dX7_asksBy_112
theorem c_X7_asksBy (l : Launch) (G : gT) (m : Nat) (A : Nat → Nat) (τ : tT) (y : Nat → Int32) (kp : Nat → Int32) (b : Nat) (q : Nat) (k : Nat) (x : Int32) (hq : q < 8) (hk : k ≤ 6) (hkk : τ 0 q = nI k) (hb : b < 900) : WI l yX7_asksBy cX7_asksBy 5 (some .int) 1 0 0 G [.ref m, .int (nI q), .int x] (wN G m A τ (upd y 1 (nI b)) ++ ([iC G (A 12) 20 kp])) (S := Unit) (fun r _ => r = akV k (nI q) (τ 1 q) x) (fun _ => wN G m A τ (upd y 1 (nI (b + (akL k).length))) ++ ([iC G (A 12) 20 (rnK kp b (akL k))])) := by
  rcases (show k = 0 ∨ k = 1 ∨ k = 2 ∨ k = 3 ∨ k = 4 ∨ k = 5 ∨ k = 6 from by omega) with rfl | rfl | rfl | rfl | rfl | rfl | rfl
  · exact c_X7_asksBy_0 l G m A τ y kp b q x hq hkk hb
  · exact c_X7_asksBy_1 l G m A τ y kp b q x hq hkk hb
  · exact c_X7_asksBy_2 l G m A τ y kp b q x hq hkk hb
  · exact c_X7_asksBy_3 l G m A τ y kp b q x hq hkk hb
  · exact c_X7_asksBy_4 l G m A τ y kp b q x hq hkk hb
  · exact c_X7_asksBy_5 l G m A τ y kp b q x hq hkk hb
  · exact c_X7_asksBy_6 l G m A τ y kp b q x hq hkk hb
set_option maxRecDepth 20000 in
set_option maxHeartbeats 4000000 in
theorem c_X7_leansBy_0 (l : Launch) (G : gT) (m : Nat) (A : Nat → Nat) (τ : tT) (y : Nat → Int32) (kp : Nat → Int32) (b : Nat) (q : Nat) (x : Int32) (hq : q < 8) (hk : τ 0 q = 0) (hb : b < 800) : WI l yX7_leansBy cX7_leansBy 6 (some .int) 2 0 0 G [.ref m, .int (nI q), .int x] (wN G m A τ (upd y 1 (nI b)) ++ ([iC G (A 12) 20 kp])) (S := Unit) (fun r _ => r = lnV 0 (nI q) (τ 1 q) x) (fun _ => wN G m A τ (upd y 1 (nI (b + (lnL 0).length))) ++ ([iC G (A 12) 20 (rnK kp b (lnL 0))])) := by
  intro sz9
  refine start_W (by decide) (Nat.le_of_ble_eq_true rfl) (fun p9 e9 s9 m9 a9 b9 t9 c9 C => ?_)
  refine g_lv (lv' := [(0, .ref m), (1, .int (nI q)), (2, .int x)]) rfl ?_
  refine g_aload_n (pc := 0) C dX7_leansBy_0 0 rfl ?_
  refine g_get (pc := 1) (T := TX7) (N := 33) (v := .ref (A 3)) C ib_X7 0 rfl rfl 4 (by decide) mf_X7_20 rfl rfl rfl dX7_leansBy_1 ?_
  refine g_iload_n (pc := 4) C dX7_leansBy_4 1 rfl ?_
  refine g_iald (pc := 5) (v := (τ 0) q) C 1 rfl q (rfl) ⟨by omega, by decide⟩ (rfl) dX7_leansBy_5 ?_
  refine g_top (z := nI 0) (hk) ?_
  refine g_istore_n (pc := 6) (lv' := [(3, .int 0), (0, .ref m), (1, .int (nI q)), (2, .int x)]) C dX7_leansBy_6 rfl (by decide) rfl ?_
  refine g_iload_n (pc := 7) C dX7_leansBy_7 3 rfl ?_
  refine g_istore (pc := 8) (lv' := [(4, .int x), (3, .int 0), (0, .ref m), (1, .int (nI q)), (2, .int x)]) C dX7_leansBy_8 (by decide) rfl ?_
  refine g_iload_n (pc := 10) C dX7_leansBy_10 1 rfl ?_
  refine g_bipush (pc := 11) (v := 6) C dX7_leansBy_11 (by decide) ?_
  refine g_icmpN_ne (pc := 13) (i := 0) (j := 6) (tgt := 32) C dX7_leansBy_13 (by decide) ⟨by omega, by omega⟩ (fun h13 => ?_) (fun h13 => absurd h13 (by decide))
  refine g_iload_n (pc := 32) C dX7_leansBy_32 1 rfl ?_
  refine g_iconst (pc := 33) (v := 3) C dX7_leansBy_33 (by decide) ?_
  refine g_icmpN_ne (pc := 34) (i := 0) (j := 3) (tgt := 48) C dX7_leansBy_34 (by decide) ⟨by omega, by omega⟩ (fun h34 => ?_) (fun h34 => absurd h34 (by decide))
  refine g_iload_n (pc := 48) C dX7_leansBy_48 1 rfl ?_
  refine g_iconst (pc := 49) (v := 2) C dX7_leansBy_49 (by decide) ?_
  refine g_icmpN_eq (pc := 50) (i := 0) (j := 2) (tgt := 58) C dX7_leansBy_50 (by decide) ⟨by omega, by omega⟩ (fun h50 => absurd h50 (by decide)) (fun h50 => ?_)
  refine g_iload_n (pc := 53) C dX7_leansBy_53 1 rfl ?_
  refine g_iconst (pc := 54) (v := 5) C dX7_leansBy_54 (by decide) ?_
  refine g_icmpN_ne (pc := 55) (i := 0) (j := 5) (tgt := 64) C dX7_leansBy_55 (by decide) ⟨by omega, by omega⟩ (fun h55 => ?_) (fun h55 => absurd h55 (by decide))
  refine g_aload_n (pc := 64) C dX7_leansBy_64 2 rfl ?_
  refine g_bipush (pc := 65) (v := 11) C dX7_leansBy_65 (by decide) ?_
  refine g_wrVV (pc := 67) (rest := []) (wr := []) C (fun _ => wN G m A τ (upd y 1 (nI (b + 1))) ++ ([iC G (A 12) 20 (bgK kp b 11)])) rfl k_X7_ran (c_X7_ran l G m A τ y kp b 11 (by first | assumption | omega)) ml_X7_303 rfl ⟨Nat.le_of_ble_eq_true rfl, Nat.le_of_ble_eq_true rfl⟩ rfl [0, 1, 2, 3, 4, 5, 6, 7, 8, 9] [] [0, 1, 2, 3, 4, 5, 6, 7, 8, 9] rfl (by decide) rfl (by decide) (by decide) (by decide) (fun _ => rfl) 0 rfl rfl rfl rfl (Nat.le_of_ble_eq_true rfl) ⟨by decide, by decide⟩ dX7_leansBy_67 (fun _ _ => ?_)
  refine g_aload_n (pc := 70) C dX7_leansBy_70 2 rfl ?_
  refine g_iload_n (pc := 71) C dX7_leansBy_71 3 rfl ?_
  refine g_iload (pc := 72) C dX7_leansBy_72 0 rfl ?_
  refine g_wrVI (pc := 74) (rest := []) (wr := []) C (fun _ => wN G m A τ (upd y 1 (nI ((b + 1) + (akL 0).length))) ++ ([iC G (A 12) 20 (rnK (bgK kp b 11) (b + 1) (akL 0))])) rfl k_X7_asksBy (c_X7_asksBy l G m A τ y (bgK kp b 11) (b + 1) q 0 x (by first | assumption | omega) (by decide) hk (by first | assumption | omega)) ml_X7_307 rfl ⟨Nat.le_of_ble_eq_true rfl, Nat.le_of_ble_eq_true rfl⟩ rfl [0, 1, 2, 3, 4, 5, 6, 7, 8, 9] [] [0, 1, 2, 3, 4, 5, 6, 7, 8, 9] rfl (by decide) rfl (by decide) (by decide) (by decide) (fun _ => rfl) 0 rfl rfl rfl rfl (Nat.le_of_ble_eq_true rfl) ⟨by decide, by decide⟩ dX7_leansBy_74 (fun r74 _ e74 => ?_)
  subst e74
  refine g_iconst (pc := 77) (v := 2) C dX7_leansBy_77 (by decide) ?_
  refine g_imul (pc := 78) C dX7_leansBy_78 ?_
  refine g_istore (pc := 79) (lv' := [(5, .int ((akV 0 (nI q) (τ 1 q) x) * 2)), (4, .int x), (3, .int 0), (0, .ref m), (1, .int (nI q)), (2, .int x)]) C dX7_leansBy_79 (by decide) rfl ?_
  refine g_iload_n (pc := 81) C dX7_leansBy_81 2 rfl ?_
  refine g_iconst (pc := 82) (v := 2) C dX7_leansBy_82 (by decide) ?_
  refine g_icmpN_eq (pc := 83) (i := 0) (j := 2) (tgt := 91) C dX7_leansBy_83 (by decide) ⟨by omega, by omega⟩ (fun h83 => absurd h83 (by decide)) (fun h83 => ?_)
  refine g_iload_n (pc := 86) C dX7_leansBy_86 2 rfl ?_
  refine g_iconst (pc := 87) (v := 5) C dX7_leansBy_87 (by decide) ?_
  refine g_icmpN_ne (pc := 88) (i := 0) (j := 5) (tgt := 98) C dX7_leansBy_88 (by decide) ⟨by omega, by omega⟩ (fun h88 => ?_) (fun h88 => absurd h88 (by decide))
  refine g_iload (pc := 98) C dX7_leansBy_98 0 rfl ?_
  exact g_retIW (pc := 100) C rfl rfl () (rfl) (by rfl) (by rfl) dX7_leansBy_100
set_option maxRecDepth 20000 in
set_option maxHeartbeats 4000000 in
theorem c_X7_leansBy_1 (l : Launch) (G : gT) (m : Nat) (A : Nat → Nat) (τ : tT) (y : Nat → Int32) (kp : Nat → Int32) (b : Nat) (q : Nat) (x : Int32) (hq : q < 8) (hk : τ 0 q = 1) (hb : b < 800) : WI l yX7_leansBy cX7_leansBy 6 (some .int) 2 0 0 G [.ref m, .int (nI q), .int x] (wN G m A τ (upd y 1 (nI b)) ++ ([iC G (A 12) 20 kp])) (S := Unit) (fun r _ => r = lnV 1 (nI q) (τ 1 q) x) (fun _ => wN G m A τ (upd y 1 (nI (b + (lnL 1).length))) ++ ([iC G (A 12) 20 (rnK kp b (lnL 1))])) := by
  intro sz9
  refine start_W (by decide) (Nat.le_of_ble_eq_true rfl) (fun p9 e9 s9 m9 a9 b9 t9 c9 C => ?_)
  refine g_lv (lv' := [(0, .ref m), (1, .int (nI q)), (2, .int x)]) rfl ?_
  refine g_aload_n (pc := 0) C dX7_leansBy_0 0 rfl ?_
  refine g_get (pc := 1) (T := TX7) (N := 33) (v := .ref (A 3)) C ib_X7 0 rfl rfl 4 (by decide) mf_X7_20 rfl rfl rfl dX7_leansBy_1 ?_
  refine g_iload_n (pc := 4) C dX7_leansBy_4 1 rfl ?_
  refine g_iald (pc := 5) (v := (τ 0) q) C 1 rfl q (rfl) ⟨by omega, by decide⟩ (rfl) dX7_leansBy_5 ?_
  refine g_top (z := nI 1) (hk) ?_
  refine g_istore_n (pc := 6) (lv' := [(3, .int 1), (0, .ref m), (1, .int (nI q)), (2, .int x)]) C dX7_leansBy_6 rfl (by decide) rfl ?_
  refine g_iload_n (pc := 7) C dX7_leansBy_7 3 rfl ?_
  refine g_istore (pc := 8) (lv' := [(4, .int x), (3, .int 1), (0, .ref m), (1, .int (nI q)), (2, .int x)]) C dX7_leansBy_8 (by decide) rfl ?_
  refine g_iload_n (pc := 10) C dX7_leansBy_10 1 rfl ?_
  refine g_bipush (pc := 11) (v := 6) C dX7_leansBy_11 (by decide) ?_
  refine g_icmpN_ne (pc := 13) (i := 1) (j := 6) (tgt := 32) C dX7_leansBy_13 (by decide) ⟨by omega, by omega⟩ (fun h13 => ?_) (fun h13 => absurd h13 (by decide))
  refine g_iload_n (pc := 32) C dX7_leansBy_32 1 rfl ?_
  refine g_iconst (pc := 33) (v := 3) C dX7_leansBy_33 (by decide) ?_
  refine g_icmpN_ne (pc := 34) (i := 1) (j := 3) (tgt := 48) C dX7_leansBy_34 (by decide) ⟨by omega, by omega⟩ (fun h34 => ?_) (fun h34 => absurd h34 (by decide))
  refine g_iload_n (pc := 48) C dX7_leansBy_48 1 rfl ?_
  refine g_iconst (pc := 49) (v := 2) C dX7_leansBy_49 (by decide) ?_
  refine g_icmpN_eq (pc := 50) (i := 1) (j := 2) (tgt := 58) C dX7_leansBy_50 (by decide) ⟨by omega, by omega⟩ (fun h50 => absurd h50 (by decide)) (fun h50 => ?_)
  refine g_iload_n (pc := 53) C dX7_leansBy_53 1 rfl ?_
  refine g_iconst (pc := 54) (v := 5) C dX7_leansBy_54 (by decide) ?_
  refine g_icmpN_ne (pc := 55) (i := 1) (j := 5) (tgt := 64) C dX7_leansBy_55 (by decide) ⟨by omega, by omega⟩ (fun h55 => ?_) (fun h55 => absurd h55 (by decide))
  refine g_aload_n (pc := 64) C dX7_leansBy_64 2 rfl ?_
  refine g_bipush (pc := 65) (v := 11) C dX7_leansBy_65 (by decide) ?_
  refine g_wrVV (pc := 67) (rest := []) (wr := []) C (fun _ => wN G m A τ (upd y 1 (nI (b + 1))) ++ ([iC G (A 12) 20 (bgK kp b 11)])) rfl k_X7_ran (c_X7_ran l G m A τ y kp b 11 (by first | assumption | omega)) ml_X7_303 rfl ⟨Nat.le_of_ble_eq_true rfl, Nat.le_of_ble_eq_true rfl⟩ rfl [0, 1, 2, 3, 4, 5, 6, 7, 8, 9] [] [0, 1, 2, 3, 4, 5, 6, 7, 8, 9] rfl (by decide) rfl (by decide) (by decide) (by decide) (fun _ => rfl) 0 rfl rfl rfl rfl (Nat.le_of_ble_eq_true rfl) ⟨by decide, by decide⟩ dX7_leansBy_67 (fun _ _ => ?_)
  refine g_aload_n (pc := 70) C dX7_leansBy_70 2 rfl ?_
  refine g_iload_n (pc := 71) C dX7_leansBy_71 3 rfl ?_
  refine g_iload (pc := 72) C dX7_leansBy_72 0 rfl ?_
  refine g_wrVI (pc := 74) (rest := []) (wr := []) C (fun _ => wN G m A τ (upd y 1 (nI ((b + 1) + (akL 1).length))) ++ ([iC G (A 12) 20 (rnK (bgK kp b 11) (b + 1) (akL 1))])) rfl k_X7_asksBy (c_X7_asksBy l G m A τ y (bgK kp b 11) (b + 1) q 1 x (by first | assumption | omega) (by decide) hk (by first | assumption | omega)) ml_X7_307 rfl ⟨Nat.le_of_ble_eq_true rfl, Nat.le_of_ble_eq_true rfl⟩ rfl [0, 1, 2, 3, 4, 5, 6, 7, 8, 9] [] [0, 1, 2, 3, 4, 5, 6, 7, 8, 9] rfl (by decide) rfl (by decide) (by decide) (by decide) (fun _ => rfl) 0 rfl rfl rfl rfl (Nat.le_of_ble_eq_true rfl) ⟨by decide, by decide⟩ dX7_leansBy_74 (fun r74 _ e74 => ?_)
  subst e74
  refine g_iconst (pc := 77) (v := 2) C dX7_leansBy_77 (by decide) ?_
  refine g_imul (pc := 78) C dX7_leansBy_78 ?_
  refine g_istore (pc := 79) (lv' := [(5, .int ((akV 1 (nI q) (τ 1 q) x) * 2)), (4, .int x), (3, .int 1), (0, .ref m), (1, .int (nI q)), (2, .int x)]) C dX7_leansBy_79 (by decide) rfl ?_
  refine g_iload_n (pc := 81) C dX7_leansBy_81 2 rfl ?_
  refine g_iconst (pc := 82) (v := 2) C dX7_leansBy_82 (by decide) ?_
  refine g_icmpN_eq (pc := 83) (i := 1) (j := 2) (tgt := 91) C dX7_leansBy_83 (by decide) ⟨by omega, by omega⟩ (fun h83 => absurd h83 (by decide)) (fun h83 => ?_)
  refine g_iload_n (pc := 86) C dX7_leansBy_86 2 rfl ?_
  refine g_iconst (pc := 87) (v := 5) C dX7_leansBy_87 (by decide) ?_
  refine g_icmpN_ne (pc := 88) (i := 1) (j := 5) (tgt := 98) C dX7_leansBy_88 (by decide) ⟨by omega, by omega⟩ (fun h88 => ?_) (fun h88 => absurd h88 (by decide))
  refine g_iload (pc := 98) C dX7_leansBy_98 0 rfl ?_
  exact g_retIW (pc := 100) C rfl rfl () (rfl) (by rfl) (by rfl) dX7_leansBy_100
set_option maxRecDepth 20000 in
set_option maxHeartbeats 4000000 in
theorem c_X7_leansBy_2 (l : Launch) (G : gT) (m : Nat) (A : Nat → Nat) (τ : tT) (y : Nat → Int32) (kp : Nat → Int32) (b : Nat) (q : Nat) (x : Int32) (hq : q < 8) (hk : τ 0 q = 2) (hb : b < 800) : WI l yX7_leansBy cX7_leansBy 6 (some .int) 2 0 0 G [.ref m, .int (nI q), .int x] (wN G m A τ (upd y 1 (nI b)) ++ ([iC G (A 12) 20 kp])) (S := Unit) (fun r _ => r = lnV 2 (nI q) (τ 1 q) x) (fun _ => wN G m A τ (upd y 1 (nI (b + (lnL 2).length))) ++ ([iC G (A 12) 20 (rnK kp b (lnL 2))])) := by
  intro sz9
  refine start_W (by decide) (Nat.le_of_ble_eq_true rfl) (fun p9 e9 s9 m9 a9 b9 t9 c9 C => ?_)
  refine g_lv (lv' := [(0, .ref m), (1, .int (nI q)), (2, .int x)]) rfl ?_
  refine g_aload_n (pc := 0) C dX7_leansBy_0 0 rfl ?_
  refine g_get (pc := 1) (T := TX7) (N := 33) (v := .ref (A 3)) C ib_X7 0 rfl rfl 4 (by decide) mf_X7_20 rfl rfl rfl dX7_leansBy_1 ?_
  refine g_iload_n (pc := 4) C dX7_leansBy_4 1 rfl ?_
  refine g_iald (pc := 5) (v := (τ 0) q) C 1 rfl q (rfl) ⟨by omega, by decide⟩ (rfl) dX7_leansBy_5 ?_
  refine g_top (z := nI 2) (hk) ?_
  refine g_istore_n (pc := 6) (lv' := [(3, .int 2), (0, .ref m), (1, .int (nI q)), (2, .int x)]) C dX7_leansBy_6 rfl (by decide) rfl ?_
  refine g_iload_n (pc := 7) C dX7_leansBy_7 3 rfl ?_
  refine g_istore (pc := 8) (lv' := [(4, .int x), (3, .int 2), (0, .ref m), (1, .int (nI q)), (2, .int x)]) C dX7_leansBy_8 (by decide) rfl ?_
  refine g_iload_n (pc := 10) C dX7_leansBy_10 1 rfl ?_
  refine g_bipush (pc := 11) (v := 6) C dX7_leansBy_11 (by decide) ?_
  refine g_icmpN_ne (pc := 13) (i := 2) (j := 6) (tgt := 32) C dX7_leansBy_13 (by decide) ⟨by omega, by omega⟩ (fun h13 => ?_) (fun h13 => absurd h13 (by decide))
  refine g_iload_n (pc := 32) C dX7_leansBy_32 1 rfl ?_
  refine g_iconst (pc := 33) (v := 3) C dX7_leansBy_33 (by decide) ?_
  refine g_icmpN_ne (pc := 34) (i := 2) (j := 3) (tgt := 48) C dX7_leansBy_34 (by decide) ⟨by omega, by omega⟩ (fun h34 => ?_) (fun h34 => absurd h34 (by decide))
  refine g_iload_n (pc := 48) C dX7_leansBy_48 1 rfl ?_
  refine g_iconst (pc := 49) (v := 2) C dX7_leansBy_49 (by decide) ?_
  refine g_icmpN_eq (pc := 50) (i := 2) (j := 2) (tgt := 58) C dX7_leansBy_50 (by decide) ⟨by omega, by omega⟩ (fun h50 => ?_) (fun h50 => absurd h50 (by decide))
  refine g_aload_n (pc := 58) C dX7_leansBy_58 2 rfl ?_
  refine g_bipush (pc := 59) (v := 30) C dX7_leansBy_59 (by decide) ?_
  refine g_wrVV (pc := 61) (rest := []) (wr := []) C (fun _ => wN G m A τ (upd y 1 (nI (b + 1))) ++ ([iC G (A 12) 20 (bgK kp b 30)])) rfl k_X7_ran (c_X7_ran l G m A τ y kp b 30 (by first | assumption | omega)) ml_X7_303 rfl ⟨Nat.le_of_ble_eq_true rfl, Nat.le_of_ble_eq_true rfl⟩ rfl [0, 1, 2, 3, 4, 5, 6, 7, 8, 9] [] [0, 1, 2, 3, 4, 5, 6, 7, 8, 9] rfl (by decide) rfl (by decide) (by decide) (by decide) (fun _ => rfl) 0 rfl rfl rfl rfl (Nat.le_of_ble_eq_true rfl) ⟨by decide, by decide⟩ dX7_leansBy_61 (fun _ _ => ?_)
  refine g_aload_n (pc := 64) C dX7_leansBy_64 2 rfl ?_
  refine g_bipush (pc := 65) (v := 11) C dX7_leansBy_65 (by decide) ?_
  refine g_wrVV (pc := 67) (rest := []) (wr := []) C (fun _ => wN G m A τ (upd y 1 (nI ((b + 1) + 1))) ++ ([iC G (A 12) 20 (bgK (bgK kp b 30) (b + 1) 11)])) rfl k_X7_ran (c_X7_ran l G m A τ y (bgK kp b 30) (b + 1) 11 (by first | assumption | omega)) ml_X7_303 rfl ⟨Nat.le_of_ble_eq_true rfl, Nat.le_of_ble_eq_true rfl⟩ rfl [0, 1, 2, 3, 4, 5, 6, 7, 8, 9] [] [0, 1, 2, 3, 4, 5, 6, 7, 8, 9] rfl (by decide) rfl (by decide) (by decide) (by decide) (fun _ => rfl) 0 rfl rfl rfl rfl (Nat.le_of_ble_eq_true rfl) ⟨by decide, by decide⟩ dX7_leansBy_67 (fun _ _ => ?_)
  refine g_aload_n (pc := 70) C dX7_leansBy_70 2 rfl ?_
  refine g_iload_n (pc := 71) C dX7_leansBy_71 3 rfl ?_
  refine g_iload (pc := 72) C dX7_leansBy_72 0 rfl ?_
  refine g_wrVI (pc := 74) (rest := []) (wr := []) C (fun _ => wN G m A τ (upd y 1 (nI (((b + 1) + 1) + (akL 2).length))) ++ ([iC G (A 12) 20 (rnK (bgK (bgK kp b 30) (b + 1) 11) ((b + 1) + 1) (akL 2))])) rfl k_X7_asksBy (c_X7_asksBy l G m A τ y (bgK (bgK kp b 30) (b + 1) 11) ((b + 1) + 1) q 2 x (by first | assumption | omega) (by decide) hk (by first | assumption | omega)) ml_X7_307 rfl ⟨Nat.le_of_ble_eq_true rfl, Nat.le_of_ble_eq_true rfl⟩ rfl [0, 1, 2, 3, 4, 5, 6, 7, 8, 9] [] [0, 1, 2, 3, 4, 5, 6, 7, 8, 9] rfl (by decide) rfl (by decide) (by decide) (by decide) (fun _ => rfl) 0 rfl rfl rfl rfl (Nat.le_of_ble_eq_true rfl) ⟨by decide, by decide⟩ dX7_leansBy_74 (fun r74 _ e74 => ?_)
  subst e74
  refine g_iconst (pc := 77) (v := 2) C dX7_leansBy_77 (by decide) ?_
  refine g_imul (pc := 78) C dX7_leansBy_78 ?_
  refine g_istore (pc := 79) (lv' := [(5, .int ((akV 2 (nI q) (τ 1 q) x) * 2)), (4, .int x), (3, .int 2), (0, .ref m), (1, .int (nI q)), (2, .int x)]) C dX7_leansBy_79 (by decide) rfl ?_
  refine g_iload_n (pc := 81) C dX7_leansBy_81 2 rfl ?_
  refine g_iconst (pc := 82) (v := 2) C dX7_leansBy_82 (by decide) ?_
  refine g_icmpN_eq (pc := 83) (i := 2) (j := 2) (tgt := 91) C dX7_leansBy_83 (by decide) ⟨by omega, by omega⟩ (fun h83 => ?_) (fun h83 => absurd h83 (by decide))
  refine g_iload (pc := 91) C dX7_leansBy_91 0 rfl ?_
  refine g_iconst (pc := 93) (v := 3) C dX7_leansBy_93 (by decide) ?_
  refine g_imul (pc := 94) C dX7_leansBy_94 ?_
  refine g_goto (pc := 95) (tgt := 100) C dX7_leansBy_95 (by decide) ?_
  exact g_retIW (pc := 100) C rfl rfl () (rfl) (by rfl) (by rfl) dX7_leansBy_100
set_option maxRecDepth 20000 in
set_option maxHeartbeats 4000000 in
theorem c_X7_leansBy_3 (l : Launch) (G : gT) (m : Nat) (A : Nat → Nat) (τ : tT) (y : Nat → Int32) (kp : Nat → Int32) (b : Nat) (q : Nat) (x : Int32) (hq : q < 8) (hk : τ 0 q = 3) (hb : b < 800) : WI l yX7_leansBy cX7_leansBy 6 (some .int) 2 0 0 G [.ref m, .int (nI q), .int x] (wN G m A τ (upd y 1 (nI b)) ++ ([iC G (A 12) 20 kp])) (S := Unit) (fun r _ => r = lnV 3 (nI q) (τ 1 q) x) (fun _ => wN G m A τ (upd y 1 (nI (b + (lnL 3).length))) ++ ([iC G (A 12) 20 (rnK kp b (lnL 3))])) := by
  intro sz9
  refine start_W (by decide) (Nat.le_of_ble_eq_true rfl) (fun p9 e9 s9 m9 a9 b9 t9 c9 C => ?_)
  refine g_lv (lv' := [(0, .ref m), (1, .int (nI q)), (2, .int x)]) rfl ?_
  refine g_aload_n (pc := 0) C dX7_leansBy_0 0 rfl ?_
  refine g_get (pc := 1) (T := TX7) (N := 33) (v := .ref (A 3)) C ib_X7 0 rfl rfl 4 (by decide) mf_X7_20 rfl rfl rfl dX7_leansBy_1 ?_
  refine g_iload_n (pc := 4) C dX7_leansBy_4 1 rfl ?_
  refine g_iald (pc := 5) (v := (τ 0) q) C 1 rfl q (rfl) ⟨by omega, by decide⟩ (rfl) dX7_leansBy_5 ?_
  refine g_top (z := nI 3) (hk) ?_
  refine g_istore_n (pc := 6) (lv' := [(3, .int 3), (0, .ref m), (1, .int (nI q)), (2, .int x)]) C dX7_leansBy_6 rfl (by decide) rfl ?_
  refine g_iload_n (pc := 7) C dX7_leansBy_7 3 rfl ?_
  refine g_istore (pc := 8) (lv' := [(4, .int x), (3, .int 3), (0, .ref m), (1, .int (nI q)), (2, .int x)]) C dX7_leansBy_8 (by decide) rfl ?_
  refine g_iload_n (pc := 10) C dX7_leansBy_10 1 rfl ?_
  refine g_bipush (pc := 11) (v := 6) C dX7_leansBy_11 (by decide) ?_
  refine g_icmpN_ne (pc := 13) (i := 3) (j := 6) (tgt := 32) C dX7_leansBy_13 (by decide) ⟨by omega, by omega⟩ (fun h13 => ?_) (fun h13 => absurd h13 (by decide))
  refine g_iload_n (pc := 32) C dX7_leansBy_32 1 rfl ?_
  refine g_iconst (pc := 33) (v := 3) C dX7_leansBy_33 (by decide) ?_
  refine g_icmpN_ne (pc := 34) (i := 3) (j := 3) (tgt := 48) C dX7_leansBy_34 (by decide) ⟨by omega, by omega⟩ (fun h34 => absurd h34 (by decide)) (fun h34 => ?_)
  refine g_aload_n (pc := 37) C dX7_leansBy_37 2 rfl ?_
  refine g_bipush (pc := 38) (v := 40) C dX7_leansBy_38 (by decide) ?_
  refine g_wrVV (pc := 40) (rest := []) (wr := []) C (fun _ => wN G m A τ (upd y 1 (nI (b + 1))) ++ ([iC G (A 12) 20 (bgK kp b 40)])) rfl k_X7_ran (c_X7_ran l G m A τ y kp b 40 (by first | assumption | omega)) ml_X7_303 rfl ⟨Nat.le_of_ble_eq_true rfl, Nat.le_of_ble_eq_true rfl⟩ rfl [0, 1, 2, 3, 4, 5, 6, 7, 8, 9] [] [0, 1, 2, 3, 4, 5, 6, 7, 8, 9] rfl (by decide) rfl (by decide) (by decide) (by decide) (fun _ => rfl) 0 rfl rfl rfl rfl (Nat.le_of_ble_eq_true rfl) ⟨by decide, by decide⟩ dX7_leansBy_40 (fun _ _ => ?_)
  refine g_iload_n (pc := 43) C dX7_leansBy_43 4 rfl ?_
  refine g_iconst (pc := 44) (v := 1) C dX7_leansBy_44 (by decide) ?_
  refine g_iadd (pc := 45) C dX7_leansBy_45 ?_
  refine g_istore (pc := 46) (lv' := [(4, .int (x + 1)), (3, .int 3), (0, .ref m), (1, .int (nI q)), (2, .int x)]) C dX7_leansBy_46 (by decide) rfl ?_
  refine g_iload_n (pc := 48) C dX7_leansBy_48 1 rfl ?_
  refine g_iconst (pc := 49) (v := 2) C dX7_leansBy_49 (by decide) ?_
  refine g_icmpN_eq (pc := 50) (i := 3) (j := 2) (tgt := 58) C dX7_leansBy_50 (by decide) ⟨by omega, by omega⟩ (fun h50 => absurd h50 (by decide)) (fun h50 => ?_)
  refine g_iload_n (pc := 53) C dX7_leansBy_53 1 rfl ?_
  refine g_iconst (pc := 54) (v := 5) C dX7_leansBy_54 (by decide) ?_
  refine g_icmpN_ne (pc := 55) (i := 3) (j := 5) (tgt := 64) C dX7_leansBy_55 (by decide) ⟨by omega, by omega⟩ (fun h55 => ?_) (fun h55 => absurd h55 (by decide))
  refine g_aload_n (pc := 64) C dX7_leansBy_64 2 rfl ?_
  refine g_bipush (pc := 65) (v := 11) C dX7_leansBy_65 (by decide) ?_
  refine g_wrVV (pc := 67) (rest := []) (wr := []) C (fun _ => wN G m A τ (upd y 1 (nI ((b + 1) + 1))) ++ ([iC G (A 12) 20 (bgK (bgK kp b 40) (b + 1) 11)])) rfl k_X7_ran (c_X7_ran l G m A τ y (bgK kp b 40) (b + 1) 11 (by first | assumption | omega)) ml_X7_303 rfl ⟨Nat.le_of_ble_eq_true rfl, Nat.le_of_ble_eq_true rfl⟩ rfl [0, 1, 2, 3, 4, 5, 6, 7, 8, 9] [] [0, 1, 2, 3, 4, 5, 6, 7, 8, 9] rfl (by decide) rfl (by decide) (by decide) (by decide) (fun _ => rfl) 0 rfl rfl rfl rfl (Nat.le_of_ble_eq_true rfl) ⟨by decide, by decide⟩ dX7_leansBy_67 (fun _ _ => ?_)
  refine g_aload_n (pc := 70) C dX7_leansBy_70 2 rfl ?_
  refine g_iload_n (pc := 71) C dX7_leansBy_71 3 rfl ?_
  refine g_iload (pc := 72) C dX7_leansBy_72 0 rfl ?_
  refine g_wrVI (pc := 74) (rest := []) (wr := []) C (fun _ => wN G m A τ (upd y 1 (nI (((b + 1) + 1) + (akL 3).length))) ++ ([iC G (A 12) 20 (rnK (bgK (bgK kp b 40) (b + 1) 11) ((b + 1) + 1) (akL 3))])) rfl k_X7_asksBy (c_X7_asksBy l G m A τ y (bgK (bgK kp b 40) (b + 1) 11) ((b + 1) + 1) q 3 (x + 1) (by first | assumption | omega) (by decide) hk (by first | assumption | omega)) ml_X7_307 rfl ⟨Nat.le_of_ble_eq_true rfl, Nat.le_of_ble_eq_true rfl⟩ rfl [0, 1, 2, 3, 4, 5, 6, 7, 8, 9] [] [0, 1, 2, 3, 4, 5, 6, 7, 8, 9] rfl (by decide) rfl (by decide) (by decide) (by decide) (fun _ => rfl) 0 rfl rfl rfl rfl (Nat.le_of_ble_eq_true rfl) ⟨by decide, by decide⟩ dX7_leansBy_74 (fun r74 _ e74 => ?_)
  subst e74
  refine g_iconst (pc := 77) (v := 2) C dX7_leansBy_77 (by decide) ?_
  refine g_imul (pc := 78) C dX7_leansBy_78 ?_
  refine g_istore (pc := 79) (lv' := [(5, .int ((akV 3 (nI q) (τ 1 q) (x + 1)) * 2)), (4, .int (x + 1)), (3, .int 3), (0, .ref m), (1, .int (nI q)), (2, .int x)]) C dX7_leansBy_79 (by decide) rfl ?_
  refine g_iload_n (pc := 81) C dX7_leansBy_81 2 rfl ?_
  refine g_iconst (pc := 82) (v := 2) C dX7_leansBy_82 (by decide) ?_
  refine g_icmpN_eq (pc := 83) (i := 3) (j := 2) (tgt := 91) C dX7_leansBy_83 (by decide) ⟨by omega, by omega⟩ (fun h83 => absurd h83 (by decide)) (fun h83 => ?_)
  refine g_iload_n (pc := 86) C dX7_leansBy_86 2 rfl ?_
  refine g_iconst (pc := 87) (v := 5) C dX7_leansBy_87 (by decide) ?_
  refine g_icmpN_ne (pc := 88) (i := 3) (j := 5) (tgt := 98) C dX7_leansBy_88 (by decide) ⟨by omega, by omega⟩ (fun h88 => ?_) (fun h88 => absurd h88 (by decide))
  refine g_iload (pc := 98) C dX7_leansBy_98 0 rfl ?_
  exact g_retIW (pc := 100) C rfl rfl () (rfl) (by rfl) (by rfl) dX7_leansBy_100
set_option maxRecDepth 20000 in
set_option maxHeartbeats 4000000 in
theorem c_X7_leansBy_4 (l : Launch) (G : gT) (m : Nat) (A : Nat → Nat) (τ : tT) (y : Nat → Int32) (kp : Nat → Int32) (b : Nat) (q : Nat) (x : Int32) (hq : q < 8) (hk : τ 0 q = 4) (hb : b < 800) : WI l yX7_leansBy cX7_leansBy 6 (some .int) 2 0 0 G [.ref m, .int (nI q), .int x] (wN G m A τ (upd y 1 (nI b)) ++ ([iC G (A 12) 20 kp])) (S := Unit) (fun r _ => r = lnV 4 (nI q) (τ 1 q) x) (fun _ => wN G m A τ (upd y 1 (nI (b + (lnL 4).length))) ++ ([iC G (A 12) 20 (rnK kp b (lnL 4))])) := by
  intro sz9
  refine start_W (by decide) (Nat.le_of_ble_eq_true rfl) (fun p9 e9 s9 m9 a9 b9 t9 c9 C => ?_)
  refine g_lv (lv' := [(0, .ref m), (1, .int (nI q)), (2, .int x)]) rfl ?_
  refine g_aload_n (pc := 0) C dX7_leansBy_0 0 rfl ?_
  refine g_get (pc := 1) (T := TX7) (N := 33) (v := .ref (A 3)) C ib_X7 0 rfl rfl 4 (by decide) mf_X7_20 rfl rfl rfl dX7_leansBy_1 ?_
  refine g_iload_n (pc := 4) C dX7_leansBy_4 1 rfl ?_
  refine g_iald (pc := 5) (v := (τ 0) q) C 1 rfl q (rfl) ⟨by omega, by decide⟩ (rfl) dX7_leansBy_5 ?_
  refine g_top (z := nI 4) (hk) ?_
  refine g_istore_n (pc := 6) (lv' := [(3, .int 4), (0, .ref m), (1, .int (nI q)), (2, .int x)]) C dX7_leansBy_6 rfl (by decide) rfl ?_
  refine g_iload_n (pc := 7) C dX7_leansBy_7 3 rfl ?_
  refine g_istore (pc := 8) (lv' := [(4, .int x), (3, .int 4), (0, .ref m), (1, .int (nI q)), (2, .int x)]) C dX7_leansBy_8 (by decide) rfl ?_
  refine g_iload_n (pc := 10) C dX7_leansBy_10 1 rfl ?_
  refine g_bipush (pc := 11) (v := 6) C dX7_leansBy_11 (by decide) ?_
  refine g_icmpN_ne (pc := 13) (i := 4) (j := 6) (tgt := 32) C dX7_leansBy_13 (by decide) ⟨by omega, by omega⟩ (fun h13 => ?_) (fun h13 => absurd h13 (by decide))
  refine g_iload_n (pc := 32) C dX7_leansBy_32 1 rfl ?_
  refine g_iconst (pc := 33) (v := 3) C dX7_leansBy_33 (by decide) ?_
  refine g_icmpN_ne (pc := 34) (i := 4) (j := 3) (tgt := 48) C dX7_leansBy_34 (by decide) ⟨by omega, by omega⟩ (fun h34 => ?_) (fun h34 => absurd h34 (by decide))
  refine g_iload_n (pc := 48) C dX7_leansBy_48 1 rfl ?_
  refine g_iconst (pc := 49) (v := 2) C dX7_leansBy_49 (by decide) ?_
  refine g_icmpN_eq (pc := 50) (i := 4) (j := 2) (tgt := 58) C dX7_leansBy_50 (by decide) ⟨by omega, by omega⟩ (fun h50 => absurd h50 (by decide)) (fun h50 => ?_)
  refine g_iload_n (pc := 53) C dX7_leansBy_53 1 rfl ?_
  refine g_iconst (pc := 54) (v := 5) C dX7_leansBy_54 (by decide) ?_
  refine g_icmpN_ne (pc := 55) (i := 4) (j := 5) (tgt := 64) C dX7_leansBy_55 (by decide) ⟨by omega, by omega⟩ (fun h55 => ?_) (fun h55 => absurd h55 (by decide))
  refine g_aload_n (pc := 64) C dX7_leansBy_64 2 rfl ?_
  refine g_bipush (pc := 65) (v := 11) C dX7_leansBy_65 (by decide) ?_
  refine g_wrVV (pc := 67) (rest := []) (wr := []) C (fun _ => wN G m A τ (upd y 1 (nI (b + 1))) ++ ([iC G (A 12) 20 (bgK kp b 11)])) rfl k_X7_ran (c_X7_ran l G m A τ y kp b 11 (by first | assumption | omega)) ml_X7_303 rfl ⟨Nat.le_of_ble_eq_true rfl, Nat.le_of_ble_eq_true rfl⟩ rfl [0, 1, 2, 3, 4, 5, 6, 7, 8, 9] [] [0, 1, 2, 3, 4, 5, 6, 7, 8, 9] rfl (by decide) rfl (by decide) (by decide) (by decide) (fun _ => rfl) 0 rfl rfl rfl rfl (Nat.le_of_ble_eq_true rfl) ⟨by decide, by decide⟩ dX7_leansBy_67 (fun _ _ => ?_)
  refine g_aload_n (pc := 70) C dX7_leansBy_70 2 rfl ?_
  refine g_iload_n (pc := 71) C dX7_leansBy_71 3 rfl ?_
  refine g_iload (pc := 72) C dX7_leansBy_72 0 rfl ?_
  refine g_wrVI (pc := 74) (rest := []) (wr := []) C (fun _ => wN G m A τ (upd y 1 (nI ((b + 1) + (akL 4).length))) ++ ([iC G (A 12) 20 (rnK (bgK kp b 11) (b + 1) (akL 4))])) rfl k_X7_asksBy (c_X7_asksBy l G m A τ y (bgK kp b 11) (b + 1) q 4 x (by first | assumption | omega) (by decide) hk (by first | assumption | omega)) ml_X7_307 rfl ⟨Nat.le_of_ble_eq_true rfl, Nat.le_of_ble_eq_true rfl⟩ rfl [0, 1, 2, 3, 4, 5, 6, 7, 8, 9] [] [0, 1, 2, 3, 4, 5, 6, 7, 8, 9] rfl (by decide) rfl (by decide) (by decide) (by decide) (fun _ => rfl) 0 rfl rfl rfl rfl (Nat.le_of_ble_eq_true rfl) ⟨by decide, by decide⟩ dX7_leansBy_74 (fun r74 _ e74 => ?_)
  subst e74
  refine g_iconst (pc := 77) (v := 2) C dX7_leansBy_77 (by decide) ?_
  refine g_imul (pc := 78) C dX7_leansBy_78 ?_
  refine g_istore (pc := 79) (lv' := [(5, .int ((akV 4 (nI q) (τ 1 q) x) * 2)), (4, .int x), (3, .int 4), (0, .ref m), (1, .int (nI q)), (2, .int x)]) C dX7_leansBy_79 (by decide) rfl ?_
  refine g_iload_n (pc := 81) C dX7_leansBy_81 2 rfl ?_
  refine g_iconst (pc := 82) (v := 2) C dX7_leansBy_82 (by decide) ?_
  refine g_icmpN_eq (pc := 83) (i := 4) (j := 2) (tgt := 91) C dX7_leansBy_83 (by decide) ⟨by omega, by omega⟩ (fun h83 => absurd h83 (by decide)) (fun h83 => ?_)
  refine g_iload_n (pc := 86) C dX7_leansBy_86 2 rfl ?_
  refine g_iconst (pc := 87) (v := 5) C dX7_leansBy_87 (by decide) ?_
  refine g_icmpN_ne (pc := 88) (i := 4) (j := 5) (tgt := 98) C dX7_leansBy_88 (by decide) ⟨by omega, by omega⟩ (fun h88 => ?_) (fun h88 => absurd h88 (by decide))
  refine g_iload (pc := 98) C dX7_leansBy_98 0 rfl ?_
  exact g_retIW (pc := 100) C rfl rfl () (rfl) (by rfl) (by rfl) dX7_leansBy_100
set_option maxRecDepth 20000 in
set_option maxHeartbeats 4000000 in
theorem c_X7_leansBy_5 (l : Launch) (G : gT) (m : Nat) (A : Nat → Nat) (τ : tT) (y : Nat → Int32) (kp : Nat → Int32) (b : Nat) (q : Nat) (x : Int32) (hq : q < 8) (hk : τ 0 q = 5) (hb : b < 800) : WI l yX7_leansBy cX7_leansBy 6 (some .int) 2 0 0 G [.ref m, .int (nI q), .int x] (wN G m A τ (upd y 1 (nI b)) ++ ([iC G (A 12) 20 kp])) (S := Unit) (fun r _ => r = lnV 5 (nI q) (τ 1 q) x) (fun _ => wN G m A τ (upd y 1 (nI (b + (lnL 5).length))) ++ ([iC G (A 12) 20 (rnK kp b (lnL 5))])) := by
  intro sz9
  refine start_W (by decide) (Nat.le_of_ble_eq_true rfl) (fun p9 e9 s9 m9 a9 b9 t9 c9 C => ?_)
  refine g_lv (lv' := [(0, .ref m), (1, .int (nI q)), (2, .int x)]) rfl ?_
  refine g_aload_n (pc := 0) C dX7_leansBy_0 0 rfl ?_
  refine g_get (pc := 1) (T := TX7) (N := 33) (v := .ref (A 3)) C ib_X7 0 rfl rfl 4 (by decide) mf_X7_20 rfl rfl rfl dX7_leansBy_1 ?_
  refine g_iload_n (pc := 4) C dX7_leansBy_4 1 rfl ?_
  refine g_iald (pc := 5) (v := (τ 0) q) C 1 rfl q (rfl) ⟨by omega, by decide⟩ (rfl) dX7_leansBy_5 ?_
  refine g_top (z := nI 5) (hk) ?_
  refine g_istore_n (pc := 6) (lv' := [(3, .int 5), (0, .ref m), (1, .int (nI q)), (2, .int x)]) C dX7_leansBy_6 rfl (by decide) rfl ?_
  refine g_iload_n (pc := 7) C dX7_leansBy_7 3 rfl ?_
  refine g_istore (pc := 8) (lv' := [(4, .int x), (3, .int 5), (0, .ref m), (1, .int (nI q)), (2, .int x)]) C dX7_leansBy_8 (by decide) rfl ?_
  refine g_iload_n (pc := 10) C dX7_leansBy_10 1 rfl ?_
  refine g_bipush (pc := 11) (v := 6) C dX7_leansBy_11 (by decide) ?_
  refine g_icmpN_ne (pc := 13) (i := 5) (j := 6) (tgt := 32) C dX7_leansBy_13 (by decide) ⟨by omega, by omega⟩ (fun h13 => ?_) (fun h13 => absurd h13 (by decide))
  refine g_iload_n (pc := 32) C dX7_leansBy_32 1 rfl ?_
  refine g_iconst (pc := 33) (v := 3) C dX7_leansBy_33 (by decide) ?_
  refine g_icmpN_ne (pc := 34) (i := 5) (j := 3) (tgt := 48) C dX7_leansBy_34 (by decide) ⟨by omega, by omega⟩ (fun h34 => ?_) (fun h34 => absurd h34 (by decide))
  refine g_iload_n (pc := 48) C dX7_leansBy_48 1 rfl ?_
  refine g_iconst (pc := 49) (v := 2) C dX7_leansBy_49 (by decide) ?_
  refine g_icmpN_eq (pc := 50) (i := 5) (j := 2) (tgt := 58) C dX7_leansBy_50 (by decide) ⟨by omega, by omega⟩ (fun h50 => absurd h50 (by decide)) (fun h50 => ?_)
  refine g_iload_n (pc := 53) C dX7_leansBy_53 1 rfl ?_
  refine g_iconst (pc := 54) (v := 5) C dX7_leansBy_54 (by decide) ?_
  refine g_icmpN_ne (pc := 55) (i := 5) (j := 5) (tgt := 64) C dX7_leansBy_55 (by decide) ⟨by omega, by omega⟩ (fun h55 => absurd h55 (by decide)) (fun h55 => ?_)
  refine g_aload_n (pc := 58) C dX7_leansBy_58 2 rfl ?_
  refine g_bipush (pc := 59) (v := 30) C dX7_leansBy_59 (by decide) ?_
  refine g_wrVV (pc := 61) (rest := []) (wr := []) C (fun _ => wN G m A τ (upd y 1 (nI (b + 1))) ++ ([iC G (A 12) 20 (bgK kp b 30)])) rfl k_X7_ran (c_X7_ran l G m A τ y kp b 30 (by first | assumption | omega)) ml_X7_303 rfl ⟨Nat.le_of_ble_eq_true rfl, Nat.le_of_ble_eq_true rfl⟩ rfl [0, 1, 2, 3, 4, 5, 6, 7, 8, 9] [] [0, 1, 2, 3, 4, 5, 6, 7, 8, 9] rfl (by decide) rfl (by decide) (by decide) (by decide) (fun _ => rfl) 0 rfl rfl rfl rfl (Nat.le_of_ble_eq_true rfl) ⟨by decide, by decide⟩ dX7_leansBy_61 (fun _ _ => ?_)
  refine g_aload_n (pc := 64) C dX7_leansBy_64 2 rfl ?_
  refine g_bipush (pc := 65) (v := 11) C dX7_leansBy_65 (by decide) ?_
  refine g_wrVV (pc := 67) (rest := []) (wr := []) C (fun _ => wN G m A τ (upd y 1 (nI ((b + 1) + 1))) ++ ([iC G (A 12) 20 (bgK (bgK kp b 30) (b + 1) 11)])) rfl k_X7_ran (c_X7_ran l G m A τ y (bgK kp b 30) (b + 1) 11 (by first | assumption | omega)) ml_X7_303 rfl ⟨Nat.le_of_ble_eq_true rfl, Nat.le_of_ble_eq_true rfl⟩ rfl [0, 1, 2, 3, 4, 5, 6, 7, 8, 9] [] [0, 1, 2, 3, 4, 5, 6, 7, 8, 9] rfl (by decide) rfl (by decide) (by decide) (by decide) (fun _ => rfl) 0 rfl rfl rfl rfl (Nat.le_of_ble_eq_true rfl) ⟨by decide, by decide⟩ dX7_leansBy_67 (fun _ _ => ?_)
  refine g_aload_n (pc := 70) C dX7_leansBy_70 2 rfl ?_
  refine g_iload_n (pc := 71) C dX7_leansBy_71 3 rfl ?_
  refine g_iload (pc := 72) C dX7_leansBy_72 0 rfl ?_
  refine g_wrVI (pc := 74) (rest := []) (wr := []) C (fun _ => wN G m A τ (upd y 1 (nI (((b + 1) + 1) + (akL 5).length))) ++ ([iC G (A 12) 20 (rnK (bgK (bgK kp b 30) (b + 1) 11) ((b + 1) + 1) (akL 5))])) rfl k_X7_asksBy (c_X7_asksBy l G m A τ y (bgK (bgK kp b 30) (b + 1) 11) ((b + 1) + 1) q 5 x (by first | assumption | omega) (by decide) hk (by first | assumption | omega)) ml_X7_307 rfl ⟨Nat.le_of_ble_eq_true rfl, Nat.le_of_ble_eq_true rfl⟩ rfl [0, 1, 2, 3, 4, 5, 6, 7, 8, 9] [] [0, 1, 2, 3, 4, 5, 6, 7, 8, 9] rfl (by decide) rfl (by decide) (by decide) (by decide) (fun _ => rfl) 0 rfl rfl rfl rfl (Nat.le_of_ble_eq_true rfl) ⟨by decide, by decide⟩ dX7_leansBy_74 (fun r74 _ e74 => ?_)
  subst e74
  refine g_iconst (pc := 77) (v := 2) C dX7_leansBy_77 (by decide) ?_
  refine g_imul (pc := 78) C dX7_leansBy_78 ?_
  refine g_istore (pc := 79) (lv' := [(5, .int ((akV 5 (nI q) (τ 1 q) x) * 2)), (4, .int x), (3, .int 5), (0, .ref m), (1, .int (nI q)), (2, .int x)]) C dX7_leansBy_79 (by decide) rfl ?_
  refine g_iload_n (pc := 81) C dX7_leansBy_81 2 rfl ?_
  refine g_iconst (pc := 82) (v := 2) C dX7_leansBy_82 (by decide) ?_
  refine g_icmpN_eq (pc := 83) (i := 5) (j := 2) (tgt := 91) C dX7_leansBy_83 (by decide) ⟨by omega, by omega⟩ (fun h83 => absurd h83 (by decide)) (fun h83 => ?_)
  refine g_iload_n (pc := 86) C dX7_leansBy_86 2 rfl ?_
  refine g_iconst (pc := 87) (v := 5) C dX7_leansBy_87 (by decide) ?_
  refine g_icmpN_ne (pc := 88) (i := 5) (j := 5) (tgt := 98) C dX7_leansBy_88 (by decide) ⟨by omega, by omega⟩ (fun h88 => absurd h88 (by decide)) (fun h88 => ?_)
  refine g_iload (pc := 91) C dX7_leansBy_91 0 rfl ?_
  refine g_iconst (pc := 93) (v := 3) C dX7_leansBy_93 (by decide) ?_
  refine g_imul (pc := 94) C dX7_leansBy_94 ?_
  refine g_goto (pc := 95) (tgt := 100) C dX7_leansBy_95 (by decide) ?_
  exact g_retIW (pc := 100) C rfl rfl () (rfl) (by rfl) (by rfl) dX7_leansBy_100
set_option maxRecDepth 20000 in
set_option maxHeartbeats 4000000 in
theorem c_X7_leansBy_6 (l : Launch) (G : gT) (m : Nat) (A : Nat → Nat) (τ : tT) (y : Nat → Int32) (kp : Nat → Int32) (b : Nat) (q : Nat) (x : Int32) (hq : q < 8) (hk : τ 0 q = 6) (hb : b < 800) : WI l yX7_leansBy cX7_leansBy 6 (some .int) 2 0 0 G [.ref m, .int (nI q), .int x] (wN G m A τ (upd y 1 (nI b)) ++ ([iC G (A 12) 20 kp])) (S := Unit) (fun r _ => r = lnV 6 (nI q) (τ 1 q) x) (fun _ => wN G m A τ (upd y 1 (nI (b + (lnL 6).length))) ++ ([iC G (A 12) 20 (rnK kp b (lnL 6))])) := by
  intro sz9
  refine start_W (by decide) (Nat.le_of_ble_eq_true rfl) (fun p9 e9 s9 m9 a9 b9 t9 c9 C => ?_)
  refine g_lv (lv' := [(0, .ref m), (1, .int (nI q)), (2, .int x)]) rfl ?_
  refine g_aload_n (pc := 0) C dX7_leansBy_0 0 rfl ?_
  refine g_get (pc := 1) (T := TX7) (N := 33) (v := .ref (A 3)) C ib_X7 0 rfl rfl 4 (by decide) mf_X7_20 rfl rfl rfl dX7_leansBy_1 ?_
  refine g_iload_n (pc := 4) C dX7_leansBy_4 1 rfl ?_
  refine g_iald (pc := 5) (v := (τ 0) q) C 1 rfl q (rfl) ⟨by omega, by decide⟩ (rfl) dX7_leansBy_5 ?_
  refine g_top (z := nI 6) (hk) ?_
  refine g_istore_n (pc := 6) (lv' := [(3, .int 6), (0, .ref m), (1, .int (nI q)), (2, .int x)]) C dX7_leansBy_6 rfl (by decide) rfl ?_
  refine g_iload_n (pc := 7) C dX7_leansBy_7 3 rfl ?_
  refine g_istore (pc := 8) (lv' := [(4, .int x), (3, .int 6), (0, .ref m), (1, .int (nI q)), (2, .int x)]) C dX7_leansBy_8 (by decide) rfl ?_
  refine g_iload_n (pc := 10) C dX7_leansBy_10 1 rfl ?_
  refine g_bipush (pc := 11) (v := 6) C dX7_leansBy_11 (by decide) ?_
  refine g_icmpN_ne (pc := 13) (i := 6) (j := 6) (tgt := 32) C dX7_leansBy_13 (by decide) ⟨by omega, by omega⟩ (fun h13 => absurd h13 (by decide)) (fun h13 => ?_)
  refine g_aload_n (pc := 16) C dX7_leansBy_16 2 rfl ?_
  refine g_bipush (pc := 17) (v := 71) C dX7_leansBy_17 (by decide) ?_
  refine g_wrVV (pc := 19) (rest := []) (wr := []) C (fun _ => wN G m A τ (upd y 1 (nI (b + 1))) ++ ([iC G (A 12) 20 (bgK kp b 71)])) rfl k_X7_ran (c_X7_ran l G m A τ y kp b 71 (by first | assumption | omega)) ml_X7_303 rfl ⟨Nat.le_of_ble_eq_true rfl, Nat.le_of_ble_eq_true rfl⟩ rfl [0, 1, 2, 3, 4, 5, 6, 7, 8, 9] [] [0, 1, 2, 3, 4, 5, 6, 7, 8, 9] rfl (by decide) rfl (by decide) (by decide) (by decide) (fun _ => rfl) 0 rfl rfl rfl rfl (Nat.le_of_ble_eq_true rfl) ⟨by decide, by decide⟩ dX7_leansBy_19 (fun _ _ => ?_)
  refine g_iload_n (pc := 22) C dX7_leansBy_22 4 rfl ?_
  refine g_aload_n (pc := 23) C dX7_leansBy_23 2 rfl ?_
  refine g_get (pc := 24) (T := TX7) (N := 33) (v := .ref (A 4)) C ib_X7 0 rfl rfl 5 (by decide) mf_X7_23 rfl rfl rfl dX7_leansBy_24 ?_
  refine g_iload_n (pc := 27) C dX7_leansBy_27 3 rfl ?_
  refine g_iald (pc := 28) (v := (τ 1) q) C 2 rfl q (rfl) ⟨by omega, by decide⟩ (rfl) dX7_leansBy_28 ?_
  refine g_isub (pc := 29) C dX7_leansBy_29 ?_
  refine g_istore (pc := 30) (lv' := [(4, .int (x - ((τ 1) q))), (3, .int 6), (0, .ref m), (1, .int (nI q)), (2, .int x)]) C dX7_leansBy_30 (by decide) rfl ?_
  refine g_iload_n (pc := 32) C dX7_leansBy_32 1 rfl ?_
  refine g_iconst (pc := 33) (v := 3) C dX7_leansBy_33 (by decide) ?_
  refine g_icmpN_ne (pc := 34) (i := 6) (j := 3) (tgt := 48) C dX7_leansBy_34 (by decide) ⟨by omega, by omega⟩ (fun h34 => ?_) (fun h34 => absurd h34 (by decide))
  refine g_iload_n (pc := 48) C dX7_leansBy_48 1 rfl ?_
  refine g_iconst (pc := 49) (v := 2) C dX7_leansBy_49 (by decide) ?_
  refine g_icmpN_eq (pc := 50) (i := 6) (j := 2) (tgt := 58) C dX7_leansBy_50 (by decide) ⟨by omega, by omega⟩ (fun h50 => absurd h50 (by decide)) (fun h50 => ?_)
  refine g_iload_n (pc := 53) C dX7_leansBy_53 1 rfl ?_
  refine g_iconst (pc := 54) (v := 5) C dX7_leansBy_54 (by decide) ?_
  refine g_icmpN_ne (pc := 55) (i := 6) (j := 5) (tgt := 64) C dX7_leansBy_55 (by decide) ⟨by omega, by omega⟩ (fun h55 => ?_) (fun h55 => absurd h55 (by decide))
  refine g_aload_n (pc := 64) C dX7_leansBy_64 2 rfl ?_
  refine g_bipush (pc := 65) (v := 11) C dX7_leansBy_65 (by decide) ?_
  refine g_wrVV (pc := 67) (rest := []) (wr := []) C (fun _ => wN G m A τ (upd y 1 (nI ((b + 1) + 1))) ++ ([iC G (A 12) 20 (bgK (bgK kp b 71) (b + 1) 11)])) rfl k_X7_ran (c_X7_ran l G m A τ y (bgK kp b 71) (b + 1) 11 (by first | assumption | omega)) ml_X7_303 rfl ⟨Nat.le_of_ble_eq_true rfl, Nat.le_of_ble_eq_true rfl⟩ rfl [0, 1, 2, 3, 4, 5, 6, 7, 8, 9] [] [0, 1, 2, 3, 4, 5, 6, 7, 8, 9] rfl (by decide) rfl (by decide) (by decide) (by decide) (fun _ => rfl) 0 rfl rfl rfl rfl (Nat.le_of_ble_eq_true rfl) ⟨by decide, by decide⟩ dX7_leansBy_67 (fun _ _ => ?_)
  refine g_aload_n (pc := 70) C dX7_leansBy_70 2 rfl ?_
  refine g_iload_n (pc := 71) C dX7_leansBy_71 3 rfl ?_
  refine g_iload (pc := 72) C dX7_leansBy_72 0 rfl ?_
  refine g_wrVI (pc := 74) (rest := []) (wr := []) C (fun _ => wN G m A τ (upd y 1 (nI (((b + 1) + 1) + (akL 6).length))) ++ ([iC G (A 12) 20 (rnK (bgK (bgK kp b 71) (b + 1) 11) ((b + 1) + 1) (akL 6))])) rfl k_X7_asksBy (c_X7_asksBy l G m A τ y (bgK (bgK kp b 71) (b + 1) 11) ((b + 1) + 1) q 6 (x - ((τ 1) q)) (by first | assumption | omega) (by decide) hk (by first | assumption | omega)) ml_X7_307 rfl ⟨Nat.le_of_ble_eq_true rfl, Nat.le_of_ble_eq_true rfl⟩ rfl [0, 1, 2, 3, 4, 5, 6, 7, 8, 9] [] [0, 1, 2, 3, 4, 5, 6, 7, 8, 9] rfl (by decide) rfl (by decide) (by decide) (by decide) (fun _ => rfl) 0 rfl rfl rfl rfl (Nat.le_of_ble_eq_true rfl) ⟨by decide, by decide⟩ dX7_leansBy_74 (fun r74 _ e74 => ?_)
  subst e74
  refine g_iconst (pc := 77) (v := 2) C dX7_leansBy_77 (by decide) ?_
  refine g_imul (pc := 78) C dX7_leansBy_78 ?_
  refine g_istore (pc := 79) (lv' := [(5, .int ((akV 6 (nI q) (τ 1 q) (x - ((τ 1) q))) * 2)), (4, .int (x - ((τ 1) q))), (3, .int 6), (0, .ref m), (1, .int (nI q)), (2, .int x)]) C dX7_leansBy_79 (by decide) rfl ?_
  refine g_iload_n (pc := 81) C dX7_leansBy_81 2 rfl ?_
  refine g_iconst (pc := 82) (v := 2) C dX7_leansBy_82 (by decide) ?_
  refine g_icmpN_eq (pc := 83) (i := 6) (j := 2) (tgt := 91) C dX7_leansBy_83 (by decide) ⟨by omega, by omega⟩ (fun h83 => absurd h83 (by decide)) (fun h83 => ?_)
  refine g_iload_n (pc := 86) C dX7_leansBy_86 2 rfl ?_
  refine g_iconst (pc := 87) (v := 5) C dX7_leansBy_87 (by decide) ?_
  refine g_icmpN_ne (pc := 88) (i := 6) (j := 5) (tgt := 98) C dX7_leansBy_88 (by decide) ⟨by omega, by omega⟩ (fun h88 => ?_) (fun h88 => absurd h88 (by decide))
  refine g_iload (pc := 98) C dX7_leansBy_98 0 rfl ?_
  exact g_retIW (pc := 100) C rfl rfl () (rfl) (by rfl) (by rfl) dX7_leansBy_100
theorem c_X7_leansBy (l : Launch) (G : gT) (m : Nat) (A : Nat → Nat) (τ : tT) (y : Nat → Int32) (kp : Nat → Int32) (b : Nat) (q : Nat) (k : Nat) (x : Int32) (hq : q < 8) (hk : k ≤ 6) (hkk : τ 0 q = nI k) (hb : b < 800) : WI l yX7_leansBy cX7_leansBy 6 (some .int) 2 0 0 G [.ref m, .int (nI q), .int x] (wN G m A τ (upd y 1 (nI b)) ++ ([iC G (A 12) 20 kp])) (S := Unit) (fun r _ => r = lnV k (nI q) (τ 1 q) x) (fun _ => wN G m A τ (upd y 1 (nI (b + (lnL k).length))) ++ ([iC G (A 12) 20 (rnK kp b (lnL k))])) := by
  rcases (show k = 0 ∨ k = 1 ∨ k = 2 ∨ k = 3 ∨ k = 4 ∨ k = 5 ∨ k = 6 from by omega) with rfl | rfl | rfl | rfl | rfl | rfl | rfl
  · exact c_X7_leansBy_0 l G m A τ y kp b q x hq hkk hb
  · exact c_X7_leansBy_1 l G m A τ y kp b q x hq hkk hb
  · exact c_X7_leansBy_2 l G m A τ y kp b q x hq hkk hb
  · exact c_X7_leansBy_3 l G m A τ y kp b q x hq hkk hb
  · exact c_X7_leansBy_4 l G m A τ y kp b q x hq hkk hb
  · exact c_X7_leansBy_5 l G m A τ y kp b q x hq hkk hb
  · exact c_X7_leansBy_6 l G m A τ y kp b q x hq hkk hb
set_option maxRecDepth 20000 in
set_option maxHeartbeats 4000000 in
theorem c_X7_sumsBy_0 (l : Launch) (G : gT) (m : Nat) (A : Nat → Nat) (τ : tT) (y : Nat → Int32) (kp : Nat → Int32) (b : Nat) (q : Nat) (x : Int32) (hq : q < 8) (hk : τ 0 q = 0) (hb : b < 700) : WI l yX7_sumsBy cX7_sumsBy 6 (some .int) 3 0 0 G [.ref m, .int (nI q), .int x] (wN G m A τ (upd y 1 (nI b)) ++ ([iC G (A 12) 20 kp])) (S := Unit) (fun r _ => r = smV 0 (nI q) (τ 1 q) x) (fun _ => wN G m A τ (upd y 1 (nI (b + (smL 0).length))) ++ ([iC G (A 12) 20 (rnK kp b (smL 0))])) := by
  intro sz9
  refine start_W (by decide) (Nat.le_of_ble_eq_true rfl) (fun p9 e9 s9 m9 a9 b9 t9 c9 C => ?_)
  refine g_lv (lv' := [(0, .ref m), (1, .int (nI q)), (2, .int x)]) rfl ?_
  refine g_aload_n (pc := 0) C dX7_sumsBy_0 0 rfl ?_
  refine g_get (pc := 1) (T := TX7) (N := 33) (v := .ref (A 3)) C ib_X7 0 rfl rfl 4 (by decide) mf_X7_20 rfl rfl rfl dX7_sumsBy_1 ?_
  refine g_iload_n (pc := 4) C dX7_sumsBy_4 1 rfl ?_
  refine g_iald (pc := 5) (v := (τ 0) q) C 1 rfl q (rfl) ⟨by omega, by decide⟩ (rfl) dX7_sumsBy_5 ?_
  refine g_top (z := nI 0) (hk) ?_
  refine g_istore_n (pc := 6) (lv' := [(3, .int 0), (0, .ref m), (1, .int (nI q)), (2, .int x)]) C dX7_sumsBy_6 rfl (by decide) rfl ?_
  refine g_iload_n (pc := 7) C dX7_sumsBy_7 0 rfl ?_
  refine g_iconst (pc := 8) (v := 4) C dX7_sumsBy_8 (by decide) ?_
  refine g_icmpN_eq (pc := 9) (i := 0) (j := 4) (tgt := 18) C dX7_sumsBy_9 (by decide) ⟨by omega, by omega⟩ (fun h9 => absurd h9 (by decide)) (fun h9 => ?_)
  refine g_iload_n (pc := 12) C dX7_sumsBy_12 0 rfl ?_
  refine g_bipush (pc := 13) (v := 6) C dX7_sumsBy_13 (by decide) ?_
  refine g_icmpN_ne (pc := 15) (i := 0) (j := 6) (tgt := 24) C dX7_sumsBy_15 (by decide) ⟨by omega, by omega⟩ (fun h15 => ?_) (fun h15 => absurd h15 (by decide))
  refine g_iload_n (pc := 24) C dX7_sumsBy_24 0 rfl ?_
  refine g_iconst (pc := 25) (v := 5) C dX7_sumsBy_25 (by decide) ?_
  refine g_icmpN_ne (pc := 26) (i := 0) (j := 5) (tgt := 35) C dX7_sumsBy_26 (by decide) ⟨by omega, by omega⟩ (fun h26 => ?_) (fun h26 => absurd h26 (by decide))
  refine g_aload_n (pc := 35) C dX7_sumsBy_35 1 rfl ?_
  refine g_bipush (pc := 36) (v := 12) C dX7_sumsBy_36 (by decide) ?_
  refine g_wrVV (pc := 38) (rest := []) (wr := []) C (fun _ => wN G m A τ (upd y 1 (nI (b + 1))) ++ ([iC G (A 12) 20 (bgK kp b 12)])) rfl k_X7_ran (c_X7_ran l G m A τ y kp b 12 (by first | assumption | omega)) ml_X7_303 rfl ⟨Nat.le_of_ble_eq_true rfl, Nat.le_of_ble_eq_true rfl⟩ rfl [0, 1, 2, 3, 4, 5, 6, 7, 8, 9] [] [0, 1, 2, 3, 4, 5, 6, 7, 8, 9] rfl (by decide) rfl (by decide) (by decide) (by decide) (fun _ => rfl) 0 rfl rfl rfl rfl (Nat.le_of_ble_eq_true rfl) ⟨by decide, by decide⟩ dX7_sumsBy_38 (fun _ _ => ?_)
  refine g_aload_n (pc := 41) C dX7_sumsBy_41 1 rfl ?_
  refine g_iload_n (pc := 42) C dX7_sumsBy_42 2 rfl ?_
  refine g_iload_n (pc := 43) C dX7_sumsBy_43 3 rfl ?_
  refine g_wrVI (pc := 44) (rest := []) (wr := []) C (fun _ => wN G m A τ (upd y 1 (nI ((b + 1) + (lnL 0).length))) ++ ([iC G (A 12) 20 (rnK (bgK kp b 12) (b + 1) (lnL 0))])) rfl k_X7_leansBy (c_X7_leansBy l G m A τ y (bgK kp b 12) (b + 1) q 0 x (by first | assumption | omega) (by decide) hk (by first | assumption | omega)) ml_X7_310 rfl ⟨Nat.le_of_ble_eq_true rfl, Nat.le_of_ble_eq_true rfl⟩ rfl [0, 1, 2, 3, 4, 5, 6, 7, 8, 9] [] [0, 1, 2, 3, 4, 5, 6, 7, 8, 9] rfl (by decide) rfl (by decide) (by decide) (by decide) (fun _ => rfl) 0 rfl rfl rfl rfl (Nat.le_of_ble_eq_true rfl) ⟨by decide, by decide⟩ dX7_sumsBy_44 (fun r44 _ e44 => ?_)
  subst e44
  refine g_istore (pc := 47) (lv' := [(4, .int (lnV 0 (nI q) (τ 1 q) x)), (3, .int 0), (0, .ref m), (1, .int (nI q)), (2, .int x)]) C dX7_sumsBy_47 (by decide) rfl ?_
  refine g_iload (pc := 49) C dX7_sumsBy_49 0 rfl ?_
  refine g_aload_n (pc := 51) C dX7_sumsBy_51 2 rfl ?_
  refine g_iload_n (pc := 52) C dX7_sumsBy_52 3 rfl ?_
  refine g_iload_n (pc := 53) C dX7_sumsBy_53 4 rfl ?_
  refine g_aload_n (pc := 54) C dX7_sumsBy_54 2 rfl ?_
  refine g_get (pc := 55) (T := TX7) (N := 33) (v := .ref (A 4)) C ib_X7 0 rfl rfl 5 (by decide) mf_X7_23 rfl rfl rfl dX7_sumsBy_55 ?_
  refine g_iload_n (pc := 58) C dX7_sumsBy_58 3 rfl ?_
  refine g_iald (pc := 59) (v := (τ 1) q) C 2 rfl q (rfl) ⟨by omega, by decide⟩ (rfl) dX7_sumsBy_59 ?_
  refine g_isub (pc := 60) C dX7_sumsBy_60 ?_
  refine g_wrVI (pc := 61) (rest := [.int (lnV 0 (nI q) (τ 1 q) x)]) (wr := []) C (fun _ => wN G m A τ (upd y 1 (nI (((b + 1) + (lnL 0).length) + (akL 0).length))) ++ ([iC G (A 12) 20 (rnK (rnK (bgK kp b 12) (b + 1) (lnL 0)) ((b + 1) + (lnL 0).length) (akL 0))])) rfl k_X7_asksBy (c_X7_asksBy l G m A τ y (rnK (bgK kp b 12) (b + 1) (lnL 0)) ((b + 1) + (lnL 0).length) q 0 (x - ((τ 1) q)) (by first | assumption | omega) (by decide) hk (by show _ < 900; have e9 : (lnL 0).length = 2 := rfl; omega)) ml_X7_307 rfl ⟨Nat.le_of_ble_eq_true rfl, Nat.le_of_ble_eq_true rfl⟩ rfl [0, 1, 2, 3, 4, 5, 6, 7, 8, 9] [] [0, 1, 2, 3, 4, 5, 6, 7, 8, 9] rfl (by decide) rfl (by decide) (by decide) (by decide) (fun _ => rfl) 0 rfl rfl rfl rfl (Nat.le_of_ble_eq_true rfl) ⟨by decide, by decide⟩ dX7_sumsBy_61 (fun r61 _ e61 => ?_)
  subst e61
  refine g_ixor (pc := 64) C dX7_sumsBy_64 ?_
  refine g_istore (pc := 65) (lv' := [(5, .int ((lnV 0 (nI q) (τ 1 q) x) ^^^ (akV 0 (nI q) (τ 1 q) (x - ((τ 1) q))))), (4, .int (lnV 0 (nI q) (τ 1 q) x)), (3, .int 0), (0, .ref m), (1, .int (nI q)), (2, .int x)]) C dX7_sumsBy_65 (by decide) rfl ?_
  refine g_iload_n (pc := 67) C dX7_sumsBy_67 2 rfl ?_
  refine g_iconst (pc := 68) (v := 4) C dX7_sumsBy_68 (by decide) ?_
  refine g_icmpN_eq (pc := 69) (i := 0) (j := 4) (tgt := 78) C dX7_sumsBy_69 (by decide) ⟨by omega, by omega⟩ (fun h69 => absurd h69 (by decide)) (fun h69 => ?_)
  refine g_iload_n (pc := 72) C dX7_sumsBy_72 2 rfl ?_
  refine g_bipush (pc := 73) (v := 6) C dX7_sumsBy_73 (by decide) ?_
  refine g_icmpN_ne (pc := 75) (i := 0) (j := 6) (tgt := 84) C dX7_sumsBy_75 (by decide) ⟨by omega, by omega⟩ (fun h75 => ?_) (fun h75 => absurd h75 (by decide))
  refine g_iload_n (pc := 84) C dX7_sumsBy_84 2 rfl ?_
  refine g_iconst (pc := 85) (v := 5) C dX7_sumsBy_85 (by decide) ?_
  refine g_icmpN_ne (pc := 86) (i := 0) (j := 5) (tgt := 96) C dX7_sumsBy_86 (by decide) ⟨by omega, by omega⟩ (fun h86 => ?_) (fun h86 => absurd h86 (by decide))
  refine g_iload (pc := 96) C dX7_sumsBy_96 0 rfl ?_
  exact g_retIW (pc := 98) C rfl rfl () (rfl) (by rfl) (by rfl) dX7_sumsBy_98
set_option maxRecDepth 20000 in
set_option maxHeartbeats 4000000 in
theorem c_X7_sumsBy_1 (l : Launch) (G : gT) (m : Nat) (A : Nat → Nat) (τ : tT) (y : Nat → Int32) (kp : Nat → Int32) (b : Nat) (q : Nat) (x : Int32) (hq : q < 8) (hk : τ 0 q = 1) (hb : b < 700) : WI l yX7_sumsBy cX7_sumsBy 6 (some .int) 3 0 0 G [.ref m, .int (nI q), .int x] (wN G m A τ (upd y 1 (nI b)) ++ ([iC G (A 12) 20 kp])) (S := Unit) (fun r _ => r = smV 1 (nI q) (τ 1 q) x) (fun _ => wN G m A τ (upd y 1 (nI (b + (smL 1).length))) ++ ([iC G (A 12) 20 (rnK kp b (smL 1))])) := by
  intro sz9
  refine start_W (by decide) (Nat.le_of_ble_eq_true rfl) (fun p9 e9 s9 m9 a9 b9 t9 c9 C => ?_)
  refine g_lv (lv' := [(0, .ref m), (1, .int (nI q)), (2, .int x)]) rfl ?_
  refine g_aload_n (pc := 0) C dX7_sumsBy_0 0 rfl ?_
  refine g_get (pc := 1) (T := TX7) (N := 33) (v := .ref (A 3)) C ib_X7 0 rfl rfl 4 (by decide) mf_X7_20 rfl rfl rfl dX7_sumsBy_1 ?_
  refine g_iload_n (pc := 4) C dX7_sumsBy_4 1 rfl ?_
  refine g_iald (pc := 5) (v := (τ 0) q) C 1 rfl q (rfl) ⟨by omega, by decide⟩ (rfl) dX7_sumsBy_5 ?_
  refine g_top (z := nI 1) (hk) ?_
  refine g_istore_n (pc := 6) (lv' := [(3, .int 1), (0, .ref m), (1, .int (nI q)), (2, .int x)]) C dX7_sumsBy_6 rfl (by decide) rfl ?_
  refine g_iload_n (pc := 7) C dX7_sumsBy_7 0 rfl ?_
  refine g_iconst (pc := 8) (v := 4) C dX7_sumsBy_8 (by decide) ?_
  refine g_icmpN_eq (pc := 9) (i := 1) (j := 4) (tgt := 18) C dX7_sumsBy_9 (by decide) ⟨by omega, by omega⟩ (fun h9 => absurd h9 (by decide)) (fun h9 => ?_)
  refine g_iload_n (pc := 12) C dX7_sumsBy_12 0 rfl ?_
  refine g_bipush (pc := 13) (v := 6) C dX7_sumsBy_13 (by decide) ?_
  refine g_icmpN_ne (pc := 15) (i := 1) (j := 6) (tgt := 24) C dX7_sumsBy_15 (by decide) ⟨by omega, by omega⟩ (fun h15 => ?_) (fun h15 => absurd h15 (by decide))
  refine g_iload_n (pc := 24) C dX7_sumsBy_24 0 rfl ?_
  refine g_iconst (pc := 25) (v := 5) C dX7_sumsBy_25 (by decide) ?_
  refine g_icmpN_ne (pc := 26) (i := 1) (j := 5) (tgt := 35) C dX7_sumsBy_26 (by decide) ⟨by omega, by omega⟩ (fun h26 => ?_) (fun h26 => absurd h26 (by decide))
  refine g_aload_n (pc := 35) C dX7_sumsBy_35 1 rfl ?_
  refine g_bipush (pc := 36) (v := 12) C dX7_sumsBy_36 (by decide) ?_
  refine g_wrVV (pc := 38) (rest := []) (wr := []) C (fun _ => wN G m A τ (upd y 1 (nI (b + 1))) ++ ([iC G (A 12) 20 (bgK kp b 12)])) rfl k_X7_ran (c_X7_ran l G m A τ y kp b 12 (by first | assumption | omega)) ml_X7_303 rfl ⟨Nat.le_of_ble_eq_true rfl, Nat.le_of_ble_eq_true rfl⟩ rfl [0, 1, 2, 3, 4, 5, 6, 7, 8, 9] [] [0, 1, 2, 3, 4, 5, 6, 7, 8, 9] rfl (by decide) rfl (by decide) (by decide) (by decide) (fun _ => rfl) 0 rfl rfl rfl rfl (Nat.le_of_ble_eq_true rfl) ⟨by decide, by decide⟩ dX7_sumsBy_38 (fun _ _ => ?_)
  refine g_aload_n (pc := 41) C dX7_sumsBy_41 1 rfl ?_
  refine g_iload_n (pc := 42) C dX7_sumsBy_42 2 rfl ?_
  refine g_iload_n (pc := 43) C dX7_sumsBy_43 3 rfl ?_
  refine g_wrVI (pc := 44) (rest := []) (wr := []) C (fun _ => wN G m A τ (upd y 1 (nI ((b + 1) + (lnL 1).length))) ++ ([iC G (A 12) 20 (rnK (bgK kp b 12) (b + 1) (lnL 1))])) rfl k_X7_leansBy (c_X7_leansBy l G m A τ y (bgK kp b 12) (b + 1) q 1 x (by first | assumption | omega) (by decide) hk (by first | assumption | omega)) ml_X7_310 rfl ⟨Nat.le_of_ble_eq_true rfl, Nat.le_of_ble_eq_true rfl⟩ rfl [0, 1, 2, 3, 4, 5, 6, 7, 8, 9] [] [0, 1, 2, 3, 4, 5, 6, 7, 8, 9] rfl (by decide) rfl (by decide) (by decide) (by decide) (fun _ => rfl) 0 rfl rfl rfl rfl (Nat.le_of_ble_eq_true rfl) ⟨by decide, by decide⟩ dX7_sumsBy_44 (fun r44 _ e44 => ?_)
  subst e44
  refine g_istore (pc := 47) (lv' := [(4, .int (lnV 1 (nI q) (τ 1 q) x)), (3, .int 1), (0, .ref m), (1, .int (nI q)), (2, .int x)]) C dX7_sumsBy_47 (by decide) rfl ?_
  refine g_iload (pc := 49) C dX7_sumsBy_49 0 rfl ?_
  refine g_aload_n (pc := 51) C dX7_sumsBy_51 2 rfl ?_
  refine g_iload_n (pc := 52) C dX7_sumsBy_52 3 rfl ?_
  refine g_iload_n (pc := 53) C dX7_sumsBy_53 4 rfl ?_
  refine g_aload_n (pc := 54) C dX7_sumsBy_54 2 rfl ?_
  refine g_get (pc := 55) (T := TX7) (N := 33) (v := .ref (A 4)) C ib_X7 0 rfl rfl 5 (by decide) mf_X7_23 rfl rfl rfl dX7_sumsBy_55 ?_
  refine g_iload_n (pc := 58) C dX7_sumsBy_58 3 rfl ?_
  refine g_iald (pc := 59) (v := (τ 1) q) C 2 rfl q (rfl) ⟨by omega, by decide⟩ (rfl) dX7_sumsBy_59 ?_
  refine g_isub (pc := 60) C dX7_sumsBy_60 ?_
  refine g_wrVI (pc := 61) (rest := [.int (lnV 1 (nI q) (τ 1 q) x)]) (wr := []) C (fun _ => wN G m A τ (upd y 1 (nI (((b + 1) + (lnL 1).length) + (akL 1).length))) ++ ([iC G (A 12) 20 (rnK (rnK (bgK kp b 12) (b + 1) (lnL 1)) ((b + 1) + (lnL 1).length) (akL 1))])) rfl k_X7_asksBy (c_X7_asksBy l G m A τ y (rnK (bgK kp b 12) (b + 1) (lnL 1)) ((b + 1) + (lnL 1).length) q 1 (x - ((τ 1) q)) (by first | assumption | omega) (by decide) hk (by show _ < 900; have e9 : (lnL 1).length = 3 := rfl; omega)) ml_X7_307 rfl ⟨Nat.le_of_ble_eq_true rfl, Nat.le_of_ble_eq_true rfl⟩ rfl [0, 1, 2, 3, 4, 5, 6, 7, 8, 9] [] [0, 1, 2, 3, 4, 5, 6, 7, 8, 9] rfl (by decide) rfl (by decide) (by decide) (by decide) (fun _ => rfl) 0 rfl rfl rfl rfl (Nat.le_of_ble_eq_true rfl) ⟨by decide, by decide⟩ dX7_sumsBy_61 (fun r61 _ e61 => ?_)
  subst e61
  refine g_ixor (pc := 64) C dX7_sumsBy_64 ?_
  refine g_istore (pc := 65) (lv' := [(5, .int ((lnV 1 (nI q) (τ 1 q) x) ^^^ (akV 1 (nI q) (τ 1 q) (x - ((τ 1) q))))), (4, .int (lnV 1 (nI q) (τ 1 q) x)), (3, .int 1), (0, .ref m), (1, .int (nI q)), (2, .int x)]) C dX7_sumsBy_65 (by decide) rfl ?_
  refine g_iload_n (pc := 67) C dX7_sumsBy_67 2 rfl ?_
  refine g_iconst (pc := 68) (v := 4) C dX7_sumsBy_68 (by decide) ?_
  refine g_icmpN_eq (pc := 69) (i := 1) (j := 4) (tgt := 78) C dX7_sumsBy_69 (by decide) ⟨by omega, by omega⟩ (fun h69 => absurd h69 (by decide)) (fun h69 => ?_)
  refine g_iload_n (pc := 72) C dX7_sumsBy_72 2 rfl ?_
  refine g_bipush (pc := 73) (v := 6) C dX7_sumsBy_73 (by decide) ?_
  refine g_icmpN_ne (pc := 75) (i := 1) (j := 6) (tgt := 84) C dX7_sumsBy_75 (by decide) ⟨by omega, by omega⟩ (fun h75 => ?_) (fun h75 => absurd h75 (by decide))
  refine g_iload_n (pc := 84) C dX7_sumsBy_84 2 rfl ?_
  refine g_iconst (pc := 85) (v := 5) C dX7_sumsBy_85 (by decide) ?_
  refine g_icmpN_ne (pc := 86) (i := 1) (j := 5) (tgt := 96) C dX7_sumsBy_86 (by decide) ⟨by omega, by omega⟩ (fun h86 => ?_) (fun h86 => absurd h86 (by decide))
  refine g_iload (pc := 96) C dX7_sumsBy_96 0 rfl ?_
  exact g_retIW (pc := 98) C rfl rfl () (rfl) (by rfl) (by rfl) dX7_sumsBy_98
set_option maxRecDepth 20000 in
set_option maxHeartbeats 4000000 in
theorem c_X7_sumsBy_2 (l : Launch) (G : gT) (m : Nat) (A : Nat → Nat) (τ : tT) (y : Nat → Int32) (kp : Nat → Int32) (b : Nat) (q : Nat) (x : Int32) (hq : q < 8) (hk : τ 0 q = 2) (hb : b < 700) : WI l yX7_sumsBy cX7_sumsBy 6 (some .int) 3 0 0 G [.ref m, .int (nI q), .int x] (wN G m A τ (upd y 1 (nI b)) ++ ([iC G (A 12) 20 kp])) (S := Unit) (fun r _ => r = smV 2 (nI q) (τ 1 q) x) (fun _ => wN G m A τ (upd y 1 (nI (b + (smL 2).length))) ++ ([iC G (A 12) 20 (rnK kp b (smL 2))])) := by
  intro sz9
  refine start_W (by decide) (Nat.le_of_ble_eq_true rfl) (fun p9 e9 s9 m9 a9 b9 t9 c9 C => ?_)
  refine g_lv (lv' := [(0, .ref m), (1, .int (nI q)), (2, .int x)]) rfl ?_
  refine g_aload_n (pc := 0) C dX7_sumsBy_0 0 rfl ?_
  refine g_get (pc := 1) (T := TX7) (N := 33) (v := .ref (A 3)) C ib_X7 0 rfl rfl 4 (by decide) mf_X7_20 rfl rfl rfl dX7_sumsBy_1 ?_
  refine g_iload_n (pc := 4) C dX7_sumsBy_4 1 rfl ?_
  refine g_iald (pc := 5) (v := (τ 0) q) C 1 rfl q (rfl) ⟨by omega, by decide⟩ (rfl) dX7_sumsBy_5 ?_
  refine g_top (z := nI 2) (hk) ?_
  refine g_istore_n (pc := 6) (lv' := [(3, .int 2), (0, .ref m), (1, .int (nI q)), (2, .int x)]) C dX7_sumsBy_6 rfl (by decide) rfl ?_
  refine g_iload_n (pc := 7) C dX7_sumsBy_7 0 rfl ?_
  refine g_iconst (pc := 8) (v := 4) C dX7_sumsBy_8 (by decide) ?_
  refine g_icmpN_eq (pc := 9) (i := 2) (j := 4) (tgt := 18) C dX7_sumsBy_9 (by decide) ⟨by omega, by omega⟩ (fun h9 => absurd h9 (by decide)) (fun h9 => ?_)
  refine g_iload_n (pc := 12) C dX7_sumsBy_12 0 rfl ?_
  refine g_bipush (pc := 13) (v := 6) C dX7_sumsBy_13 (by decide) ?_
  refine g_icmpN_ne (pc := 15) (i := 2) (j := 6) (tgt := 24) C dX7_sumsBy_15 (by decide) ⟨by omega, by omega⟩ (fun h15 => ?_) (fun h15 => absurd h15 (by decide))
  refine g_iload_n (pc := 24) C dX7_sumsBy_24 0 rfl ?_
  refine g_iconst (pc := 25) (v := 5) C dX7_sumsBy_25 (by decide) ?_
  refine g_icmpN_ne (pc := 26) (i := 2) (j := 5) (tgt := 35) C dX7_sumsBy_26 (by decide) ⟨by omega, by omega⟩ (fun h26 => ?_) (fun h26 => absurd h26 (by decide))
  refine g_aload_n (pc := 35) C dX7_sumsBy_35 1 rfl ?_
  refine g_bipush (pc := 36) (v := 12) C dX7_sumsBy_36 (by decide) ?_
  refine g_wrVV (pc := 38) (rest := []) (wr := []) C (fun _ => wN G m A τ (upd y 1 (nI (b + 1))) ++ ([iC G (A 12) 20 (bgK kp b 12)])) rfl k_X7_ran (c_X7_ran l G m A τ y kp b 12 (by first | assumption | omega)) ml_X7_303 rfl ⟨Nat.le_of_ble_eq_true rfl, Nat.le_of_ble_eq_true rfl⟩ rfl [0, 1, 2, 3, 4, 5, 6, 7, 8, 9] [] [0, 1, 2, 3, 4, 5, 6, 7, 8, 9] rfl (by decide) rfl (by decide) (by decide) (by decide) (fun _ => rfl) 0 rfl rfl rfl rfl (Nat.le_of_ble_eq_true rfl) ⟨by decide, by decide⟩ dX7_sumsBy_38 (fun _ _ => ?_)
  refine g_aload_n (pc := 41) C dX7_sumsBy_41 1 rfl ?_
  refine g_iload_n (pc := 42) C dX7_sumsBy_42 2 rfl ?_
  refine g_iload_n (pc := 43) C dX7_sumsBy_43 3 rfl ?_
  refine g_wrVI (pc := 44) (rest := []) (wr := []) C (fun _ => wN G m A τ (upd y 1 (nI ((b + 1) + (lnL 2).length))) ++ ([iC G (A 12) 20 (rnK (bgK kp b 12) (b + 1) (lnL 2))])) rfl k_X7_leansBy (c_X7_leansBy l G m A τ y (bgK kp b 12) (b + 1) q 2 x (by first | assumption | omega) (by decide) hk (by first | assumption | omega)) ml_X7_310 rfl ⟨Nat.le_of_ble_eq_true rfl, Nat.le_of_ble_eq_true rfl⟩ rfl [0, 1, 2, 3, 4, 5, 6, 7, 8, 9] [] [0, 1, 2, 3, 4, 5, 6, 7, 8, 9] rfl (by decide) rfl (by decide) (by decide) (by decide) (fun _ => rfl) 0 rfl rfl rfl rfl (Nat.le_of_ble_eq_true rfl) ⟨by decide, by decide⟩ dX7_sumsBy_44 (fun r44 _ e44 => ?_)
  subst e44
  refine g_istore (pc := 47) (lv' := [(4, .int (lnV 2 (nI q) (τ 1 q) x)), (3, .int 2), (0, .ref m), (1, .int (nI q)), (2, .int x)]) C dX7_sumsBy_47 (by decide) rfl ?_
  refine g_iload (pc := 49) C dX7_sumsBy_49 0 rfl ?_
  refine g_aload_n (pc := 51) C dX7_sumsBy_51 2 rfl ?_
  refine g_iload_n (pc := 52) C dX7_sumsBy_52 3 rfl ?_
  refine g_iload_n (pc := 53) C dX7_sumsBy_53 4 rfl ?_
  refine g_aload_n (pc := 54) C dX7_sumsBy_54 2 rfl ?_
  refine g_get (pc := 55) (T := TX7) (N := 33) (v := .ref (A 4)) C ib_X7 0 rfl rfl 5 (by decide) mf_X7_23 rfl rfl rfl dX7_sumsBy_55 ?_
  refine g_iload_n (pc := 58) C dX7_sumsBy_58 3 rfl ?_
  refine g_iald (pc := 59) (v := (τ 1) q) C 2 rfl q (rfl) ⟨by omega, by decide⟩ (rfl) dX7_sumsBy_59 ?_
  refine g_isub (pc := 60) C dX7_sumsBy_60 ?_
  refine g_wrVI (pc := 61) (rest := [.int (lnV 2 (nI q) (τ 1 q) x)]) (wr := []) C (fun _ => wN G m A τ (upd y 1 (nI (((b + 1) + (lnL 2).length) + (akL 2).length))) ++ ([iC G (A 12) 20 (rnK (rnK (bgK kp b 12) (b + 1) (lnL 2)) ((b + 1) + (lnL 2).length) (akL 2))])) rfl k_X7_asksBy (c_X7_asksBy l G m A τ y (rnK (bgK kp b 12) (b + 1) (lnL 2)) ((b + 1) + (lnL 2).length) q 2 (x - ((τ 1) q)) (by first | assumption | omega) (by decide) hk (by show _ < 900; have e9 : (lnL 2).length = 3 := rfl; omega)) ml_X7_307 rfl ⟨Nat.le_of_ble_eq_true rfl, Nat.le_of_ble_eq_true rfl⟩ rfl [0, 1, 2, 3, 4, 5, 6, 7, 8, 9] [] [0, 1, 2, 3, 4, 5, 6, 7, 8, 9] rfl (by decide) rfl (by decide) (by decide) (by decide) (fun _ => rfl) 0 rfl rfl rfl rfl (Nat.le_of_ble_eq_true rfl) ⟨by decide, by decide⟩ dX7_sumsBy_61 (fun r61 _ e61 => ?_)
  subst e61
  refine g_ixor (pc := 64) C dX7_sumsBy_64 ?_
  refine g_istore (pc := 65) (lv' := [(5, .int ((lnV 2 (nI q) (τ 1 q) x) ^^^ (akV 2 (nI q) (τ 1 q) (x - ((τ 1) q))))), (4, .int (lnV 2 (nI q) (τ 1 q) x)), (3, .int 2), (0, .ref m), (1, .int (nI q)), (2, .int x)]) C dX7_sumsBy_65 (by decide) rfl ?_
  refine g_iload_n (pc := 67) C dX7_sumsBy_67 2 rfl ?_
  refine g_iconst (pc := 68) (v := 4) C dX7_sumsBy_68 (by decide) ?_
  refine g_icmpN_eq (pc := 69) (i := 2) (j := 4) (tgt := 78) C dX7_sumsBy_69 (by decide) ⟨by omega, by omega⟩ (fun h69 => absurd h69 (by decide)) (fun h69 => ?_)
  refine g_iload_n (pc := 72) C dX7_sumsBy_72 2 rfl ?_
  refine g_bipush (pc := 73) (v := 6) C dX7_sumsBy_73 (by decide) ?_
  refine g_icmpN_ne (pc := 75) (i := 2) (j := 6) (tgt := 84) C dX7_sumsBy_75 (by decide) ⟨by omega, by omega⟩ (fun h75 => ?_) (fun h75 => absurd h75 (by decide))
  refine g_iload_n (pc := 84) C dX7_sumsBy_84 2 rfl ?_
  refine g_iconst (pc := 85) (v := 5) C dX7_sumsBy_85 (by decide) ?_
  refine g_icmpN_ne (pc := 86) (i := 2) (j := 5) (tgt := 96) C dX7_sumsBy_86 (by decide) ⟨by omega, by omega⟩ (fun h86 => ?_) (fun h86 => absurd h86 (by decide))
  refine g_iload (pc := 96) C dX7_sumsBy_96 0 rfl ?_
  exact g_retIW (pc := 98) C rfl rfl () (rfl) (by rfl) (by rfl) dX7_sumsBy_98
set_option maxRecDepth 20000 in
set_option maxHeartbeats 4000000 in
theorem c_X7_sumsBy_3 (l : Launch) (G : gT) (m : Nat) (A : Nat → Nat) (τ : tT) (y : Nat → Int32) (kp : Nat → Int32) (b : Nat) (q : Nat) (x : Int32) (hq : q < 8) (hk : τ 0 q = 3) (hb : b < 700) : WI l yX7_sumsBy cX7_sumsBy 6 (some .int) 3 0 0 G [.ref m, .int (nI q), .int x] (wN G m A τ (upd y 1 (nI b)) ++ ([iC G (A 12) 20 kp])) (S := Unit) (fun r _ => r = smV 3 (nI q) (τ 1 q) x) (fun _ => wN G m A τ (upd y 1 (nI (b + (smL 3).length))) ++ ([iC G (A 12) 20 (rnK kp b (smL 3))])) := by
  intro sz9
  refine start_W (by decide) (Nat.le_of_ble_eq_true rfl) (fun p9 e9 s9 m9 a9 b9 t9 c9 C => ?_)
  refine g_lv (lv' := [(0, .ref m), (1, .int (nI q)), (2, .int x)]) rfl ?_
  refine g_aload_n (pc := 0) C dX7_sumsBy_0 0 rfl ?_
  refine g_get (pc := 1) (T := TX7) (N := 33) (v := .ref (A 3)) C ib_X7 0 rfl rfl 4 (by decide) mf_X7_20 rfl rfl rfl dX7_sumsBy_1 ?_
  refine g_iload_n (pc := 4) C dX7_sumsBy_4 1 rfl ?_
  refine g_iald (pc := 5) (v := (τ 0) q) C 1 rfl q (rfl) ⟨by omega, by decide⟩ (rfl) dX7_sumsBy_5 ?_
  refine g_top (z := nI 3) (hk) ?_
  refine g_istore_n (pc := 6) (lv' := [(3, .int 3), (0, .ref m), (1, .int (nI q)), (2, .int x)]) C dX7_sumsBy_6 rfl (by decide) rfl ?_
  refine g_iload_n (pc := 7) C dX7_sumsBy_7 0 rfl ?_
  refine g_iconst (pc := 8) (v := 4) C dX7_sumsBy_8 (by decide) ?_
  refine g_icmpN_eq (pc := 9) (i := 3) (j := 4) (tgt := 18) C dX7_sumsBy_9 (by decide) ⟨by omega, by omega⟩ (fun h9 => absurd h9 (by decide)) (fun h9 => ?_)
  refine g_iload_n (pc := 12) C dX7_sumsBy_12 0 rfl ?_
  refine g_bipush (pc := 13) (v := 6) C dX7_sumsBy_13 (by decide) ?_
  refine g_icmpN_ne (pc := 15) (i := 3) (j := 6) (tgt := 24) C dX7_sumsBy_15 (by decide) ⟨by omega, by omega⟩ (fun h15 => ?_) (fun h15 => absurd h15 (by decide))
  refine g_iload_n (pc := 24) C dX7_sumsBy_24 0 rfl ?_
  refine g_iconst (pc := 25) (v := 5) C dX7_sumsBy_25 (by decide) ?_
  refine g_icmpN_ne (pc := 26) (i := 3) (j := 5) (tgt := 35) C dX7_sumsBy_26 (by decide) ⟨by omega, by omega⟩ (fun h26 => ?_) (fun h26 => absurd h26 (by decide))
  refine g_aload_n (pc := 35) C dX7_sumsBy_35 1 rfl ?_
  refine g_bipush (pc := 36) (v := 12) C dX7_sumsBy_36 (by decide) ?_
  refine g_wrVV (pc := 38) (rest := []) (wr := []) C (fun _ => wN G m A τ (upd y 1 (nI (b + 1))) ++ ([iC G (A 12) 20 (bgK kp b 12)])) rfl k_X7_ran (c_X7_ran l G m A τ y kp b 12 (by first | assumption | omega)) ml_X7_303 rfl ⟨Nat.le_of_ble_eq_true rfl, Nat.le_of_ble_eq_true rfl⟩ rfl [0, 1, 2, 3, 4, 5, 6, 7, 8, 9] [] [0, 1, 2, 3, 4, 5, 6, 7, 8, 9] rfl (by decide) rfl (by decide) (by decide) (by decide) (fun _ => rfl) 0 rfl rfl rfl rfl (Nat.le_of_ble_eq_true rfl) ⟨by decide, by decide⟩ dX7_sumsBy_38 (fun _ _ => ?_)
  refine g_aload_n (pc := 41) C dX7_sumsBy_41 1 rfl ?_
  refine g_iload_n (pc := 42) C dX7_sumsBy_42 2 rfl ?_
  refine g_iload_n (pc := 43) C dX7_sumsBy_43 3 rfl ?_
  refine g_wrVI (pc := 44) (rest := []) (wr := []) C (fun _ => wN G m A τ (upd y 1 (nI ((b + 1) + (lnL 3).length))) ++ ([iC G (A 12) 20 (rnK (bgK kp b 12) (b + 1) (lnL 3))])) rfl k_X7_leansBy (c_X7_leansBy l G m A τ y (bgK kp b 12) (b + 1) q 3 x (by first | assumption | omega) (by decide) hk (by first | assumption | omega)) ml_X7_310 rfl ⟨Nat.le_of_ble_eq_true rfl, Nat.le_of_ble_eq_true rfl⟩ rfl [0, 1, 2, 3, 4, 5, 6, 7, 8, 9] [] [0, 1, 2, 3, 4, 5, 6, 7, 8, 9] rfl (by decide) rfl (by decide) (by decide) (by decide) (fun _ => rfl) 0 rfl rfl rfl rfl (Nat.le_of_ble_eq_true rfl) ⟨by decide, by decide⟩ dX7_sumsBy_44 (fun r44 _ e44 => ?_)
  subst e44
  refine g_istore (pc := 47) (lv' := [(4, .int (lnV 3 (nI q) (τ 1 q) x)), (3, .int 3), (0, .ref m), (1, .int (nI q)), (2, .int x)]) C dX7_sumsBy_47 (by decide) rfl ?_
  refine g_iload (pc := 49) C dX7_sumsBy_49 0 rfl ?_
  refine g_aload_n (pc := 51) C dX7_sumsBy_51 2 rfl ?_
  refine g_iload_n (pc := 52) C dX7_sumsBy_52 3 rfl ?_
  refine g_iload_n (pc := 53) C dX7_sumsBy_53 4 rfl ?_
  refine g_aload_n (pc := 54) C dX7_sumsBy_54 2 rfl ?_
  refine g_get (pc := 55) (T := TX7) (N := 33) (v := .ref (A 4)) C ib_X7 0 rfl rfl 5 (by decide) mf_X7_23 rfl rfl rfl dX7_sumsBy_55 ?_
  refine g_iload_n (pc := 58) C dX7_sumsBy_58 3 rfl ?_
  refine g_iald (pc := 59) (v := (τ 1) q) C 2 rfl q (rfl) ⟨by omega, by decide⟩ (rfl) dX7_sumsBy_59 ?_
  refine g_isub (pc := 60) C dX7_sumsBy_60 ?_
  refine g_wrVI (pc := 61) (rest := [.int (lnV 3 (nI q) (τ 1 q) x)]) (wr := []) C (fun _ => wN G m A τ (upd y 1 (nI (((b + 1) + (lnL 3).length) + (akL 3).length))) ++ ([iC G (A 12) 20 (rnK (rnK (bgK kp b 12) (b + 1) (lnL 3)) ((b + 1) + (lnL 3).length) (akL 3))])) rfl k_X7_asksBy (c_X7_asksBy l G m A τ y (rnK (bgK kp b 12) (b + 1) (lnL 3)) ((b + 1) + (lnL 3).length) q 3 (x - ((τ 1) q)) (by first | assumption | omega) (by decide) hk (by show _ < 900; have e9 : (lnL 3).length = 4 := rfl; omega)) ml_X7_307 rfl ⟨Nat.le_of_ble_eq_true rfl, Nat.le_of_ble_eq_true rfl⟩ rfl [0, 1, 2, 3, 4, 5, 6, 7, 8, 9] [] [0, 1, 2, 3, 4, 5, 6, 7, 8, 9] rfl (by decide) rfl (by decide) (by decide) (by decide) (fun _ => rfl) 0 rfl rfl rfl rfl (Nat.le_of_ble_eq_true rfl) ⟨by decide, by decide⟩ dX7_sumsBy_61 (fun r61 _ e61 => ?_)
  subst e61
  refine g_ixor (pc := 64) C dX7_sumsBy_64 ?_
  refine g_istore (pc := 65) (lv' := [(5, .int ((lnV 3 (nI q) (τ 1 q) x) ^^^ (akV 3 (nI q) (τ 1 q) (x - ((τ 1) q))))), (4, .int (lnV 3 (nI q) (τ 1 q) x)), (3, .int 3), (0, .ref m), (1, .int (nI q)), (2, .int x)]) C dX7_sumsBy_65 (by decide) rfl ?_
  refine g_iload_n (pc := 67) C dX7_sumsBy_67 2 rfl ?_
  refine g_iconst (pc := 68) (v := 4) C dX7_sumsBy_68 (by decide) ?_
  refine g_icmpN_eq (pc := 69) (i := 3) (j := 4) (tgt := 78) C dX7_sumsBy_69 (by decide) ⟨by omega, by omega⟩ (fun h69 => absurd h69 (by decide)) (fun h69 => ?_)
  refine g_iload_n (pc := 72) C dX7_sumsBy_72 2 rfl ?_
  refine g_bipush (pc := 73) (v := 6) C dX7_sumsBy_73 (by decide) ?_
  refine g_icmpN_ne (pc := 75) (i := 3) (j := 6) (tgt := 84) C dX7_sumsBy_75 (by decide) ⟨by omega, by omega⟩ (fun h75 => ?_) (fun h75 => absurd h75 (by decide))
  refine g_iload_n (pc := 84) C dX7_sumsBy_84 2 rfl ?_
  refine g_iconst (pc := 85) (v := 5) C dX7_sumsBy_85 (by decide) ?_
  refine g_icmpN_ne (pc := 86) (i := 3) (j := 5) (tgt := 96) C dX7_sumsBy_86 (by decide) ⟨by omega, by omega⟩ (fun h86 => ?_) (fun h86 => absurd h86 (by decide))
  refine g_iload (pc := 96) C dX7_sumsBy_96 0 rfl ?_
  exact g_retIW (pc := 98) C rfl rfl () (rfl) (by rfl) (by rfl) dX7_sumsBy_98
set_option maxRecDepth 20000 in
set_option maxHeartbeats 4000000 in
theorem c_X7_sumsBy_4 (l : Launch) (G : gT) (m : Nat) (A : Nat → Nat) (τ : tT) (y : Nat → Int32) (kp : Nat → Int32) (b : Nat) (q : Nat) (x : Int32) (hq : q < 8) (hk : τ 0 q = 4) (hb : b < 700) : WI l yX7_sumsBy cX7_sumsBy 6 (some .int) 3 0 0 G [.ref m, .int (nI q), .int x] (wN G m A τ (upd y 1 (nI b)) ++ ([iC G (A 12) 20 kp])) (S := Unit) (fun r _ => r = smV 4 (nI q) (τ 1 q) x) (fun _ => wN G m A τ (upd y 1 (nI (b + (smL 4).length))) ++ ([iC G (A 12) 20 (rnK kp b (smL 4))])) := by
  intro sz9
  refine start_W (by decide) (Nat.le_of_ble_eq_true rfl) (fun p9 e9 s9 m9 a9 b9 t9 c9 C => ?_)
  refine g_lv (lv' := [(0, .ref m), (1, .int (nI q)), (2, .int x)]) rfl ?_
  refine g_aload_n (pc := 0) C dX7_sumsBy_0 0 rfl ?_
  refine g_get (pc := 1) (T := TX7) (N := 33) (v := .ref (A 3)) C ib_X7 0 rfl rfl 4 (by decide) mf_X7_20 rfl rfl rfl dX7_sumsBy_1 ?_
  refine g_iload_n (pc := 4) C dX7_sumsBy_4 1 rfl ?_
  refine g_iald (pc := 5) (v := (τ 0) q) C 1 rfl q (rfl) ⟨by omega, by decide⟩ (rfl) dX7_sumsBy_5 ?_
  refine g_top (z := nI 4) (hk) ?_
  refine g_istore_n (pc := 6) (lv' := [(3, .int 4), (0, .ref m), (1, .int (nI q)), (2, .int x)]) C dX7_sumsBy_6 rfl (by decide) rfl ?_
  refine g_iload_n (pc := 7) C dX7_sumsBy_7 0 rfl ?_
  refine g_iconst (pc := 8) (v := 4) C dX7_sumsBy_8 (by decide) ?_
  refine g_icmpN_eq (pc := 9) (i := 4) (j := 4) (tgt := 18) C dX7_sumsBy_9 (by decide) ⟨by omega, by omega⟩ (fun h9 => ?_) (fun h9 => absurd h9 (by decide))
  refine g_aload_n (pc := 18) C dX7_sumsBy_18 1 rfl ?_
  refine g_bipush (pc := 19) (v := 50) C dX7_sumsBy_19 (by decide) ?_
  refine g_wrVV (pc := 21) (rest := []) (wr := []) C (fun _ => wN G m A τ (upd y 1 (nI (b + 1))) ++ ([iC G (A 12) 20 (bgK kp b 50)])) rfl k_X7_ran (c_X7_ran l G m A τ y kp b 50 (by first | assumption | omega)) ml_X7_303 rfl ⟨Nat.le_of_ble_eq_true rfl, Nat.le_of_ble_eq_true rfl⟩ rfl [0, 1, 2, 3, 4, 5, 6, 7, 8, 9] [] [0, 1, 2, 3, 4, 5, 6, 7, 8, 9] rfl (by decide) rfl (by decide) (by decide) (by decide) (fun _ => rfl) 0 rfl rfl rfl rfl (Nat.le_of_ble_eq_true rfl) ⟨by decide, by decide⟩ dX7_sumsBy_21 (fun _ _ => ?_)
  refine g_iload_n (pc := 24) C dX7_sumsBy_24 0 rfl ?_
  refine g_iconst (pc := 25) (v := 5) C dX7_sumsBy_25 (by decide) ?_
  refine g_icmpN_ne (pc := 26) (i := 4) (j := 5) (tgt := 35) C dX7_sumsBy_26 (by decide) ⟨by omega, by omega⟩ (fun h26 => ?_) (fun h26 => absurd h26 (by decide))
  refine g_aload_n (pc := 35) C dX7_sumsBy_35 1 rfl ?_
  refine g_bipush (pc := 36) (v := 12) C dX7_sumsBy_36 (by decide) ?_
  refine g_wrVV (pc := 38) (rest := []) (wr := []) C (fun _ => wN G m A τ (upd y 1 (nI ((b + 1) + 1))) ++ ([iC G (A 12) 20 (bgK (bgK kp b 50) (b + 1) 12)])) rfl k_X7_ran (c_X7_ran l G m A τ y (bgK kp b 50) (b + 1) 12 (by first | assumption | omega)) ml_X7_303 rfl ⟨Nat.le_of_ble_eq_true rfl, Nat.le_of_ble_eq_true rfl⟩ rfl [0, 1, 2, 3, 4, 5, 6, 7, 8, 9] [] [0, 1, 2, 3, 4, 5, 6, 7, 8, 9] rfl (by decide) rfl (by decide) (by decide) (by decide) (fun _ => rfl) 0 rfl rfl rfl rfl (Nat.le_of_ble_eq_true rfl) ⟨by decide, by decide⟩ dX7_sumsBy_38 (fun _ _ => ?_)
  refine g_aload_n (pc := 41) C dX7_sumsBy_41 1 rfl ?_
  refine g_iload_n (pc := 42) C dX7_sumsBy_42 2 rfl ?_
  refine g_iload_n (pc := 43) C dX7_sumsBy_43 3 rfl ?_
  refine g_wrVI (pc := 44) (rest := []) (wr := []) C (fun _ => wN G m A τ (upd y 1 (nI (((b + 1) + 1) + (lnL 4).length))) ++ ([iC G (A 12) 20 (rnK (bgK (bgK kp b 50) (b + 1) 12) ((b + 1) + 1) (lnL 4))])) rfl k_X7_leansBy (c_X7_leansBy l G m A τ y (bgK (bgK kp b 50) (b + 1) 12) ((b + 1) + 1) q 4 x (by first | assumption | omega) (by decide) hk (by first | assumption | omega)) ml_X7_310 rfl ⟨Nat.le_of_ble_eq_true rfl, Nat.le_of_ble_eq_true rfl⟩ rfl [0, 1, 2, 3, 4, 5, 6, 7, 8, 9] [] [0, 1, 2, 3, 4, 5, 6, 7, 8, 9] rfl (by decide) rfl (by decide) (by decide) (by decide) (fun _ => rfl) 0 rfl rfl rfl rfl (Nat.le_of_ble_eq_true rfl) ⟨by decide, by decide⟩ dX7_sumsBy_44 (fun r44 _ e44 => ?_)
  subst e44
  refine g_istore (pc := 47) (lv' := [(4, .int (lnV 4 (nI q) (τ 1 q) x)), (3, .int 4), (0, .ref m), (1, .int (nI q)), (2, .int x)]) C dX7_sumsBy_47 (by decide) rfl ?_
  refine g_iload (pc := 49) C dX7_sumsBy_49 0 rfl ?_
  refine g_aload_n (pc := 51) C dX7_sumsBy_51 2 rfl ?_
  refine g_iload_n (pc := 52) C dX7_sumsBy_52 3 rfl ?_
  refine g_iload_n (pc := 53) C dX7_sumsBy_53 4 rfl ?_
  refine g_aload_n (pc := 54) C dX7_sumsBy_54 2 rfl ?_
  refine g_get (pc := 55) (T := TX7) (N := 33) (v := .ref (A 4)) C ib_X7 0 rfl rfl 5 (by decide) mf_X7_23 rfl rfl rfl dX7_sumsBy_55 ?_
  refine g_iload_n (pc := 58) C dX7_sumsBy_58 3 rfl ?_
  refine g_iald (pc := 59) (v := (τ 1) q) C 2 rfl q (rfl) ⟨by omega, by decide⟩ (rfl) dX7_sumsBy_59 ?_
  refine g_isub (pc := 60) C dX7_sumsBy_60 ?_
  refine g_wrVI (pc := 61) (rest := [.int (lnV 4 (nI q) (τ 1 q) x)]) (wr := []) C (fun _ => wN G m A τ (upd y 1 (nI ((((b + 1) + 1) + (lnL 4).length) + (akL 4).length))) ++ ([iC G (A 12) 20 (rnK (rnK (bgK (bgK kp b 50) (b + 1) 12) ((b + 1) + 1) (lnL 4)) (((b + 1) + 1) + (lnL 4).length) (akL 4))])) rfl k_X7_asksBy (c_X7_asksBy l G m A τ y (rnK (bgK (bgK kp b 50) (b + 1) 12) ((b + 1) + 1) (lnL 4)) (((b + 1) + 1) + (lnL 4).length) q 4 (x - ((τ 1) q)) (by first | assumption | omega) (by decide) hk (by show _ < 900; have e9 : (lnL 4).length = 3 := rfl; omega)) ml_X7_307 rfl ⟨Nat.le_of_ble_eq_true rfl, Nat.le_of_ble_eq_true rfl⟩ rfl [0, 1, 2, 3, 4, 5, 6, 7, 8, 9] [] [0, 1, 2, 3, 4, 5, 6, 7, 8, 9] rfl (by decide) rfl (by decide) (by decide) (by decide) (fun _ => rfl) 0 rfl rfl rfl rfl (Nat.le_of_ble_eq_true rfl) ⟨by decide, by decide⟩ dX7_sumsBy_61 (fun r61 _ e61 => ?_)
  subst e61
  refine g_ixor (pc := 64) C dX7_sumsBy_64 ?_
  refine g_istore (pc := 65) (lv' := [(5, .int ((lnV 4 (nI q) (τ 1 q) x) ^^^ (akV 4 (nI q) (τ 1 q) (x - ((τ 1) q))))), (4, .int (lnV 4 (nI q) (τ 1 q) x)), (3, .int 4), (0, .ref m), (1, .int (nI q)), (2, .int x)]) C dX7_sumsBy_65 (by decide) rfl ?_
  refine g_iload_n (pc := 67) C dX7_sumsBy_67 2 rfl ?_
  refine g_iconst (pc := 68) (v := 4) C dX7_sumsBy_68 (by decide) ?_
  refine g_icmpN_eq (pc := 69) (i := 4) (j := 4) (tgt := 78) C dX7_sumsBy_69 (by decide) ⟨by omega, by omega⟩ (fun h69 => ?_) (fun h69 => absurd h69 (by decide))
  refine g_iload (pc := 78) C dX7_sumsBy_78 0 rfl ?_
  refine g_ineg (pc := 80) (v := -((lnV 4 (nI q) (τ 1 q) x) ^^^ (akV 4 (nI q) (τ 1 q) (x - ((τ 1) q))))) C dX7_sumsBy_80 rfl ?_
  refine g_goto (pc := 81) (tgt := 98) C dX7_sumsBy_81 (by decide) ?_
  exact g_retIW (pc := 98) C rfl rfl () (rfl) (by rfl) (by rfl) dX7_sumsBy_98
set_option maxRecDepth 20000 in
set_option maxHeartbeats 4000000 in
theorem c_X7_sumsBy_5 (l : Launch) (G : gT) (m : Nat) (A : Nat → Nat) (τ : tT) (y : Nat → Int32) (kp : Nat → Int32) (b : Nat) (q : Nat) (x : Int32) (hq : q < 8) (hk : τ 0 q = 5) (hb : b < 700) : WI l yX7_sumsBy cX7_sumsBy 6 (some .int) 3 0 0 G [.ref m, .int (nI q), .int x] (wN G m A τ (upd y 1 (nI b)) ++ ([iC G (A 12) 20 kp])) (S := Unit) (fun r _ => r = smV 5 (nI q) (τ 1 q) x) (fun _ => wN G m A τ (upd y 1 (nI (b + (smL 5).length))) ++ ([iC G (A 12) 20 (rnK kp b (smL 5))])) := by
  intro sz9
  refine start_W (by decide) (Nat.le_of_ble_eq_true rfl) (fun p9 e9 s9 m9 a9 b9 t9 c9 C => ?_)
  refine g_lv (lv' := [(0, .ref m), (1, .int (nI q)), (2, .int x)]) rfl ?_
  refine g_aload_n (pc := 0) C dX7_sumsBy_0 0 rfl ?_
  refine g_get (pc := 1) (T := TX7) (N := 33) (v := .ref (A 3)) C ib_X7 0 rfl rfl 4 (by decide) mf_X7_20 rfl rfl rfl dX7_sumsBy_1 ?_
  refine g_iload_n (pc := 4) C dX7_sumsBy_4 1 rfl ?_
  refine g_iald (pc := 5) (v := (τ 0) q) C 1 rfl q (rfl) ⟨by omega, by decide⟩ (rfl) dX7_sumsBy_5 ?_
  refine g_top (z := nI 5) (hk) ?_
  refine g_istore_n (pc := 6) (lv' := [(3, .int 5), (0, .ref m), (1, .int (nI q)), (2, .int x)]) C dX7_sumsBy_6 rfl (by decide) rfl ?_
  refine g_iload_n (pc := 7) C dX7_sumsBy_7 0 rfl ?_
  refine g_iconst (pc := 8) (v := 4) C dX7_sumsBy_8 (by decide) ?_
  refine g_icmpN_eq (pc := 9) (i := 5) (j := 4) (tgt := 18) C dX7_sumsBy_9 (by decide) ⟨by omega, by omega⟩ (fun h9 => absurd h9 (by decide)) (fun h9 => ?_)
  refine g_iload_n (pc := 12) C dX7_sumsBy_12 0 rfl ?_
  refine g_bipush (pc := 13) (v := 6) C dX7_sumsBy_13 (by decide) ?_
  refine g_icmpN_ne (pc := 15) (i := 5) (j := 6) (tgt := 24) C dX7_sumsBy_15 (by decide) ⟨by omega, by omega⟩ (fun h15 => ?_) (fun h15 => absurd h15 (by decide))
  refine g_iload_n (pc := 24) C dX7_sumsBy_24 0 rfl ?_
  refine g_iconst (pc := 25) (v := 5) C dX7_sumsBy_25 (by decide) ?_
  refine g_icmpN_ne (pc := 26) (i := 5) (j := 5) (tgt := 35) C dX7_sumsBy_26 (by decide) ⟨by omega, by omega⟩ (fun h26 => absurd h26 (by decide)) (fun h26 => ?_)
  refine g_aload_n (pc := 29) C dX7_sumsBy_29 1 rfl ?_
  refine g_bipush (pc := 30) (v := 60) C dX7_sumsBy_30 (by decide) ?_
  refine g_wrVV (pc := 32) (rest := []) (wr := []) C (fun _ => wN G m A τ (upd y 1 (nI (b + 1))) ++ ([iC G (A 12) 20 (bgK kp b 60)])) rfl k_X7_ran (c_X7_ran l G m A τ y kp b 60 (by first | assumption | omega)) ml_X7_303 rfl ⟨Nat.le_of_ble_eq_true rfl, Nat.le_of_ble_eq_true rfl⟩ rfl [0, 1, 2, 3, 4, 5, 6, 7, 8, 9] [] [0, 1, 2, 3, 4, 5, 6, 7, 8, 9] rfl (by decide) rfl (by decide) (by decide) (by decide) (fun _ => rfl) 0 rfl rfl rfl rfl (Nat.le_of_ble_eq_true rfl) ⟨by decide, by decide⟩ dX7_sumsBy_32 (fun _ _ => ?_)
  refine g_aload_n (pc := 35) C dX7_sumsBy_35 1 rfl ?_
  refine g_bipush (pc := 36) (v := 12) C dX7_sumsBy_36 (by decide) ?_
  refine g_wrVV (pc := 38) (rest := []) (wr := []) C (fun _ => wN G m A τ (upd y 1 (nI ((b + 1) + 1))) ++ ([iC G (A 12) 20 (bgK (bgK kp b 60) (b + 1) 12)])) rfl k_X7_ran (c_X7_ran l G m A τ y (bgK kp b 60) (b + 1) 12 (by first | assumption | omega)) ml_X7_303 rfl ⟨Nat.le_of_ble_eq_true rfl, Nat.le_of_ble_eq_true rfl⟩ rfl [0, 1, 2, 3, 4, 5, 6, 7, 8, 9] [] [0, 1, 2, 3, 4, 5, 6, 7, 8, 9] rfl (by decide) rfl (by decide) (by decide) (by decide) (fun _ => rfl) 0 rfl rfl rfl rfl (Nat.le_of_ble_eq_true rfl) ⟨by decide, by decide⟩ dX7_sumsBy_38 (fun _ _ => ?_)
  refine g_aload_n (pc := 41) C dX7_sumsBy_41 1 rfl ?_
  refine g_iload_n (pc := 42) C dX7_sumsBy_42 2 rfl ?_
  refine g_iload_n (pc := 43) C dX7_sumsBy_43 3 rfl ?_
  refine g_wrVI (pc := 44) (rest := []) (wr := []) C (fun _ => wN G m A τ (upd y 1 (nI (((b + 1) + 1) + (lnL 5).length))) ++ ([iC G (A 12) 20 (rnK (bgK (bgK kp b 60) (b + 1) 12) ((b + 1) + 1) (lnL 5))])) rfl k_X7_leansBy (c_X7_leansBy l G m A τ y (bgK (bgK kp b 60) (b + 1) 12) ((b + 1) + 1) q 5 x (by first | assumption | omega) (by decide) hk (by first | assumption | omega)) ml_X7_310 rfl ⟨Nat.le_of_ble_eq_true rfl, Nat.le_of_ble_eq_true rfl⟩ rfl [0, 1, 2, 3, 4, 5, 6, 7, 8, 9] [] [0, 1, 2, 3, 4, 5, 6, 7, 8, 9] rfl (by decide) rfl (by decide) (by decide) (by decide) (fun _ => rfl) 0 rfl rfl rfl rfl (Nat.le_of_ble_eq_true rfl) ⟨by decide, by decide⟩ dX7_sumsBy_44 (fun r44 _ e44 => ?_)
  subst e44
  refine g_istore (pc := 47) (lv' := [(4, .int (lnV 5 (nI q) (τ 1 q) x)), (3, .int 5), (0, .ref m), (1, .int (nI q)), (2, .int x)]) C dX7_sumsBy_47 (by decide) rfl ?_
  refine g_iload (pc := 49) C dX7_sumsBy_49 0 rfl ?_
  refine g_aload_n (pc := 51) C dX7_sumsBy_51 2 rfl ?_
  refine g_iload_n (pc := 52) C dX7_sumsBy_52 3 rfl ?_
  refine g_iload_n (pc := 53) C dX7_sumsBy_53 4 rfl ?_
  refine g_aload_n (pc := 54) C dX7_sumsBy_54 2 rfl ?_
  refine g_get (pc := 55) (T := TX7) (N := 33) (v := .ref (A 4)) C ib_X7 0 rfl rfl 5 (by decide) mf_X7_23 rfl rfl rfl dX7_sumsBy_55 ?_
  refine g_iload_n (pc := 58) C dX7_sumsBy_58 3 rfl ?_
  refine g_iald (pc := 59) (v := (τ 1) q) C 2 rfl q (rfl) ⟨by omega, by decide⟩ (rfl) dX7_sumsBy_59 ?_
  refine g_isub (pc := 60) C dX7_sumsBy_60 ?_
  refine g_wrVI (pc := 61) (rest := [.int (lnV 5 (nI q) (τ 1 q) x)]) (wr := []) C (fun _ => wN G m A τ (upd y 1 (nI ((((b + 1) + 1) + (lnL 5).length) + (akL 5).length))) ++ ([iC G (A 12) 20 (rnK (rnK (bgK (bgK kp b 60) (b + 1) 12) ((b + 1) + 1) (lnL 5)) (((b + 1) + 1) + (lnL 5).length) (akL 5))])) rfl k_X7_asksBy (c_X7_asksBy l G m A τ y (rnK (bgK (bgK kp b 60) (b + 1) 12) ((b + 1) + 1) (lnL 5)) (((b + 1) + 1) + (lnL 5).length) q 5 (x - ((τ 1) q)) (by first | assumption | omega) (by decide) hk (by show _ < 900; have e9 : (lnL 5).length = 3 := rfl; omega)) ml_X7_307 rfl ⟨Nat.le_of_ble_eq_true rfl, Nat.le_of_ble_eq_true rfl⟩ rfl [0, 1, 2, 3, 4, 5, 6, 7, 8, 9] [] [0, 1, 2, 3, 4, 5, 6, 7, 8, 9] rfl (by decide) rfl (by decide) (by decide) (by decide) (fun _ => rfl) 0 rfl rfl rfl rfl (Nat.le_of_ble_eq_true rfl) ⟨by decide, by decide⟩ dX7_sumsBy_61 (fun r61 _ e61 => ?_)
  subst e61
  refine g_ixor (pc := 64) C dX7_sumsBy_64 ?_
  refine g_istore (pc := 65) (lv' := [(5, .int ((lnV 5 (nI q) (τ 1 q) x) ^^^ (akV 5 (nI q) (τ 1 q) (x - ((τ 1) q))))), (4, .int (lnV 5 (nI q) (τ 1 q) x)), (3, .int 5), (0, .ref m), (1, .int (nI q)), (2, .int x)]) C dX7_sumsBy_65 (by decide) rfl ?_
  refine g_iload_n (pc := 67) C dX7_sumsBy_67 2 rfl ?_
  refine g_iconst (pc := 68) (v := 4) C dX7_sumsBy_68 (by decide) ?_
  refine g_icmpN_eq (pc := 69) (i := 5) (j := 4) (tgt := 78) C dX7_sumsBy_69 (by decide) ⟨by omega, by omega⟩ (fun h69 => absurd h69 (by decide)) (fun h69 => ?_)
  refine g_iload_n (pc := 72) C dX7_sumsBy_72 2 rfl ?_
  refine g_bipush (pc := 73) (v := 6) C dX7_sumsBy_73 (by decide) ?_
  refine g_icmpN_ne (pc := 75) (i := 5) (j := 6) (tgt := 84) C dX7_sumsBy_75 (by decide) ⟨by omega, by omega⟩ (fun h75 => ?_) (fun h75 => absurd h75 (by decide))
  refine g_iload_n (pc := 84) C dX7_sumsBy_84 2 rfl ?_
  refine g_iconst (pc := 85) (v := 5) C dX7_sumsBy_85 (by decide) ?_
  refine g_icmpN_ne (pc := 86) (i := 5) (j := 5) (tgt := 96) C dX7_sumsBy_86 (by decide) ⟨by omega, by omega⟩ (fun h86 => absurd h86 (by decide)) (fun h86 => ?_)
  refine g_iload (pc := 89) C dX7_sumsBy_89 0 rfl ?_
  refine g_iconst (pc := 91) (v := 5) C dX7_sumsBy_91 (by decide) ?_
  refine g_ixor (pc := 92) C dX7_sumsBy_92 ?_
  refine g_goto (pc := 93) (tgt := 98) C dX7_sumsBy_93 (by decide) ?_
  exact g_retIW (pc := 98) C rfl rfl () (rfl) (by rfl) (by rfl) dX7_sumsBy_98
set_option maxRecDepth 20000 in
set_option maxHeartbeats 4000000 in
theorem c_X7_sumsBy_6 (l : Launch) (G : gT) (m : Nat) (A : Nat → Nat) (τ : tT) (y : Nat → Int32) (kp : Nat → Int32) (b : Nat) (q : Nat) (x : Int32) (hq : q < 8) (hk : τ 0 q = 6) (hb : b < 700) : WI l yX7_sumsBy cX7_sumsBy 6 (some .int) 3 0 0 G [.ref m, .int (nI q), .int x] (wN G m A τ (upd y 1 (nI b)) ++ ([iC G (A 12) 20 kp])) (S := Unit) (fun r _ => r = smV 6 (nI q) (τ 1 q) x) (fun _ => wN G m A τ (upd y 1 (nI (b + (smL 6).length))) ++ ([iC G (A 12) 20 (rnK kp b (smL 6))])) := by
  intro sz9
  refine start_W (by decide) (Nat.le_of_ble_eq_true rfl) (fun p9 e9 s9 m9 a9 b9 t9 c9 C => ?_)
  refine g_lv (lv' := [(0, .ref m), (1, .int (nI q)), (2, .int x)]) rfl ?_
  refine g_aload_n (pc := 0) C dX7_sumsBy_0 0 rfl ?_
  refine g_get (pc := 1) (T := TX7) (N := 33) (v := .ref (A 3)) C ib_X7 0 rfl rfl 4 (by decide) mf_X7_20 rfl rfl rfl dX7_sumsBy_1 ?_
  refine g_iload_n (pc := 4) C dX7_sumsBy_4 1 rfl ?_
  refine g_iald (pc := 5) (v := (τ 0) q) C 1 rfl q (rfl) ⟨by omega, by decide⟩ (rfl) dX7_sumsBy_5 ?_
  refine g_top (z := nI 6) (hk) ?_
  refine g_istore_n (pc := 6) (lv' := [(3, .int 6), (0, .ref m), (1, .int (nI q)), (2, .int x)]) C dX7_sumsBy_6 rfl (by decide) rfl ?_
  refine g_iload_n (pc := 7) C dX7_sumsBy_7 0 rfl ?_
  refine g_iconst (pc := 8) (v := 4) C dX7_sumsBy_8 (by decide) ?_
  refine g_icmpN_eq (pc := 9) (i := 6) (j := 4) (tgt := 18) C dX7_sumsBy_9 (by decide) ⟨by omega, by omega⟩ (fun h9 => absurd h9 (by decide)) (fun h9 => ?_)
  refine g_iload_n (pc := 12) C dX7_sumsBy_12 0 rfl ?_
  refine g_bipush (pc := 13) (v := 6) C dX7_sumsBy_13 (by decide) ?_
  refine g_icmpN_ne (pc := 15) (i := 6) (j := 6) (tgt := 24) C dX7_sumsBy_15 (by decide) ⟨by omega, by omega⟩ (fun h15 => absurd h15 (by decide)) (fun h15 => ?_)
  refine g_aload_n (pc := 18) C dX7_sumsBy_18 1 rfl ?_
  refine g_bipush (pc := 19) (v := 50) C dX7_sumsBy_19 (by decide) ?_
  refine g_wrVV (pc := 21) (rest := []) (wr := []) C (fun _ => wN G m A τ (upd y 1 (nI (b + 1))) ++ ([iC G (A 12) 20 (bgK kp b 50)])) rfl k_X7_ran (c_X7_ran l G m A τ y kp b 50 (by first | assumption | omega)) ml_X7_303 rfl ⟨Nat.le_of_ble_eq_true rfl, Nat.le_of_ble_eq_true rfl⟩ rfl [0, 1, 2, 3, 4, 5, 6, 7, 8, 9] [] [0, 1, 2, 3, 4, 5, 6, 7, 8, 9] rfl (by decide) rfl (by decide) (by decide) (by decide) (fun _ => rfl) 0 rfl rfl rfl rfl (Nat.le_of_ble_eq_true rfl) ⟨by decide, by decide⟩ dX7_sumsBy_21 (fun _ _ => ?_)
  refine g_iload_n (pc := 24) C dX7_sumsBy_24 0 rfl ?_
  refine g_iconst (pc := 25) (v := 5) C dX7_sumsBy_25 (by decide) ?_
  refine g_icmpN_ne (pc := 26) (i := 6) (j := 5) (tgt := 35) C dX7_sumsBy_26 (by decide) ⟨by omega, by omega⟩ (fun h26 => ?_) (fun h26 => absurd h26 (by decide))
  refine g_aload_n (pc := 35) C dX7_sumsBy_35 1 rfl ?_
  refine g_bipush (pc := 36) (v := 12) C dX7_sumsBy_36 (by decide) ?_
  refine g_wrVV (pc := 38) (rest := []) (wr := []) C (fun _ => wN G m A τ (upd y 1 (nI ((b + 1) + 1))) ++ ([iC G (A 12) 20 (bgK (bgK kp b 50) (b + 1) 12)])) rfl k_X7_ran (c_X7_ran l G m A τ y (bgK kp b 50) (b + 1) 12 (by first | assumption | omega)) ml_X7_303 rfl ⟨Nat.le_of_ble_eq_true rfl, Nat.le_of_ble_eq_true rfl⟩ rfl [0, 1, 2, 3, 4, 5, 6, 7, 8, 9] [] [0, 1, 2, 3, 4, 5, 6, 7, 8, 9] rfl (by decide) rfl (by decide) (by decide) (by decide) (fun _ => rfl) 0 rfl rfl rfl rfl (Nat.le_of_ble_eq_true rfl) ⟨by decide, by decide⟩ dX7_sumsBy_38 (fun _ _ => ?_)
  refine g_aload_n (pc := 41) C dX7_sumsBy_41 1 rfl ?_
  refine g_iload_n (pc := 42) C dX7_sumsBy_42 2 rfl ?_
  refine g_iload_n (pc := 43) C dX7_sumsBy_43 3 rfl ?_
  refine g_wrVI (pc := 44) (rest := []) (wr := []) C (fun _ => wN G m A τ (upd y 1 (nI (((b + 1) + 1) + (lnL 6).length))) ++ ([iC G (A 12) 20 (rnK (bgK (bgK kp b 50) (b + 1) 12) ((b + 1) + 1) (lnL 6))])) rfl k_X7_leansBy (c_X7_leansBy l G m A τ y (bgK (bgK kp b 50) (b + 1) 12) ((b + 1) + 1) q 6 x (by first | assumption | omega) (by decide) hk (by first | assumption | omega)) ml_X7_310 rfl ⟨Nat.le_of_ble_eq_true rfl, Nat.le_of_ble_eq_true rfl⟩ rfl [0, 1, 2, 3, 4, 5, 6, 7, 8, 9] [] [0, 1, 2, 3, 4, 5, 6, 7, 8, 9] rfl (by decide) rfl (by decide) (by decide) (by decide) (fun _ => rfl) 0 rfl rfl rfl rfl (Nat.le_of_ble_eq_true rfl) ⟨by decide, by decide⟩ dX7_sumsBy_44 (fun r44 _ e44 => ?_)
  subst e44
  refine g_istore (pc := 47) (lv' := [(4, .int (lnV 6 (nI q) (τ 1 q) x)), (3, .int 6), (0, .ref m), (1, .int (nI q)), (2, .int x)]) C dX7_sumsBy_47 (by decide) rfl ?_
  refine g_iload (pc := 49) C dX7_sumsBy_49 0 rfl ?_
  refine g_aload_n (pc := 51) C dX7_sumsBy_51 2 rfl ?_
  refine g_iload_n (pc := 52) C dX7_sumsBy_52 3 rfl ?_
  refine g_iload_n (pc := 53) C dX7_sumsBy_53 4 rfl ?_
  refine g_aload_n (pc := 54) C dX7_sumsBy_54 2 rfl ?_
  refine g_get (pc := 55) (T := TX7) (N := 33) (v := .ref (A 4)) C ib_X7 0 rfl rfl 5 (by decide) mf_X7_23 rfl rfl rfl dX7_sumsBy_55 ?_
  refine g_iload_n (pc := 58) C dX7_sumsBy_58 3 rfl ?_
  refine g_iald (pc := 59) (v := (τ 1) q) C 2 rfl q (rfl) ⟨by omega, by decide⟩ (rfl) dX7_sumsBy_59 ?_
  refine g_isub (pc := 60) C dX7_sumsBy_60 ?_
  refine g_wrVI (pc := 61) (rest := [.int (lnV 6 (nI q) (τ 1 q) x)]) (wr := []) C (fun _ => wN G m A τ (upd y 1 (nI ((((b + 1) + 1) + (lnL 6).length) + (akL 6).length))) ++ ([iC G (A 12) 20 (rnK (rnK (bgK (bgK kp b 50) (b + 1) 12) ((b + 1) + 1) (lnL 6)) (((b + 1) + 1) + (lnL 6).length) (akL 6))])) rfl k_X7_asksBy (c_X7_asksBy l G m A τ y (rnK (bgK (bgK kp b 50) (b + 1) 12) ((b + 1) + 1) (lnL 6)) (((b + 1) + 1) + (lnL 6).length) q 6 (x - ((τ 1) q)) (by first | assumption | omega) (by decide) hk (by show _ < 900; have e9 : (lnL 6).length = 5 := rfl; omega)) ml_X7_307 rfl ⟨Nat.le_of_ble_eq_true rfl, Nat.le_of_ble_eq_true rfl⟩ rfl [0, 1, 2, 3, 4, 5, 6, 7, 8, 9] [] [0, 1, 2, 3, 4, 5, 6, 7, 8, 9] rfl (by decide) rfl (by decide) (by decide) (by decide) (fun _ => rfl) 0 rfl rfl rfl rfl (Nat.le_of_ble_eq_true rfl) ⟨by decide, by decide⟩ dX7_sumsBy_61 (fun r61 _ e61 => ?_)
  subst e61
  refine g_ixor (pc := 64) C dX7_sumsBy_64 ?_
  refine g_istore (pc := 65) (lv' := [(5, .int ((lnV 6 (nI q) (τ 1 q) x) ^^^ (akV 6 (nI q) (τ 1 q) (x - ((τ 1) q))))), (4, .int (lnV 6 (nI q) (τ 1 q) x)), (3, .int 6), (0, .ref m), (1, .int (nI q)), (2, .int x)]) C dX7_sumsBy_65 (by decide) rfl ?_
  refine g_iload_n (pc := 67) C dX7_sumsBy_67 2 rfl ?_
  refine g_iconst (pc := 68) (v := 4) C dX7_sumsBy_68 (by decide) ?_
  refine g_icmpN_eq (pc := 69) (i := 6) (j := 4) (tgt := 78) C dX7_sumsBy_69 (by decide) ⟨by omega, by omega⟩ (fun h69 => absurd h69 (by decide)) (fun h69 => ?_)
  refine g_iload_n (pc := 72) C dX7_sumsBy_72 2 rfl ?_
  refine g_bipush (pc := 73) (v := 6) C dX7_sumsBy_73 (by decide) ?_
  refine g_icmpN_ne (pc := 75) (i := 6) (j := 6) (tgt := 84) C dX7_sumsBy_75 (by decide) ⟨by omega, by omega⟩ (fun h75 => absurd h75 (by decide)) (fun h75 => ?_)
  refine g_iload (pc := 78) C dX7_sumsBy_78 0 rfl ?_
  refine g_ineg (pc := 80) (v := -((lnV 6 (nI q) (τ 1 q) x) ^^^ (akV 6 (nI q) (τ 1 q) (x - ((τ 1) q))))) C dX7_sumsBy_80 rfl ?_
  refine g_goto (pc := 81) (tgt := 98) C dX7_sumsBy_81 (by decide) ?_
  exact g_retIW (pc := 98) C rfl rfl () (rfl) (by rfl) (by rfl) dX7_sumsBy_98
theorem c_X7_sumsBy (l : Launch) (G : gT) (m : Nat) (A : Nat → Nat) (τ : tT) (y : Nat → Int32) (kp : Nat → Int32) (b : Nat) (q : Nat) (k : Nat) (x : Int32) (hq : q < 8) (hk : k ≤ 6) (hkk : τ 0 q = nI k) (hb : b < 700) : WI l yX7_sumsBy cX7_sumsBy 6 (some .int) 3 0 0 G [.ref m, .int (nI q), .int x] (wN G m A τ (upd y 1 (nI b)) ++ ([iC G (A 12) 20 kp])) (S := Unit) (fun r _ => r = smV k (nI q) (τ 1 q) x) (fun _ => wN G m A τ (upd y 1 (nI (b + (smL k).length))) ++ ([iC G (A 12) 20 (rnK kp b (smL k))])) := by
  rcases (show k = 0 ∨ k = 1 ∨ k = 2 ∨ k = 3 ∨ k = 4 ∨ k = 5 ∨ k = 6 from by omega) with rfl | rfl | rfl | rfl | rfl | rfl | rfl
  · exact c_X7_sumsBy_0 l G m A τ y kp b q x hq hkk hb
  · exact c_X7_sumsBy_1 l G m A τ y kp b q x hq hkk hb
  · exact c_X7_sumsBy_2 l G m A τ y kp b q x hq hkk hb
  · exact c_X7_sumsBy_3 l G m A τ y kp b q x hq hkk hb
  · exact c_X7_sumsBy_4 l G m A τ y kp b q x hq hkk hb
  · exact c_X7_sumsBy_5 l G m A τ y kp b q x hq hkk hb
  · exact c_X7_sumsBy_6 l G m A τ y kp b q x hq hkk hb
theorem in02 {x : Int32} (h : 0 ≤ x ∧ x ≤ 2) (h1 : ¬ x = 0) (h2 : ¬ x = 1) : x = 2 := by
  obtain ⟨k, hk, rfl⟩ := (lt_Q (n := 3) (by decide)).mp h
  rcases (show k = 0 ∨ k = 1 ∨ k = 2 from by omega) with rfl | rfl | rfl
  · exact absurd rfl h1
  · exact absurd rfl h2
  · rfl
theorem acV_no {k : Nat} {act m a x : Int32} (h : ¬ (0 ≤ act ∧ act ≤ 2)) : acV k act m a x = 0 := by
  unfold acV
  rw [if_neg (fun e => h (by rw [e]; decide)), if_neg (fun e => h (by rw [e]; decide)), if_neg (fun e => h (by rw [e]; decide))]
theorem acL_no {k : Nat} {act : Int32} (h : ¬ (0 ≤ act ∧ act ≤ 2)) : acL k act = [] := by
  unfold acL
  rw [if_neg (fun e => h (by rw [e]; decide)), if_neg (fun e => h (by rw [e]; decide)), if_neg (fun e => h (by rw [e]; decide))]
set_option maxRecDepth 20000 in
set_option maxHeartbeats 4000000 in
theorem c_X7_act (l : Launch) (G : gT) (m : Nat) (A : Nat → Nat) (τ : tT) (y : Nat → Int32) (kp : Nat → Int32) (q : Int32) (act : Int32) (x : Int32) (hT : TI τ) : WI l yX7_act cX7_act 4 (some .int) 10 0 0 G [.ref m, .int q, .int act, .int x] (wN G m A τ y ++ ([iC G (A 12) 20 kp])) (S := Unit) (fun r _ => r = if isQ τ q then acV (tK τ (nx q)) act (nI (nx q)) (τ 1 (nx q)) x else 0) (fun _ => wN G m A τ (upd y 1 (nI (if isQ τ q then (acL (tK τ (nx q)) act).length else 0))) ++ ([iC G (A 12) 20 (if isQ τ q then rnK kp 0 (acL (tK τ (nx q)) act) else kp)])) := by
  have hg10 := hT.g10
  have hq8 := hT.q8
  intro sz9
  refine start_W (by decide) (Nat.le_of_ble_eq_true rfl) (fun p9 e9 s9 m9 a9 b9 t9 c9 C => ?_)
  refine g_lv (lv' := [(0, .ref m), (1, .int q), (2, .int act), (3, .int x)]) rfl ?_
  refine g_aload_n (pc := 0) C dX7_act_0 0 rfl ?_
  refine g_iconst (pc := 1) (v := 0) C dX7_act_1 (by decide) ?_
  refine g_put (pc := 2) (T := TX7) (N := 33) (ty := .int) (ws' := [oC m 6 [.ref (A 0), .ref (A 1), .ref (A 2), .int (τ 8 0), .ref (A 3), .ref (A 4), .ref (A 5), .int (τ 8 1), .ref (A 6), .ref (A 7), .ref (A 8), .ref (A 9), .ref (A 10), .int (τ 8 2), .int (τ 8 3), .int (τ 8 5), .int (τ 8 6), .int (τ 8 4), .int (y 0), .ref (A 11), .int 0, .ref (A 12), .int (y 2), .ref (A 13), .ref (A 14), .int (y 3), .int (y 4), .ref (A 15), .ref (A 16), .ref (A 17), .ref (A 18), .ref (A 19), .int (y 5)], iC G (A 3) 8 (τ 0), iC G (A 4) 8 (τ 1), iC G (A 5) 64 (τ 2), iC G (A 6) 10 (τ 3), iC G (A 7) 10 (τ 4), iC G (A 8) 10 (τ 5), iC G (A 9) 10 (τ 6), iC G (A 10) 10 (τ 7), iC G (A 12) 20 kp]) C rfl ib_X7 tyX7 tyX7_ok nmX7 0 rfl rfl 20 (by decide) mf_X7_300 rfl rfl rfl (by decide +kernel) rfl rfl (Nat.le_of_ble_eq_true rfl) dX7_act_2 rfl ?_
  refine g_ws (ws' := wN G m A τ (upd y 1 (nI 0)) ++ ([iC G (A 12) 20 kp])) (by rfl) ?_
  refine g_aload_n (pc := 5) C dX7_act_5 0 rfl ?_
  refine g_iload_n (pc := 6) C dX7_act_6 1 rfl ?_
  refine g_rdVI (pc := 7) (val := bI (0 ≤ q ∧ q ≤ nI (tQ τ) - 1)) (rest := []) C k_X7_isQuestion (c_X7_isQuestion l G m A τ (upd y 1 (nI 0)) q (by first | assumption | omega)) ml_X7_102 rfl ⟨Nat.le_of_ble_eq_true rfl, Nat.le_of_ble_eq_true rfl⟩ rfl [0, 1, 2, 3, 4, 5, 6, 7, 8] rfl 0 rfl rfl rfl rfl (Nat.le_of_ble_eq_true rfl) ⟨by decide, by decide⟩ dX7_act_7 ?_
  refine g_ifb_eq (pc := 10) (tgt := 22) C dX7_act_10 (by decide) (fun h10 => ?_) (fun h10 => ?_)
  · refine g_iconst (pc := 22) (v := 0) C dX7_act_22 (by decide) ?_
    exact g_retIW (pc := 23) C rfl rfl () (rfl) (by rw [if_neg h10]) (by simp only [if_neg h10]) dX7_act_23
  · obtain ⟨q8, hq8, rfl⟩ := isQ_nI hT h10
    have eq8 : nx (nI q8) = q8 := nx_nI (by omega)
    refine g_iload_n (pc := 13) C dX7_act_13 2 rfl ?_
    refine g_iconst (pc := 14) (v := 0) C dX7_act_14 (by decide) ?_
    refine g_iconst (pc := 15) (v := 2) C dX7_act_15 (by decide) ?_
    refine g_rdSI (pc := 16) (val := bI (0 ≤ act ∧ act ≤ 2)) (rest := []) C k_X7_within (c_X7_within l G act 0 2) ml_X7_88 rfl ⟨Nat.le_of_ble_eq_true rfl, Nat.le_of_ble_eq_true rfl⟩ rfl [] rfl rfl (Nat.le_of_ble_eq_true rfl) ⟨by decide, by decide⟩ dX7_act_16 ?_
    refine g_ifb_ne (pc := 19) (tgt := 24) C dX7_act_19 (by decide) (fun h19 => ?_) (fun h19 => ?_)
    · refine g_iload_n (pc := 24) C dX7_act_24 2 rfl ?_
      refine g_if_ne (pc := 25) (tgt := 37) C dX7_act_25 (by decide) (fun h25 => ?_) (fun h25 => ?_)
      · refine g_iload_n (pc := 37) C dX7_act_37 2 rfl ?_
        refine g_iconst (pc := 38) (v := 1) C dX7_act_38 (by decide) ?_
        refine g_icmp_ne (pc := 39) (tgt := 51) C dX7_act_39 (by decide) (fun h39 => ?_) (fun h39 => ?_)
        · refine g_aload_n (pc := 51) C dX7_act_51 0 rfl ?_
          refine g_iload_n (pc := 52) C dX7_act_52 1 rfl ?_
          refine g_iload_n (pc := 53) C dX7_act_53 3 rfl ?_
          refine g_wrVI (pc := 54) (rest := []) (wr := []) C (fun _ => wN G m A τ (upd y 1 (nI (0 + (smL (tK τ q8)).length))) ++ ([iC G (A 12) 20 (rnK kp 0 (smL (tK τ q8)))])) rfl k_X7_sumsBy (c_X7_sumsBy l G m A τ y kp 0 q8 (tK τ q8) x (by first | assumption | omega) (hT.k (show q8 < 8 from by omega)).2 (hT.k (show q8 < 8 from by omega)).1 (by first | assumption | omega)) ml_X7_313 rfl ⟨Nat.le_of_ble_eq_true rfl, Nat.le_of_ble_eq_true rfl⟩ rfl [0, 1, 2, 3, 4, 5, 6, 7, 8, 9] [] [0, 1, 2, 3, 4, 5, 6, 7, 8, 9] rfl (by decide) rfl (by decide) (by decide) (by decide) (fun _ => rfl) 0 rfl rfl rfl rfl (Nat.le_of_ble_eq_true rfl) ⟨by decide, by decide⟩ dX7_act_54 (fun r54 _ e54 => ?_)
          subst e54
          exact g_retIW (pc := 57) C rfl rfl () (rfl) (by rw [if_pos h10, eq8]; have e2 := in02 h19 h25 h39; simp [acV, *]) (by simp only [if_pos h10, eq8]; rw [acL, if_neg h25, if_neg h39, if_pos (in02 h19 h25 h39)] <;> simp only [Nat.zero_add]) dX7_act_57
        · refine g_aload_n (pc := 42) C dX7_act_42 0 rfl ?_
          refine g_iload_n (pc := 43) C dX7_act_43 1 rfl ?_
          refine g_iload_n (pc := 44) C dX7_act_44 3 rfl ?_
          refine g_wrVI (pc := 45) (rest := []) (wr := []) C (fun _ => wN G m A τ (upd y 1 (nI (0 + (lnL (tK τ q8)).length))) ++ ([iC G (A 12) 20 (rnK kp 0 (lnL (tK τ q8)))])) rfl k_X7_leansBy (c_X7_leansBy l G m A τ y kp 0 q8 (tK τ q8) x (by first | assumption | omega) (hT.k (show q8 < 8 from by omega)).2 (hT.k (show q8 < 8 from by omega)).1 (by first | assumption | omega)) ml_X7_310 rfl ⟨Nat.le_of_ble_eq_true rfl, Nat.le_of_ble_eq_true rfl⟩ rfl [0, 1, 2, 3, 4, 5, 6, 7, 8, 9] [] [0, 1, 2, 3, 4, 5, 6, 7, 8, 9] rfl (by decide) rfl (by decide) (by decide) (by decide) (fun _ => rfl) 0 rfl rfl rfl rfl (Nat.le_of_ble_eq_true rfl) ⟨by decide, by decide⟩ dX7_act_45 (fun r45 _ e45 => ?_)
          subst e45
          refine g_goto (pc := 48) (tgt := 57) C dX7_act_48 (by decide) ?_
          exact g_retIW (pc := 57) C rfl rfl () (rfl) (by rw [if_pos h10, eq8]; simp [acV, *]) (by simp only [if_pos h10, eq8]; rw [acL, if_neg h25, if_pos h39] <;> simp only [Nat.zero_add]) dX7_act_57
      · refine g_aload_n (pc := 28) C dX7_act_28 0 rfl ?_
        refine g_iload_n (pc := 29) C dX7_act_29 1 rfl ?_
        refine g_iload_n (pc := 30) C dX7_act_30 3 rfl ?_
        refine g_wrVI (pc := 31) (rest := []) (wr := []) C (fun _ => wN G m A τ (upd y 1 (nI (0 + (akL (tK τ q8)).length))) ++ ([iC G (A 12) 20 (rnK kp 0 (akL (tK τ q8)))])) rfl k_X7_asksBy (c_X7_asksBy l G m A τ y kp 0 q8 (tK τ q8) x (by first | assumption | omega) (hT.k (show q8 < 8 from by omega)).2 (hT.k (show q8 < 8 from by omega)).1 (by first | assumption | omega)) ml_X7_307 rfl ⟨Nat.le_of_ble_eq_true rfl, Nat.le_of_ble_eq_true rfl⟩ rfl [0, 1, 2, 3, 4, 5, 6, 7, 8, 9] [] [0, 1, 2, 3, 4, 5, 6, 7, 8, 9] rfl (by decide) rfl (by decide) (by decide) (by decide) (fun _ => rfl) 0 rfl rfl rfl rfl (Nat.le_of_ble_eq_true rfl) ⟨by decide, by decide⟩ dX7_act_31 (fun r31 _ e31 => ?_)
        subst e31
        refine g_goto (pc := 34) (tgt := 57) C dX7_act_34 (by decide) ?_
        exact g_retIW (pc := 57) C rfl rfl () (rfl) (by rw [if_pos h10, eq8]; simp [acV, *]) (by simp only [if_pos h10, eq8]; rw [acL, if_pos h25] <;> simp only [Nat.zero_add]) dX7_act_57
    · refine g_iconst (pc := 22) (v := 0) C dX7_act_22 (by decide) ?_
      exact g_retIW (pc := 23) C rfl rfl () (rfl) (by rw [if_pos h10, eq8]; exact (acV_no h19).symm) (by simp only [if_pos h10, eq8]; rw [acL_no h19]; rfl) dX7_act_23
set_option maxRecDepth 20000 in
set_option maxHeartbeats 4000000 in
theorem c_X7_trace (l : Launch) (G : gT) (m : Nat) (A : Nat → Nat) (τ : tT) (y : Nat → Int32) (kp : Nat → Int32) (b : Nat) (i : Int32) (hb : b < 1000) (hy : y 1 = nI b) : RI l yX7_trace cX7_trace 2 (some .int) 10 G [.ref m, .int i] (wN G m A τ y ++ ([iC G (A 12) 20 kp])) (trV kp b i) := by
  refine start_R (by decide) (Nat.le_of_ble_eq_true rfl) (fun p9 e9 s9 m9 a9 b9 t9 c9 C => ?_)
  refine g_lv (lv' := [(0, .ref m), (1, .int i)]) rfl ?_
  refine g_iload_n (pc := 0) C dX7_trace_0 1 rfl ?_
  refine g_if_lt (pc := 1) (tgt := 27) C dX7_trace_1 (by decide) (fun h1 => ?_) (fun h1 => ?_)
  · refine g_iconst (pc := 27) (v := (-1)) C dX7_trace_27 (by decide) ?_
    exact g_retIR (pc := 28) C (rfl) (by rw [trV, if_neg (fun z => Int32.not_le.mpr h1 z.1)]) dX7_trace_28
  · refine g_iload_n (pc := 4) C dX7_trace_4 1 rfl ?_
    refine g_aload_n (pc := 5) C dX7_trace_5 0 rfl ?_
    refine g_get (pc := 6) (T := TX7) (N := 33) (v := .int (y 1)) C ib_X7 0 rfl rfl 20 (by decide) mf_X7_300 rfl rfl rfl dX7_trace_6 ?_
    refine g_top (z := nI b) (hy) ?_
    refine g_icmp_ge (pc := 9) (tgt := 27) C dX7_trace_9 (by decide) (fun h9 => ?_) (fun h9 => ?_)
    · refine g_iconst (pc := 27) (v := (-1)) C dX7_trace_27 (by decide) ?_
      exact g_retIR (pc := 28) C (rfl) (by rw [trV, if_neg (fun z => Int32.not_le.mpr z.2.1 h9)]) dX7_trace_28
    · refine g_iload_n (pc := 12) C dX7_trace_12 1 rfl ?_
      refine g_bipush (pc := 13) (v := 20) C dX7_trace_13 (by decide) ?_
      refine g_icmp_ge (pc := 15) (tgt := 27) C dX7_trace_15 (by decide) (fun h15 => ?_) (fun h15 => ?_)
      · refine g_iconst (pc := 27) (v := (-1)) C dX7_trace_27 (by decide) ?_
        exact g_retIR (pc := 28) C (rfl) (by rw [trV, if_neg (fun z => Int32.not_le.mpr z.2.2 h15)]) dX7_trace_28
      · obtain ⟨j9, hj9, rfl⟩ := nI_of2 (M := 20) (n := 20) rfl h1 (Int32.le_of_lt (Int32.not_le.mp h15))
        have hj20 : j9 < 20 := (nI_ltI (by omega) (by decide)).mp (Int32.not_le.mp h15)
        refine g_aload_n (pc := 18) C dX7_trace_18 0 rfl ?_
        refine g_get (pc := 19) (T := TX7) (N := 33) (v := .ref (A 12)) C ib_X7 0 rfl rfl 21 (by decide) mf_X7_47 rfl rfl rfl dX7_trace_19 ?_
        refine g_iload_n (pc := 22) C dX7_trace_22 1 rfl ?_
        refine g_iald (pc := 23) (v := kp j9) C 9 rfl j9 (rfl) ⟨by omega, by decide⟩ (rfl) dX7_trace_23 ?_
        refine g_goto (pc := 24) (tgt := 28) C dX7_trace_24 (by decide) ?_
        exact g_retIR (pc := 28) C (rfl) (by rw [trV, if_pos ⟨Int32.not_lt.mp h1, Int32.not_le.mp h9, Int32.not_le.mp h15⟩, nx_nI (by omega)]) dX7_trace_28
set_option maxRecDepth 20000 in
set_option maxHeartbeats 4000000 in
theorem c_X7_status (l : Launch) (G : gT) (m : Nat) (A : Nat → Nat) (τ : tT) (y : Nat → Int32) (rr : Nat → Int32) (b : Nat) (k : Int32) (hT : TI τ) (hy : y 1 = nI b) : RI l yX7_status cX7_status 2 (some .int) 10 G [.ref m, .int k] (wN G m A τ y ++ ([iC G (A 11) 8 rr])) (stV τ rr b k) := by
  refine start_R (by decide) (Nat.le_of_ble_eq_true rfl) (fun p9 e9 s9 m9 a9 b9 t9 c9 C => ?_)
  refine g_lv (lv' := [(0, .ref m), (1, .int k)]) rfl ?_
  refine g_iload_n (pc := 0) C dX7_status_0 1 rfl ?_
  by_cases h1_0 : k = 0
  · refine g_top (z := 0) h1_0 ?_
    refine g_tsIn (pc := 1) (off := 51) (tgt := 52) C dX7_status_1 (by decide) (by decide) (by decide) (by decide) ?_
    refine g_aload_n (pc := 52) C dX7_status_52 0 rfl ?_
    refine g_get (pc := 53) (T := TX7) (N := 33) (v := .int (τ 8 0)) C ib_X7 0 rfl rfl 3 (by decide) mf_X7_85 rfl rfl rfl dX7_status_53 ?_
    refine g_top (z := nI (tQ τ)) (hT.q) ?_
    exact g_retIR (pc := 56) C (rfl) (by simp [stV, *]) dX7_status_56
  by_cases h1_1 : k = 1
  · refine g_top (z := 1) h1_1 ?_
    refine g_tsIn (pc := 1) (off := 56) (tgt := 57) C dX7_status_1 (by decide) (by decide) (by decide) (by decide) ?_
    refine g_aload_n (pc := 57) C dX7_status_57 0 rfl ?_
    refine g_get (pc := 58) (T := TX7) (N := 33) (v := .int (τ 8 1)) C ib_X7 0 rfl rfl 7 (by decide) mf_X7_92 rfl rfl rfl dX7_status_58 ?_
    refine g_top (z := nI (tG τ)) (hT.g) ?_
    exact g_retIR (pc := 61) C (rfl) (by simp [stV, *]) dX7_status_61
  by_cases h1_2 : k = 2
  · refine g_top (z := 2) h1_2 ?_
    refine g_tsIn (pc := 1) (off := 61) (tgt := 62) C dX7_status_1 (by decide) (by decide) (by decide) (by decide) ?_
    refine g_aload_n (pc := 62) C dX7_status_62 0 rfl ?_
    refine g_rdVI (pc := 63) (val := ppl τ) (rest := []) C k_X7_people (c_X7_people l G m A τ y (by first | assumption | omega)) ml_X7_211 rfl ⟨Nat.le_of_ble_eq_true rfl, Nat.le_of_ble_eq_true rfl⟩ rfl [0, 1, 2, 3, 4, 5, 6, 7, 8] rfl 0 rfl rfl rfl rfl (Nat.le_of_ble_eq_true rfl) ⟨by decide, by decide⟩ dX7_status_63 ?_
    exact g_retIR (pc := 66) C (rfl) (by simp [stV, *]) dX7_status_66
  by_cases h1_3 : k = 3
  · refine g_top (z := 3) h1_3 ?_
    refine g_tsIn (pc := 1) (off := 66) (tgt := 67) C dX7_status_1 (by decide) (by decide) (by decide) (by decide) ?_
    refine g_aload_n (pc := 67) C dX7_status_67 0 rfl ?_
    refine g_get (pc := 68) (T := TX7) (N := 33) (v := .int (τ 8 2)) C ib_X7 0 rfl rfl 13 (by decide) mf_X7_71 rfl rfl rfl dX7_status_68 ?_
    exact g_retIR (pc := 71) C (rfl) (by simp [stV, *]) dX7_status_71
  by_cases h1_4 : k = 4
  · refine g_top (z := 4) h1_4 ?_
    refine g_tsIn (pc := 1) (off := 71) (tgt := 72) C dX7_status_1 (by decide) (by decide) (by decide) (by decide) ?_
    refine g_aload_n (pc := 72) C dX7_status_72 0 rfl ?_
    refine g_get (pc := 73) (T := TX7) (N := 33) (v := .int (τ 8 3)) C ib_X7 0 rfl rfl 14 (by decide) mf_X7_139 rfl rfl rfl dX7_status_73 ?_
    exact g_retIR (pc := 76) C (rfl) (by simp [stV, *]) dX7_status_76
  by_cases h1_5 : k = 5
  · refine g_top (z := 5) h1_5 ?_
    refine g_tsIn (pc := 1) (off := 76) (tgt := 77) C dX7_status_1 (by decide) (by decide) (by decide) (by decide) ?_
    refine g_aload_n (pc := 77) C dX7_status_77 0 rfl ?_
    refine g_get (pc := 78) (T := TX7) (N := 33) (v := .int (τ 8 5)) C ib_X7 0 rfl rfl 15 (by decide) mf_X7_297 rfl rfl rfl dX7_status_78 ?_
    exact g_retIR (pc := 81) C (rfl) (by simp [stV, *]) dX7_status_81
  by_cases h1_6 : k = 6
  · refine g_top (z := 6) h1_6 ?_
    refine g_tsIn (pc := 1) (off := 81) (tgt := 82) C dX7_status_1 (by decide) (by decide) (by decide) (by decide) ?_
    refine g_aload_n (pc := 82) C dX7_status_82 0 rfl ?_
    refine g_get (pc := 83) (T := TX7) (N := 33) (v := .int (τ 8 6)) C ib_X7 0 rfl rfl 16 (by decide) mf_X7_291 rfl rfl rfl dX7_status_83 ?_
    exact g_retIR (pc := 86) C (rfl) (by simp [stV, *]) dX7_status_86
  by_cases h1_7 : k = 7
  · refine g_top (z := 7) h1_7 ?_
    refine g_tsIn (pc := 1) (off := 86) (tgt := 87) C dX7_status_1 (by decide) (by decide) (by decide) (by decide) ?_
    refine g_aload_n (pc := 87) C dX7_status_87 0 rfl ?_
    refine g_get (pc := 88) (T := TX7) (N := 33) (v := .int (τ 8 4)) C ib_X7 0 rfl rfl 17 (by decide) mf_X7_75 rfl rfl rfl dX7_status_88 ?_
    exact g_retIR (pc := 91) C (rfl) (by simp [stV, *]) dX7_status_91
  by_cases h1_8 : k = 8
  · refine g_top (z := 8) h1_8 ?_
    refine g_tsIn (pc := 1) (off := 91) (tgt := 92) C dX7_status_1 (by decide) (by decide) (by decide) (by decide) ?_
    refine g_aload_n (pc := 92) C dX7_status_92 0 rfl ?_
    refine g_get (pc := 93) (T := TX7) (N := 33) (v := .int (y 1)) C ib_X7 0 rfl rfl 20 (by decide) mf_X7_300 rfl rfl rfl dX7_status_93 ?_
    refine g_top (z := nI b) (hy) ?_
    exact g_retIR (pc := 96) C (rfl) (by simp [stV, *]) dX7_status_96
  refine g_tsOut (pc := 1) (tgt := 97) C dX7_status_1 (by have a0 := lv_neT h1_0 (a := 0) rfl; have a1 := lv_neT h1_1 (a := 1) rfl; have a2 := lv_neT h1_2 (a := 2) rfl; have a3 := lv_neT h1_3 (a := 3) rfl; have a4 := lv_neT h1_4 (a := 4) rfl; have a5 := lv_neT h1_5 (a := 5) rfl; have a6 := lv_neT h1_6 (a := 6) rfl; have a7 := lv_neT h1_7 (a := 7) rfl; have a8 := lv_neT h1_8 (a := 8) rfl; omega) (by decide) ?_
  refine g_iload_n (pc := 97) C dX7_status_97 1 rfl ?_
  refine g_bipush (pc := 98) (v := 11) C dX7_status_98 (by decide) ?_
  refine g_bipush (pc := 100) (v := 17) C dX7_status_100 (by decide) ?_
  refine g_rdSI (pc := 102) (val := bI (11 ≤ k ∧ k ≤ 17)) (rest := []) C k_X7_within (c_X7_within l G k 11 17) ml_X7_88 rfl ⟨Nat.le_of_ble_eq_true rfl, Nat.le_of_ble_eq_true rfl⟩ rfl [] rfl rfl (Nat.le_of_ble_eq_true rfl) ⟨by decide, by decide⟩ dX7_status_102 ?_
  refine g_ifb_eq (pc := 105) (tgt := 120) C dX7_status_105 (by decide) (fun h105 => ?_) (fun h105 => ?_)
  · refine g_iconst (pc := 120) (v := (-1)) C dX7_status_120 (by decide) ?_
    exact g_retIR (pc := 121) C (rfl) (by simp [stV, *]) dX7_status_121
  · refine g_aload_n (pc := 108) C dX7_status_108 0 rfl ?_
    refine g_get (pc := 109) (T := TX7) (N := 33) (v := .ref (A 11)) C ib_X7 0 rfl rfl 19 (by decide) mf_X7_44 rfl rfl rfl dX7_status_109 ?_
    refine g_iload_n (pc := 112) C dX7_status_112 1 rfl ?_
    refine g_bipush (pc := 113) (v := 10) C dX7_status_113 (by decide) ?_
    refine g_isub (pc := 115) C dX7_status_115 ?_
    refine g_iald (pc := 116) (v := rr (nx (k - 10))) C 9 rfl (nx (k - 10)) ((st_ix h105).1) ⟨by exact (st_ix h105).2, by decide⟩ (rfl) dX7_status_116 ?_
    refine g_goto (pc := 117) (tgt := 121) C dX7_status_117 (by decide) ?_
    exact g_retIR (pc := 121) C (rfl) (by simp [stV, *]) dX7_status_121
