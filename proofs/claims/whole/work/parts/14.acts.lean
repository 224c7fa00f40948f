def τ0 : tT := fun a k => if a = 8 then (if k = 2 then 5 else if k = 4 then 1 else 0) else 0
theorem fq_z : fq τ0 = fun _ => 0 := by
  funext j; show (if j % 2 = 8 then _ else (0 : Int32)) = 0; rw [if_neg (by omega)]
theorem fg_z : fg τ0 = fun _ => 0 := by
  funext j; show (if 3 + j % 5 = 8 then _ else (0 : Int32)) = 0; rw [if_neg (by omega)]
theorem fill_s (i : Nat) : upd (fun k => if k < i then (-1 : Int32) else 0) i (-1) = fun k => if k < i + 1 then -1 else 0 := by
  funext k; unfold upd
  by_cases h : k = i
  · rw [if_pos h, if_pos (by omega)]
  · rw [if_neg h]
    show (if k < i then (-1 : Int32) else 0) = (if k < i + 1 then (-1 : Int32) else 0)
    by_cases h2 : k < i
    · rw [if_pos h2, if_pos (by omega)]
    · rw [if_neg h2, if_neg (by omega)]

set_option maxRecDepth 20000 in
set_option maxHeartbeats 4000000 in
theorem c_X3_become (l : Launch) (G : gT) (h : Nat) (a : Nat) (b : Nat) (c : Nat) (τ : tT) (h2 : Nat) (a2 : Nat) (b2 : Nat) (c2 : Nat) (σ : tT) : WV l yX3_become cX3_become 2 (none) 1 0 0 G [.ref h, .ref h2] (wT G h a b c τ ++ (wT G h2 a2 b2 c2 σ)) (S := Unit) (fun _ => True) (fun _ => wT G h a b c σ ++ (wT G h2 a2 b2 c2 σ)) := by
  intro sz9
  refine start_W (by decide) (Nat.le_of_ble_eq_true rfl) (fun p9 e9 s9 m9 a9 b9 t9 c9 C => ?_)
  refine g_lv (lv' := [(0, .ref h), (1, .ref h2)]) rfl ?_
  refine g_aload_n (pc := 0) C dX3_become_0 1 rfl ?_
  refine g_get (pc := 1) (T := TX3) (N := 10) (v := .ref a2) C ib_X3 4 rfl rfl 0 (by decide) mf_X3_11 rfl rfl rfl dX3_become_1 ?_
  refine g_iconst (pc := 4) (v := 0) C dX3_become_4 (by decide) ?_
  refine g_aload_n (pc := 5) C dX3_become_5 0 rfl ?_
  refine g_get (pc := 6) (T := TX3) (N := 10) (v := .ref a) C ib_X3 0 rfl rfl 0 (by decide) mf_X3_11 rfl rfl rfl dX3_become_6 ?_
  refine g_iconst (pc := 9) (v := 0) C dX3_become_9 (by decide) ?_
  refine g_aload_n (pc := 10) C dX3_become_10 0 rfl ?_
  refine g_get (pc := 11) (T := TX3) (N := 10) (v := .ref a) C ib_X3 0 rfl rfl 0 (by decide) mf_X3_11 rfl rfl rfl dX3_become_11 ?_
  refine g_alen (pc := 14) C 1 rfl dX3_become_14 ?_
  refine g_copyi (pc := 15) (ws' := [oC h 3 [.ref a, .ref b, .ref c, .int (τ 8 0), .int (τ 8 1), .int (τ 8 2), .int (τ 8 3), .int (τ 8 4), .int (τ 8 5), .int (τ 8 6)], iC G a 16 (va_cpy (fq σ) (fq τ) 0 0 16), iC G b 64 (τ 2), iC G c 50 (fg τ)] ++ (wT G h2 a2 b2 c2 σ)) C rfl ml_X3_28 rfl 5 1 rfl rfl 0 0 16 rfl rfl ⟨by omega, rfl⟩ ⟨by omega, by decide⟩ ⟨by omega, by decide⟩ ⟨Nat.le_of_ble_eq_true rfl, Nat.le_of_ble_eq_true rfl⟩ dX3_become_15 rfl ?_
  refine g_aload_n (pc := 18) C dX3_become_18 1 rfl ?_
  refine g_get (pc := 19) (T := TX3) (N := 10) (v := .ref b2) C ib_X3 4 rfl rfl 1 (by decide) mf_X3_15 rfl rfl rfl dX3_become_19 ?_
  refine g_iconst (pc := 22) (v := 0) C dX3_become_22 (by decide) ?_
  refine g_aload_n (pc := 23) C dX3_become_23 0 rfl ?_
  refine g_get (pc := 24) (T := TX3) (N := 10) (v := .ref b) C ib_X3 0 rfl rfl 1 (by decide) mf_X3_15 rfl rfl rfl dX3_become_24 ?_
  refine g_iconst (pc := 27) (v := 0) C dX3_become_27 (by decide) ?_
  refine g_aload_n (pc := 28) C dX3_become_28 0 rfl ?_
  refine g_get (pc := 29) (T := TX3) (N := 10) (v := .ref b) C ib_X3 0 rfl rfl 1 (by decide) mf_X3_15 rfl rfl rfl dX3_become_29 ?_
  refine g_alen (pc := 32) C 2 rfl dX3_become_32 ?_
  refine g_copyi (pc := 33) (ws' := [oC h 3 [.ref a, .ref b, .ref c, .int (τ 8 0), .int (τ 8 1), .int (τ 8 2), .int (τ 8 3), .int (τ 8 4), .int (τ 8 5), .int (τ 8 6)], iC G a 16 (va_cpy (fq σ) (fq τ) 0 0 16), iC G b 64 (va_cpy (σ 2) (τ 2) 0 0 64), iC G c 50 (fg τ)] ++ (wT G h2 a2 b2 c2 σ)) C rfl ml_X3_28 rfl 6 2 rfl rfl 0 0 64 rfl rfl ⟨by omega, rfl⟩ ⟨by omega, by decide⟩ ⟨by omega, by decide⟩ ⟨Nat.le_of_ble_eq_true rfl, Nat.le_of_ble_eq_true rfl⟩ dX3_become_33 rfl ?_
  refine g_aload_n (pc := 36) C dX3_become_36 1 rfl ?_
  refine g_get (pc := 37) (T := TX3) (N := 10) (v := .ref c2) C ib_X3 4 rfl rfl 2 (by decide) mf_X3_18 rfl rfl rfl dX3_become_37 ?_
  refine g_iconst (pc := 40) (v := 0) C dX3_become_40 (by decide) ?_
  refine g_aload_n (pc := 41) C dX3_become_41 0 rfl ?_
  refine g_get (pc := 42) (T := TX3) (N := 10) (v := .ref c) C ib_X3 0 rfl rfl 2 (by decide) mf_X3_18 rfl rfl rfl dX3_become_42 ?_
  refine g_iconst (pc := 45) (v := 0) C dX3_become_45 (by decide) ?_
  refine g_aload_n (pc := 46) C dX3_become_46 0 rfl ?_
  refine g_get (pc := 47) (T := TX3) (N := 10) (v := .ref c) C ib_X3 0 rfl rfl 2 (by decide) mf_X3_18 rfl rfl rfl dX3_become_47 ?_
  refine g_alen (pc := 50) C 3 rfl dX3_become_50 ?_
  refine g_copyi (pc := 51) (ws' := [oC h 3 [.ref a, .ref b, .ref c, .int (τ 8 0), .int (τ 8 1), .int (τ 8 2), .int (τ 8 3), .int (τ 8 4), .int (τ 8 5), .int (τ 8 6)], iC G a 16 (va_cpy (fq σ) (fq τ) 0 0 16), iC G b 64 (va_cpy (σ 2) (τ 2) 0 0 64), iC G c 50 (va_cpy (fg σ) (fg τ) 0 0 50)] ++ (wT G h2 a2 b2 c2 σ)) C rfl ml_X3_28 rfl 7 3 rfl rfl 0 0 50 rfl rfl ⟨by omega, rfl⟩ ⟨by omega, by decide⟩ ⟨by omega, by decide⟩ ⟨Nat.le_of_ble_eq_true rfl, Nat.le_of_ble_eq_true rfl⟩ dX3_become_51 rfl ?_
  refine g_wsI (fq σ) (ws' := [oC h 3 [.ref a, .ref b, .ref c, .int (τ 8 0), .int (τ 8 1), .int (τ 8 2), .int (τ 8 3), .int (τ 8 4), .int (τ 8 5), .int (τ 8 6)], iC G a 16 (fq σ), iC G b 64 (va_cpy (σ 2) (τ 2) 0 0 64), iC G c 50 (va_cpy (fg σ) (fg τ) 0 0 50)] ++ (wT G h2 a2 b2 c2 σ)) 1 rfl (fun j hj => by rw [pk_cpy_in (by omega) (by omega)]; simp) rfl ?_
  refine g_wsI (σ 2) (ws' := [oC h 3 [.ref a, .ref b, .ref c, .int (τ 8 0), .int (τ 8 1), .int (τ 8 2), .int (τ 8 3), .int (τ 8 4), .int (τ 8 5), .int (τ 8 6)], iC G a 16 (fq σ), iC G b 64 (σ 2), iC G c 50 (va_cpy (fg σ) (fg τ) 0 0 50)] ++ (wT G h2 a2 b2 c2 σ)) 2 rfl (fun j hj => by rw [pk_cpy_in (by omega) (by omega)]; simp) rfl ?_
  refine g_wsI (fg σ) (ws' := [oC h 3 [.ref a, .ref b, .ref c, .int (τ 8 0), .int (τ 8 1), .int (τ 8 2), .int (τ 8 3), .int (τ 8 4), .int (τ 8 5), .int (τ 8 6)], iC G a 16 (fq σ), iC G b 64 (σ 2), iC G c 50 (fg σ)] ++ (wT G h2 a2 b2 c2 σ)) 3 rfl (fun j hj => by rw [pk_cpy_in (by omega) (by omega)]; simp) rfl ?_
  refine g_aload_n (pc := 54) C dX3_become_54 0 rfl ?_
  refine g_aload_n (pc := 55) C dX3_become_55 1 rfl ?_
  refine g_get (pc := 56) (T := TX3) (N := 10) (v := .int (σ 8 0)) C ib_X3 4 rfl rfl 3 (by decide) mf_X3_34 rfl rfl rfl dX3_become_56 ?_
  refine g_put (pc := 59) (T := TX3) (N := 10) (ty := .int) (ws' := [oC h 3 [.ref a, .ref b, .ref c, .int (σ 8 0), .int (τ 8 1), .int (τ 8 2), .int (τ 8 3), .int (τ 8 4), .int (τ 8 5), .int (τ 8 6)], iC G a 16 (fq σ), iC G b 64 (σ 2), iC G c 50 (fg σ)] ++ (wT G h2 a2 b2 c2 σ)) C rfl ib_X3 tyX3 tyX3_ok nmX3 0 rfl rfl 3 (by decide) mf_X3_34 rfl rfl rfl (by decide +kernel) rfl rfl (Nat.le_of_ble_eq_true rfl) dX3_become_59 rfl ?_
  refine g_aload_n (pc := 62) C dX3_become_62 0 rfl ?_
  refine g_aload_n (pc := 63) C dX3_become_63 1 rfl ?_
  refine g_get (pc := 64) (T := TX3) (N := 10) (v := .int (σ 8 1)) C ib_X3 4 rfl rfl 4 (by decide) mf_X3_37 rfl rfl rfl dX3_become_64 ?_
  refine g_put (pc := 67) (T := TX3) (N := 10) (ty := .int) (ws' := [oC h 3 [.ref a, .ref b, .ref c, .int (σ 8 0), .int (σ 8 1), .int (τ 8 2), .int (τ 8 3), .int (τ 8 4), .int (τ 8 5), .int (τ 8 6)], iC G a 16 (fq σ), iC G b 64 (σ 2), iC G c 50 (fg σ)] ++ (wT G h2 a2 b2 c2 σ)) C rfl ib_X3 tyX3 tyX3_ok nmX3 0 rfl rfl 4 (by decide) mf_X3_37 rfl rfl rfl (by decide +kernel) rfl rfl (Nat.le_of_ble_eq_true rfl) dX3_become_67 rfl ?_
  refine g_aload_n (pc := 70) C dX3_become_70 0 rfl ?_
  refine g_aload_n (pc := 71) C dX3_become_71 1 rfl ?_
  refine g_get (pc := 72) (T := TX3) (N := 10) (v := .int (σ 8 2)) C ib_X3 4 rfl rfl 5 (by decide) mf_X3_21 rfl rfl rfl dX3_become_72 ?_
  refine g_put (pc := 75) (T := TX3) (N := 10) (ty := .int) (ws' := [oC h 3 [.ref a, .ref b, .ref c, .int (σ 8 0), .int (σ 8 1), .int (σ 8 2), .int (τ 8 3), .int (τ 8 4), .int (τ 8 5), .int (τ 8 6)], iC G a 16 (fq σ), iC G b 64 (σ 2), iC G c 50 (fg σ)] ++ (wT G h2 a2 b2 c2 σ)) C rfl ib_X3 tyX3 tyX3_ok nmX3 0 rfl rfl 5 (by decide) mf_X3_21 rfl rfl rfl (by decide +kernel) rfl rfl (Nat.le_of_ble_eq_true rfl) dX3_become_75 rfl ?_
  refine g_aload_n (pc := 78) C dX3_become_78 0 rfl ?_
  refine g_aload_n (pc := 79) C dX3_become_79 1 rfl ?_
  refine g_get (pc := 80) (T := TX3) (N := 10) (v := .int (σ 8 3)) C ib_X3 4 rfl rfl 6 (by decide) mf_X3_40 rfl rfl rfl dX3_become_80 ?_
  refine g_put (pc := 83) (T := TX3) (N := 10) (ty := .int) (ws' := [oC h 3 [.ref a, .ref b, .ref c, .int (σ 8 0), .int (σ 8 1), .int (σ 8 2), .int (σ 8 3), .int (τ 8 4), .int (τ 8 5), .int (τ 8 6)], iC G a 16 (fq σ), iC G b 64 (σ 2), iC G c 50 (fg σ)] ++ (wT G h2 a2 b2 c2 σ)) C rfl ib_X3 tyX3 tyX3_ok nmX3 0 rfl rfl 6 (by decide) mf_X3_40 rfl rfl rfl (by decide +kernel) rfl rfl (Nat.le_of_ble_eq_true rfl) dX3_become_83 rfl ?_
  refine g_aload_n (pc := 86) C dX3_become_86 0 rfl ?_
  refine g_aload_n (pc := 87) C dX3_become_87 1 rfl ?_
  refine g_get (pc := 88) (T := TX3) (N := 10) (v := .int (σ 8 4)) C ib_X3 4 rfl rfl 7 (by decide) mf_X3_25 rfl rfl rfl dX3_become_88 ?_
  refine g_put (pc := 91) (T := TX3) (N := 10) (ty := .int) (ws' := [oC h 3 [.ref a, .ref b, .ref c, .int (σ 8 0), .int (σ 8 1), .int (σ 8 2), .int (σ 8 3), .int (σ 8 4), .int (τ 8 5), .int (τ 8 6)], iC G a 16 (fq σ), iC G b 64 (σ 2), iC G c 50 (fg σ)] ++ (wT G h2 a2 b2 c2 σ)) C rfl ib_X3 tyX3 tyX3_ok nmX3 0 rfl rfl 7 (by decide) mf_X3_25 rfl rfl rfl (by decide +kernel) rfl rfl (Nat.le_of_ble_eq_true rfl) dX3_become_91 rfl ?_
  refine g_aload_n (pc := 94) C dX3_become_94 0 rfl ?_
  refine g_aload_n (pc := 95) C dX3_become_95 1 rfl ?_
  refine g_get (pc := 96) (T := TX3) (N := 10) (v := .int (σ 8 5)) C ib_X3 4 rfl rfl 8 (by decide) mf_X3_43 rfl rfl rfl dX3_become_96 ?_
  refine g_put (pc := 99) (T := TX3) (N := 10) (ty := .int) (ws' := [oC h 3 [.ref a, .ref b, .ref c, .int (σ 8 0), .int (σ 8 1), .int (σ 8 2), .int (σ 8 3), .int (σ 8 4), .int (σ 8 5), .int (τ 8 6)], iC G a 16 (fq σ), iC G b 64 (σ 2), iC G c 50 (fg σ)] ++ (wT G h2 a2 b2 c2 σ)) C rfl ib_X3 tyX3 tyX3_ok nmX3 0 rfl rfl 8 (by decide) mf_X3_43 rfl rfl rfl (by decide +kernel) rfl rfl (Nat.le_of_ble_eq_true rfl) dX3_become_99 rfl ?_
  refine g_aload_n (pc := 102) C dX3_become_102 0 rfl ?_
  refine g_aload_n (pc := 103) C dX3_become_103 1 rfl ?_
  refine g_get (pc := 104) (T := TX3) (N := 10) (v := .int (σ 8 6)) C ib_X3 4 rfl rfl 9 (by decide) mf_X3_46 rfl rfl rfl dX3_become_104 ?_
  refine g_put (pc := 107) (T := TX3) (N := 10) (ty := .int) (ws' := [oC h 3 [.ref a, .ref b, .ref c, .int (σ 8 0), .int (σ 8 1), .int (σ 8 2), .int (σ 8 3), .int (σ 8 4), .int (σ 8 5), .int (σ 8 6)], iC G a 16 (fq σ), iC G b 64 (σ 2), iC G c 50 (fg σ)] ++ (wT G h2 a2 b2 c2 σ)) C rfl ib_X3 tyX3 tyX3_ok nmX3 0 rfl rfl 9 (by decide) mf_X3_46 rfl rfl rfl (by decide +kernel) rfl rfl (Nat.le_of_ble_eq_true rfl) dX3_become_107 rfl ?_
  exact g_retVW (pc := 110) C rfl rfl () trivial (by rfl) dX3_become_110
set_option maxRecDepth 20000 in
set_option maxHeartbeats 4000000 in
theorem c_X3_init (l : Launch) (G : gT) (h : Nat) : WV l yX3_init cX3_init 1 (none) 1 3 130 G [.ref h] ([oC h 3 [.null, .null, .null, .int 0, .int 0, .int 0, .int 0, .int 0, .int 0, .int 0]]) (S := Nat × Nat × Nat) (fun _ => True) (fun u => wT G h u.1 u.2.1 u.2.2 τ0) := by
  intro sz9
  refine start_W (by decide) (Nat.le_of_ble_eq_true rfl) (fun p9 e9 s9 m9 a9 b9 t9 c9 C => ?_)
  refine g_lv (lv' := [(0, .ref h)]) rfl ?_
  refine g_aload_n (pc := 0) C dX3_init_0 0 rfl ?_
  refine g_objInit (pc := 1) C ml_X3_3 rfl ⟨Nat.le_of_ble_eq_true rfl, Nat.le_of_ble_eq_true rfl⟩ dX3_init_1 ?_
  refine g_aload_n (pc := 4) C dX3_init_4 0 rfl ?_
  refine g_bipush (pc := 5) (v := 16) C dX3_init_5 (by decide) ?_
  refine g_newaI (pc := 7) C rfl 16 rfl (by decide) ⟨by decide, by decide⟩ dX3_init_7 (fun q7 => ?_)
  refine g_ws (ws' := [oC h 3 [.null, .null, .null, .int 0, .int 0, .int 0, .int 0, .int 0, .int 0, .int 0], iC G q7 16 (fun _ => 0)]) rfl ?_
  refine g_widen (k := 1) (n := 16) (by decide) (by decide) ?_
  refine g_putF (pc := 9) (T := TX3) (N := 10) (ty := .array .int) (ws' := [oC h 3 [.ref q7, .null, .null, .int 0, .int 0, .int 0, .int 0, .int 0, .int 0, .int 0], iC G q7 16 (fun _ => 0)]) C rfl ib_X3 tyX3 tyX3_ok nmX3 0 rfl rfl 0 (by decide) mf_X3_11 rfl rfl rfl rfl rfl (by decide +kernel) rfl rfl (Nat.le_of_ble_eq_true rfl) dX3_init_9 rfl ?_
  refine g_aload_n (pc := 12) C dX3_init_12 0 rfl ?_
  refine g_bipush (pc := 13) (v := 64) C dX3_init_13 (by decide) ?_
  refine g_newaI (pc := 15) C rfl 64 rfl (by decide) ⟨by decide, by decide⟩ dX3_init_15 (fun q15 => ?_)
  refine g_ws (ws' := [oC h 3 [.ref q7, .null, .null, .int 0, .int 0, .int 0, .int 0, .int 0, .int 0, .int 0], iC G q7 16 (fun _ => 0), iC G q15 64 (fun _ => 0)]) rfl ?_
  refine g_widen (k := 2) (n := 80) (by decide) (by decide) ?_
  refine g_putF (pc := 17) (T := TX3) (N := 10) (ty := .array .int) (ws' := [oC h 3 [.ref q7, .ref q15, .null, .int 0, .int 0, .int 0, .int 0, .int 0, .int 0, .int 0], iC G q7 16 (fun _ => 0), iC G q15 64 (fun _ => 0)]) C rfl ib_X3 tyX3 tyX3_ok nmX3 0 rfl rfl 1 (by decide) mf_X3_15 rfl rfl rfl rfl rfl (by decide +kernel) rfl rfl (Nat.le_of_ble_eq_true rfl) dX3_init_17 rfl ?_
  refine g_aload_n (pc := 20) C dX3_init_20 0 rfl ?_
  refine g_bipush (pc := 21) (v := 50) C dX3_init_21 (by decide) ?_
  refine g_newaI (pc := 23) C rfl 50 rfl (by decide) ⟨by decide, by decide⟩ dX3_init_23 (fun q23 => ?_)
  refine g_ws (ws' := [oC h 3 [.ref q7, .ref q15, .null, .int 0, .int 0, .int 0, .int 0, .int 0, .int 0, .int 0], iC G q7 16 (fun _ => 0), iC G q15 64 (fun _ => 0), iC G q23 50 (fun _ => 0)]) rfl ?_
  refine g_widen (k := 3) (n := 130) (by decide) (by decide) ?_
  refine g_putF (pc := 25) (T := TX3) (N := 10) (ty := .array .int) (ws' := [oC h 3 [.ref q7, .ref q15, .ref q23, .int 0, .int 0, .int 0, .int 0, .int 0, .int 0, .int 0], iC G q7 16 (fun _ => 0), iC G q15 64 (fun _ => 0), iC G q23 50 (fun _ => 0)]) C rfl ib_X3 tyX3 tyX3_ok nmX3 0 rfl rfl 2 (by decide) mf_X3_18 rfl rfl rfl rfl rfl (by decide +kernel) rfl rfl (Nat.le_of_ble_eq_true rfl) dX3_init_25 rfl ?_
  refine g_aload_n (pc := 28) C dX3_init_28 0 rfl ?_
  refine g_iconst (pc := 29) (v := 5) C dX3_init_29 (by decide) ?_
  refine g_put (pc := 30) (T := TX3) (N := 10) (ty := .int) (ws' := [oC h 3 [.ref q7, .ref q15, .ref q23, .int 0, .int 0, .int 5, .int 0, .int 0, .int 0, .int 0], iC G q7 16 (fun _ => 0), iC G q15 64 (fun _ => 0), iC G q23 50 (fun _ => 0)]) C rfl ib_X3 tyX3 tyX3_ok nmX3 0 rfl rfl 5 (by decide) mf_X3_21 rfl rfl rfl (by decide +kernel) rfl rfl (Nat.le_of_ble_eq_true rfl) dX3_init_30 rfl ?_
  refine g_aload_n (pc := 33) C dX3_init_33 0 rfl ?_
  refine g_iconst (pc := 34) (v := 1) C dX3_init_34 (by decide) ?_
  refine g_put (pc := 35) (T := TX3) (N := 10) (ty := .int) (ws' := [oC h 3 [.ref q7, .ref q15, .ref q23, .int 0, .int 0, .int 5, .int 0, .int 1, .int 0, .int 0], iC G q7 16 (fun _ => 0), iC G q15 64 (fun _ => 0), iC G q23 50 (fun _ => 0)]) C rfl ib_X3 tyX3 tyX3_ok nmX3 0 rfl rfl 7 (by decide) mf_X3_25 rfl rfl rfl (by decide +kernel) rfl rfl (Nat.le_of_ble_eq_true rfl) dX3_init_35 rfl ?_
  exact g_retVW (pc := 38) C rfl rfl (q7, q15, q23) trivial (by rw [wT, fq_z, fg_z]; rfl) dX3_init_38
set_option maxRecDepth 20000 in
set_option maxHeartbeats 4000000 in
theorem c_X0_init (l : Launch) (G : gT) (h : Nat) : WV l yX0_init cX0_init 1 (none) 1 1 20 G [.ref h] ([oC h 0 [.null, .int 0, .int 0, .int 0, .int 0]]) (S := Nat) (fun _ => True) (fun u => wA G h u (fun _ => 0) 0 0 0 0) := by
  intro sz9
  refine start_W (by decide) (Nat.le_of_ble_eq_true rfl) (fun p9 e9 s9 m9 a9 b9 t9 c9 C => ?_)
  refine g_lv (lv' := [(0, .ref h)]) rfl ?_
  refine g_aload_n (pc := 0) C dX0_init_0 0 rfl ?_
  refine g_objInit (pc := 1) C ml_X0_3 rfl ⟨Nat.le_of_ble_eq_true rfl, Nat.le_of_ble_eq_true rfl⟩ dX0_init_1 ?_
  refine g_aload_n (pc := 4) C dX0_init_4 0 rfl ?_
  refine g_bipush (pc := 5) (v := 20) C dX0_init_5 (by decide) ?_
  refine g_newaI (pc := 7) C rfl 20 rfl (by decide) ⟨by decide, by decide⟩ dX0_init_7 (fun q7 => ?_)
  refine g_ws (ws' := [oC h 0 [.null, .int 0, .int 0, .int 0, .int 0], iC G q7 20 (fun _ => 0)]) rfl ?_
  refine g_widen (k := 1) (n := 20) (by decide) (by decide) ?_
  refine g_putF (pc := 9) (T := TX0) (N := 5) (ty := .array .int) (ws' := [oC h 0 [.ref q7, .int 0, .int 0, .int 0, .int 0], iC G q7 20 (fun _ => 0)]) C rfl ib_X0 tyX0 tyX0_ok nmX0 0 rfl rfl 0 (by decide) mf_X0_11 rfl rfl rfl rfl rfl (by decide +kernel) rfl rfl (Nat.le_of_ble_eq_true rfl) dX0_init_9 rfl ?_
  exact g_retVW (pc := 12) C rfl rfl (q7) trivial (by rfl) dX0_init_12
set_option maxRecDepth 20000 in
set_option maxHeartbeats 4000000 in
theorem c_X1_init (l : Launch) (G : gT) (h : Nat) : WV l yX1_init cX1_init 1 (none) 1 2 264 G [.ref h] ([oC h 1 [.null, .null]]) (S := Nat × Nat) (fun _ => True) (fun u => wO G h u.1 u.2 (fun _ => 0) (fun _ => 0)) := by
  intro sz9
  refine start_W (by decide) (Nat.le_of_ble_eq_true rfl) (fun p9 e9 s9 m9 a9 b9 t9 c9 C => ?_)
  refine g_lv (lv' := [(0, .ref h)]) rfl ?_
  refine g_aload_n (pc := 0) C dX1_init_0 0 rfl ?_
  refine g_objInit (pc := 1) C ml_X1_3 rfl ⟨Nat.le_of_ble_eq_true rfl, Nat.le_of_ble_eq_true rfl⟩ dX1_init_1 ?_
  refine g_aload_n (pc := 4) C dX1_init_4 0 rfl ?_
  refine g_bipush (pc := 5) (v := 8) C dX1_init_5 (by decide) ?_
  refine g_newaI (pc := 7) C rfl 8 rfl (by decide) ⟨by decide, by decide⟩ dX1_init_7 (fun q7 => ?_)
  refine g_ws (ws' := [oC h 1 [.null, .null], iC G q7 8 (fun _ => 0)]) rfl ?_
  refine g_widen (k := 1) (n := 8) (by decide) (by decide) ?_
  refine g_putF (pc := 9) (T := TX1) (N := 2) (ty := .array .int) (ws' := [oC h 1 [.ref q7, .null], iC G q7 8 (fun _ => 0)]) C rfl ib_X1 tyX1 tyX1_ok nmX1 0 rfl rfl 0 (by decide) mf_X1_9 rfl rfl rfl rfl rfl (by decide +kernel) rfl rfl (Nat.le_of_ble_eq_true rfl) dX1_init_9 rfl ?_
  refine g_aload_n (pc := 12) C dX1_init_12 0 rfl ?_
  refine g_sipush (pc := 13) (v := 256) C dX1_init_13 (by decide) ?_
  refine g_newaI (pc := 16) C rfl 256 rfl (by decide) ⟨by decide, by decide⟩ dX1_init_16 (fun q16 => ?_)
  refine g_ws (ws' := [oC h 1 [.ref q7, .null], iC G q7 8 (fun _ => 0), iC G q16 256 (fun _ => 0)]) rfl ?_
  refine g_widen (k := 2) (n := 264) (by decide) (by decide) ?_
  refine g_putF (pc := 18) (T := TX1) (N := 2) (ty := .array .int) (ws' := [oC h 1 [.ref q7, .ref q16], iC G q7 8 (fun _ => 0), iC G q16 256 (fun _ => 0)]) C rfl ib_X1 tyX1 tyX1_ok nmX1 0 rfl rfl 1 (by decide) mf_X1_15 rfl rfl rfl rfl rfl (by decide +kernel) rfl rfl (Nat.le_of_ble_eq_true rfl) dX1_init_18 rfl ?_
  exact g_retVW (pc := 21) C rfl rfl (q7, q16) trivial (by rfl) dX1_init_21
set_option maxRecDepth 20000 in
set_option maxHeartbeats 4000000 in
theorem c_X2_init (l : Launch) (G : gT) (h : Nat) : WV l yX2_init cX2_init 2 (none) 1 3 1296 G [.ref h] ([oC h 2 [.null, .null, .null]]) (S := Nat × Nat × Nat) (fun _ => True) (fun u => wS G h u.1 u.2.1 u.2.2 (fun _ => -1) (fun _ => 0) (fun _ => 0)) := by
  intro sz9
  refine start_W (by decide) (Nat.le_of_ble_eq_true rfl) (fun p9 e9 s9 m9 a9 b9 t9 c9 C => ?_)
  refine g_lv (lv' := [(0, .ref h)]) rfl ?_
  refine g_aload_n (pc := 0) C dX2_init_0 0 rfl ?_
  refine g_objInit (pc := 1) C ml_X2_3 rfl ⟨Nat.le_of_ble_eq_true rfl, Nat.le_of_ble_eq_true rfl⟩ dX2_init_1 ?_
  refine g_aload_n (pc := 4) C dX2_init_4 0 rfl ?_
  refine g_bipush (pc := 5) (v := 8) C dX2_init_5 (by decide) ?_
  refine g_newaI (pc := 7) C rfl 8 rfl (by decide) ⟨by decide, by decide⟩ dX2_init_7 (fun q7 => ?_)
  refine g_ws (ws' := [oC h 2 [.null, .null, .null], iC G q7 8 (fun _ => 0)]) rfl ?_
  refine g_widen (k := 1) (n := 8) (by decide) (by decide) ?_
  refine g_putF (pc := 9) (T := TX2) (N := 3) (ty := .array .int) (ws' := [oC h 2 [.ref q7, .null, .null], iC G q7 8 (fun _ => 0)]) C rfl ib_X2 tyX2 tyX2_ok nmX2 0 rfl rfl 0 (by decide) mf_X2_9 rfl rfl rfl rfl rfl (by decide +kernel) rfl rfl (Nat.le_of_ble_eq_true rfl) dX2_init_9 rfl ?_
  refine g_aload_n (pc := 12) C dX2_init_12 0 rfl ?_
  refine g_bipush (pc := 13) (v := 8) C dX2_init_13 (by decide) ?_
  refine g_newaI (pc := 15) C rfl 8 rfl (by decide) ⟨by decide, by decide⟩ dX2_init_15 (fun q15 => ?_)
  refine g_ws (ws' := [oC h 2 [.ref q7, .null, .null], iC G q7 8 (fun _ => 0), iC G q15 8 (fun _ => 0)]) rfl ?_
  refine g_widen (k := 2) (n := 16) (by decide) (by decide) ?_
  refine g_putF (pc := 17) (T := TX2) (N := 3) (ty := .array .int) (ws' := [oC h 2 [.ref q7, .ref q15, .null], iC G q7 8 (fun _ => 0), iC G q15 8 (fun _ => 0)]) C rfl ib_X2 tyX2 tyX2_ok nmX2 0 rfl rfl 1 (by decide) mf_X2_15 rfl rfl rfl rfl rfl (by decide +kernel) rfl rfl (Nat.le_of_ble_eq_true rfl) dX2_init_17 rfl ?_
  refine g_aload_n (pc := 20) C dX2_init_20 0 rfl ?_
  refine g_sipush (pc := 21) (v := 1280) C dX2_init_21 (by decide) ?_
  refine g_newaL (pc := 24) C rfl 1280 rfl (by decide) ⟨by decide, by decide⟩ dX2_init_24 (fun q24 => ?_)
  refine g_ws (ws' := [oC h 2 [.ref q7, .ref q15, .null], iC G q7 8 (fun _ => 0), iC G q15 8 (fun _ => 0), jC G q24 1280 (fun _ => 0)]) rfl ?_
  refine g_widen (k := 3) (n := 1296) (by decide) (by decide) ?_
  refine g_putF (pc := 26) (T := TX2) (N := 3) (ty := .array .long) (ws' := [oC h 2 [.ref q7, .ref q15, .ref q24], iC G q7 8 (fun _ => 0), iC G q15 8 (fun _ => 0), jC G q24 1280 (fun _ => 0)]) C rfl ib_X2 tyX2 tyX2_ok nmX2 0 rfl rfl 2 (by decide) mf_X2_18 rfl rfl rfl rfl rfl (by decide +kernel) rfl rfl (Nat.le_of_ble_eq_true rfl) dX2_init_26 rfl ?_
  refine g_iconst (pc := 29) (v := 0) C dX2_init_29 (by decide) ?_
  refine g_istore_n (pc := 30) (lv' := [(1, .int 0), (0, .ref h)]) C dX2_init_30 rfl (by decide) rfl ?_
  have key_31 : ∀ (n31 : Nat) (i : Nat) (q7 : Nat) (q15 : Nat) (q24 : Nat) (hi : i ≤ 8), 8 - i < n31 → GW p9 l e9 (rmh 1 3 1296) s9 m9 a9 b9 t9 c9 (MQ b9 (va_Qv (fun (_ : Nat × Nat × Nat) => True) (BW G ([oC h 2 [.null, .null, .null]]) sz9 (fun u => wS G h u.1 u.2.1 u.2.2 (fun _ => -1) (fun _ => 0) (fun _ => 0))) (va_A ([oC h 2 [.null, .null, .null]]) sz9)) a9 s9 3 1296 (va_A ([oC h 2 [.null, .null, .null]]) sz9)) G (va_A ([oC h 2 [.null, .null, .null]]) sz9) true 2 3 1296 ([oC h 2 [.ref q7, .ref q15, .ref q24], iC G q7 8 (fun k => if k < i then -1 else 0), iC G q15 8 (fun _ => 0), jC G q24 1280 (fun _ => 0)]) [(0, .ref h), (1, .int (nI i))] 31 [] := by
    intro n31
    induction n31 with
    | zero => intro i q7 q15 q24 hi hn31; exact absurd hn31 (Nat.not_lt_zero _)
    | succ n31 ih31 =>
      intro i q7 q15 q24 hi hn31
      refine g_iload_n (pc := 31) C dX2_init_31 1 rfl ?_
      refine g_bipush (pc := 32) (v := 8) C dX2_init_32 (by decide) ?_
      refine g_icmpN_ge (pc := 34) (i := i) (j := 8) (tgt := 50) C dX2_init_34 (by decide) ⟨by omega, by omega⟩ (fun h34 => ?_) (fun h34 => ?_)
      · refine g_wsI (fun _ => -1) (ws' := [oC h 2 [.ref q7, .ref q15, .ref q24], iC G q7 8 (fun _ => -1), iC G q15 8 (fun _ => 0), jC G q24 1280 (fun _ => 0)]) 1 rfl (fun j hj => by rw [if_pos (by omega)]) rfl ?_
        exact g_retVW (pc := 50) C rfl rfl (q7, q15, q24) trivial (by rfl) dX2_init_50
      · refine g_aload_n (pc := 37) C dX2_init_37 0 rfl ?_
        refine g_get (pc := 38) (T := TX2) (N := 3) (v := .ref q7) C ib_X2 0 rfl rfl 0 (by decide) mf_X2_9 rfl rfl rfl dX2_init_38 ?_
        refine g_iload_n (pc := 41) C dX2_init_41 1 rfl ?_
        refine g_iconst (pc := 42) (v := (-1)) C dX2_init_42 (by decide) ?_
        refine g_iast (pc := 43) (ws' := [oC h 2 [.ref q7, .ref q15, .ref q24], iC G q7 8 (upd (fun k => if k < i then -1 else 0) i (-1)), iC G q15 8 (fun _ => 0), jC G q24 1280 (fun _ => 0)]) C rfl 1 rfl i (rfl) ⟨by omega, by decide⟩ dX2_init_43 rfl ?_
        refine g_iinc (pc := 44) (v := nI (i + 1)) (lv' := [(1, .int (nI (i + 1))), (0, .ref h)]) C dX2_init_44 1 rfl (nI_1 i) (by decide) rfl ?_
        refine g_goto (pc := 47) (tgt := 31) C dX2_init_47 (by decide) ?_
        refine g_ws (ws' := [oC h 2 [.ref q7, .ref q15, .ref q24], iC G q7 8 (fun k => if k < (i + 1) then -1 else 0), iC G q15 8 (fun _ => 0), jC G q24 1280 (fun _ => 0)]) (by rw [fill_s]) ?_
        refine g_sub (lv' := [(0, .ref h), (1, .int (nI (i + 1)))]) [1, 0] rfl ?_
        exact ih31 (i + 1) q7 q15 q24 (by first | assumption | omega) (by omega)
  refine g_ws (ws' := [oC h 2 [.ref q7, .ref q15, .ref q24], iC G q7 8 (fun k => if k < 0 then -1 else 0), iC G q15 8 (fun _ => 0), jC G q24 1280 (fun _ => 0)]) (by simp) ?_
  refine g_sub (lv' := [(0, .ref h), (1, .int (nI 0))]) [1, 0] rfl ?_
  exact key_31 _ 0 q7 q15 q24 (by first | assumption | omega) (Nat.lt_succ_self _)
set_option maxRecDepth 20000 in
set_option maxHeartbeats 4000000 in
theorem c_X3_splitGroup (l : Launch) (G : gT) (h : Nat) (a : Nat) (b : Nat) (c : Nat) (τ : tT) (g : Nat) (v : Int32) (n : Int32) (hT : TI τ) (hg : g < tG τ) (hG : tG τ < 10) (hT2 : TI (up2 τ 3 g (τ 3 g - n))) : WI l yX3_splitGroup cX3_splitGroup 4 (some .int) 1 0 0 G [.ref h, .int (nI g), .int v, .int n] (wT G h a b c τ) (S := Unit) (fun r _ => r = nI (tG τ)) (fun _ => wT G h a b c (aSp τ g v n)) := by
  intro sz9
  refine start_W (by decide) (Nat.le_of_ble_eq_true rfl) (fun p9 e9 s9 m9 a9 b9 t9 c9 C => ?_)
  refine g_lv (lv' := [(0, .ref h), (1, .int (nI g)), (2, .int v), (3, .int n)]) rfl ?_
  refine g_aload_n (pc := 0) C dX3_splitGroup_0 0 rfl ?_
  refine g_get (pc := 1) (T := TX3) (N := 10) (v := .ref c) C ib_X3 0 rfl rfl 2 (by decide) mf_X3_18 rfl rfl rfl dX3_splitGroup_1 ?_
  refine g_iload_n (pc := 4) C dX3_splitGroup_4 1 rfl ?_
  refine g_iconst (pc := 5) (v := 5) C dX3_splitGroup_5 (by decide) ?_
  refine g_imulN (pc := 6) (i := g) (j := 5) C dX3_splitGroup_6 ?_
  refine g_dup2 (pc := 7) C dX3_splitGroup_7 rfl rfl ?_
  refine g_iald (pc := 8) (v := τ 3 g) C 3 rfl (g * 5) (rfl) ⟨by omega, by decide⟩ (fg_0 τ g) dX3_splitGroup_8 ?_
  refine g_iload_n (pc := 9) C dX3_splitGroup_9 3 rfl ?_
  refine g_isub (pc := 10) C dX3_splitGroup_10 ?_
  refine g_iast (pc := 11) (ws' := [oC h 3 [.ref a, .ref b, .ref c, .int (τ 8 0), .int (τ 8 1), .int (τ 8 2), .int (τ 8 3), .int (τ 8 4), .int (τ 8 5), .int (τ 8 6)], iC G a 16 (fq τ), iC G b 64 (τ 2), iC G c 50 (upd (fg τ) (g * 5) ((τ 3 g) - n))]) C rfl 3 rfl (g * 5) (rfl) ⟨by omega, by decide⟩ dX3_splitGroup_11 rfl ?_
  refine g_ws (ws' := wT G h a b c (up2 τ 3 g (τ 3 g - n))) (by simp [wT, aSc, aQu, aGr, aBe, aVi, aSp, fq_up0, fq_up1, fq_upn, fg_up3, fg_up4, fg_up5, fg_up6, fg_up7, fg_upn, up2_r, up2_n, up2_s, up2]) ?_
  refine g_aload_n (pc := 12) C dX3_splitGroup_12 0 rfl ?_
  refine g_iload_n (pc := 13) C dX3_splitGroup_13 3 rfl ?_
  refine g_iload_n (pc := 14) C dX3_splitGroup_14 2 rfl ?_
  refine g_aload_n (pc := 15) C dX3_splitGroup_15 0 rfl ?_
  refine g_iload_n (pc := 16) C dX3_splitGroup_16 1 rfl ?_
  refine g_rdVI (pc := 17) (val := (up2 τ 3 g (τ 3 g - n)) 5 g) (rest := [.int v, .int n, .ref h]) C k_X3_gladOf (c_X3_gladOf l G h a b c (up2 τ 3 g (τ 3 g - n)) g (by first | assumption | omega)) ml_X3_53 rfl ⟨Nat.le_of_ble_eq_true rfl, Nat.le_of_ble_eq_true rfl⟩ rfl [0, 1, 2, 3] rfl 0 rfl rfl rfl rfl (Nat.le_of_ble_eq_true rfl) ⟨by decide, by decide⟩ dX3_splitGroup_17 ?_
  refine g_aload_n (pc := 20) C dX3_splitGroup_20 0 rfl ?_
  refine g_iload_n (pc := 21) C dX3_splitGroup_21 1 rfl ?_
  refine g_rdVI (pc := 22) (val := (up2 τ 3 g (τ 3 g - n)) 6 g) (rest := [.int ((up2 τ 3 g (τ 3 g - n)) 5 g), .int v, .int n, .ref h]) C k_X3_homeOf (c_X3_homeOf l G h a b c (up2 τ 3 g (τ 3 g - n)) g (by first | assumption | omega)) ml_X3_57 rfl ⟨Nat.le_of_ble_eq_true rfl, Nat.le_of_ble_eq_true rfl⟩ rfl [0, 1, 2, 3] rfl 0 rfl rfl rfl rfl (Nat.le_of_ble_eq_true rfl) ⟨by decide, by decide⟩ dX3_splitGroup_22 ?_
  refine g_aload_n (pc := 25) C dX3_splitGroup_25 0 rfl ?_
  refine g_iload_n (pc := 26) C dX3_splitGroup_26 1 rfl ?_
  refine g_rdVI (pc := 27) (val := (up2 τ 3 g (τ 3 g - n)) 7 g) (rest := [.int ((up2 τ 3 g (τ 3 g - n)) 6 g), .int ((up2 τ 3 g (τ 3 g - n)) 5 g), .int v, .int n, .ref h]) C k_X3_willOf (c_X3_willOf l G h a b c (up2 τ 3 g (τ 3 g - n)) g (by first | assumption | omega)) ml_X3_60 rfl ⟨Nat.le_of_ble_eq_true rfl, Nat.le_of_ble_eq_true rfl⟩ rfl [0, 1, 2, 3] rfl 0 rfl rfl rfl rfl (Nat.le_of_ble_eq_true rfl) ⟨by decide, by decide⟩ dX3_splitGroup_27 ?_
  refine g_wrVI (pc := 30) (rest := []) (wr := []) C (fun _ => wT G h a b c (aGr (up2 τ 3 g (τ 3 g - n)) n v ((up2 τ 3 g (τ 3 g - n)) 5 g) ((up2 τ 3 g (τ 3 g - n)) 6 g) ((up2 τ 3 g (τ 3 g - n)) 7 g))) rfl k_X3_addGroup (c_X3_addGroup l G h a b c (up2 τ 3 g (τ 3 g - n)) n v ((up2 τ 3 g (τ 3 g - n)) 5 g) ((up2 τ 3 g (τ 3 g - n)) 6 g) ((up2 τ 3 g (τ 3 g - n)) 7 g) hT2 hG) ml_X3_63 rfl ⟨Nat.le_of_ble_eq_true rfl, Nat.le_of_ble_eq_true rfl⟩ rfl [0, 1, 2, 3] [] [0, 1, 2, 3] rfl (by decide) rfl (by decide) (by decide) (by decide) (fun _ => rfl) 0 rfl rfl rfl rfl (Nat.le_of_ble_eq_true rfl) ⟨by decide, by decide⟩ dX3_splitGroup_30 (fun r30 _ e30 => ?_)
  subst e30
  exact g_retIW (pc := 33) C rfl rfl () (rfl) (by simp [tG, up2]) (by simp [aSp, up2_n, up2, aGr, tG]) dX3_splitGroup_33
set_option maxRecDepth 20000 in
set_option maxHeartbeats 4000000 in
theorem c_X0_begin (l : Launch) (G : gT) (h : Nat) (a : Nat) (kp : Nat → Int32) (b : Nat) (nm : Int32) (kd : Int32) (aa : Int32) (x : Int32) (hb : b < 1000) : WV l yX0_begin cX0_begin 2 (none) 0 0 0 G [.ref h, .int x] (wA G h a kp (nI b) nm kd aa) (S := Unit) (fun _ => True) (fun _ => wA G h a (bgK kp b x) (nI (b + 1)) nm kd aa) := by
  intro sz9
  refine start_W (by decide) (Nat.le_of_ble_eq_true rfl) (fun p9 e9 s9 m9 a9 b9 t9 c9 C => ?_)
  refine g_lv (lv' := [(0, .ref h), (1, .int x)]) rfl ?_
  refine g_aload_n (pc := 0) C dX0_begin_0 0 rfl ?_
  refine g_get (pc := 1) (T := TX0) (N := 5) (v := .int (nI b)) C ib_X0 0 rfl rfl 1 (by decide) mf_X0_15 rfl rfl rfl dX0_begin_1 ?_
  refine g_bipush (pc := 4) (v := 20) C dX0_begin_4 (by decide) ?_
  refine g_icmpN_ge (pc := 6) (i := b) (j := 20) (tgt := 19) C dX0_begin_6 (by decide) ⟨by omega, by omega⟩ (fun h6 => ?_) (fun h6 => ?_)
  · refine g_aload_n (pc := 19) C dX0_begin_19 0 rfl ?_
    refine g_dup (pc := 20) C dX0_begin_20 rfl ?_
    refine g_get (pc := 21) (T := TX0) (N := 5) (v := .int (nI b)) C ib_X0 0 rfl rfl 1 (by decide) mf_X0_15 rfl rfl rfl dX0_begin_21 ?_
    refine g_iconst (pc := 24) (v := 1) C dX0_begin_24 (by decide) ?_
    refine g_iaddN (pc := 25) (i := b) (j := 1) C dX0_begin_25 ?_
    refine g_put (pc := 26) (T := TX0) (N := 5) (ty := .int) (ws' := [oC h 0 [.ref a, .int (nI (b + 1)), .int nm, .int kd, .int aa], iC G a 20 kp]) C rfl ib_X0 tyX0 tyX0_ok nmX0 0 rfl rfl 1 (by decide) mf_X0_15 rfl rfl rfl (by decide +kernel) rfl rfl (Nat.le_of_ble_eq_true rfl) dX0_begin_26 rfl ?_
    exact g_retVW (pc := 29) C rfl rfl () trivial (by rw [bgK, if_neg (by omega)]; rfl) dX0_begin_29
  · refine g_aload_n (pc := 9) C dX0_begin_9 0 rfl ?_
    refine g_get (pc := 10) (T := TX0) (N := 5) (v := .ref a) C ib_X0 0 rfl rfl 0 (by decide) mf_X0_11 rfl rfl rfl dX0_begin_10 ?_
    refine g_aload_n (pc := 13) C dX0_begin_13 0 rfl ?_
    refine g_get (pc := 14) (T := TX0) (N := 5) (v := .int (nI b)) C ib_X0 0 rfl rfl 1 (by decide) mf_X0_15 rfl rfl rfl dX0_begin_14 ?_
    refine g_iload_n (pc := 17) C dX0_begin_17 1 rfl ?_
    refine g_iast (pc := 18) (ws' := [oC h 0 [.ref a, .int (nI b), .int nm, .int kd, .int aa], iC G a 20 (upd kp b x)]) C rfl 1 rfl b (rfl) ⟨by omega, by decide⟩ dX0_begin_18 rfl ?_
    refine g_aload_n (pc := 19) C dX0_begin_19 0 rfl ?_
    refine g_dup (pc := 20) C dX0_begin_20 rfl ?_
    refine g_get (pc := 21) (T := TX0) (N := 5) (v := .int (nI b)) C ib_X0 0 rfl rfl 1 (by decide) mf_X0_15 rfl rfl rfl dX0_begin_21 ?_
    refine g_iconst (pc := 24) (v := 1) C dX0_begin_24 (by decide) ?_
    refine g_iaddN (pc := 25) (i := b) (j := 1) C dX0_begin_25 ?_
    refine g_put (pc := 26) (T := TX0) (N := 5) (ty := .int) (ws' := [oC h 0 [.ref a, .int (nI (b + 1)), .int nm, .int kd, .int aa], iC G a 20 (upd kp b x)]) C rfl ib_X0 tyX0 tyX0_ok nmX0 0 rfl rfl 1 (by decide) mf_X0_15 rfl rfl rfl (by decide +kernel) rfl rfl (Nat.le_of_ble_eq_true rfl) dX0_begin_26 rfl ?_
    exact g_retVW (pc := 29) C rfl rfl () trivial (by rw [bgK, if_pos (by omega)]; rfl) dX0_begin_29
set_option maxRecDepth 20000 in
set_option maxHeartbeats 4000000 in
theorem c_X0_forget (l : Launch) (G : gT) (h : Nat) (a : Nat) (kp : Nat → Int32) (b : Nat) (nm : Int32) (kd : Int32) (aa : Int32) : WV l yX0_forget cX0_forget 1 (none) 0 0 0 G [.ref h] (wA G h a kp (nI b) nm kd aa) (S := Unit) (fun _ => True) (fun _ => wA G h a kp 0 nm kd aa) := by
  intro sz9
  refine start_W (by decide) (Nat.le_of_ble_eq_true rfl) (fun p9 e9 s9 m9 a9 b9 t9 c9 C => ?_)
  refine g_lv (lv' := [(0, .ref h)]) rfl ?_
  refine g_aload_n (pc := 0) C dX0_forget_0 0 rfl ?_
  refine g_iconst (pc := 1) (v := 0) C dX0_forget_1 (by decide) ?_
  refine g_put (pc := 2) (T := TX0) (N := 5) (ty := .int) (ws' := [oC h 0 [.ref a, .int 0, .int nm, .int kd, .int aa], iC G a 20 kp]) C rfl ib_X0 tyX0 tyX0_ok nmX0 0 rfl rfl 1 (by decide) mf_X0_15 rfl rfl rfl (by decide +kernel) rfl rfl (Nat.le_of_ble_eq_true rfl) dX0_forget_2 rfl ?_
  exact g_retVW (pc := 5) C rfl rfl () trivial (by rfl) dX0_forget_5
set_option maxRecDepth 20000 in
set_option maxHeartbeats 4000000 in
theorem c_asks_0 (l : Launch) (G : gT) (h : Nat) (a : Nat) (kp : Nat → Int32) (b : Nat) (nm : Int32) (kd : Int32) (aa : Int32) (x : Int32) (hb : b < 999) : WI l yX0_asksFrom cX0_asksFrom 3 (some .int) 1 0 0 G [.ref h, .int 0, .int x] (wA G h a kp (nI b) nm kd aa) (S := Unit) (fun r _ => r = akV 0 nm aa x) (fun _ => wA G h a (rnK kp b (akL 0)) (nI (b + 1)) nm kd aa) := by
  intro sz9
  refine start_W (by decide) (Nat.le_of_ble_eq_true rfl) (fun p9 e9 s9 m9 a9 b9 t9 c9 C => ?_)
  refine g_lv (lv' := [(0, .ref h), (1, .int 0), (2, .int x)]) rfl ?_
  refine g_iload_n (pc := 0) C dX0_asksFrom_0 1 rfl ?_
  refine g_tsOut (pc := 1) (tgt := 91) C dX0_asksFrom_1 (by decide) (by decide) ?_
  refine g_aload_n (pc := 91) C dX0_asksFrom_91 0 rfl ?_
  refine g_bipush (pc := 92) (v := 10) C dX0_asksFrom_92 (by decide) ?_
  refine g_wrVV (pc := 94) (rest := []) (wr := []) C (fun _ => wA G h a (bgK kp b 10) (nI (b + 1)) nm kd aa) rfl k_X0_begin (c_X0_begin l G h a kp b nm kd aa 10 (by first | assumption | omega)) ml_X0_47 rfl ⟨Nat.le_of_ble_eq_true rfl, Nat.le_of_ble_eq_true rfl⟩ rfl [0, 1] [] [0, 1] rfl (by decide) rfl (by decide) (by decide) (by decide) (fun _ => rfl) 0 rfl rfl rfl rfl (Nat.le_of_ble_eq_true rfl) ⟨by decide, by decide⟩ dX0_asksFrom_94 (fun _ _ => ?_)
  refine g_iload_n (pc := 97) C dX0_asksFrom_97 2 rfl ?_
  refine g_aload_n (pc := 98) C dX0_asksFrom_98 0 rfl ?_
  refine g_get (pc := 99) (T := TX0) (N := 5) (v := .int nm) C ib_X0 0 rfl rfl 2 (by decide) mf_X0_19 rfl rfl rfl dX0_asksFrom_99 ?_
  refine g_iadd (pc := 102) C dX0_asksFrom_102 ?_
  exact g_retIW (pc := 103) C rfl rfl () (rfl) (by rfl) (by rfl) dX0_asksFrom_103
set_option maxRecDepth 20000 in
set_option maxHeartbeats 4000000 in
theorem c_asks_2 (l : Launch) (G : gT) (h : Nat) (a : Nat) (kp : Nat → Int32) (b : Nat) (nm : Int32) (kd : Int32) (aa : Int32) (x : Int32) (hb : b < 999) : WI l yX0_asksFrom cX0_asksFrom 3 (some .int) 1 0 0 G [.ref h, .int 2, .int x] (wA G h a kp (nI b) nm kd aa) (S := Unit) (fun r _ => r = akV 2 nm aa x) (fun _ => wA G h a (rnK kp b (akL 2)) (nI (b + 1)) nm kd aa) := by
  intro sz9
  refine start_W (by decide) (Nat.le_of_ble_eq_true rfl) (fun p9 e9 s9 m9 a9 b9 t9 c9 C => ?_)
  refine g_lv (lv' := [(0, .ref h), (1, .int 2), (2, .int x)]) rfl ?_
  refine g_iload_n (pc := 0) C dX0_asksFrom_0 1 rfl ?_
  refine g_tsIn (pc := 1) (off := 90) (tgt := 91) C dX0_asksFrom_1 (by decide) (by decide) (by decide) (by decide) ?_
  refine g_aload_n (pc := 91) C dX0_asksFrom_91 0 rfl ?_
  refine g_bipush (pc := 92) (v := 10) C dX0_asksFrom_92 (by decide) ?_
  refine g_wrVV (pc := 94) (rest := []) (wr := []) C (fun _ => wA G h a (bgK kp b 10) (nI (b + 1)) nm kd aa) rfl k_X0_begin (c_X0_begin l G h a kp b nm kd aa 10 (by first | assumption | omega)) ml_X0_47 rfl ⟨Nat.le_of_ble_eq_true rfl, Nat.le_of_ble_eq_true rfl⟩ rfl [0, 1] [] [0, 1] rfl (by decide) rfl (by decide) (by decide) (by decide) (fun _ => rfl) 0 rfl rfl rfl rfl (Nat.le_of_ble_eq_true rfl) ⟨by decide, by decide⟩ dX0_asksFrom_94 (fun _ _ => ?_)
  refine g_iload_n (pc := 97) C dX0_asksFrom_97 2 rfl ?_
  refine g_aload_n (pc := 98) C dX0_asksFrom_98 0 rfl ?_
  refine g_get (pc := 99) (T := TX0) (N := 5) (v := .int nm) C ib_X0 0 rfl rfl 2 (by decide) mf_X0_19 rfl rfl rfl dX0_asksFrom_99 ?_
  refine g_iadd (pc := 102) C dX0_asksFrom_102 ?_
  exact g_retIW (pc := 103) C rfl rfl () (rfl) (by rfl) (by rfl) dX0_asksFrom_103
set_option maxRecDepth 20000 in
set_option maxHeartbeats 4000000 in
theorem c_asks_5 (l : Launch) (G : gT) (h : Nat) (a : Nat) (kp : Nat → Int32) (b : Nat) (nm : Int32) (kd : Int32) (aa : Int32) (x : Int32) (hb : b < 999) : WI l yX0_asksFrom cX0_asksFrom 3 (some .int) 1 0 0 G [.ref h, .int 5, .int x] (wA G h a kp (nI b) nm kd aa) (S := Unit) (fun r _ => r = akV 5 nm aa x) (fun _ => wA G h a (rnK kp b (akL 5)) (nI (b + 1)) nm kd aa) := by
  intro sz9
  refine start_W (by decide) (Nat.le_of_ble_eq_true rfl) (fun p9 e9 s9 m9 a9 b9 t9 c9 C => ?_)
  refine g_lv (lv' := [(0, .ref h), (1, .int 5), (2, .int x)]) rfl ?_
  refine g_iload_n (pc := 0) C dX0_asksFrom_0 1 rfl ?_
  refine g_tsIn (pc := 1) (off := 90) (tgt := 91) C dX0_asksFrom_1 (by decide) (by decide) (by decide) (by decide) ?_
  refine g_aload_n (pc := 91) C dX0_asksFrom_91 0 rfl ?_
  refine g_bipush (pc := 92) (v := 10) C dX0_asksFrom_92 (by decide) ?_
  refine g_wrVV (pc := 94) (rest := []) (wr := []) C (fun _ => wA G h a (bgK kp b 10) (nI (b + 1)) nm kd aa) rfl k_X0_begin (c_X0_begin l G h a kp b nm kd aa 10 (by first | assumption | omega)) ml_X0_47 rfl ⟨Nat.le_of_ble_eq_true rfl, Nat.le_of_ble_eq_true rfl⟩ rfl [0, 1] [] [0, 1] rfl (by decide) rfl (by decide) (by decide) (by decide) (fun _ => rfl) 0 rfl rfl rfl rfl (Nat.le_of_ble_eq_true rfl) ⟨by decide, by decide⟩ dX0_asksFrom_94 (fun _ _ => ?_)
  refine g_iload_n (pc := 97) C dX0_asksFrom_97 2 rfl ?_
  refine g_aload_n (pc := 98) C dX0_asksFrom_98 0 rfl ?_
  refine g_get (pc := 99) (T := TX0) (N := 5) (v := .int nm) C ib_X0 0 rfl rfl 2 (by decide) mf_X0_19 rfl rfl rfl dX0_asksFrom_99 ?_
  refine g_iadd (pc := 102) C dX0_asksFrom_102 ?_
  exact g_retIW (pc := 103) C rfl rfl () (rfl) (by rfl) (by rfl) dX0_asksFrom_103
set_option maxRecDepth 20000 in
set_option maxHeartbeats 4000000 in
theorem c_asks_1 (l : Launch) (G : gT) (h : Nat) (a : Nat) (kp : Nat → Int32) (b : Nat) (nm : Int32) (kd : Int32) (aa : Int32) (x : Int32) (hb : b < 990) : WI l yX0_asksFrom cX0_asksFrom 3 (some .int) 2 0 0 G [.ref h, .int 1, .int x] (wA G h a kp (nI b) nm kd aa) (S := Unit) (fun r _ => r = akV 1 nm aa x) (fun _ => wA G h a (rnK kp b (akL 1)) (nI (b + 2)) nm kd aa) := by
  intro sz9
  refine start_W (by decide) (Nat.le_of_ble_eq_true rfl) (fun p9 e9 s9 m9 a9 b9 t9 c9 C => ?_)
  refine g_lv (lv' := [(0, .ref h), (1, .int 1), (2, .int x)]) rfl ?_
  refine g_iload_n (pc := 0) C dX0_asksFrom_0 1 rfl ?_
  refine g_tsIn (pc := 1) (off := 39) (tgt := 40) C dX0_asksFrom_1 (by decide) (by decide) (by decide) (by decide) ?_
  refine g_aload_n (pc := 40) C dX0_asksFrom_40 0 rfl ?_
  refine g_bipush (pc := 41) (v := 20) C dX0_asksFrom_41 (by decide) ?_
  refine g_wrVV (pc := 43) (rest := []) (wr := []) C (fun _ => wA G h a (bgK kp b 20) (nI (b + 1)) nm kd aa) rfl k_X0_begin (c_X0_begin l G h a kp b nm kd aa 20 (by first | assumption | omega)) ml_X0_47 rfl ⟨Nat.le_of_ble_eq_true rfl, Nat.le_of_ble_eq_true rfl⟩ rfl [0, 1] [] [0, 1] rfl (by decide) rfl (by decide) (by decide) (by decide) (fun _ => rfl) 0 rfl rfl rfl rfl (Nat.le_of_ble_eq_true rfl) ⟨by decide, by decide⟩ dX0_asksFrom_43 (fun _ _ => ?_)
  refine g_aload_n (pc := 46) C dX0_asksFrom_46 0 rfl ?_
  refine g_iconst (pc := 47) (v := 0) C dX0_asksFrom_47 (by decide) ?_
  refine g_iload_n (pc := 48) C dX0_asksFrom_48 2 rfl ?_
  refine g_wrVI (pc := 49) (rest := []) (wr := []) C (fun _ => wA G h a (rnK (bgK kp b 20) (b + 1) (akL 0)) (nI ((b + 1) + 1)) nm kd aa) rfl k_X0_asksFrom (c_asks_0 l G h a (bgK kp b 20) (b + 1) nm kd aa x (by first | assumption | omega)) ml_X0_28 rfl ⟨Nat.le_of_ble_eq_true rfl, Nat.le_of_ble_eq_true rfl⟩ rfl [0, 1] [] [0, 1] rfl (by decide) rfl (by decide) (by decide) (by decide) (fun _ => rfl) 0 rfl rfl rfl rfl (Nat.le_of_ble_eq_true rfl) ⟨by decide, by decide⟩ dX0_asksFrom_49 (fun r49 _ e49 => ?_)
  subst e49
  refine g_aload_n (pc := 52) C dX0_asksFrom_52 0 rfl ?_
  refine g_get (pc := 53) (T := TX0) (N := 5) (v := .int aa) C ib_X0 0 rfl rfl 4 (by decide) mf_X0_25 rfl rfl rfl dX0_asksFrom_53 ?_
  refine g_iadd (pc := 56) C dX0_asksFrom_56 ?_
  exact g_retIW (pc := 57) C rfl rfl () (rfl) (by rfl) (by rfl) dX0_asksFrom_57
set_option maxRecDepth 20000 in
set_option maxHeartbeats 4000000 in
theorem c_asks_3 (l : Launch) (G : gT) (h : Nat) (a : Nat) (kp : Nat → Int32) (b : Nat) (nm : Int32) (kd : Int32) (aa : Int32) (x : Int32) (hb : b < 990) : WI l yX0_asksFrom cX0_asksFrom 3 (some .int) 2 0 0 G [.ref h, .int 3, .int x] (wA G h a kp (nI b) nm kd aa) (S := Unit) (fun r _ => r = akV 3 nm aa x) (fun _ => wA G h a (rnK kp b (akL 3)) (nI (b + 2)) nm kd aa) := by
  intro sz9
  refine start_W (by decide) (Nat.le_of_ble_eq_true rfl) (fun p9 e9 s9 m9 a9 b9 t9 c9 C => ?_)
  refine g_lv (lv' := [(0, .ref h), (1, .int 3), (2, .int x)]) rfl ?_
  refine g_iload_n (pc := 0) C dX0_asksFrom_0 1 rfl ?_
  refine g_tsIn (pc := 1) (off := 39) (tgt := 40) C dX0_asksFrom_1 (by decide) (by decide) (by decide) (by decide) ?_
  refine g_aload_n (pc := 40) C dX0_asksFrom_40 0 rfl ?_
  refine g_bipush (pc := 41) (v := 20) C dX0_asksFrom_41 (by decide) ?_
  refine g_wrVV (pc := 43) (rest := []) (wr := []) C (fun _ => wA G h a (bgK kp b 20) (nI (b + 1)) nm kd aa) rfl k_X0_begin (c_X0_begin l G h a kp b nm kd aa 20 (by first | assumption | omega)) ml_X0_47 rfl ⟨Nat.le_of_ble_eq_true rfl, Nat.le_of_ble_eq_true rfl⟩ rfl [0, 1] [] [0, 1] rfl (by decide) rfl (by decide) (by decide) (by decide) (fun _ => rfl) 0 rfl rfl rfl rfl (Nat.le_of_ble_eq_true rfl) ⟨by decide, by decide⟩ dX0_asksFrom_43 (fun _ _ => ?_)
  refine g_aload_n (pc := 46) C dX0_asksFrom_46 0 rfl ?_
  refine g_iconst (pc := 47) (v := 0) C dX0_asksFrom_47 (by decide) ?_
  refine g_iload_n (pc := 48) C dX0_asksFrom_48 2 rfl ?_
  refine g_wrVI (pc := 49) (rest := []) (wr := []) C (fun _ => wA G h a (rnK (bgK kp b 20) (b + 1) (akL 0)) (nI ((b + 1) + 1)) nm kd aa) rfl k_X0_asksFrom (c_asks_0 l G h a (bgK kp b 20) (b + 1) nm kd aa x (by first | assumption | omega)) ml_X0_28 rfl ⟨Nat.le_of_ble_eq_true rfl, Nat.le_of_ble_eq_true rfl⟩ rfl [0, 1] [] [0, 1] rfl (by decide) rfl (by decide) (by decide) (by decide) (fun _ => rfl) 0 rfl rfl rfl rfl (Nat.le_of_ble_eq_true rfl) ⟨by decide, by decide⟩ dX0_asksFrom_49 (fun r49 _ e49 => ?_)
  subst e49
  refine g_aload_n (pc := 52) C dX0_asksFrom_52 0 rfl ?_
  refine g_get (pc := 53) (T := TX0) (N := 5) (v := .int aa) C ib_X0 0 rfl rfl 4 (by decide) mf_X0_25 rfl rfl rfl dX0_asksFrom_53 ?_
  refine g_iadd (pc := 56) C dX0_asksFrom_56 ?_
  exact g_retIW (pc := 57) C rfl rfl () (rfl) (by rfl) (by rfl) dX0_asksFrom_57
set_option maxRecDepth 20000 in
set_option maxHeartbeats 4000000 in
theorem c_asks_4 (l : Launch) (G : gT) (h : Nat) (a : Nat) (kp : Nat → Int32) (b : Nat) (nm : Int32) (kd : Int32) (aa : Int32) (x : Int32) (hb : b < 990) : WI l yX0_asksFrom cX0_asksFrom 3 (some .int) 2 0 0 G [.ref h, .int 4, .int x] (wA G h a kp (nI b) nm kd aa) (S := Unit) (fun r _ => r = akV 4 nm aa x) (fun _ => wA G h a (rnK kp b (akL 4)) (nI (b + 2)) nm kd aa) := by
  intro sz9
  refine start_W (by decide) (Nat.le_of_ble_eq_true rfl) (fun p9 e9 s9 m9 a9 b9 t9 c9 C => ?_)
  refine g_lv (lv' := [(0, .ref h), (1, .int 4), (2, .int x)]) rfl ?_
  refine g_iload_n (pc := 0) C dX0_asksFrom_0 1 rfl ?_
  refine g_tsIn (pc := 1) (off := 57) (tgt := 58) C dX0_asksFrom_1 (by decide) (by decide) (by decide) (by decide) ?_
  refine g_aload_n (pc := 58) C dX0_asksFrom_58 0 rfl ?_
  refine g_bipush (pc := 59) (v := 51) C dX0_asksFrom_59 (by decide) ?_
  refine g_wrVV (pc := 61) (rest := []) (wr := []) C (fun _ => wA G h a (bgK kp b 51) (nI (b + 1)) nm kd aa) rfl k_X0_begin (c_X0_begin l G h a kp b nm kd aa 51 (by first | assumption | omega)) ml_X0_47 rfl ⟨Nat.le_of_ble_eq_true rfl, Nat.le_of_ble_eq_true rfl⟩ rfl [0, 1] [] [0, 1] rfl (by decide) rfl (by decide) (by decide) (by decide) (fun _ => rfl) 0 rfl rfl rfl rfl (Nat.le_of_ble_eq_true rfl) ⟨by decide, by decide⟩ dX0_asksFrom_61 (fun _ _ => ?_)
  refine g_aload_n (pc := 64) C dX0_asksFrom_64 0 rfl ?_
  refine g_iconst (pc := 65) (v := 0) C dX0_asksFrom_65 (by decide) ?_
  refine g_iload_n (pc := 66) C dX0_asksFrom_66 2 rfl ?_
  refine g_wrVI (pc := 67) (rest := []) (wr := []) C (fun _ => wA G h a (rnK (bgK kp b 51) (b + 1) (akL 0)) (nI ((b + 1) + 1)) nm kd aa) rfl k_X0_asksFrom (c_asks_0 l G h a (bgK kp b 51) (b + 1) nm kd aa x (by first | assumption | omega)) ml_X0_28 rfl ⟨Nat.le_of_ble_eq_true rfl, Nat.le_of_ble_eq_true rfl⟩ rfl [0, 1] [] [0, 1] rfl (by decide) rfl (by decide) (by decide) (by decide) (fun _ => rfl) 0 rfl rfl rfl rfl (Nat.le_of_ble_eq_true rfl) ⟨by decide, by decide⟩ dX0_asksFrom_67 (fun r67 _ e67 => ?_)
  subst e67
  refine g_aload_n (pc := 70) C dX0_asksFrom_70 0 rfl ?_
  refine g_get (pc := 71) (T := TX0) (N := 5) (v := .int nm) C ib_X0 0 rfl rfl 2 (by decide) mf_X0_19 rfl rfl rfl dX0_asksFrom_71 ?_
  refine g_isub (pc := 74) C dX0_asksFrom_74 ?_
  exact g_retIW (pc := 75) C rfl rfl () (rfl) (by rfl) (by rfl) dX0_asksFrom_75
set_option maxRecDepth 20000 in
set_option maxHeartbeats 4000000 in
theorem c_asks_6 (l : Launch) (G : gT) (h : Nat) (a : Nat) (kp : Nat → Int32) (b : Nat) (nm : Int32) (kd : Int32) (aa : Int32) (x : Int32) (hb : b < 980) : WI l yX0_asksFrom cX0_asksFrom 3 (some .int) 3 0 0 G [.ref h, .int 6, .int x] (wA G h a kp (nI b) nm kd aa) (S := Unit) (fun r _ => r = akV 6 nm aa x) (fun _ => wA G h a (rnK kp b (akL 6)) (nI (b + 3)) nm kd aa) := by
  intro sz9
  refine start_W (by decide) (Nat.le_of_ble_eq_true rfl) (fun p9 e9 s9 m9 a9 b9 t9 c9 C => ?_)
  refine g_lv (lv' := [(0, .ref h), (1, .int 6), (2, .int x)]) rfl ?_
  refine g_iload_n (pc := 0) C dX0_asksFrom_0 1 rfl ?_
  refine g_tsIn (pc := 1) (off := 75) (tgt := 76) C dX0_asksFrom_1 (by decide) (by decide) (by decide) (by decide) ?_
  refine g_aload_n (pc := 76) C dX0_asksFrom_76 0 rfl ?_
  refine g_bipush (pc := 77) (v := 70) C dX0_asksFrom_77 (by decide) ?_
  refine g_wrVV (pc := 79) (rest := []) (wr := []) C (fun _ => wA G h a (bgK kp b 70) (nI (b + 1)) nm kd aa) rfl k_X0_begin (c_X0_begin l G h a kp b nm kd aa 70 (by first | assumption | omega)) ml_X0_47 rfl ⟨Nat.le_of_ble_eq_true rfl, Nat.le_of_ble_eq_true rfl⟩ rfl [0, 1] [] [0, 1] rfl (by decide) rfl (by decide) (by decide) (by decide) (fun _ => rfl) 0 rfl rfl rfl rfl (Nat.le_of_ble_eq_true rfl) ⟨by decide, by decide⟩ dX0_asksFrom_79 (fun _ _ => ?_)
  refine g_aload_n (pc := 82) C dX0_asksFrom_82 0 rfl ?_
  refine g_iconst (pc := 83) (v := 4) C dX0_asksFrom_83 (by decide) ?_
  refine g_iload_n (pc := 84) C dX0_asksFrom_84 2 rfl ?_
  refine g_wrVI (pc := 85) (rest := []) (wr := []) C (fun _ => wA G h a (rnK (bgK kp b 70) (b + 1) (akL 4)) (nI ((b + 1) + 2)) nm kd aa) rfl k_X0_asksFrom (c_asks_4 l G h a (bgK kp b 70) (b + 1) nm kd aa x (by first | assumption | omega)) ml_X0_28 rfl ⟨Nat.le_of_ble_eq_true rfl, Nat.le_of_ble_eq_true rfl⟩ rfl [0, 1] [] [0, 1] rfl (by decide) rfl (by decide) (by decide) (by decide) (fun _ => rfl) 0 rfl rfl rfl rfl (Nat.le_of_ble_eq_true rfl) ⟨by decide, by decide⟩ dX0_asksFrom_85 (fun r85 _ e85 => ?_)
  subst e85
  refine g_iconst (pc := 88) (v := 2) C dX0_asksFrom_88 (by decide) ?_
  refine g_imul (pc := 89) C dX0_asksFrom_89 ?_
  exact g_retIW (pc := 90) C rfl rfl () (rfl) (by rfl) (by rfl) dX0_asksFrom_90
set_option maxRecDepth 20000 in
set_option maxHeartbeats 4000000 in
theorem c_leans_0_0 (l : Launch) (G : gT) (h : Nat) (a : Nat) (kp : Nat → Int32) (b : Nat) (nm : Int32) (aa : Int32) (x : Int32) (hb : b < 970) : WI l yX0_leansFrom cX0_leansFrom 3 (some .int) 4 0 0 G [.ref h, .int 0, .int x] (wA G h a kp (nI b) nm 0 aa) (S := Unit) (fun r _ => r = lnV 0 nm aa x) (fun _ => wA G h a (rnK kp b (lnL 0)) (nI (b + 2)) nm 0 aa) := by
  intro sz9
  refine start_W (by decide) (Nat.le_of_ble_eq_true rfl) (fun p9 e9 s9 m9 a9 b9 t9 c9 C => ?_)
  refine g_lv (lv' := [(0, .ref h), (1, .int 0), (2, .int x)]) rfl ?_
  refine g_iload_n (pc := 0) C dX0_leansFrom_0 1 rfl ?_
  refine g_tsOut (pc := 1) (tgt := 84) C dX0_leansFrom_1 (by decide) (by decide) ?_
  refine g_aload_n (pc := 84) C dX0_leansFrom_84 0 rfl ?_
  refine g_bipush (pc := 85) (v := 11) C dX0_leansFrom_85 (by decide) ?_
  refine g_wrVV (pc := 87) (rest := []) (wr := []) C (fun _ => wA G h a (bgK kp b 11) (nI (b + 1)) nm 0 aa) rfl k_X0_begin (c_X0_begin l G h a kp b nm 0 aa 11 (by first | assumption | omega)) ml_X0_47 rfl ⟨Nat.le_of_ble_eq_true rfl, Nat.le_of_ble_eq_true rfl⟩ rfl [0, 1] [] [0, 1] rfl (by decide) rfl (by decide) (by decide) (by decide) (fun _ => rfl) 0 rfl rfl rfl rfl (Nat.le_of_ble_eq_true rfl) ⟨by decide, by decide⟩ dX0_leansFrom_87 (fun _ _ => ?_)
  refine g_aload_n (pc := 90) C dX0_leansFrom_90 0 rfl ?_
  refine g_aload_n (pc := 91) C dX0_leansFrom_91 0 rfl ?_
  refine g_get (pc := 92) (T := TX0) (N := 5) (v := .int 0) C ib_X0 0 rfl rfl 3 (by decide) mf_X0_22 rfl rfl rfl dX0_leansFrom_92 ?_
  refine g_iload_n (pc := 95) C dX0_leansFrom_95 2 rfl ?_
  refine g_wrVI (pc := 96) (rest := []) (wr := []) C (fun _ => wA G h a (rnK (bgK kp b 11) (b + 1) (akL 0)) (nI ((b + 1) + 1)) nm 0 aa) rfl k_X0_asksFrom (c_asks_0 l G h a (bgK kp b 11) (b + 1) nm 0 aa x (by first | assumption | omega)) ml_X0_28 rfl ⟨Nat.le_of_ble_eq_true rfl, Nat.le_of_ble_eq_true rfl⟩ rfl [0, 1] [] [0, 1] rfl (by decide) rfl (by decide) (by decide) (by decide) (fun _ => rfl) 0 rfl rfl rfl rfl (Nat.le_of_ble_eq_true rfl) ⟨by decide, by decide⟩ dX0_leansFrom_96 (fun r96 _ e96 => ?_)
  subst e96
  refine g_iconst (pc := 99) (v := 2) C dX0_leansFrom_99 (by decide) ?_
  refine g_imul (pc := 100) C dX0_leansFrom_100 ?_
  exact g_retIW (pc := 101) C rfl rfl () (rfl) (by rfl) (by rfl) dX0_leansFrom_101
set_option maxRecDepth 20000 in
set_option maxHeartbeats 4000000 in
theorem c_leans_0_2 (l : Launch) (G : gT) (h : Nat) (a : Nat) (kp : Nat → Int32) (b : Nat) (nm : Int32) (aa : Int32) (x : Int32) (hb : b < 970) : WI l yX0_leansFrom cX0_leansFrom 3 (some .int) 4 0 0 G [.ref h, .int 0, .int x] (wA G h a kp (nI b) nm 2 aa) (S := Unit) (fun r _ => r = akV 2 nm aa x * 2) (fun _ => wA G h a (rnK kp b (11 :: akL 2)) (nI (b + 2)) nm 2 aa) := by
  intro sz9
  refine start_W (by decide) (Nat.le_of_ble_eq_true rfl) (fun p9 e9 s9 m9 a9 b9 t9 c9 C => ?_)
  refine g_lv (lv' := [(0, .ref h), (1, .int 0), (2, .int x)]) rfl ?_
  refine g_iload_n (pc := 0) C dX0_leansFrom_0 1 rfl ?_
  refine g_tsOut (pc := 1) (tgt := 84) C dX0_leansFrom_1 (by decide) (by decide) ?_
  refine g_aload_n (pc := 84) C dX0_leansFrom_84 0 rfl ?_
  refine g_bipush (pc := 85) (v := 11) C dX0_leansFrom_85 (by decide) ?_
  refine g_wrVV (pc := 87) (rest := []) (wr := []) C (fun _ => wA G h a (bgK kp b 11) (nI (b + 1)) nm 2 aa) rfl k_X0_begin (c_X0_begin l G h a kp b nm 2 aa 11 (by first | assumption | omega)) ml_X0_47 rfl ⟨Nat.le_of_ble_eq_true rfl, Nat.le_of_ble_eq_true rfl⟩ rfl [0, 1] [] [0, 1] rfl (by decide) rfl (by decide) (by decide) (by decide) (fun _ => rfl) 0 rfl rfl rfl rfl (Nat.le_of_ble_eq_true rfl) ⟨by decide, by decide⟩ dX0_leansFrom_87 (fun _ _ => ?_)
  refine g_aload_n (pc := 90) C dX0_leansFrom_90 0 rfl ?_
  refine g_aload_n (pc := 91) C dX0_leansFrom_91 0 rfl ?_
  refine g_get (pc := 92) (T := TX0) (N := 5) (v := .int 2) C ib_X0 0 rfl rfl 3 (by decide) mf_X0_22 rfl rfl rfl dX0_leansFrom_92 ?_
  refine g_iload_n (pc := 95) C dX0_leansFrom_95 2 rfl ?_
  refine g_wrVI (pc := 96) (rest := []) (wr := []) C (fun _ => wA G h a (rnK (bgK kp b 11) (b + 1) (akL 2)) (nI ((b + 1) + 1)) nm 2 aa) rfl k_X0_asksFrom (c_asks_2 l G h a (bgK kp b 11) (b + 1) nm 2 aa x (by first | assumption | omega)) ml_X0_28 rfl ⟨Nat.le_of_ble_eq_true rfl, Nat.le_of_ble_eq_true rfl⟩ rfl [0, 1] [] [0, 1] rfl (by decide) rfl (by decide) (by decide) (by decide) (fun _ => rfl) 0 rfl rfl rfl rfl (Nat.le_of_ble_eq_true rfl) ⟨by decide, by decide⟩ dX0_leansFrom_96 (fun r96 _ e96 => ?_)
  subst e96
  refine g_iconst (pc := 99) (v := 2) C dX0_leansFrom_99 (by decide) ?_
  refine g_imul (pc := 100) C dX0_leansFrom_100 ?_
  exact g_retIW (pc := 101) C rfl rfl () (rfl) (by rfl) (by rfl) dX0_leansFrom_101
set_option maxRecDepth 20000 in
set_option maxHeartbeats 4000000 in
theorem c_leans_0_5 (l : Launch) (G : gT) (h : Nat) (a : Nat) (kp : Nat → Int32) (b : Nat) (nm : Int32) (aa : Int32) (x : Int32) (hb : b < 970) : WI l yX0_leansFrom cX0_leansFrom 3 (some .int) 4 0 0 G [.ref h, .int 0, .int x] (wA G h a kp (nI b) nm 5 aa) (S := Unit) (fun r _ => r = akV 5 nm aa x * 2) (fun _ => wA G h a (rnK kp b (11 :: akL 5)) (nI (b + 2)) nm 5 aa) := by
  intro sz9
  refine start_W (by decide) (Nat.le_of_ble_eq_true rfl) (fun p9 e9 s9 m9 a9 b9 t9 c9 C => ?_)
  refine g_lv (lv' := [(0, .ref h), (1, .int 0), (2, .int x)]) rfl ?_
  refine g_iload_n (pc := 0) C dX0_leansFrom_0 1 rfl ?_
  refine g_tsOut (pc := 1) (tgt := 84) C dX0_leansFrom_1 (by decide) (by decide) ?_
  refine g_aload_n (pc := 84) C dX0_leansFrom_84 0 rfl ?_
  refine g_bipush (pc := 85) (v := 11) C dX0_leansFrom_85 (by decide) ?_
  refine g_wrVV (pc := 87) (rest := []) (wr := []) C (fun _ => wA G h a (bgK kp b 11) (nI (b + 1)) nm 5 aa) rfl k_X0_begin (c_X0_begin l G h a kp b nm 5 aa 11 (by first | assumption | omega)) ml_X0_47 rfl ⟨Nat.le_of_ble_eq_true rfl, Nat.le_of_ble_eq_true rfl⟩ rfl [0, 1] [] [0, 1] rfl (by decide) rfl (by decide) (by decide) (by decide) (fun _ => rfl) 0 rfl rfl rfl rfl (Nat.le_of_ble_eq_true rfl) ⟨by decide, by decide⟩ dX0_leansFrom_87 (fun _ _ => ?_)
  refine g_aload_n (pc := 90) C dX0_leansFrom_90 0 rfl ?_
  refine g_aload_n (pc := 91) C dX0_leansFrom_91 0 rfl ?_
  refine g_get (pc := 92) (T := TX0) (N := 5) (v := .int 5) C ib_X0 0 rfl rfl 3 (by decide) mf_X0_22 rfl rfl rfl dX0_leansFrom_92 ?_
  refine g_iload_n (pc := 95) C dX0_leansFrom_95 2 rfl ?_
  refine g_wrVI (pc := 96) (rest := []) (wr := []) C (fun _ => wA G h a (rnK (bgK kp b 11) (b + 1) (akL 5)) (nI ((b + 1) + 1)) nm 5 aa) rfl k_X0_asksFrom (c_asks_5 l G h a (bgK kp b 11) (b + 1) nm 5 aa x (by first | assumption | omega)) ml_X0_28 rfl ⟨Nat.le_of_ble_eq_true rfl, Nat.le_of_ble_eq_true rfl⟩ rfl [0, 1] [] [0, 1] rfl (by decide) rfl (by decide) (by decide) (by decide) (fun _ => rfl) 0 rfl rfl rfl rfl (Nat.le_of_ble_eq_true rfl) ⟨by decide, by decide⟩ dX0_leansFrom_96 (fun r96 _ e96 => ?_)
  subst e96
  refine g_iconst (pc := 99) (v := 2) C dX0_leansFrom_99 (by decide) ?_
  refine g_imul (pc := 100) C dX0_leansFrom_100 ?_
  exact g_retIW (pc := 101) C rfl rfl () (rfl) (by rfl) (by rfl) dX0_leansFrom_101
set_option maxRecDepth 20000 in
set_option maxHeartbeats 4000000 in
theorem c_leans_1_1 (l : Launch) (G : gT) (h : Nat) (a : Nat) (kp : Nat → Int32) (b : Nat) (nm : Int32) (aa : Int32) (x : Int32) (hb : b < 970) : WI l yX0_leansFrom cX0_leansFrom 3 (some .int) 4 0 0 G [.ref h, .int 1, .int x] (wA G h a kp (nI b) nm 1 aa) (S := Unit) (fun r _ => r = lnV 1 nm aa x) (fun _ => wA G h a (rnK kp b (lnL 1)) (nI (b + 3)) nm 1 aa) := by
  intro sz9
  refine start_W (by decide) (Nat.le_of_ble_eq_true rfl) (fun p9 e9 s9 m9 a9 b9 t9 c9 C => ?_)
  refine g_lv (lv' := [(0, .ref h), (1, .int 1), (2, .int x)]) rfl ?_
  refine g_iload_n (pc := 0) C dX0_leansFrom_0 1 rfl ?_
  refine g_tsOut (pc := 1) (tgt := 84) C dX0_leansFrom_1 (by decide) (by decide) ?_
  refine g_aload_n (pc := 84) C dX0_leansFrom_84 0 rfl ?_
  refine g_bipush (pc := 85) (v := 11) C dX0_leansFrom_85 (by decide) ?_
  refine g_wrVV (pc := 87) (rest := []) (wr := []) C (fun _ => wA G h a (bgK kp b 11) (nI (b + 1)) nm 1 aa) rfl k_X0_begin (c_X0_begin l G h a kp b nm 1 aa 11 (by first | assumption | omega)) ml_X0_47 rfl ⟨Nat.le_of_ble_eq_true rfl, Nat.le_of_ble_eq_true rfl⟩ rfl [0, 1] [] [0, 1] rfl (by decide) rfl (by decide) (by decide) (by decide) (fun _ => rfl) 0 rfl rfl rfl rfl (Nat.le_of_ble_eq_true rfl) ⟨by decide, by decide⟩ dX0_leansFrom_87 (fun _ _ => ?_)
  refine g_aload_n (pc := 90) C dX0_leansFrom_90 0 rfl ?_
  refine g_aload_n (pc := 91) C dX0_leansFrom_91 0 rfl ?_
  refine g_get (pc := 92) (T := TX0) (N := 5) (v := .int 1) C ib_X0 0 rfl rfl 3 (by decide) mf_X0_22 rfl rfl rfl dX0_leansFrom_92 ?_
  refine g_iload_n (pc := 95) C dX0_leansFrom_95 2 rfl ?_
  refine g_wrVI (pc := 96) (rest := []) (wr := []) C (fun _ => wA G h a (rnK (bgK kp b 11) (b + 1) (akL 1)) (nI ((b + 1) + 2)) nm 1 aa) rfl k_X0_asksFrom (c_asks_1 l G h a (bgK kp b 11) (b + 1) nm 1 aa x (by first | assumption | omega)) ml_X0_28 rfl ⟨Nat.le_of_ble_eq_true rfl, Nat.le_of_ble_eq_true rfl⟩ rfl [0, 1] [] [0, 1] rfl (by decide) rfl (by decide) (by decide) (by decide) (fun _ => rfl) 0 rfl rfl rfl rfl (Nat.le_of_ble_eq_true rfl) ⟨by decide, by decide⟩ dX0_leansFrom_96 (fun r96 _ e96 => ?_)
  subst e96
  refine g_iconst (pc := 99) (v := 2) C dX0_leansFrom_99 (by decide) ?_
  refine g_imul (pc := 100) C dX0_leansFrom_100 ?_
  exact g_retIW (pc := 101) C rfl rfl () (rfl) (by rfl) (by rfl) dX0_leansFrom_101
set_option maxRecDepth 20000 in
set_option maxHeartbeats 4000000 in
theorem c_leans_1_3 (l : Launch) (G : gT) (h : Nat) (a : Nat) (kp : Nat → Int32) (b : Nat) (nm : Int32) (aa : Int32) (x : Int32) (hb : b < 970) : WI l yX0_leansFrom cX0_leansFrom 3 (some .int) 4 0 0 G [.ref h, .int 1, .int x] (wA G h a kp (nI b) nm 3 aa) (S := Unit) (fun r _ => r = akV 3 nm aa x * 2) (fun _ => wA G h a (rnK kp b (11 :: akL 3)) (nI (b + 3)) nm 3 aa) := by
  intro sz9
  refine start_W (by decide) (Nat.le_of_ble_eq_true rfl) (fun p9 e9 s9 m9 a9 b9 t9 c9 C => ?_)
  refine g_lv (lv' := [(0, .ref h), (1, .int 1), (2, .int x)]) rfl ?_
  refine g_iload_n (pc := 0) C dX0_leansFrom_0 1 rfl ?_
  refine g_tsOut (pc := 1) (tgt := 84) C dX0_leansFrom_1 (by decide) (by decide) ?_
  refine g_aload_n (pc := 84) C dX0_leansFrom_84 0 rfl ?_
  refine g_bipush (pc := 85) (v := 11) C dX0_leansFrom_85 (by decide) ?_
  refine g_wrVV (pc := 87) (rest := []) (wr := []) C (fun _ => wA G h a (bgK kp b 11) (nI (b + 1)) nm 3 aa) rfl k_X0_begin (c_X0_begin l G h a kp b nm 3 aa 11 (by first | assumption | omega)) ml_X0_47 rfl ⟨Nat.le_of_ble_eq_true rfl, Nat.le_of_ble_eq_true rfl⟩ rfl [0, 1] [] [0, 1] rfl (by decide) rfl (by decide) (by decide) (by decide) (fun _ => rfl) 0 rfl rfl rfl rfl (Nat.le_of_ble_eq_true rfl) ⟨by decide, by decide⟩ dX0_leansFrom_87 (fun _ _ => ?_)
  refine g_aload_n (pc := 90) C dX0_leansFrom_90 0 rfl ?_
  refine g_aload_n (pc := 91) C dX0_leansFrom_91 0 rfl ?_
  refine g_get (pc := 92) (T := TX0) (N := 5) (v := .int 3) C ib_X0 0 rfl rfl 3 (by decide) mf_X0_22 rfl rfl rfl dX0_leansFrom_92 ?_
  refine g_iload_n (pc := 95) C dX0_leansFrom_95 2 rfl ?_
  refine g_wrVI (pc := 96) (rest := []) (wr := []) C (fun _ => wA G h a (rnK (bgK kp b 11) (b + 1) (akL 3)) (nI ((b + 1) + 2)) nm 3 aa) rfl k_X0_asksFrom (c_asks_3 l G h a (bgK kp b 11) (b + 1) nm 3 aa x (by first | assumption | omega)) ml_X0_28 rfl ⟨Nat.le_of_ble_eq_true rfl, Nat.le_of_ble_eq_true rfl⟩ rfl [0, 1] [] [0, 1] rfl (by decide) rfl (by decide) (by decide) (by decide) (fun _ => rfl) 0 rfl rfl rfl rfl (Nat.le_of_ble_eq_true rfl) ⟨by decide, by decide⟩ dX0_leansFrom_96 (fun r96 _ e96 => ?_)
  subst e96
  refine g_iconst (pc := 99) (v := 2) C dX0_leansFrom_99 (by decide) ?_
  refine g_imul (pc := 100) C dX0_leansFrom_100 ?_
  exact g_retIW (pc := 101) C rfl rfl () (rfl) (by rfl) (by rfl) dX0_leansFrom_101
set_option maxRecDepth 20000 in
set_option maxHeartbeats 4000000 in
theorem c_leans_4_4 (l : Launch) (G : gT) (h : Nat) (a : Nat) (kp : Nat → Int32) (b : Nat) (nm : Int32) (aa : Int32) (x : Int32) (hb : b < 970) : WI l yX0_leansFrom cX0_leansFrom 3 (some .int) 4 0 0 G [.ref h, .int 4, .int x] (wA G h a kp (nI b) nm 4 aa) (S := Unit) (fun r _ => r = lnV 4 nm aa x) (fun _ => wA G h a (rnK kp b (lnL 4)) (nI (b + 3)) nm 4 aa) := by
  intro sz9
  refine start_W (by decide) (Nat.le_of_ble_eq_true rfl) (fun p9 e9 s9 m9 a9 b9 t9 c9 C => ?_)
  refine g_lv (lv' := [(0, .ref h), (1, .int 4), (2, .int x)]) rfl ?_
  refine g_iload_n (pc := 0) C dX0_leansFrom_0 1 rfl ?_
  refine g_tsIn (pc := 1) (off := 83) (tgt := 84) C dX0_leansFrom_1 (by decide) (by decide) (by decide) (by decide) ?_
  refine g_aload_n (pc := 84) C dX0_leansFrom_84 0 rfl ?_
  refine g_bipush (pc := 85) (v := 11) C dX0_leansFrom_85 (by decide) ?_
  refine g_wrVV (pc := 87) (rest := []) (wr := []) C (fun _ => wA G h a (bgK kp b 11) (nI (b + 1)) nm 4 aa) rfl k_X0_begin (c_X0_begin l G h a kp b nm 4 aa 11 (by first | assumption | omega)) ml_X0_47 rfl ⟨Nat.le_of_ble_eq_true rfl, Nat.le_of_ble_eq_true rfl⟩ rfl [0, 1] [] [0, 1] rfl (by decide) rfl (by decide) (by decide) (by decide) (fun _ => rfl) 0 rfl rfl rfl rfl (Nat.le_of_ble_eq_true rfl) ⟨by decide, by decide⟩ dX0_leansFrom_87 (fun _ _ => ?_)
  refine g_aload_n (pc := 90) C dX0_leansFrom_90 0 rfl ?_
  refine g_aload_n (pc := 91) C dX0_leansFrom_91 0 rfl ?_
  refine g_get (pc := 92) (T := TX0) (N := 5) (v := .int 4) C ib_X0 0 rfl rfl 3 (by decide) mf_X0_22 rfl rfl rfl dX0_leansFrom_92 ?_
  refine g_iload_n (pc := 95) C dX0_leansFrom_95 2 rfl ?_
  refine g_wrVI (pc := 96) (rest := []) (wr := []) C (fun _ => wA G h a (rnK (bgK kp b 11) (b + 1) (akL 4)) (nI ((b + 1) + 2)) nm 4 aa) rfl k_X0_asksFrom (c_asks_4 l G h a (bgK kp b 11) (b + 1) nm 4 aa x (by first | assumption | omega)) ml_X0_28 rfl ⟨Nat.le_of_ble_eq_true rfl, Nat.le_of_ble_eq_true rfl⟩ rfl [0, 1] [] [0, 1] rfl (by decide) rfl (by decide) (by decide) (by decide) (fun _ => rfl) 0 rfl rfl rfl rfl (Nat.le_of_ble_eq_true rfl) ⟨by decide, by decide⟩ dX0_leansFrom_96 (fun r96 _ e96 => ?_)
  subst e96
  refine g_iconst (pc := 99) (v := 2) C dX0_leansFrom_99 (by decide) ?_
  refine g_imul (pc := 100) C dX0_leansFrom_100 ?_
  exact g_retIW (pc := 101) C rfl rfl () (rfl) (by rfl) (by rfl) dX0_leansFrom_101
set_option maxRecDepth 20000 in
set_option maxHeartbeats 4000000 in
theorem c_leans_4_6 (l : Launch) (G : gT) (h : Nat) (a : Nat) (kp : Nat → Int32) (b : Nat) (nm : Int32) (aa : Int32) (x : Int32) (hb : b < 970) : WI l yX0_leansFrom cX0_leansFrom 3 (some .int) 4 0 0 G [.ref h, .int 4, .int x] (wA G h a kp (nI b) nm 6 aa) (S := Unit) (fun r _ => r = akV 6 nm aa x * 2) (fun _ => wA G h a (rnK kp b (11 :: akL 6)) (nI (b + 4)) nm 6 aa) := by
  intro sz9
  refine start_W (by decide) (Nat.le_of_ble_eq_true rfl) (fun p9 e9 s9 m9 a9 b9 t9 c9 C => ?_)
  refine g_lv (lv' := [(0, .ref h), (1, .int 4), (2, .int x)]) rfl ?_
  refine g_iload_n (pc := 0) C dX0_leansFrom_0 1 rfl ?_
  refine g_tsIn (pc := 1) (off := 83) (tgt := 84) C dX0_leansFrom_1 (by decide) (by decide) (by decide) (by decide) ?_
  refine g_aload_n (pc := 84) C dX0_leansFrom_84 0 rfl ?_
  refine g_bipush (pc := 85) (v := 11) C dX0_leansFrom_85 (by decide) ?_
  refine g_wrVV (pc := 87) (rest := []) (wr := []) C (fun _ => wA G h a (bgK kp b 11) (nI (b + 1)) nm 6 aa) rfl k_X0_begin (c_X0_begin l G h a kp b nm 6 aa 11 (by first | assumption | omega)) ml_X0_47 rfl ⟨Nat.le_of_ble_eq_true rfl, Nat.le_of_ble_eq_true rfl⟩ rfl [0, 1] [] [0, 1] rfl (by decide) rfl (by decide) (by decide) (by decide) (fun _ => rfl) 0 rfl rfl rfl rfl (Nat.le_of_ble_eq_true rfl) ⟨by decide, by decide⟩ dX0_leansFrom_87 (fun _ _ => ?_)
  refine g_aload_n (pc := 90) C dX0_leansFrom_90 0 rfl ?_
  refine g_aload_n (pc := 91) C dX0_leansFrom_91 0 rfl ?_
  refine g_get (pc := 92) (T := TX0) (N := 5) (v := .int 6) C ib_X0 0 rfl rfl 3 (by decide) mf_X0_22 rfl rfl rfl dX0_leansFrom_92 ?_
  refine g_iload_n (pc := 95) C dX0_leansFrom_95 2 rfl ?_
  refine g_wrVI (pc := 96) (rest := []) (wr := []) C (fun _ => wA G h a (rnK (bgK kp b 11) (b + 1) (akL 6)) (nI ((b + 1) + 3)) nm 6 aa) rfl k_X0_asksFrom (c_asks_6 l G h a (bgK kp b 11) (b + 1) nm 6 aa x (by first | assumption | omega)) ml_X0_28 rfl ⟨Nat.le_of_ble_eq_true rfl, Nat.le_of_ble_eq_true rfl⟩ rfl [0, 1] [] [0, 1] rfl (by decide) rfl (by decide) (by decide) (by decide) (fun _ => rfl) 0 rfl rfl rfl rfl (Nat.le_of_ble_eq_true rfl) ⟨by decide, by decide⟩ dX0_leansFrom_96 (fun r96 _ e96 => ?_)
  subst e96
  refine g_iconst (pc := 99) (v := 2) C dX0_leansFrom_99 (by decide) ?_
  refine g_imul (pc := 100) C dX0_leansFrom_100 ?_
  exact g_retIW (pc := 101) C rfl rfl () (rfl) (by rfl) (by rfl) dX0_leansFrom_101
set_option maxRecDepth 20000 in
set_option maxHeartbeats 4000000 in
theorem c_leans_2_2 (l : Launch) (G : gT) (h : Nat) (a : Nat) (kp : Nat → Int32) (b : Nat) (nm : Int32) (aa : Int32) (x : Int32) (hb : b < 960) : WI l yX0_leansFrom cX0_leansFrom 3 (some .int) 5 0 0 G [.ref h, .int 2, .int x] (wA G h a kp (nI b) nm 2 aa) (S := Unit) (fun r _ => r = lnV 2 nm aa x) (fun _ => wA G h a (rnK kp b (lnL 2)) (nI (b + 3)) nm 2 aa) := by
  intro sz9
  refine start_W (by decide) (Nat.le_of_ble_eq_true rfl) (fun p9 e9 s9 m9 a9 b9 t9 c9 C => ?_)
  refine g_lv (lv' := [(0, .ref h), (1, .int 2), (2, .int x)]) rfl ?_
  refine g_iload_n (pc := 0) C dX0_leansFrom_0 1 rfl ?_
  refine g_tsIn (pc := 1) (off := 35) (tgt := 36) C dX0_leansFrom_1 (by decide) (by decide) (by decide) (by decide) ?_
  refine g_aload_n (pc := 36) C dX0_leansFrom_36 0 rfl ?_
  refine g_bipush (pc := 37) (v := 30) C dX0_leansFrom_37 (by decide) ?_
  refine g_wrVV (pc := 39) (rest := []) (wr := []) C (fun _ => wA G h a (bgK kp b 30) (nI (b + 1)) nm 2 aa) rfl k_X0_begin (c_X0_begin l G h a kp b nm 2 aa 30 (by first | assumption | omega)) ml_X0_47 rfl ⟨Nat.le_of_ble_eq_true rfl, Nat.le_of_ble_eq_true rfl⟩ rfl [0, 1] [] [0, 1] rfl (by decide) rfl (by decide) (by decide) (by decide) (fun _ => rfl) 0 rfl rfl rfl rfl (Nat.le_of_ble_eq_true rfl) ⟨by decide, by decide⟩ dX0_leansFrom_39 (fun _ _ => ?_)
  refine g_aload_n (pc := 42) C dX0_leansFrom_42 0 rfl ?_
  refine g_iconst (pc := 43) (v := 0) C dX0_leansFrom_43 (by decide) ?_
  refine g_iload_n (pc := 44) C dX0_leansFrom_44 2 rfl ?_
  refine g_wrVI (pc := 45) (rest := []) (wr := []) C (fun _ => wA G h a (rnK (bgK kp b 30) (b + 1) (11 :: akL 2)) (nI ((b + 1) + 2)) nm 2 aa) rfl k_X0_leansFrom (c_leans_0_2 l G h a (bgK kp b 30) (b + 1) nm aa x (by first | assumption | omega)) ml_X0_32 rfl ⟨Nat.le_of_ble_eq_true rfl, Nat.le_of_ble_eq_true rfl⟩ rfl [0, 1] [] [0, 1] rfl (by decide) rfl (by decide) (by decide) (by decide) (fun _ => rfl) 0 rfl rfl rfl rfl (Nat.le_of_ble_eq_true rfl) ⟨by decide, by decide⟩ dX0_leansFrom_45 (fun r45 _ e45 => ?_)
  subst e45
  refine g_iconst (pc := 48) (v := 3) C dX0_leansFrom_48 (by decide) ?_
  refine g_imul (pc := 49) C dX0_leansFrom_49 ?_
  exact g_retIW (pc := 50) C rfl rfl () (rfl) (by rfl) (by rfl) dX0_leansFrom_50
set_option maxRecDepth 20000 in
set_option maxHeartbeats 4000000 in
theorem c_leans_5_5 (l : Launch) (G : gT) (h : Nat) (a : Nat) (kp : Nat → Int32) (b : Nat) (nm : Int32) (aa : Int32) (x : Int32) (hb : b < 960) : WI l yX0_leansFrom cX0_leansFrom 3 (some .int) 5 0 0 G [.ref h, .int 5, .int x] (wA G h a kp (nI b) nm 5 aa) (S := Unit) (fun r _ => r = lnV 5 nm aa x) (fun _ => wA G h a (rnK kp b (lnL 5)) (nI (b + 3)) nm 5 aa) := by
  intro sz9
  refine start_W (by decide) (Nat.le_of_ble_eq_true rfl) (fun p9 e9 s9 m9 a9 b9 t9 c9 C => ?_)
  refine g_lv (lv' := [(0, .ref h), (1, .int 5), (2, .int x)]) rfl ?_
  refine g_iload_n (pc := 0) C dX0_leansFrom_0 1 rfl ?_
  refine g_tsIn (pc := 1) (off := 35) (tgt := 36) C dX0_leansFrom_1 (by decide) (by decide) (by decide) (by decide) ?_
  refine g_aload_n (pc := 36) C dX0_leansFrom_36 0 rfl ?_
  refine g_bipush (pc := 37) (v := 30) C dX0_leansFrom_37 (by decide) ?_
  refine g_wrVV (pc := 39) (rest := []) (wr := []) C (fun _ => wA G h a (bgK kp b 30) (nI (b + 1)) nm 5 aa) rfl k_X0_begin (c_X0_begin l G h a kp b nm 5 aa 30 (by first | assumption | omega)) ml_X0_47 rfl ⟨Nat.le_of_ble_eq_true rfl, Nat.le_of_ble_eq_true rfl⟩ rfl [0, 1] [] [0, 1] rfl (by decide) rfl (by decide) (by decide) (by decide) (fun _ => rfl) 0 rfl rfl rfl rfl (Nat.le_of_ble_eq_true rfl) ⟨by decide, by decide⟩ dX0_leansFrom_39 (fun _ _ => ?_)
  refine g_aload_n (pc := 42) C dX0_leansFrom_42 0 rfl ?_
  refine g_iconst (pc := 43) (v := 0) C dX0_leansFrom_43 (by decide) ?_
  refine g_iload_n (pc := 44) C dX0_leansFrom_44 2 rfl ?_
  refine g_wrVI (pc := 45) (rest := []) (wr := []) C (fun _ => wA G h a (rnK (bgK kp b 30) (b + 1) (11 :: akL 5)) (nI ((b + 1) + 2)) nm 5 aa) rfl k_X0_leansFrom (c_leans_0_5 l G h a (bgK kp b 30) (b + 1) nm aa x (by first | assumption | omega)) ml_X0_32 rfl ⟨Nat.le_of_ble_eq_true rfl, Nat.le_of_ble_eq_true rfl⟩ rfl [0, 1] [] [0, 1] rfl (by decide) rfl (by decide) (by decide) (by decide) (fun _ => rfl) 0 rfl rfl rfl rfl (Nat.le_of_ble_eq_true rfl) ⟨by decide, by decide⟩ dX0_leansFrom_45 (fun r45 _ e45 => ?_)
  subst e45
  refine g_iconst (pc := 48) (v := 3) C dX0_leansFrom_48 (by decide) ?_
  refine g_imul (pc := 49) C dX0_leansFrom_49 ?_
  exact g_retIW (pc := 50) C rfl rfl () (rfl) (by rfl) (by rfl) dX0_leansFrom_50
set_option maxRecDepth 20000 in
set_option maxHeartbeats 4000000 in
theorem c_leans_3_3 (l : Launch) (G : gT) (h : Nat) (a : Nat) (kp : Nat → Int32) (b : Nat) (nm : Int32) (aa : Int32) (x : Int32) (hb : b < 960) : WI l yX0_leansFrom cX0_leansFrom 3 (some .int) 5 0 0 G [.ref h, .int 3, .int x] (wA G h a kp (nI b) nm 3 aa) (S := Unit) (fun r _ => r = lnV 3 nm aa x) (fun _ => wA G h a (rnK kp b (lnL 3)) (nI (b + 4)) nm 3 aa) := by
  intro sz9
  refine start_W (by decide) (Nat.le_of_ble_eq_true rfl) (fun p9 e9 s9 m9 a9 b9 t9 c9 C => ?_)
  refine g_lv (lv' := [(0, .ref h), (1, .int 3), (2, .int x)]) rfl ?_
  refine g_iload_n (pc := 0) C dX0_leansFrom_0 1 rfl ?_
  refine g_tsIn (pc := 1) (off := 50) (tgt := 51) C dX0_leansFrom_1 (by decide) (by decide) (by decide) (by decide) ?_
  refine g_aload_n (pc := 51) C dX0_leansFrom_51 0 rfl ?_
  refine g_bipush (pc := 52) (v := 40) C dX0_leansFrom_52 (by decide) ?_
  refine g_wrVV (pc := 54) (rest := []) (wr := []) C (fun _ => wA G h a (bgK kp b 40) (nI (b + 1)) nm 3 aa) rfl k_X0_begin (c_X0_begin l G h a kp b nm 3 aa 40 (by first | assumption | omega)) ml_X0_47 rfl ⟨Nat.le_of_ble_eq_true rfl, Nat.le_of_ble_eq_true rfl⟩ rfl [0, 1] [] [0, 1] rfl (by decide) rfl (by decide) (by decide) (by decide) (fun _ => rfl) 0 rfl rfl rfl rfl (Nat.le_of_ble_eq_true rfl) ⟨by decide, by decide⟩ dX0_leansFrom_54 (fun _ _ => ?_)
  refine g_aload_n (pc := 57) C dX0_leansFrom_57 0 rfl ?_
  refine g_iconst (pc := 58) (v := 1) C dX0_leansFrom_58 (by decide) ?_
  refine g_iload_n (pc := 59) C dX0_leansFrom_59 2 rfl ?_
  refine g_iconst (pc := 60) (v := 1) C dX0_leansFrom_60 (by decide) ?_
  refine g_iadd (pc := 61) C dX0_leansFrom_61 ?_
  refine g_wrVI (pc := 62) (rest := []) (wr := []) C (fun _ => wA G h a (rnK (bgK kp b 40) (b + 1) (11 :: akL 3)) (nI ((b + 1) + 3)) nm 3 aa) rfl k_X0_leansFrom (c_leans_1_3 l G h a (bgK kp b 40) (b + 1) nm aa (x + 1) (by first | assumption | omega)) ml_X0_32 rfl ⟨Nat.le_of_ble_eq_true rfl, Nat.le_of_ble_eq_true rfl⟩ rfl [0, 1] [] [0, 1] rfl (by decide) rfl (by decide) (by decide) (by decide) (fun _ => rfl) 0 rfl rfl rfl rfl (Nat.le_of_ble_eq_true rfl) ⟨by decide, by decide⟩ dX0_leansFrom_62 (fun r62 _ e62 => ?_)
  subst e62
  exact g_retIW (pc := 65) C rfl rfl () (rfl) (by rfl) (by rfl) dX0_leansFrom_65
set_option maxRecDepth 20000 in
set_option maxHeartbeats 4000000 in
theorem c_leans_6_6 (l : Launch) (G : gT) (h : Nat) (a : Nat) (kp : Nat → Int32) (b : Nat) (nm : Int32) (aa : Int32) (x : Int32) (hb : b < 960) : WI l yX0_leansFrom cX0_leansFrom 3 (some .int) 5 0 0 G [.ref h, .int 6, .int x] (wA G h a kp (nI b) nm 6 aa) (S := Unit) (fun r _ => r = lnV 6 nm aa x) (fun _ => wA G h a (rnK kp b (lnL 6)) (nI (b + 5)) nm 6 aa) := by
  intro sz9
  refine start_W (by decide) (Nat.le_of_ble_eq_true rfl) (fun p9 e9 s9 m9 a9 b9 t9 c9 C => ?_)
  refine g_lv (lv' := [(0, .ref h), (1, .int 6), (2, .int x)]) rfl ?_
  refine g_iload_n (pc := 0) C dX0_leansFrom_0 1 rfl ?_
  refine g_tsIn (pc := 1) (off := 65) (tgt := 66) C dX0_leansFrom_1 (by decide) (by decide) (by decide) (by decide) ?_
  refine g_aload_n (pc := 66) C dX0_leansFrom_66 0 rfl ?_
  refine g_bipush (pc := 67) (v := 71) C dX0_leansFrom_67 (by decide) ?_
  refine g_wrVV (pc := 69) (rest := []) (wr := []) C (fun _ => wA G h a (bgK kp b 71) (nI (b + 1)) nm 6 aa) rfl k_X0_begin (c_X0_begin l G h a kp b nm 6 aa 71 (by first | assumption | omega)) ml_X0_47 rfl ⟨Nat.le_of_ble_eq_true rfl, Nat.le_of_ble_eq_true rfl⟩ rfl [0, 1] [] [0, 1] rfl (by decide) rfl (by decide) (by decide) (by decide) (fun _ => rfl) 0 rfl rfl rfl rfl (Nat.le_of_ble_eq_true rfl) ⟨by decide, by decide⟩ dX0_leansFrom_69 (fun _ _ => ?_)
  refine g_aload_n (pc := 72) C dX0_leansFrom_72 0 rfl ?_
  refine g_iconst (pc := 73) (v := 4) C dX0_leansFrom_73 (by decide) ?_
  refine g_iload_n (pc := 74) C dX0_leansFrom_74 2 rfl ?_
  refine g_aload_n (pc := 75) C dX0_leansFrom_75 0 rfl ?_
  refine g_get (pc := 76) (T := TX0) (N := 5) (v := .int aa) C ib_X0 0 rfl rfl 4 (by decide) mf_X0_25 rfl rfl rfl dX0_leansFrom_76 ?_
  refine g_isub (pc := 79) C dX0_leansFrom_79 ?_
  refine g_wrVI (pc := 80) (rest := []) (wr := []) C (fun _ => wA G h a (rnK (bgK kp b 71) (b + 1) (11 :: akL 6)) (nI ((b + 1) + 4)) nm 6 aa) rfl k_X0_leansFrom (c_leans_4_6 l G h a (bgK kp b 71) (b + 1) nm aa (x - aa) (by first | assumption | omega)) ml_X0_32 rfl ⟨Nat.le_of_ble_eq_true rfl, Nat.le_of_ble_eq_true rfl⟩ rfl [0, 1] [] [0, 1] rfl (by decide) rfl (by decide) (by decide) (by decide) (fun _ => rfl) 0 rfl rfl rfl rfl (Nat.le_of_ble_eq_true rfl) ⟨by decide, by decide⟩ dX0_leansFrom_80 (fun r80 _ e80 => ?_)
  subst e80
  exact g_retIW (pc := 83) C rfl rfl () (rfl) (by rfl) (by rfl) dX0_leansFrom_83
set_option maxRecDepth 20000 in
set_option maxHeartbeats 4000000 in
theorem c_sums_0_0 (l : Launch) (G : gT) (h : Nat) (a : Nat) (kp : Nat → Int32) (b : Nat) (nm : Int32) (aa : Int32) (x : Int32) (hb : b < 950) : WI l yX0_sumsFrom cX0_sumsFrom 3 (some .int) 6 0 0 G [.ref h, .int 0, .int x] (wA G h a kp (nI b) nm 0 aa) (S := Unit) (fun r _ => r = smV 0 nm aa x) (fun _ => wA G h a (rnK kp b (smL 0)) (nI (b + 4)) nm 0 aa) := by
  intro sz9
  refine start_W (by decide) (Nat.le_of_ble_eq_true rfl) (fun p9 e9 s9 m9 a9 b9 t9 c9 C => ?_)
  refine g_lv (lv' := [(0, .ref h), (1, .int 0), (2, .int x)]) rfl ?_
  refine g_iload_n (pc := 0) C dX0_sumsFrom_0 1 rfl ?_
  refine g_tsOut (pc := 1) (tgt := 57) C dX0_sumsFrom_1 (by decide) (by decide) ?_
  refine g_aload_n (pc := 57) C dX0_sumsFrom_57 0 rfl ?_
  refine g_bipush (pc := 58) (v := 12) C dX0_sumsFrom_58 (by decide) ?_
  refine g_wrVV (pc := 60) (rest := []) (wr := []) C (fun _ => wA G h a (bgK kp b 12) (nI (b + 1)) nm 0 aa) rfl k_X0_begin (c_X0_begin l G h a kp b nm 0 aa 12 (by first | assumption | omega)) ml_X0_47 rfl ⟨Nat.le_of_ble_eq_true rfl, Nat.le_of_ble_eq_true rfl⟩ rfl [0, 1] [] [0, 1] rfl (by decide) rfl (by decide) (by decide) (by decide) (fun _ => rfl) 0 rfl rfl rfl rfl (Nat.le_of_ble_eq_true rfl) ⟨by decide, by decide⟩ dX0_sumsFrom_60 (fun _ _ => ?_)
  refine g_aload_n (pc := 63) C dX0_sumsFrom_63 0 rfl ?_
  refine g_aload_n (pc := 64) C dX0_sumsFrom_64 0 rfl ?_
  refine g_get (pc := 65) (T := TX0) (N := 5) (v := .int 0) C ib_X0 0 rfl rfl 3 (by decide) mf_X0_22 rfl rfl rfl dX0_sumsFrom_65 ?_
  refine g_iload_n (pc := 68) C dX0_sumsFrom_68 2 rfl ?_
  refine g_wrVI (pc := 69) (rest := []) (wr := []) C (fun _ => wA G h a (rnK (bgK kp b 12) (b + 1) (lnL 0)) (nI ((b + 1) + 2)) nm 0 aa) rfl k_X0_leansFrom (c_leans_0_0 l G h a (bgK kp b 12) (b + 1) nm aa x (by first | assumption | omega)) ml_X0_32 rfl ⟨Nat.le_of_ble_eq_true rfl, Nat.le_of_ble_eq_true rfl⟩ rfl [0, 1] [] [0, 1] rfl (by decide) rfl (by decide) (by decide) (by decide) (fun _ => rfl) 0 rfl rfl rfl rfl (Nat.le_of_ble_eq_true rfl) ⟨by decide, by decide⟩ dX0_sumsFrom_69 (fun r69 _ e69 => ?_)
  subst e69
  refine g_aload_n (pc := 72) C dX0_sumsFrom_72 0 rfl ?_
  refine g_aload_n (pc := 73) C dX0_sumsFrom_73 0 rfl ?_
  refine g_get (pc := 74) (T := TX0) (N := 5) (v := .int 0) C ib_X0 0 rfl rfl 3 (by decide) mf_X0_22 rfl rfl rfl dX0_sumsFrom_74 ?_
  refine g_iload_n (pc := 77) C dX0_sumsFrom_77 2 rfl ?_
  refine g_aload_n (pc := 78) C dX0_sumsFrom_78 0 rfl ?_
  refine g_get (pc := 79) (T := TX0) (N := 5) (v := .int aa) C ib_X0 0 rfl rfl 4 (by decide) mf_X0_25 rfl rfl rfl dX0_sumsFrom_79 ?_
  refine g_isub (pc := 82) C dX0_sumsFrom_82 ?_
  refine g_wrVI (pc := 83) (rest := [.int (lnV 0 nm aa x)]) (wr := []) C (fun _ => wA G h a (rnK (rnK (bgK kp b 12) (b + 1) (lnL 0)) ((b + 1) + 2) (akL 0)) (nI (((b + 1) + 2) + 1)) nm 0 aa) rfl k_X0_asksFrom (c_asks_0 l G h a (rnK (bgK kp b 12) (b + 1) (lnL 0)) ((b + 1) + 2) nm 0 aa (x - aa) (by first | assumption | omega)) ml_X0_28 rfl ⟨Nat.le_of_ble_eq_true rfl, Nat.le_of_ble_eq_true rfl⟩ rfl [0, 1] [] [0, 1] rfl (by decide) rfl (by decide) (by decide) (by decide) (fun _ => rfl) 0 rfl rfl rfl rfl (Nat.le_of_ble_eq_true rfl) ⟨by decide, by decide⟩ dX0_sumsFrom_83 (fun r83 _ e83 => ?_)
  subst e83
  refine g_ixor (pc := 86) C dX0_sumsFrom_86 ?_
  exact g_retIW (pc := 87) C rfl rfl () (rfl) (by rfl) (by rfl) dX0_sumsFrom_87
set_option maxRecDepth 20000 in
set_option maxHeartbeats 4000000 in
theorem c_sums_1_1 (l : Launch) (G : gT) (h : Nat) (a : Nat) (kp : Nat → Int32) (b : Nat) (nm : Int32) (aa : Int32) (x : Int32) (hb : b < 950) : WI l yX0_sumsFrom cX0_sumsFrom 3 (some .int) 6 0 0 G [.ref h, .int 1, .int x] (wA G h a kp (nI b) nm 1 aa) (S := Unit) (fun r _ => r = smV 1 nm aa x) (fun _ => wA G h a (rnK kp b (smL 1)) (nI (b + 6)) nm 1 aa) := by
  intro sz9
  refine start_W (by decide) (Nat.le_of_ble_eq_true rfl) (fun p9 e9 s9 m9 a9 b9 t9 c9 C => ?_)
  refine g_lv (lv' := [(0, .ref h), (1, .int 1), (2, .int x)]) rfl ?_
  refine g_iload_n (pc := 0) C dX0_sumsFrom_0 1 rfl ?_
  refine g_tsOut (pc := 1) (tgt := 57) C dX0_sumsFrom_1 (by decide) (by decide) ?_
  refine g_aload_n (pc := 57) C dX0_sumsFrom_57 0 rfl ?_
  refine g_bipush (pc := 58) (v := 12) C dX0_sumsFrom_58 (by decide) ?_
  refine g_wrVV (pc := 60) (rest := []) (wr := []) C (fun _ => wA G h a (bgK kp b 12) (nI (b + 1)) nm 1 aa) rfl k_X0_begin (c_X0_begin l G h a kp b nm 1 aa 12 (by first | assumption | omega)) ml_X0_47 rfl ⟨Nat.le_of_ble_eq_true rfl, Nat.le_of_ble_eq_true rfl⟩ rfl [0, 1] [] [0, 1] rfl (by decide) rfl (by decide) (by decide) (by decide) (fun _ => rfl) 0 rfl rfl rfl rfl (Nat.le_of_ble_eq_true rfl) ⟨by decide, by decide⟩ dX0_sumsFrom_60 (fun _ _ => ?_)
  refine g_aload_n (pc := 63) C dX0_sumsFrom_63 0 rfl ?_
  refine g_aload_n (pc := 64) C dX0_sumsFrom_64 0 rfl ?_
  refine g_get (pc := 65) (T := TX0) (N := 5) (v := .int 1) C ib_X0 0 rfl rfl 3 (by decide) mf_X0_22 rfl rfl rfl dX0_sumsFrom_65 ?_
  refine g_iload_n (pc := 68) C dX0_sumsFrom_68 2 rfl ?_
  refine g_wrVI (pc := 69) (rest := []) (wr := []) C (fun _ => wA G h a (rnK (bgK kp b 12) (b + 1) (lnL 1)) (nI ((b + 1) + 3)) nm 1 aa) rfl k_X0_leansFrom (c_leans_1_1 l G h a (bgK kp b 12) (b + 1) nm aa x (by first | assumption | omega)) ml_X0_32 rfl ⟨Nat.le_of_ble_eq_true rfl, Nat.le_of_ble_eq_true rfl⟩ rfl [0, 1] [] [0, 1] rfl (by decide) rfl (by decide) (by decide) (by decide) (fun _ => rfl) 0 rfl rfl rfl rfl (Nat.le_of_ble_eq_true rfl) ⟨by decide, by decide⟩ dX0_sumsFrom_69 (fun r69 _ e69 => ?_)
  subst e69
  refine g_aload_n (pc := 72) C dX0_sumsFrom_72 0 rfl ?_
  refine g_aload_n (pc := 73) C dX0_sumsFrom_73 0 rfl ?_
  refine g_get (pc := 74) (T := TX0) (N := 5) (v := .int 1) C ib_X0 0 rfl rfl 3 (by decide) mf_X0_22 rfl rfl rfl dX0_sumsFrom_74 ?_
  refine g_iload_n (pc := 77) C dX0_sumsFrom_77 2 rfl ?_
  refine g_aload_n (pc := 78) C dX0_sumsFrom_78 0 rfl ?_
  refine g_get (pc := 79) (T := TX0) (N := 5) (v := .int aa) C ib_X0 0 rfl rfl 4 (by decide) mf_X0_25 rfl rfl rfl dX0_sumsFrom_79 ?_
  refine g_isub (pc := 82) C dX0_sumsFrom_82 ?_
  refine g_wrVI (pc := 83) (rest := [.int (lnV 1 nm aa x)]) (wr := []) C (fun _ => wA G h a (rnK (rnK (bgK kp b 12) (b + 1) (lnL 1)) ((b + 1) + 3) (akL 1)) (nI (((b + 1) + 3) + 2)) nm 1 aa) rfl k_X0_asksFrom (c_asks_1 l G h a (rnK (bgK kp b 12) (b + 1) (lnL 1)) ((b + 1) + 3) nm 1 aa (x - aa) (by first | assumption | omega)) ml_X0_28 rfl ⟨Nat.le_of_ble_eq_true rfl, Nat.le_of_ble_eq_true rfl⟩ rfl [0, 1] [] [0, 1] rfl (by decide) rfl (by decide) (by decide) (by decide) (fun _ => rfl) 0 rfl rfl rfl rfl (Nat.le_of_ble_eq_true rfl) ⟨by decide, by decide⟩ dX0_sumsFrom_83 (fun r83 _ e83 => ?_)
  subst e83
  refine g_ixor (pc := 86) C dX0_sumsFrom_86 ?_
  exact g_retIW (pc := 87) C rfl rfl () (rfl) (by rfl) (by rfl) dX0_sumsFrom_87
set_option maxRecDepth 20000 in
set_option maxHeartbeats 4000000 in
theorem c_sums_2_2 (l : Launch) (G : gT) (h : Nat) (a : Nat) (kp : Nat → Int32) (b : Nat) (nm : Int32) (aa : Int32) (x : Int32) (hb : b < 950) : WI l yX0_sumsFrom cX0_sumsFrom 3 (some .int) 6 0 0 G [.ref h, .int 2, .int x] (wA G h a kp (nI b) nm 2 aa) (S := Unit) (fun r _ => r = smV 2 nm aa x) (fun _ => wA G h a (rnK kp b (smL 2)) (nI (b + 5)) nm 2 aa) := by
  intro sz9
  refine start_W (by decide) (Nat.le_of_ble_eq_true rfl) (fun p9 e9 s9 m9 a9 b9 t9 c9 C => ?_)
  refine g_lv (lv' := [(0, .ref h), (1, .int 2), (2, .int x)]) rfl ?_
  refine g_iload_n (pc := 0) C dX0_sumsFrom_0 1 rfl ?_
  refine g_tsOut (pc := 1) (tgt := 57) C dX0_sumsFrom_1 (by decide) (by decide) ?_
  refine g_aload_n (pc := 57) C dX0_sumsFrom_57 0 rfl ?_
  refine g_bipush (pc := 58) (v := 12) C dX0_sumsFrom_58 (by decide) ?_
  refine g_wrVV (pc := 60) (rest := []) (wr := []) C (fun _ => wA G h a (bgK kp b 12) (nI (b + 1)) nm 2 aa) rfl k_X0_begin (c_X0_begin l G h a kp b nm 2 aa 12 (by first | assumption | omega)) ml_X0_47 rfl ⟨Nat.le_of_ble_eq_true rfl, Nat.le_of_ble_eq_true rfl⟩ rfl [0, 1] [] [0, 1] rfl (by decide) rfl (by decide) (by decide) (by decide) (fun _ => rfl) 0 rfl rfl rfl rfl (Nat.le_of_ble_eq_true rfl) ⟨by decide, by decide⟩ dX0_sumsFrom_60 (fun _ _ => ?_)
  refine g_aload_n (pc := 63) C dX0_sumsFrom_63 0 rfl ?_
  refine g_aload_n (pc := 64) C dX0_sumsFrom_64 0 rfl ?_
  refine g_get (pc := 65) (T := TX0) (N := 5) (v := .int 2) C ib_X0 0 rfl rfl 3 (by decide) mf_X0_22 rfl rfl rfl dX0_sumsFrom_65 ?_
  refine g_iload_n (pc := 68) C dX0_sumsFrom_68 2 rfl ?_
  refine g_wrVI (pc := 69) (rest := []) (wr := []) C (fun _ => wA G h a (rnK (bgK kp b 12) (b + 1) (lnL 2)) (nI ((b + 1) + 3)) nm 2 aa) rfl k_X0_leansFrom (c_leans_2_2 l G h a (bgK kp b 12) (b + 1) nm aa x (by first | assumption | omega)) ml_X0_32 rfl ⟨Nat.le_of_ble_eq_true rfl, Nat.le_of_ble_eq_true rfl⟩ rfl [0, 1] [] [0, 1] rfl (by decide) rfl (by decide) (by decide) (by decide) (fun _ => rfl) 0 rfl rfl rfl rfl (Nat.le_of_ble_eq_true rfl) ⟨by decide, by decide⟩ dX0_sumsFrom_69 (fun r69 _ e69 => ?_)
  subst e69
  refine g_aload_n (pc := 72) C dX0_sumsFrom_72 0 rfl ?_
  refine g_aload_n (pc := 73) C dX0_sumsFrom_73 0 rfl ?_
  refine g_get (pc := 74) (T := TX0) (N := 5) (v := .int 2) C ib_X0 0 rfl rfl 3 (by decide) mf_X0_22 rfl rfl rfl dX0_sumsFrom_74 ?_
  refine g_iload_n (pc := 77) C dX0_sumsFrom_77 2 rfl ?_
  refine g_aload_n (pc := 78) C dX0_sumsFrom_78 0 rfl ?_
  refine g_get (pc := 79) (T := TX0) (N := 5) (v := .int aa) C ib_X0 0 rfl rfl 4 (by decide) mf_X0_25 rfl rfl rfl dX0_sumsFrom_79 ?_
  refine g_isub (pc := 82) C dX0_sumsFrom_82 ?_
  refine g_wrVI (pc := 83) (rest := [.int (lnV 2 nm aa x)]) (wr := []) C (fun _ => wA G h a (rnK (rnK (bgK kp b 12) (b + 1) (lnL 2)) ((b + 1) + 3) (akL 2)) (nI (((b + 1) + 3) + 1)) nm 2 aa) rfl k_X0_asksFrom (c_asks_2 l G h a (rnK (bgK kp b 12) (b + 1) (lnL 2)) ((b + 1) + 3) nm 2 aa (x - aa) (by first | assumption | omega)) ml_X0_28 rfl ⟨Nat.le_of_ble_eq_true rfl, Nat.le_of_ble_eq_true rfl⟩ rfl [0, 1] [] [0, 1] rfl (by decide) rfl (by decide) (by decide) (by decide) (fun _ => rfl) 0 rfl rfl rfl rfl (Nat.le_of_ble_eq_true rfl) ⟨by decide, by decide⟩ dX0_sumsFrom_83 (fun r83 _ e83 => ?_)
  subst e83
  refine g_ixor (pc := 86) C dX0_sumsFrom_86 ?_
  exact g_retIW (pc := 87) C rfl rfl () (rfl) (by rfl) (by rfl) dX0_sumsFrom_87
set_option maxRecDepth 20000 in
set_option maxHeartbeats 4000000 in
theorem c_sums_3_3 (l : Launch) (G : gT) (h : Nat) (a : Nat) (kp : Nat → Int32) (b : Nat) (nm : Int32) (aa : Int32) (x : Int32) (hb : b < 950) : WI l yX0_sumsFrom cX0_sumsFrom 3 (some .int) 6 0 0 G [.ref h, .int 3, .int x] (wA G h a kp (nI b) nm 3 aa) (S := Unit) (fun r _ => r = smV 3 nm aa x) (fun _ => wA G h a (rnK kp b (smL 3)) (nI (b + 7)) nm 3 aa) := by
  intro sz9
  refine start_W (by decide) (Nat.le_of_ble_eq_true rfl) (fun p9 e9 s9 m9 a9 b9 t9 c9 C => ?_)
  refine g_lv (lv' := [(0, .ref h), (1, .int 3), (2, .int x)]) rfl ?_
  refine g_iload_n (pc := 0) C dX0_sumsFrom_0 1 rfl ?_
  refine g_tsOut (pc := 1) (tgt := 57) C dX0_sumsFrom_1 (by decide) (by decide) ?_
  refine g_aload_n (pc := 57) C dX0_sumsFrom_57 0 rfl ?_
  refine g_bipush (pc := 58) (v := 12) C dX0_sumsFrom_58 (by decide) ?_
  refine g_wrVV (pc := 60) (rest := []) (wr := []) C (fun _ => wA G h a (bgK kp b 12) (nI (b + 1)) nm 3 aa) rfl k_X0_begin (c_X0_begin l G h a kp b nm 3 aa 12 (by first | assumption | omega)) ml_X0_47 rfl ⟨Nat.le_of_ble_eq_true rfl, Nat.le_of_ble_eq_true rfl⟩ rfl [0, 1] [] [0, 1] rfl (by decide) rfl (by decide) (by decide) (by decide) (fun _ => rfl) 0 rfl rfl rfl rfl (Nat.le_of_ble_eq_true rfl) ⟨by decide, by decide⟩ dX0_sumsFrom_60 (fun _ _ => ?_)
  refine g_aload_n (pc := 63) C dX0_sumsFrom_63 0 rfl ?_
  refine g_aload_n (pc := 64) C dX0_sumsFrom_64 0 rfl ?_
  refine g_get (pc := 65) (T := TX0) (N := 5) (v := .int 3) C ib_X0 0 rfl rfl 3 (by decide) mf_X0_22 rfl rfl rfl dX0_sumsFrom_65 ?_
  refine g_iload_n (pc := 68) C dX0_sumsFrom_68 2 rfl ?_
  refine g_wrVI (pc := 69) (rest := []) (wr := []) C (fun _ => wA G h a (rnK (bgK kp b 12) (b + 1) (lnL 3)) (nI ((b + 1) + 4)) nm 3 aa) rfl k_X0_leansFrom (c_leans_3_3 l G h a (bgK kp b 12) (b + 1) nm aa x (by first | assumption | omega)) ml_X0_32 rfl ⟨Nat.le_of_ble_eq_true rfl, Nat.le_of_ble_eq_true rfl⟩ rfl [0, 1] [] [0, 1] rfl (by decide) rfl (by decide) (by decide) (by decide) (fun _ => rfl) 0 rfl rfl rfl rfl (Nat.le_of_ble_eq_true rfl) ⟨by decide, by decide⟩ dX0_sumsFrom_69 (fun r69 _ e69 => ?_)
  subst e69
  refine g_aload_n (pc := 72) C dX0_sumsFrom_72 0 rfl ?_
  refine g_aload_n (pc := 73) C dX0_sumsFrom_73 0 rfl ?_
  refine g_get (pc := 74) (T := TX0) (N := 5) (v := .int 3) C ib_X0 0 rfl rfl 3 (by decide) mf_X0_22 rfl rfl rfl dX0_sumsFrom_74 ?_
  refine g_iload_n (pc := 77) C dX0_sumsFrom_77 2 rfl ?_
  refine g_aload_n (pc := 78) C dX0_sumsFrom_78 0 rfl ?_
  refine g_get (pc := 79) (T := TX0) (N := 5) (v := .int aa) C ib_X0 0 rfl rfl 4 (by decide) mf_X0_25 rfl rfl rfl dX0_sumsFrom_79 ?_
  refine g_isub (pc := 82) C dX0_sumsFrom_82 ?_
  refine g_wrVI (pc := 83) (rest := [.int (lnV 3 nm aa x)]) (wr := []) C (fun _ => wA G h a (rnK (rnK (bgK kp b 12) (b + 1) (lnL 3)) ((b + 1) + 4) (akL 3)) (nI (((b + 1) + 4) + 2)) nm 3 aa) rfl k_X0_asksFrom (c_asks_3 l G h a (rnK (bgK kp b 12) (b + 1) (lnL 3)) ((b + 1) + 4) nm 3 aa (x - aa) (by first | assumption | omega)) ml_X0_28 rfl ⟨Nat.le_of_ble_eq_true rfl, Nat.le_of_ble_eq_true rfl⟩ rfl [0, 1] [] [0, 1] rfl (by decide) rfl (by decide) (by decide) (by decide) (fun _ => rfl) 0 rfl rfl rfl rfl (Nat.le_of_ble_eq_true rfl) ⟨by decide, by decide⟩ dX0_sumsFrom_83 (fun r83 _ e83 => ?_)
  subst e83
  refine g_ixor (pc := 86) C dX0_sumsFrom_86 ?_
  exact g_retIW (pc := 87) C rfl rfl () (rfl) (by rfl) (by rfl) dX0_sumsFrom_87
set_option maxRecDepth 20000 in
set_option maxHeartbeats 4000000 in
theorem c_sums_0_4 (l : Launch) (G : gT) (h : Nat) (a : Nat) (kp : Nat → Int32) (b : Nat) (nm : Int32) (aa : Int32) (x : Int32) (hb : b < 950) : WI l yX0_sumsFrom cX0_sumsFrom 3 (some .int) 6 0 0 G [.ref h, .int 0, .int x] (wA G h a kp (nI b) nm 4 aa) (S := Unit) (fun r _ => r = lnV 4 nm aa x ^^^ akV 4 nm aa (x - aa)) (fun _ => wA G h a (rnK kp b (12 :: (lnL 4 ++ akL 4))) (nI (b + 6)) nm 4 aa) := by
  intro sz9
  refine start_W (by decide) (Nat.le_of_ble_eq_true rfl) (fun p9 e9 s9 m9 a9 b9 t9 c9 C => ?_)
  refine g_lv (lv' := [(0, .ref h), (1, .int 0), (2, .int x)]) rfl ?_
  refine g_iload_n (pc := 0) C dX0_sumsFrom_0 1 rfl ?_
  refine g_tsOut (pc := 1) (tgt := 57) C dX0_sumsFrom_1 (by decide) (by decide) ?_
  refine g_aload_n (pc := 57) C dX0_sumsFrom_57 0 rfl ?_
  refine g_bipush (pc := 58) (v := 12) C dX0_sumsFrom_58 (by decide) ?_
  refine g_wrVV (pc := 60) (rest := []) (wr := []) C (fun _ => wA G h a (bgK kp b 12) (nI (b + 1)) nm 4 aa) rfl k_X0_begin (c_X0_begin l G h a kp b nm 4 aa 12 (by first | assumption | omega)) ml_X0_47 rfl ⟨Nat.le_of_ble_eq_true rfl, Nat.le_of_ble_eq_true rfl⟩ rfl [0, 1] [] [0, 1] rfl (by decide) rfl (by decide) (by decide) (by decide) (fun _ => rfl) 0 rfl rfl rfl rfl (Nat.le_of_ble_eq_true rfl) ⟨by decide, by decide⟩ dX0_sumsFrom_60 (fun _ _ => ?_)
  refine g_aload_n (pc := 63) C dX0_sumsFrom_63 0 rfl ?_
  refine g_aload_n (pc := 64) C dX0_sumsFrom_64 0 rfl ?_
  refine g_get (pc := 65) (T := TX0) (N := 5) (v := .int 4) C ib_X0 0 rfl rfl 3 (by decide) mf_X0_22 rfl rfl rfl dX0_sumsFrom_65 ?_
  refine g_iload_n (pc := 68) C dX0_sumsFrom_68 2 rfl ?_
  refine g_wrVI (pc := 69) (rest := []) (wr := []) C (fun _ => wA G h a (rnK (bgK kp b 12) (b + 1) (lnL 4)) (nI ((b + 1) + 3)) nm 4 aa) rfl k_X0_leansFrom (c_leans_4_4 l G h a (bgK kp b 12) (b + 1) nm aa x (by first | assumption | omega)) ml_X0_32 rfl ⟨Nat.le_of_ble_eq_true rfl, Nat.le_of_ble_eq_true rfl⟩ rfl [0, 1] [] [0, 1] rfl (by decide) rfl (by decide) (by decide) (by decide) (fun _ => rfl) 0 rfl rfl rfl rfl (Nat.le_of_ble_eq_true rfl) ⟨by decide, by decide⟩ dX0_sumsFrom_69 (fun r69 _ e69 => ?_)
  subst e69
  refine g_aload_n (pc := 72) C dX0_sumsFrom_72 0 rfl ?_
  refine g_aload_n (pc := 73) C dX0_sumsFrom_73 0 rfl ?_
  refine g_get (pc := 74) (T := TX0) (N := 5) (v := .int 4) C ib_X0 0 rfl rfl 3 (by decide) mf_X0_22 rfl rfl rfl dX0_sumsFrom_74 ?_
  refine g_iload_n (pc := 77) C dX0_sumsFrom_77 2 rfl ?_
  refine g_aload_n (pc := 78) C dX0_sumsFrom_78 0 rfl ?_
  refine g_get (pc := 79) (T := TX0) (N := 5) (v := .int aa) C ib_X0 0 rfl rfl 4 (by decide) mf_X0_25 rfl rfl rfl dX0_sumsFrom_79 ?_
  refine g_isub (pc := 82) C dX0_sumsFrom_82 ?_
  refine g_wrVI (pc := 83) (rest := [.int (lnV 4 nm aa x)]) (wr := []) C (fun _ => wA G h a (rnK (rnK (bgK kp b 12) (b + 1) (lnL 4)) ((b + 1) + 3) (akL 4)) (nI (((b + 1) + 3) + 2)) nm 4 aa) rfl k_X0_asksFrom (c_asks_4 l G h a (rnK (bgK kp b 12) (b + 1) (lnL 4)) ((b + 1) + 3) nm 4 aa (x - aa) (by first | assumption | omega)) ml_X0_28 rfl ⟨Nat.le_of_ble_eq_true rfl, Nat.le_of_ble_eq_true rfl⟩ rfl [0, 1] [] [0, 1] rfl (by decide) rfl (by decide) (by decide) (by decide) (fun _ => rfl) 0 rfl rfl rfl rfl (Nat.le_of_ble_eq_true rfl) ⟨by decide, by decide⟩ dX0_sumsFrom_83 (fun r83 _ e83 => ?_)
  subst e83
  refine g_ixor (pc := 86) C dX0_sumsFrom_86 ?_
  exact g_retIW (pc := 87) C rfl rfl () (rfl) (by rfl) (by rfl) dX0_sumsFrom_87
set_option maxRecDepth 20000 in
set_option maxHeartbeats 4000000 in
theorem c_sums_0_6 (l : Launch) (G : gT) (h : Nat) (a : Nat) (kp : Nat → Int32) (b : Nat) (nm : Int32) (aa : Int32) (x : Int32) (hb : b < 950) : WI l yX0_sumsFrom cX0_sumsFrom 3 (some .int) 6 0 0 G [.ref h, .int 0, .int x] (wA G h a kp (nI b) nm 6 aa) (S := Unit) (fun r _ => r = lnV 6 nm aa x ^^^ akV 6 nm aa (x - aa)) (fun _ => wA G h a (rnK kp b (12 :: (lnL 6 ++ akL 6))) (nI (b + 9)) nm 6 aa) := by
  intro sz9
  refine start_W (by decide) (Nat.le_of_ble_eq_true rfl) (fun p9 e9 s9 m9 a9 b9 t9 c9 C => ?_)
  refine g_lv (lv' := [(0, .ref h), (1, .int 0), (2, .int x)]) rfl ?_
  refine g_iload_n (pc := 0) C dX0_sumsFrom_0 1 rfl ?_
  refine g_tsOut (pc := 1) (tgt := 57) C dX0_sumsFrom_1 (by decide) (by decide) ?_
  refine g_aload_n (pc := 57) C dX0_sumsFrom_57 0 rfl ?_
  refine g_bipush (pc := 58) (v := 12) C dX0_sumsFrom_58 (by decide) ?_
  refine g_wrVV (pc := 60) (rest := []) (wr := []) C (fun _ => wA G h a (bgK kp b 12) (nI (b + 1)) nm 6 aa) rfl k_X0_begin (c_X0_begin l G h a kp b nm 6 aa 12 (by first | assumption | omega)) ml_X0_47 rfl ⟨Nat.le_of_ble_eq_true rfl, Nat.le_of_ble_eq_true rfl⟩ rfl [0, 1] [] [0, 1] rfl (by decide) rfl (by decide) (by decide) (by decide) (fun _ => rfl) 0 rfl rfl rfl rfl (Nat.le_of_ble_eq_true rfl) ⟨by decide, by decide⟩ dX0_sumsFrom_60 (fun _ _ => ?_)
  refine g_aload_n (pc := 63) C dX0_sumsFrom_63 0 rfl ?_
  refine g_aload_n (pc := 64) C dX0_sumsFrom_64 0 rfl ?_
  refine g_get (pc := 65) (T := TX0) (N := 5) (v := .int 6) C ib_X0 0 rfl rfl 3 (by decide) mf_X0_22 rfl rfl rfl dX0_sumsFrom_65 ?_
  refine g_iload_n (pc := 68) C dX0_sumsFrom_68 2 rfl ?_
  refine g_wrVI (pc := 69) (rest := []) (wr := []) C (fun _ => wA G h a (rnK (bgK kp b 12) (b + 1) (lnL 6)) (nI ((b + 1) + 5)) nm 6 aa) rfl k_X0_leansFrom (c_leans_6_6 l G h a (bgK kp b 12) (b + 1) nm aa x (by first | assumption | omega)) ml_X0_32 rfl ⟨Nat.le_of_ble_eq_true rfl, Nat.le_of_ble_eq_true rfl⟩ rfl [0, 1] [] [0, 1] rfl (by decide) rfl (by decide) (by decide) (by decide) (fun _ => rfl) 0 rfl rfl rfl rfl (Nat.le_of_ble_eq_true rfl) ⟨by decide, by decide⟩ dX0_sumsFrom_69 (fun r69 _ e69 => ?_)
  subst e69
  refine g_aload_n (pc := 72) C dX0_sumsFrom_72 0 rfl ?_
  refine g_aload_n (pc := 73) C dX0_sumsFrom_73 0 rfl ?_
  refine g_get (pc := 74) (T := TX0) (N := 5) (v := .int 6) C ib_X0 0 rfl rfl 3 (by decide) mf_X0_22 rfl rfl rfl dX0_sumsFrom_74 ?_
  refine g_iload_n (pc := 77) C dX0_sumsFrom_77 2 rfl ?_
  refine g_aload_n (pc := 78) C dX0_sumsFrom_78 0 rfl ?_
  refine g_get (pc := 79) (T := TX0) (N := 5) (v := .int aa) C ib_X0 0 rfl rfl 4 (by decide) mf_X0_25 rfl rfl rfl dX0_sumsFrom_79 ?_
  refine g_isub (pc := 82) C dX0_sumsFrom_82 ?_
  refine g_wrVI (pc := 83) (rest := [.int (lnV 6 nm aa x)]) (wr := []) C (fun _ => wA G h a (rnK (rnK (bgK kp b 12) (b + 1) (lnL 6)) ((b + 1) + 5) (akL 6)) (nI (((b + 1) + 5) + 3)) nm 6 aa) rfl k_X0_asksFrom (c_asks_6 l G h a (rnK (bgK kp b 12) (b + 1) (lnL 6)) ((b + 1) + 5) nm 6 aa (x - aa) (by first | assumption | omega)) ml_X0_28 rfl ⟨Nat.le_of_ble_eq_true rfl, Nat.le_of_ble_eq_true rfl⟩ rfl [0, 1] [] [0, 1] rfl (by decide) rfl (by decide) (by decide) (by decide) (fun _ => rfl) 0 rfl rfl rfl rfl (Nat.le_of_ble_eq_true rfl) ⟨by decide, by decide⟩ dX0_sumsFrom_83 (fun r83 _ e83 => ?_)
  subst e83
  refine g_ixor (pc := 86) C dX0_sumsFrom_86 ?_
  exact g_retIW (pc := 87) C rfl rfl () (rfl) (by rfl) (by rfl) dX0_sumsFrom_87
set_option maxRecDepth 20000 in
set_option maxHeartbeats 4000000 in
theorem c_sums_2_5 (l : Launch) (G : gT) (h : Nat) (a : Nat) (kp : Nat → Int32) (b : Nat) (nm : Int32) (aa : Int32) (x : Int32) (hb : b < 950) : WI l yX0_sumsFrom cX0_sumsFrom 3 (some .int) 6 0 0 G [.ref h, .int 2, .int x] (wA G h a kp (nI b) nm 5 aa) (S := Unit) (fun r _ => r = lnV 5 nm aa x ^^^ akV 5 nm aa (x - aa)) (fun _ => wA G h a (rnK kp b (12 :: (lnL 5 ++ akL 5))) (nI (b + 5)) nm 5 aa) := by
  intro sz9
  refine start_W (by decide) (Nat.le_of_ble_eq_true rfl) (fun p9 e9 s9 m9 a9 b9 t9 c9 C => ?_)
  refine g_lv (lv' := [(0, .ref h), (1, .int 2), (2, .int x)]) rfl ?_
  refine g_iload_n (pc := 0) C dX0_sumsFrom_0 1 rfl ?_
  refine g_tsOut (pc := 1) (tgt := 57) C dX0_sumsFrom_1 (by decide) (by decide) ?_
  refine g_aload_n (pc := 57) C dX0_sumsFrom_57 0 rfl ?_
  refine g_bipush (pc := 58) (v := 12) C dX0_sumsFrom_58 (by decide) ?_
  refine g_wrVV (pc := 60) (rest := []) (wr := []) C (fun _ => wA G h a (bgK kp b 12) (nI (b + 1)) nm 5 aa) rfl k_X0_begin (c_X0_begin l G h a kp b nm 5 aa 12 (by first | assumption | omega)) ml_X0_47 rfl ⟨Nat.le_of_ble_eq_true rfl, Nat.le_of_ble_eq_true rfl⟩ rfl [0, 1] [] [0, 1] rfl (by decide) rfl (by decide) (by decide) (by decide) (fun _ => rfl) 0 rfl rfl rfl rfl (Nat.le_of_ble_eq_true rfl) ⟨by decide, by decide⟩ dX0_sumsFrom_60 (fun _ _ => ?_)
  refine g_aload_n (pc := 63) C dX0_sumsFrom_63 0 rfl ?_
  refine g_aload_n (pc := 64) C dX0_sumsFrom_64 0 rfl ?_
  refine g_get (pc := 65) (T := TX0) (N := 5) (v := .int 5) C ib_X0 0 rfl rfl 3 (by decide) mf_X0_22 rfl rfl rfl dX0_sumsFrom_65 ?_
  refine g_iload_n (pc := 68) C dX0_sumsFrom_68 2 rfl ?_
  refine g_wrVI (pc := 69) (rest := []) (wr := []) C (fun _ => wA G h a (rnK (bgK kp b 12) (b + 1) (lnL 5)) (nI ((b + 1) + 3)) nm 5 aa) rfl k_X0_leansFrom (c_leans_5_5 l G h a (bgK kp b 12) (b + 1) nm aa x (by first | assumption | omega)) ml_X0_32 rfl ⟨Nat.le_of_ble_eq_true rfl, Nat.le_of_ble_eq_true rfl⟩ rfl [0, 1] [] [0, 1] rfl (by decide) rfl (by decide) (by decide) (by decide) (fun _ => rfl) 0 rfl rfl rfl rfl (Nat.le_of_ble_eq_true rfl) ⟨by decide, by decide⟩ dX0_sumsFrom_69 (fun r69 _ e69 => ?_)
  subst e69
  refine g_aload_n (pc := 72) C dX0_sumsFrom_72 0 rfl ?_
  refine g_aload_n (pc := 73) C dX0_sumsFrom_73 0 rfl ?_
  refine g_get (pc := 74) (T := TX0) (N := 5) (v := .int 5) C ib_X0 0 rfl rfl 3 (by decide) mf_X0_22 rfl rfl rfl dX0_sumsFrom_74 ?_
  refine g_iload_n (pc := 77) C dX0_sumsFrom_77 2 rfl ?_
  refine g_aload_n (pc := 78) C dX0_sumsFrom_78 0 rfl ?_
  refine g_get (pc := 79) (T := TX0) (N := 5) (v := .int aa) C ib_X0 0 rfl rfl 4 (by decide) mf_X0_25 rfl rfl rfl dX0_sumsFrom_79 ?_
  refine g_isub (pc := 82) C dX0_sumsFrom_82 ?_
  refine g_wrVI (pc := 83) (rest := [.int (lnV 5 nm aa x)]) (wr := []) C (fun _ => wA G h a (rnK (rnK (bgK kp b 12) (b + 1) (lnL 5)) ((b + 1) + 3) (akL 5)) (nI (((b + 1) + 3) + 1)) nm 5 aa) rfl k_X0_asksFrom (c_asks_5 l G h a (rnK (bgK kp b 12) (b + 1) (lnL 5)) ((b + 1) + 3) nm 5 aa (x - aa) (by first | assumption | omega)) ml_X0_28 rfl ⟨Nat.le_of_ble_eq_true rfl, Nat.le_of_ble_eq_true rfl⟩ rfl [0, 1] [] [0, 1] rfl (by decide) rfl (by decide) (by decide) (by decide) (fun _ => rfl) 0 rfl rfl rfl rfl (Nat.le_of_ble_eq_true rfl) ⟨by decide, by decide⟩ dX0_sumsFrom_83 (fun r83 _ e83 => ?_)
  subst e83
  refine g_ixor (pc := 86) C dX0_sumsFrom_86 ?_
  exact g_retIW (pc := 87) C rfl rfl () (rfl) (by rfl) (by rfl) dX0_sumsFrom_87
set_option maxRecDepth 20000 in
set_option maxHeartbeats 4000000 in
theorem c_sums_4_4 (l : Launch) (G : gT) (h : Nat) (a : Nat) (kp : Nat → Int32) (b : Nat) (nm : Int32) (aa : Int32) (x : Int32) (hb : b < 940) : WI l yX0_sumsFrom cX0_sumsFrom 3 (some .int) 7 0 0 G [.ref h, .int 4, .int x] (wA G h a kp (nI b) nm 4 aa) (S := Unit) (fun r _ => r = smV 4 nm aa x) (fun _ => wA G h a (rnK kp b (smL 4)) (nI (b + 7)) nm 4 aa) := by
  intro sz9
  refine start_W (by decide) (Nat.le_of_ble_eq_true rfl) (fun p9 e9 s9 m9 a9 b9 t9 c9 C => ?_)
  refine g_lv (lv' := [(0, .ref h), (1, .int 4), (2, .int x)]) rfl ?_
  refine g_iload_n (pc := 0) C dX0_sumsFrom_0 1 rfl ?_
  refine g_tsIn (pc := 1) (off := 27) (tgt := 28) C dX0_sumsFrom_1 (by decide) (by decide) (by decide) (by decide) ?_
  refine g_aload_n (pc := 28) C dX0_sumsFrom_28 0 rfl ?_
  refine g_bipush (pc := 29) (v := 50) C dX0_sumsFrom_29 (by decide) ?_
  refine g_wrVV (pc := 31) (rest := []) (wr := []) C (fun _ => wA G h a (bgK kp b 50) (nI (b + 1)) nm 4 aa) rfl k_X0_begin (c_X0_begin l G h a kp b nm 4 aa 50 (by first | assumption | omega)) ml_X0_47 rfl ⟨Nat.le_of_ble_eq_true rfl, Nat.le_of_ble_eq_true rfl⟩ rfl [0, 1] [] [0, 1] rfl (by decide) rfl (by decide) (by decide) (by decide) (fun _ => rfl) 0 rfl rfl rfl rfl (Nat.le_of_ble_eq_true rfl) ⟨by decide, by decide⟩ dX0_sumsFrom_31 (fun _ _ => ?_)
  refine g_aload_n (pc := 34) C dX0_sumsFrom_34 0 rfl ?_
  refine g_iconst (pc := 35) (v := 0) C dX0_sumsFrom_35 (by decide) ?_
  refine g_iload_n (pc := 36) C dX0_sumsFrom_36 2 rfl ?_
  refine g_wrVI (pc := 37) (rest := []) (wr := []) C (fun _ => wA G h a (rnK (bgK kp b 50) (b + 1) (12 :: (lnL 4 ++ akL 4))) (nI ((b + 1) + 6)) nm 4 aa) rfl k_X0_sumsFrom (c_sums_0_4 l G h a (bgK kp b 50) (b + 1) nm aa x (by first | assumption | omega)) ml_X0_35 rfl ⟨Nat.le_of_ble_eq_true rfl, Nat.le_of_ble_eq_true rfl⟩ rfl [0, 1] [] [0, 1] rfl (by decide) rfl (by decide) (by decide) (by decide) (fun _ => rfl) 0 rfl rfl rfl rfl (Nat.le_of_ble_eq_true rfl) ⟨by decide, by decide⟩ dX0_sumsFrom_37 (fun r37 _ e37 => ?_)
  subst e37
  refine g_ineg (pc := 40) (v := -(lnV 4 nm aa x ^^^ akV 4 nm aa (x - aa))) C dX0_sumsFrom_40 rfl ?_
  exact g_retIW (pc := 41) C rfl rfl () (rfl) (by rfl) (by rfl) dX0_sumsFrom_41
set_option maxRecDepth 20000 in
set_option maxHeartbeats 4000000 in
theorem c_sums_5_5 (l : Launch) (G : gT) (h : Nat) (a : Nat) (kp : Nat → Int32) (b : Nat) (nm : Int32) (aa : Int32) (x : Int32) (hb : b < 940) : WI l yX0_sumsFrom cX0_sumsFrom 3 (some .int) 7 0 0 G [.ref h, .int 5, .int x] (wA G h a kp (nI b) nm 5 aa) (S := Unit) (fun r _ => r = smV 5 nm aa x) (fun _ => wA G h a (rnK kp b (smL 5)) (nI (b + 6)) nm 5 aa) := by
  intro sz9
  refine start_W (by decide) (Nat.le_of_ble_eq_true rfl) (fun p9 e9 s9 m9 a9 b9 t9 c9 C => ?_)
  refine g_lv (lv' := [(0, .ref h), (1, .int 5), (2, .int x)]) rfl ?_
  refine g_iload_n (pc := 0) C dX0_sumsFrom_0 1 rfl ?_
  refine g_tsIn (pc := 1) (off := 41) (tgt := 42) C dX0_sumsFrom_1 (by decide) (by decide) (by decide) (by decide) ?_
  refine g_aload_n (pc := 42) C dX0_sumsFrom_42 0 rfl ?_
  refine g_bipush (pc := 43) (v := 60) C dX0_sumsFrom_43 (by decide) ?_
  refine g_wrVV (pc := 45) (rest := []) (wr := []) C (fun _ => wA G h a (bgK kp b 60) (nI (b + 1)) nm 5 aa) rfl k_X0_begin (c_X0_begin l G h a kp b nm 5 aa 60 (by first | assumption | omega)) ml_X0_47 rfl ⟨Nat.le_of_ble_eq_true rfl, Nat.le_of_ble_eq_true rfl⟩ rfl [0, 1] [] [0, 1] rfl (by decide) rfl (by decide) (by decide) (by decide) (fun _ => rfl) 0 rfl rfl rfl rfl (Nat.le_of_ble_eq_true rfl) ⟨by decide, by decide⟩ dX0_sumsFrom_45 (fun _ _ => ?_)
  refine g_aload_n (pc := 48) C dX0_sumsFrom_48 0 rfl ?_
  refine g_iconst (pc := 49) (v := 2) C dX0_sumsFrom_49 (by decide) ?_
  refine g_iload_n (pc := 50) C dX0_sumsFrom_50 2 rfl ?_
  refine g_wrVI (pc := 51) (rest := []) (wr := []) C (fun _ => wA G h a (rnK (bgK kp b 60) (b + 1) (12 :: (lnL 5 ++ akL 5))) (nI ((b + 1) + 5)) nm 5 aa) rfl k_X0_sumsFrom (c_sums_2_5 l G h a (bgK kp b 60) (b + 1) nm aa x (by first | assumption | omega)) ml_X0_35 rfl ⟨Nat.le_of_ble_eq_true rfl, Nat.le_of_ble_eq_true rfl⟩ rfl [0, 1] [] [0, 1] rfl (by decide) rfl (by decide) (by decide) (by decide) (fun _ => rfl) 0 rfl rfl rfl rfl (Nat.le_of_ble_eq_true rfl) ⟨by decide, by decide⟩ dX0_sumsFrom_51 (fun r51 _ e51 => ?_)
  subst e51
  refine g_iconst (pc := 54) (v := 5) C dX0_sumsFrom_54 (by decide) ?_
  refine g_ixor (pc := 55) C dX0_sumsFrom_55 ?_
  exact g_retIW (pc := 56) C rfl rfl () (rfl) (by rfl) (by rfl) dX0_sumsFrom_56
set_option maxRecDepth 20000 in
set_option maxHeartbeats 4000000 in
theorem c_sums_6_6 (l : Launch) (G : gT) (h : Nat) (a : Nat) (kp : Nat → Int32) (b : Nat) (nm : Int32) (aa : Int32) (x : Int32) (hb : b < 940) : WI l yX0_sumsFrom cX0_sumsFrom 3 (some .int) 7 0 0 G [.ref h, .int 6, .int x] (wA G h a kp (nI b) nm 6 aa) (S := Unit) (fun r _ => r = smV 6 nm aa x) (fun _ => wA G h a (rnK kp b (smL 6)) (nI (b + 10)) nm 6 aa) := by
  intro sz9
  refine start_W (by decide) (Nat.le_of_ble_eq_true rfl) (fun p9 e9 s9 m9 a9 b9 t9 c9 C => ?_)
  refine g_lv (lv' := [(0, .ref h), (1, .int 6), (2, .int x)]) rfl ?_
  refine g_iload_n (pc := 0) C dX0_sumsFrom_0 1 rfl ?_
  refine g_tsIn (pc := 1) (off := 27) (tgt := 28) C dX0_sumsFrom_1 (by decide) (by decide) (by decide) (by decide) ?_
  refine g_aload_n (pc := 28) C dX0_sumsFrom_28 0 rfl ?_
  refine g_bipush (pc := 29) (v := 50) C dX0_sumsFrom_29 (by decide) ?_
  refine g_wrVV (pc := 31) (rest := []) (wr := []) C (fun _ => wA G h a (bgK kp b 50) (nI (b + 1)) nm 6 aa) rfl k_X0_begin (c_X0_begin l G h a kp b nm 6 aa 50 (by first | assumption | omega)) ml_X0_47 rfl ⟨Nat.le_of_ble_eq_true rfl, Nat.le_of_ble_eq_true rfl⟩ rfl [0, 1] [] [0, 1] rfl (by decide) rfl (by decide) (by decide) (by decide) (fun _ => rfl) 0 rfl rfl rfl rfl (Nat.le_of_ble_eq_true rfl) ⟨by decide, by decide⟩ dX0_sumsFrom_31 (fun _ _ => ?_)
  refine g_aload_n (pc := 34) C dX0_sumsFrom_34 0 rfl ?_
  refine g_iconst (pc := 35) (v := 0) C dX0_sumsFrom_35 (by decide) ?_
  refine g_iload_n (pc := 36) C dX0_sumsFrom_36 2 rfl ?_
  refine g_wrVI (pc := 37) (rest := []) (wr := []) C (fun _ => wA G h a (rnK (bgK kp b 50) (b + 1) (12 :: (lnL 6 ++ akL 6))) (nI ((b + 1) + 9)) nm 6 aa) rfl k_X0_sumsFrom (c_sums_0_6 l G h a (bgK kp b 50) (b + 1) nm aa x (by first | assumption | omega)) ml_X0_35 rfl ⟨Nat.le_of_ble_eq_true rfl, Nat.le_of_ble_eq_true rfl⟩ rfl [0, 1] [] [0, 1] rfl (by decide) rfl (by decide) (by decide) (by decide) (fun _ => rfl) 0 rfl rfl rfl rfl (Nat.le_of_ble_eq_true rfl) ⟨by decide, by decide⟩ dX0_sumsFrom_37 (fun r37 _ e37 => ?_)
  subst e37
  refine g_ineg (pc := 40) (v := -(lnV 6 nm aa x ^^^ akV 6 nm aa (x - aa))) C dX0_sumsFrom_40 rfl ?_
  exact g_retIW (pc := 41) C rfl rfl () (rfl) (by rfl) (by rfl) dX0_sumsFrom_41
def acV (k : Nat) (act m a x : Int32) : Int32 := if act = 0 then akV k m a x else if act = 1 then lnV k m a x else if act = 2 then smV k m a x else 0
def acL (k : Nat) (act : Int32) : List Int32 := if act = 0 then akL k else if act = 1 then lnL k else if act = 2 then smL k else []
set_option maxRecDepth 20000 in
set_option maxHeartbeats 4000000 in
theorem c_run_0 (l : Launch) (G : gT) (h : Nat) (a : Nat) (kp : Nat → Int32) (nm : Int32) (kd : Int32) (aa : Int32) (m : Int32) (ka : Int32) (act : Int32) (x : Int32) : WI l yX0_run cX0_run 6 (some .int) 8 0 0 G [.ref h, .int m, .int 0, .int ka, .int act, .int x] (wA G h a kp 0 nm kd aa) (S := Unit) (fun r _ => r = acV 0 act m ka x) (fun _ => wA G h a (rnK kp 0 (acL 0 act)) (nI (acL 0 act).length) m 0 ka) := by
  intro sz9
  refine start_W (by decide) (Nat.le_of_ble_eq_true rfl) (fun p9 e9 s9 m9 a9 b9 t9 c9 C => ?_)
  refine g_lv (lv' := [(0, .ref h), (1, .int m), (2, .int 0), (3, .int ka), (4, .int act), (5, .int x)]) rfl ?_
  refine g_aload_n (pc := 0) C dX0_run_0 0 rfl ?_
  refine g_iload_n (pc := 1) C dX0_run_1 1 rfl ?_
  refine g_put (pc := 2) (T := TX0) (N := 5) (ty := .int) (ws' := [oC h 0 [.ref a, .int 0, .int m, .int kd, .int aa], iC G a 20 kp]) C rfl ib_X0 tyX0 tyX0_ok nmX0 0 rfl rfl 2 (by decide) mf_X0_19 rfl rfl rfl (by decide +kernel) rfl rfl (Nat.le_of_ble_eq_true rfl) dX0_run_2 rfl ?_
  refine g_aload_n (pc := 5) C dX0_run_5 0 rfl ?_
  refine g_iload_n (pc := 6) C dX0_run_6 2 rfl ?_
  refine g_put (pc := 7) (T := TX0) (N := 5) (ty := .int) (ws' := [oC h 0 [.ref a, .int 0, .int m, .int 0, .int aa], iC G a 20 kp]) C rfl ib_X0 tyX0 tyX0_ok nmX0 0 rfl rfl 3 (by decide) mf_X0_22 rfl rfl rfl (by decide +kernel) rfl rfl (Nat.le_of_ble_eq_true rfl) dX0_run_7 rfl ?_
  refine g_aload_n (pc := 10) C dX0_run_10 0 rfl ?_
  refine g_iload_n (pc := 11) C dX0_run_11 3 rfl ?_
  refine g_put (pc := 12) (T := TX0) (N := 5) (ty := .int) (ws' := [oC h 0 [.ref a, .int 0, .int m, .int 0, .int ka], iC G a 20 kp]) C rfl ib_X0 tyX0 tyX0_ok nmX0 0 rfl rfl 4 (by decide) mf_X0_25 rfl rfl rfl (by decide +kernel) rfl rfl (Nat.le_of_ble_eq_true rfl) dX0_run_12 rfl ?_
  refine g_iload (pc := 15) C dX0_run_15 4 rfl ?_
  by_cases h17_0 : act = 0
  · refine g_top (z := 0) h17_0 ?_
    refine g_tsIn (pc := 17) (off := 27) (tgt := 44) C dX0_run_17 (by decide) (by decide) (by decide) (by decide) ?_
    refine g_aload_n (pc := 44) C dX0_run_44 0 rfl ?_
    refine g_aload_n (pc := 45) C dX0_run_45 0 rfl ?_
    refine g_get (pc := 46) (T := TX0) (N := 5) (v := .int 0) C ib_X0 0 rfl rfl 3 (by decide) mf_X0_22 rfl rfl rfl dX0_run_46 ?_
    refine g_iload (pc := 49) C dX0_run_49 5 rfl ?_
    refine g_wrVI (pc := 51) (rest := []) (wr := []) C (fun _ => wA G h a (rnK kp 0 (akL 0)) (nI (0 + 1)) m 0 ka) rfl k_X0_asksFrom (c_asks_0 l G h a kp 0 m 0 ka x (by first | assumption | omega)) ml_X0_28 rfl ⟨Nat.le_of_ble_eq_true rfl, Nat.le_of_ble_eq_true rfl⟩ rfl [0, 1] [] [0, 1] rfl (by decide) rfl (by decide) (by decide) (by decide) (fun _ => rfl) 0 rfl rfl rfl rfl (Nat.le_of_ble_eq_true rfl) ⟨by decide, by decide⟩ dX0_run_51 (fun r51 _ e51 => ?_)
    subst e51
    exact g_retIW (pc := 54) C rfl rfl () (rfl) (by simp [acV, *]) (by have e9 : acL 0 act = akL 0 := (by simp [acL, *]); rw [e9]; rfl) dX0_run_54
  by_cases h17_1 : act = 1
  · refine g_top (z := 1) h17_1 ?_
    refine g_tsIn (pc := 17) (off := 38) (tgt := 55) C dX0_run_17 (by decide) (by decide) (by decide) (by decide) ?_
    refine g_aload_n (pc := 55) C dX0_run_55 0 rfl ?_
    refine g_aload_n (pc := 56) C dX0_run_56 0 rfl ?_
    refine g_get (pc := 57) (T := TX0) (N := 5) (v := .int 0) C ib_X0 0 rfl rfl 3 (by decide) mf_X0_22 rfl rfl rfl dX0_run_57 ?_
    refine g_iload (pc := 60) C dX0_run_60 5 rfl ?_
    refine g_wrVI (pc := 62) (rest := []) (wr := []) C (fun _ => wA G h a (rnK kp 0 (lnL 0)) (nI (0 + 2)) m 0 ka) rfl k_X0_leansFrom (c_leans_0_0 l G h a kp 0 m ka x (by first | assumption | omega)) ml_X0_32 rfl ⟨Nat.le_of_ble_eq_true rfl, Nat.le_of_ble_eq_true rfl⟩ rfl [0, 1] [] [0, 1] rfl (by decide) rfl (by decide) (by decide) (by decide) (fun _ => rfl) 0 rfl rfl rfl rfl (Nat.le_of_ble_eq_true rfl) ⟨by decide, by decide⟩ dX0_run_62 (fun r62 _ e62 => ?_)
    subst e62
    exact g_retIW (pc := 65) C rfl rfl () (rfl) (by simp [acV, *]) (by have e9 : acL 0 act = lnL 0 := (by simp [acL, *]); rw [e9]; rfl) dX0_run_65
  by_cases h17_2 : act = 2
  · refine g_top (z := 2) h17_2 ?_
    refine g_tsIn (pc := 17) (off := 49) (tgt := 66) C dX0_run_17 (by decide) (by decide) (by decide) (by decide) ?_
    refine g_aload_n (pc := 66) C dX0_run_66 0 rfl ?_
    refine g_aload_n (pc := 67) C dX0_run_67 0 rfl ?_
    refine g_get (pc := 68) (T := TX0) (N := 5) (v := .int 0) C ib_X0 0 rfl rfl 3 (by decide) mf_X0_22 rfl rfl rfl dX0_run_68 ?_
    refine g_iload (pc := 71) C dX0_run_71 5 rfl ?_
    refine g_wrVI (pc := 73) (rest := []) (wr := []) C (fun _ => wA G h a (rnK kp 0 (smL 0)) (nI (0 + 4)) m 0 ka) rfl k_X0_sumsFrom (c_sums_0_0 l G h a kp 0 m ka x (by first | assumption | omega)) ml_X0_35 rfl ⟨Nat.le_of_ble_eq_true rfl, Nat.le_of_ble_eq_true rfl⟩ rfl [0, 1] [] [0, 1] rfl (by decide) rfl (by decide) (by decide) (by decide) (fun _ => rfl) 0 rfl rfl rfl rfl (Nat.le_of_ble_eq_true rfl) ⟨by decide, by decide⟩ dX0_run_73 (fun r73 _ e73 => ?_)
    subst e73
    exact g_retIW (pc := 76) C rfl rfl () (rfl) (by simp [acV, *]) (by have e9 : acL 0 act = smL 0 := (by simp [acL, *]); rw [e9]; rfl) dX0_run_76
  refine g_tsOut (pc := 17) (tgt := 77) C dX0_run_17 (by have a0 := lv_neT h17_0 (a := 0) rfl; have a1 := lv_neT h17_1 (a := 1) rfl; have a2 := lv_neT h17_2 (a := 2) rfl; omega) (by decide) ?_
  refine g_iconst (pc := 77) (v := 0) C dX0_run_77 (by decide) ?_
  exact g_retIW (pc := 78) C rfl rfl () (rfl) (by simp [acV, *]) (by have e9 : acL 0 act = [] := (by simp [acL, *]); rw [e9]; rfl) dX0_run_78
set_option maxRecDepth 20000 in
set_option maxHeartbeats 4000000 in
theorem c_run_1 (l : Launch) (G : gT) (h : Nat) (a : Nat) (kp : Nat → Int32) (nm : Int32) (kd : Int32) (aa : Int32) (m : Int32) (ka : Int32) (act : Int32) (x : Int32) : WI l yX0_run cX0_run 6 (some .int) 8 0 0 G [.ref h, .int m, .int 1, .int ka, .int act, .int x] (wA G h a kp 0 nm kd aa) (S := Unit) (fun r _ => r = acV 1 act m ka x) (fun _ => wA G h a (rnK kp 0 (acL 1 act)) (nI (acL 1 act).length) m 1 ka) := by
  intro sz9
  refine start_W (by decide) (Nat.le_of_ble_eq_true rfl) (fun p9 e9 s9 m9 a9 b9 t9 c9 C => ?_)
  refine g_lv (lv' := [(0, .ref h), (1, .int m), (2, .int 1), (3, .int ka), (4, .int act), (5, .int x)]) rfl ?_
  refine g_aload_n (pc := 0) C dX0_run_0 0 rfl ?_
  refine g_iload_n (pc := 1) C dX0_run_1 1 rfl ?_
  refine g_put (pc := 2) (T := TX0) (N := 5) (ty := .int) (ws' := [oC h 0 [.ref a, .int 0, .int m, .int kd, .int aa], iC G a 20 kp]) C rfl ib_X0 tyX0 tyX0_ok nmX0 0 rfl rfl 2 (by decide) mf_X0_19 rfl rfl rfl (by decide +kernel) rfl rfl (Nat.le_of_ble_eq_true rfl) dX0_run_2 rfl ?_
  refine g_aload_n (pc := 5) C dX0_run_5 0 rfl ?_
  refine g_iload_n (pc := 6) C dX0_run_6 2 rfl ?_
  refine g_put (pc := 7) (T := TX0) (N := 5) (ty := .int) (ws' := [oC h 0 [.ref a, .int 0, .int m, .int 1, .int aa], iC G a 20 kp]) C rfl ib_X0 tyX0 tyX0_ok nmX0 0 rfl rfl 3 (by decide) mf_X0_22 rfl rfl rfl (by decide +kernel) rfl rfl (Nat.le_of_ble_eq_true rfl) dX0_run_7 rfl ?_
  refine g_aload_n (pc := 10) C dX0_run_10 0 rfl ?_
  refine g_iload_n (pc := 11) C dX0_run_11 3 rfl ?_
  refine g_put (pc := 12) (T := TX0) (N := 5) (ty := .int) (ws' := [oC h 0 [.ref a, .int 0, .int m, .int 1, .int ka], iC G a 20 kp]) C rfl ib_X0 tyX0 tyX0_ok nmX0 0 rfl rfl 4 (by decide) mf_X0_25 rfl rfl rfl (by decide +kernel) rfl rfl (Nat.le_of_ble_eq_true rfl) dX0_run_12 rfl ?_
  refine g_iload (pc := 15) C dX0_run_15 4 rfl ?_
  by_cases h17_0 : act = 0
  · refine g_top (z := 0) h17_0 ?_
    refine g_tsIn (pc := 17) (off := 27) (tgt := 44) C dX0_run_17 (by decide) (by decide) (by decide) (by decide) ?_
    refine g_aload_n (pc := 44) C dX0_run_44 0 rfl ?_
    refine g_aload_n (pc := 45) C dX0_run_45 0 rfl ?_
    refine g_get (pc := 46) (T := TX0) (N := 5) (v := .int 1) C ib_X0 0 rfl rfl 3 (by decide) mf_X0_22 rfl rfl rfl dX0_run_46 ?_
    refine g_iload (pc := 49) C dX0_run_49 5 rfl ?_
    refine g_wrVI (pc := 51) (rest := []) (wr := []) C (fun _ => wA G h a (rnK kp 0 (akL 1)) (nI (0 + 2)) m 1 ka) rfl k_X0_asksFrom (c_asks_1 l G h a kp 0 m 1 ka x (by first | assumption | omega)) ml_X0_28 rfl ⟨Nat.le_of_ble_eq_true rfl, Nat.le_of_ble_eq_true rfl⟩ rfl [0, 1] [] [0, 1] rfl (by decide) rfl (by decide) (by decide) (by decide) (fun _ => rfl) 0 rfl rfl rfl rfl (Nat.le_of_ble_eq_true rfl) ⟨by decide, by decide⟩ dX0_run_51 (fun r51 _ e51 => ?_)
    subst e51
    exact g_retIW (pc := 54) C rfl rfl () (rfl) (by simp [acV, *]) (by have e9 : acL 1 act = akL 1 := (by simp [acL, *]); rw [e9]; rfl) dX0_run_54
  by_cases h17_1 : act = 1
  · refine g_top (z := 1) h17_1 ?_
    refine g_tsIn (pc := 17) (off := 38) (tgt := 55) C dX0_run_17 (by decide) (by decide) (by decide) (by decide) ?_
    refine g_aload_n (pc := 55) C dX0_run_55 0 rfl ?_
    refine g_aload_n (pc := 56) C dX0_run_56 0 rfl ?_
    refine g_get (pc := 57) (T := TX0) (N := 5) (v := .int 1) C ib_X0 0 rfl rfl 3 (by decide) mf_X0_22 rfl rfl rfl dX0_run_57 ?_
    refine g_iload (pc := 60) C dX0_run_60 5 rfl ?_
    refine g_wrVI (pc := 62) (rest := []) (wr := []) C (fun _ => wA G h a (rnK kp 0 (lnL 1)) (nI (0 + 3)) m 1 ka) rfl k_X0_leansFrom (c_leans_1_1 l G h a kp 0 m ka x (by first | assumption | omega)) ml_X0_32 rfl ⟨Nat.le_of_ble_eq_true rfl, Nat.le_of_ble_eq_true rfl⟩ rfl [0, 1] [] [0, 1] rfl (by decide) rfl (by decide) (by decide) (by decide) (fun _ => rfl) 0 rfl rfl rfl rfl (Nat.le_of_ble_eq_true rfl) ⟨by decide, by decide⟩ dX0_run_62 (fun r62 _ e62 => ?_)
    subst e62
    exact g_retIW (pc := 65) C rfl rfl () (rfl) (by simp [acV, *]) (by have e9 : acL 1 act = lnL 1 := (by simp [acL, *]); rw [e9]; rfl) dX0_run_65
  by_cases h17_2 : act = 2
  · refine g_top (z := 2) h17_2 ?_
    refine g_tsIn (pc := 17) (off := 49) (tgt := 66) C dX0_run_17 (by decide) (by decide) (by decide) (by decide) ?_
    refine g_aload_n (pc := 66) C dX0_run_66 0 rfl ?_
    refine g_aload_n (pc := 67) C dX0_run_67 0 rfl ?_
    refine g_get (pc := 68) (T := TX0) (N := 5) (v := .int 1) C ib_X0 0 rfl rfl 3 (by decide) mf_X0_22 rfl rfl rfl dX0_run_68 ?_
    refine g_iload (pc := 71) C dX0_run_71 5 rfl ?_
    refine g_wrVI (pc := 73) (rest := []) (wr := []) C (fun _ => wA G h a (rnK kp 0 (smL 1)) (nI (0 + 6)) m 1 ka) rfl k_X0_sumsFrom (c_sums_1_1 l G h a kp 0 m ka x (by first | assumption | omega)) ml_X0_35 rfl ⟨Nat.le_of_ble_eq_true rfl, Nat.le_of_ble_eq_true rfl⟩ rfl [0, 1] [] [0, 1] rfl (by decide) rfl (by decide) (by decide) (by decide) (fun _ => rfl) 0 rfl rfl rfl rfl (Nat.le_of_ble_eq_true rfl) ⟨by decide, by decide⟩ dX0_run_73 (fun r73 _ e73 => ?_)
    subst e73
    exact g_retIW (pc := 76) C rfl rfl () (rfl) (by simp [acV, *]) (by have e9 : acL 1 act = smL 1 := (by simp [acL, *]); rw [e9]; rfl) dX0_run_76
  refine g_tsOut (pc := 17) (tgt := 77) C dX0_run_17 (by have a0 := lv_neT h17_0 (a := 0) rfl; have a1 := lv_neT h17_1 (a := 1) rfl; have a2 := lv_neT h17_2 (a := 2) rfl; omega) (by decide) ?_
  refine g_iconst (pc := 77) (v := 0) C dX0_run_77 (by decide) ?_
  exact g_retIW (pc := 78) C rfl rfl () (rfl) (by simp [acV, *]) (by have e9 : acL 1 act = [] := (by simp [acL, *]); rw [e9]; rfl) dX0_run_78
set_option maxRecDepth 20000 in
set_option maxHeartbeats 4000000 in
theorem c_run_2 (l : Launch) (G : gT) (h : Nat) (a : Nat) (kp : Nat → Int32) (nm : Int32) (kd : Int32) (aa : Int32) (m : Int32) (ka : Int32) (act : Int32) (x : Int32) : WI l yX0_run cX0_run 6 (some .int) 8 0 0 G [.ref h, .int m, .int 2, .int ka, .int act, .int x] (wA G h a kp 0 nm kd aa) (S := Unit) (fun r _ => r = acV 2 act m ka x) (fun _ => wA G h a (rnK kp 0 (acL 2 act)) (nI (acL 2 act).length) m 2 ka) := by
  intro sz9
  refine start_W (by decide) (Nat.le_of_ble_eq_true rfl) (fun p9 e9 s9 m9 a9 b9 t9 c9 C => ?_)
  refine g_lv (lv' := [(0, .ref h), (1, .int m), (2, .int 2), (3, .int ka), (4, .int act), (5, .int x)]) rfl ?_
  refine g_aload_n (pc := 0) C dX0_run_0 0 rfl ?_
  refine g_iload_n (pc := 1) C dX0_run_1 1 rfl ?_
  refine g_put (pc := 2) (T := TX0) (N := 5) (ty := .int) (ws' := [oC h 0 [.ref a, .int 0, .int m, .int kd, .int aa], iC G a 20 kp]) C rfl ib_X0 tyX0 tyX0_ok nmX0 0 rfl rfl 2 (by decide) mf_X0_19 rfl rfl rfl (by decide +kernel) rfl rfl (Nat.le_of_ble_eq_true rfl) dX0_run_2 rfl ?_
  refine g_aload_n (pc := 5) C dX0_run_5 0 rfl ?_
  refine g_iload_n (pc := 6) C dX0_run_6 2 rfl ?_
  refine g_put (pc := 7) (T := TX0) (N := 5) (ty := .int) (ws' := [oC h 0 [.ref a, .int 0, .int m, .int 2, .int aa], iC G a 20 kp]) C rfl ib_X0 tyX0 tyX0_ok nmX0 0 rfl rfl 3 (by decide) mf_X0_22 rfl rfl rfl (by decide +kernel) rfl rfl (Nat.le_of_ble_eq_true rfl) dX0_run_7 rfl ?_
  refine g_aload_n (pc := 10) C dX0_run_10 0 rfl ?_
  refine g_iload_n (pc := 11) C dX0_run_11 3 rfl ?_
  refine g_put (pc := 12) (T := TX0) (N := 5) (ty := .int) (ws' := [oC h 0 [.ref a, .int 0, .int m, .int 2, .int ka], iC G a 20 kp]) C rfl ib_X0 tyX0 tyX0_ok nmX0 0 rfl rfl 4 (by decide) mf_X0_25 rfl rfl rfl (by decide +kernel) rfl rfl (Nat.le_of_ble_eq_true rfl) dX0_run_12 rfl ?_
  refine g_iload (pc := 15) C dX0_run_15 4 rfl ?_
  by_cases h17_0 : act = 0
  · refine g_top (z := 0) h17_0 ?_
    refine g_tsIn (pc := 17) (off := 27) (tgt := 44) C dX0_run_17 (by decide) (by decide) (by decide) (by decide) ?_
    refine g_aload_n (pc := 44) C dX0_run_44 0 rfl ?_
    refine g_aload_n (pc := 45) C dX0_run_45 0 rfl ?_
    refine g_get (pc := 46) (T := TX0) (N := 5) (v := .int 2) C ib_X0 0 rfl rfl 3 (by decide) mf_X0_22 rfl rfl rfl dX0_run_46 ?_
    refine g_iload (pc := 49) C dX0_run_49 5 rfl ?_
    refine g_wrVI (pc := 51) (rest := []) (wr := []) C (fun _ => wA G h a (rnK kp 0 (akL 2)) (nI (0 + 1)) m 2 ka) rfl k_X0_asksFrom (c_asks_2 l G h a kp 0 m 2 ka x (by first | assumption | omega)) ml_X0_28 rfl ⟨Nat.le_of_ble_eq_true rfl, Nat.le_of_ble_eq_true rfl⟩ rfl [0, 1] [] [0, 1] rfl (by decide) rfl (by decide) (by decide) (by decide) (fun _ => rfl) 0 rfl rfl rfl rfl (Nat.le_of_ble_eq_true rfl) ⟨by decide, by decide⟩ dX0_run_51 (fun r51 _ e51 => ?_)
    subst e51
    exact g_retIW (pc := 54) C rfl rfl () (rfl) (by simp [acV, *]) (by have e9 : acL 2 act = akL 2 := (by simp [acL, *]); rw [e9]; rfl) dX0_run_54
  by_cases h17_1 : act = 1
  · refine g_top (z := 1) h17_1 ?_
    refine g_tsIn (pc := 17) (off := 38) (tgt := 55) C dX0_run_17 (by decide) (by decide) (by decide) (by decide) ?_
    refine g_aload_n (pc := 55) C dX0_run_55 0 rfl ?_
    refine g_aload_n (pc := 56) C dX0_run_56 0 rfl ?_
    refine g_get (pc := 57) (T := TX0) (N := 5) (v := .int 2) C ib_X0 0 rfl rfl 3 (by decide) mf_X0_22 rfl rfl rfl dX0_run_57 ?_
    refine g_iload (pc := 60) C dX0_run_60 5 rfl ?_
    refine g_wrVI (pc := 62) (rest := []) (wr := []) C (fun _ => wA G h a (rnK kp 0 (lnL 2)) (nI (0 + 3)) m 2 ka) rfl k_X0_leansFrom (c_leans_2_2 l G h a kp 0 m ka x (by first | assumption | omega)) ml_X0_32 rfl ⟨Nat.le_of_ble_eq_true rfl, Nat.le_of_ble_eq_true rfl⟩ rfl [0, 1] [] [0, 1] rfl (by decide) rfl (by decide) (by decide) (by decide) (fun _ => rfl) 0 rfl rfl rfl rfl (Nat.le_of_ble_eq_true rfl) ⟨by decide, by decide⟩ dX0_run_62 (fun r62 _ e62 => ?_)
    subst e62
    exact g_retIW (pc := 65) C rfl rfl () (rfl) (by simp [acV, *]) (by have e9 : acL 2 act = lnL 2 := (by simp [acL, *]); rw [e9]; rfl) dX0_run_65
  by_cases h17_2 : act = 2
  · refine g_top (z := 2) h17_2 ?_
    refine g_tsIn (pc := 17) (off := 49) (tgt := 66) C dX0_run_17 (by decide) (by decide) (by decide) (by decide) ?_
    refine g_aload_n (pc := 66) C dX0_run_66 0 rfl ?_
    refine g_aload_n (pc := 67) C dX0_run_67 0 rfl ?_
    refine g_get (pc := 68) (T := TX0) (N := 5) (v := .int 2) C ib_X0 0 rfl rfl 3 (by decide) mf_X0_22 rfl rfl rfl dX0_run_68 ?_
    refine g_iload (pc := 71) C dX0_run_71 5 rfl ?_
    refine g_wrVI (pc := 73) (rest := []) (wr := []) C (fun _ => wA G h a (rnK kp 0 (smL 2)) (nI (0 + 5)) m 2 ka) rfl k_X0_sumsFrom (c_sums_2_2 l G h a kp 0 m ka x (by first | assumption | omega)) ml_X0_35 rfl ⟨Nat.le_of_ble_eq_true rfl, Nat.le_of_ble_eq_true rfl⟩ rfl [0, 1] [] [0, 1] rfl (by decide) rfl (by decide) (by decide) (by decide) (fun _ => rfl) 0 rfl rfl rfl rfl (Nat.le_of_ble_eq_true rfl) ⟨by decide, by decide⟩ dX0_run_73 (fun r73 _ e73 => ?_)
    subst e73
    exact g_retIW (pc := 76) C rfl rfl () (rfl) (by simp [acV, *]) (by have e9 : acL 2 act = smL 2 := (by simp [acL, *]); rw [e9]; rfl) dX0_run_76
  refine g_tsOut (pc := 17) (tgt := 77) C dX0_run_17 (by have a0 := lv_neT h17_0 (a := 0) rfl; have a1 := lv_neT h17_1 (a := 1) rfl; have a2 := lv_neT h17_2 (a := 2) rfl; omega) (by decide) ?_
  refine g_iconst (pc := 77) (v := 0) C dX0_run_77 (by decide) ?_
  exact g_retIW (pc := 78) C rfl rfl () (rfl) (by simp [acV, *]) (by have e9 : acL 2 act = [] := (by simp [acL, *]); rw [e9]; rfl) dX0_run_78
set_option maxRecDepth 20000 in
set_option maxHeartbeats 4000000 in
theorem c_run_3 (l : Launch) (G : gT) (h : Nat) (a : Nat) (kp : Nat → Int32) (nm : Int32) (kd : Int32) (aa : Int32) (m : Int32) (ka : Int32) (act : Int32) (x : Int32) : WI l yX0_run cX0_run 6 (some .int) 8 0 0 G [.ref h, .int m, .int 3, .int ka, .int act, .int x] (wA G h a kp 0 nm kd aa) (S := Unit) (fun r _ => r = acV 3 act m ka x) (fun _ => wA G h a (rnK kp 0 (acL 3 act)) (nI (acL 3 act).length) m 3 ka) := by
  intro sz9
  refine start_W (by decide) (Nat.le_of_ble_eq_true rfl) (fun p9 e9 s9 m9 a9 b9 t9 c9 C => ?_)
  refine g_lv (lv' := [(0, .ref h), (1, .int m), (2, .int 3), (3, .int ka), (4, .int act), (5, .int x)]) rfl ?_
  refine g_aload_n (pc := 0) C dX0_run_0 0 rfl ?_
  refine g_iload_n (pc := 1) C dX0_run_1 1 rfl ?_
  refine g_put (pc := 2) (T := TX0) (N := 5) (ty := .int) (ws' := [oC h 0 [.ref a, .int 0, .int m, .int kd, .int aa], iC G a 20 kp]) C rfl ib_X0 tyX0 tyX0_ok nmX0 0 rfl rfl 2 (by decide) mf_X0_19 rfl rfl rfl (by decide +kernel) rfl rfl (Nat.le_of_ble_eq_true rfl) dX0_run_2 rfl ?_
  refine g_aload_n (pc := 5) C dX0_run_5 0 rfl ?_
  refine g_iload_n (pc := 6) C dX0_run_6 2 rfl ?_
  refine g_put (pc := 7) (T := TX0) (N := 5) (ty := .int) (ws' := [oC h 0 [.ref a, .int 0, .int m, .int 3, .int aa], iC G a 20 kp]) C rfl ib_X0 tyX0 tyX0_ok nmX0 0 rfl rfl 3 (by decide) mf_X0_22 rfl rfl rfl (by decide +kernel) rfl rfl (Nat.le_of_ble_eq_true rfl) dX0_run_7 rfl ?_
  refine g_aload_n (pc := 10) C dX0_run_10 0 rfl ?_
  refine g_iload_n (pc := 11) C dX0_run_11 3 rfl ?_
  refine g_put (pc := 12) (T := TX0) (N := 5) (ty := .int) (ws' := [oC h 0 [.ref a, .int 0, .int m, .int 3, .int ka], iC G a 20 kp]) C rfl ib_X0 tyX0 tyX0_ok nmX0 0 rfl rfl 4 (by decide) mf_X0_25 rfl rfl rfl (by decide +kernel) rfl rfl (Nat.le_of_ble_eq_true rfl) dX0_run_12 rfl ?_
  refine g_iload (pc := 15) C dX0_run_15 4 rfl ?_
  by_cases h17_0 : act = 0
  · refine g_top (z := 0) h17_0 ?_
    refine g_tsIn (pc := 17) (off := 27) (tgt := 44) C dX0_run_17 (by decide) (by decide) (by decide) (by decide) ?_
    refine g_aload_n (pc := 44) C dX0_run_44 0 rfl ?_
    refine g_aload_n (pc := 45) C dX0_run_45 0 rfl ?_
    refine g_get (pc := 46) (T := TX0) (N := 5) (v := .int 3) C ib_X0 0 rfl rfl 3 (by decide) mf_X0_22 rfl rfl rfl dX0_run_46 ?_
    refine g_iload (pc := 49) C dX0_run_49 5 rfl ?_
    refine g_wrVI (pc := 51) (rest := []) (wr := []) C (fun _ => wA G h a (rnK kp 0 (akL 3)) (nI (0 + 2)) m 3 ka) rfl k_X0_asksFrom (c_asks_3 l G h a kp 0 m 3 ka x (by first | assumption | omega)) ml_X0_28 rfl ⟨Nat.le_of_ble_eq_true rfl, Nat.le_of_ble_eq_true rfl⟩ rfl [0, 1] [] [0, 1] rfl (by decide) rfl (by decide) (by decide) (by decide) (fun _ => rfl) 0 rfl rfl rfl rfl (Nat.le_of_ble_eq_true rfl) ⟨by decide, by decide⟩ dX0_run_51 (fun r51 _ e51 => ?_)
    subst e51
    exact g_retIW (pc := 54) C rfl rfl () (rfl) (by simp [acV, *]) (by have e9 : acL 3 act = akL 3 := (by simp [acL, *]); rw [e9]; rfl) dX0_run_54
  by_cases h17_1 : act = 1
  · refine g_top (z := 1) h17_1 ?_
    refine g_tsIn (pc := 17) (off := 38) (tgt := 55) C dX0_run_17 (by decide) (by decide) (by decide) (by decide) ?_
    refine g_aload_n (pc := 55) C dX0_run_55 0 rfl ?_
    refine g_aload_n (pc := 56) C dX0_run_56 0 rfl ?_
    refine g_get (pc := 57) (T := TX0) (N := 5) (v := .int 3) C ib_X0 0 rfl rfl 3 (by decide) mf_X0_22 rfl rfl rfl dX0_run_57 ?_
    refine g_iload (pc := 60) C dX0_run_60 5 rfl ?_
    refine g_wrVI (pc := 62) (rest := []) (wr := []) C (fun _ => wA G h a (rnK kp 0 (lnL 3)) (nI (0 + 4)) m 3 ka) rfl k_X0_leansFrom (c_leans_3_3 l G h a kp 0 m ka x (by first | assumption | omega)) ml_X0_32 rfl ⟨Nat.le_of_ble_eq_true rfl, Nat.le_of_ble_eq_true rfl⟩ rfl [0, 1] [] [0, 1] rfl (by decide) rfl (by decide) (by decide) (by decide) (fun _ => rfl) 0 rfl rfl rfl rfl (Nat.le_of_ble_eq_true rfl) ⟨by decide, by decide⟩ dX0_run_62 (fun r62 _ e62 => ?_)
    subst e62
    exact g_retIW (pc := 65) C rfl rfl () (rfl) (by simp [acV, *]) (by have e9 : acL 3 act = lnL 3 := (by simp [acL, *]); rw [e9]; rfl) dX0_run_65
  by_cases h17_2 : act = 2
  · refine g_top (z := 2) h17_2 ?_
    refine g_tsIn (pc := 17) (off := 49) (tgt := 66) C dX0_run_17 (by decide) (by decide) (by decide) (by decide) ?_
    refine g_aload_n (pc := 66) C dX0_run_66 0 rfl ?_
    refine g_aload_n (pc := 67) C dX0_run_67 0 rfl ?_
    refine g_get (pc := 68) (T := TX0) (N := 5) (v := .int 3) C ib_X0 0 rfl rfl 3 (by decide) mf_X0_22 rfl rfl rfl dX0_run_68 ?_
    refine g_iload (pc := 71) C dX0_run_71 5 rfl ?_
    refine g_wrVI (pc := 73) (rest := []) (wr := []) C (fun _ => wA G h a (rnK kp 0 (smL 3)) (nI (0 + 7)) m 3 ka) rfl k_X0_sumsFrom (c_sums_3_3 l G h a kp 0 m ka x (by first | assumption | omega)) ml_X0_35 rfl ⟨Nat.le_of_ble_eq_true rfl, Nat.le_of_ble_eq_true rfl⟩ rfl [0, 1] [] [0, 1] rfl (by decide) rfl (by decide) (by decide) (by decide) (fun _ => rfl) 0 rfl rfl rfl rfl (Nat.le_of_ble_eq_true rfl) ⟨by decide, by decide⟩ dX0_run_73 (fun r73 _ e73 => ?_)
    subst e73
    exact g_retIW (pc := 76) C rfl rfl () (rfl) (by simp [acV, *]) (by have e9 : acL 3 act = smL 3 := (by simp [acL, *]); rw [e9]; rfl) dX0_run_76
  refine g_tsOut (pc := 17) (tgt := 77) C dX0_run_17 (by have a0 := lv_neT h17_0 (a := 0) rfl; have a1 := lv_neT h17_1 (a := 1) rfl; have a2 := lv_neT h17_2 (a := 2) rfl; omega) (by decide) ?_
  refine g_iconst (pc := 77) (v := 0) C dX0_run_77 (by decide) ?_
  exact g_retIW (pc := 78) C rfl rfl () (rfl) (by simp [acV, *]) (by have e9 : acL 3 act = [] := (by simp [acL, *]); rw [e9]; rfl) dX0_run_78
set_option maxRecDepth 20000 in
set_option maxHeartbeats 4000000 in
theorem c_run_4 (l : Launch) (G : gT) (h : Nat) (a : Nat) (kp : Nat → Int32) (nm : Int32) (kd : Int32) (aa : Int32) (m : Int32) (ka : Int32) (act : Int32) (x : Int32) : WI l yX0_run cX0_run 6 (some .int) 8 0 0 G [.ref h, .int m, .int 4, .int ka, .int act, .int x] (wA G h a kp 0 nm kd aa) (S := Unit) (fun r _ => r = acV 4 act m ka x) (fun _ => wA G h a (rnK kp 0 (acL 4 act)) (nI (acL 4 act).length) m 4 ka) := by
  intro sz9
  refine start_W (by decide) (Nat.le_of_ble_eq_true rfl) (fun p9 e9 s9 m9 a9 b9 t9 c9 C => ?_)
  refine g_lv (lv' := [(0, .ref h), (1, .int m), (2, .int 4), (3, .int ka), (4, .int act), (5, .int x)]) rfl ?_
  refine g_aload_n (pc := 0) C dX0_run_0 0 rfl ?_
  refine g_iload_n (pc := 1) C dX0_run_1 1 rfl ?_
  refine g_put (pc := 2) (T := TX0) (N := 5) (ty := .int) (ws' := [oC h 0 [.ref a, .int 0, .int m, .int kd, .int aa], iC G a 20 kp]) C rfl ib_X0 tyX0 tyX0_ok nmX0 0 rfl rfl 2 (by decide) mf_X0_19 rfl rfl rfl (by decide +kernel) rfl rfl (Nat.le_of_ble_eq_true rfl) dX0_run_2 rfl ?_
  refine g_aload_n (pc := 5) C dX0_run_5 0 rfl ?_
  refine g_iload_n (pc := 6) C dX0_run_6 2 rfl ?_
  refine g_put (pc := 7) (T := TX0) (N := 5) (ty := .int) (ws' := [oC h 0 [.ref a, .int 0, .int m, .int 4, .int aa], iC G a 20 kp]) C rfl ib_X0 tyX0 tyX0_ok nmX0 0 rfl rfl 3 (by decide) mf_X0_22 rfl rfl rfl (by decide +kernel) rfl rfl (Nat.le_of_ble_eq_true rfl) dX0_run_7 rfl ?_
  refine g_aload_n (pc := 10) C dX0_run_10 0 rfl ?_
  refine g_iload_n (pc := 11) C dX0_run_11 3 rfl ?_
  refine g_put (pc := 12) (T := TX0) (N := 5) (ty := .int) (ws' := [oC h 0 [.ref a, .int 0, .int m, .int 4, .int ka], iC G a 20 kp]) C rfl ib_X0 tyX0 tyX0_ok nmX0 0 rfl rfl 4 (by decide) mf_X0_25 rfl rfl rfl (by decide +kernel) rfl rfl (Nat.le_of_ble_eq_true rfl) dX0_run_12 rfl ?_
  refine g_iload (pc := 15) C dX0_run_15 4 rfl ?_
  by_cases h17_0 : act = 0
  · refine g_top (z := 0) h17_0 ?_
    refine g_tsIn (pc := 17) (off := 27) (tgt := 44) C dX0_run_17 (by decide) (by decide) (by decide) (by decide) ?_
    refine g_aload_n (pc := 44) C dX0_run_44 0 rfl ?_
    refine g_aload_n (pc := 45) C dX0_run_45 0 rfl ?_
    refine g_get (pc := 46) (T := TX0) (N := 5) (v := .int 4) C ib_X0 0 rfl rfl 3 (by decide) mf_X0_22 rfl rfl rfl dX0_run_46 ?_
    refine g_iload (pc := 49) C dX0_run_49 5 rfl ?_
    refine g_wrVI (pc := 51) (rest := []) (wr := []) C (fun _ => wA G h a (rnK kp 0 (akL 4)) (nI (0 + 2)) m 4 ka) rfl k_X0_asksFrom (c_asks_4 l G h a kp 0 m 4 ka x (by first | assumption | omega)) ml_X0_28 rfl ⟨Nat.le_of_ble_eq_true rfl, Nat.le_of_ble_eq_true rfl⟩ rfl [0, 1] [] [0, 1] rfl (by decide) rfl (by decide) (by decide) (by decide) (fun _ => rfl) 0 rfl rfl rfl rfl (Nat.le_of_ble_eq_true rfl) ⟨by decide, by decide⟩ dX0_run_51 (fun r51 _ e51 => ?_)
    subst e51
    exact g_retIW (pc := 54) C rfl rfl () (rfl) (by simp [acV, *]) (by have e9 : acL 4 act = akL 4 := (by simp [acL, *]); rw [e9]; rfl) dX0_run_54
  by_cases h17_1 : act = 1
  · refine g_top (z := 1) h17_1 ?_
    refine g_tsIn (pc := 17) (off := 38) (tgt := 55) C dX0_run_17 (by decide) (by decide) (by decide) (by decide) ?_
    refine g_aload_n (pc := 55) C dX0_run_55 0 rfl ?_
    refine g_aload_n (pc := 56) C dX0_run_56 0 rfl ?_
    refine g_get (pc := 57) (T := TX0) (N := 5) (v := .int 4) C ib_X0 0 rfl rfl 3 (by decide) mf_X0_22 rfl rfl rfl dX0_run_57 ?_
    refine g_iload (pc := 60) C dX0_run_60 5 rfl ?_
    refine g_wrVI (pc := 62) (rest := []) (wr := []) C (fun _ => wA G h a (rnK kp 0 (lnL 4)) (nI (0 + 3)) m 4 ka) rfl k_X0_leansFrom (c_leans_4_4 l G h a kp 0 m ka x (by first | assumption | omega)) ml_X0_32 rfl ⟨Nat.le_of_ble_eq_true rfl, Nat.le_of_ble_eq_true rfl⟩ rfl [0, 1] [] [0, 1] rfl (by decide) rfl (by decide) (by decide) (by decide) (fun _ => rfl) 0 rfl rfl rfl rfl (Nat.le_of_ble_eq_true rfl) ⟨by decide, by decide⟩ dX0_run_62 (fun r62 _ e62 => ?_)
    subst e62
    exact g_retIW (pc := 65) C rfl rfl () (rfl) (by simp [acV, *]) (by have e9 : acL 4 act = lnL 4 := (by simp [acL, *]); rw [e9]; rfl) dX0_run_65
  by_cases h17_2 : act = 2
  · refine g_top (z := 2) h17_2 ?_
    refine g_tsIn (pc := 17) (off := 49) (tgt := 66) C dX0_run_17 (by decide) (by decide) (by decide) (by decide) ?_
    refine g_aload_n (pc := 66) C dX0_run_66 0 rfl ?_
    refine g_aload_n (pc := 67) C dX0_run_67 0 rfl ?_
    refine g_get (pc := 68) (T := TX0) (N := 5) (v := .int 4) C ib_X0 0 rfl rfl 3 (by decide) mf_X0_22 rfl rfl rfl dX0_run_68 ?_
    refine g_iload (pc := 71) C dX0_run_71 5 rfl ?_
    refine g_wrVI (pc := 73) (rest := []) (wr := []) C (fun _ => wA G h a (rnK kp 0 (smL 4)) (nI (0 + 7)) m 4 ka) rfl k_X0_sumsFrom (c_sums_4_4 l G h a kp 0 m ka x (by first | assumption | omega)) ml_X0_35 rfl ⟨Nat.le_of_ble_eq_true rfl, Nat.le_of_ble_eq_true rfl⟩ rfl [0, 1] [] [0, 1] rfl (by decide) rfl (by decide) (by decide) (by decide) (fun _ => rfl) 0 rfl rfl rfl rfl (Nat.le_of_ble_eq_true rfl) ⟨by decide, by decide⟩ dX0_run_73 (fun r73 _ e73 => ?_)
    subst e73
    exact g_retIW (pc := 76) C rfl rfl () (rfl) (by simp [acV, *]) (by have e9 : acL 4 act = smL 4 := (by simp [acL, *]); rw [e9]; rfl) dX0_run_76
  refine g_tsOut (pc := 17) (tgt := 77) C dX0_run_17 (by have a0 := lv_neT h17_0 (a := 0) rfl; have a1 := lv_neT h17_1 (a := 1) rfl; have a2 := lv_neT h17_2 (a := 2) rfl; omega) (by decide) ?_
  refine g_iconst (pc := 77) (v := 0) C dX0_run_77 (by decide) ?_
  exact g_retIW (pc := 78) C rfl rfl () (rfl) (by simp [acV, *]) (by have e9 : acL 4 act = [] := (by simp [acL, *]); rw [e9]; rfl) dX0_run_78
set_option maxRecDepth 20000 in
set_option maxHeartbeats 4000000 in
theorem c_run_5 (l : Launch) (G : gT) (h : Nat) (a : Nat) (kp : Nat → Int32) (nm : Int32) (kd : Int32) (aa : Int32) (m : Int32) (ka : Int32) (act : Int32) (x : Int32) : WI l yX0_run cX0_run 6 (some .int) 8 0 0 G [.ref h, .int m, .int 5, .int ka, .int act, .int x] (wA G h a kp 0 nm kd aa) (S := Unit) (fun r _ => r = acV 5 act m ka x) (fun _ => wA G h a (rnK kp 0 (acL 5 act)) (nI (acL 5 act).length) m 5 ka) := by
  intro sz9
  refine start_W (by decide) (Nat.le_of_ble_eq_true rfl) (fun p9 e9 s9 m9 a9 b9 t9 c9 C => ?_)
  refine g_lv (lv' := [(0, .ref h), (1, .int m), (2, .int 5), (3, .int ka), (4, .int act), (5, .int x)]) rfl ?_
  refine g_aload_n (pc := 0) C dX0_run_0 0 rfl ?_
  refine g_iload_n (pc := 1) C dX0_run_1 1 rfl ?_
  refine g_put (pc := 2) (T := TX0) (N := 5) (ty := .int) (ws' := [oC h 0 [.ref a, .int 0, .int m, .int kd, .int aa], iC G a 20 kp]) C rfl ib_X0 tyX0 tyX0_ok nmX0 0 rfl rfl 2 (by decide) mf_X0_19 rfl rfl rfl (by decide +kernel) rfl rfl (Nat.le_of_ble_eq_true rfl) dX0_run_2 rfl ?_
  refine g_aload_n (pc := 5) C dX0_run_5 0 rfl ?_
  refine g_iload_n (pc := 6) C dX0_run_6 2 rfl ?_
  refine g_put (pc := 7) (T := TX0) (N := 5) (ty := .int) (ws' := [oC h 0 [.ref a, .int 0, .int m, .int 5, .int aa], iC G a 20 kp]) C rfl ib_X0 tyX0 tyX0_ok nmX0 0 rfl rfl 3 (by decide) mf_X0_22 rfl rfl rfl (by decide +kernel) rfl rfl (Nat.le_of_ble_eq_true rfl) dX0_run_7 rfl ?_
  refine g_aload_n (pc := 10) C dX0_run_10 0 rfl ?_
  refine g_iload_n (pc := 11) C dX0_run_11 3 rfl ?_
  refine g_put (pc := 12) (T := TX0) (N := 5) (ty := .int) (ws' := [oC h 0 [.ref a, .int 0, .int m, .int 5, .int ka], iC G a 20 kp]) C rfl ib_X0 tyX0 tyX0_ok nmX0 0 rfl rfl 4 (by decide) mf_X0_25 rfl rfl rfl (by decide +kernel) rfl rfl (Nat.le_of_ble_eq_true rfl) dX0_run_12 rfl ?_
  refine g_iload (pc := 15) C dX0_run_15 4 rfl ?_
  by_cases h17_0 : act = 0
  · refine g_top (z := 0) h17_0 ?_
    refine g_tsIn (pc := 17) (off := 27) (tgt := 44) C dX0_run_17 (by decide) (by decide) (by decide) (by decide) ?_
    refine g_aload_n (pc := 44) C dX0_run_44 0 rfl ?_
    refine g_aload_n (pc := 45) C dX0_run_45 0 rfl ?_
    refine g_get (pc := 46) (T := TX0) (N := 5) (v := .int 5) C ib_X0 0 rfl rfl 3 (by decide) mf_X0_22 rfl rfl rfl dX0_run_46 ?_
    refine g_iload (pc := 49) C dX0_run_49 5 rfl ?_
    refine g_wrVI (pc := 51) (rest := []) (wr := []) C (fun _ => wA G h a (rnK kp 0 (akL 5)) (nI (0 + 1)) m 5 ka) rfl k_X0_asksFrom (c_asks_5 l G h a kp 0 m 5 ka x (by first | assumption | omega)) ml_X0_28 rfl ⟨Nat.le_of_ble_eq_true rfl, Nat.le_of_ble_eq_true rfl⟩ rfl [0, 1] [] [0, 1] rfl (by decide) rfl (by decide) (by decide) (by decide) (fun _ => rfl) 0 rfl rfl rfl rfl (Nat.le_of_ble_eq_true rfl) ⟨by decide, by decide⟩ dX0_run_51 (fun r51 _ e51 => ?_)
    subst e51
    exact g_retIW (pc := 54) C rfl rfl () (rfl) (by simp [acV, *]) (by have e9 : acL 5 act = akL 5 := (by simp [acL, *]); rw [e9]; rfl) dX0_run_54
  by_cases h17_1 : act = 1
  · refine g_top (z := 1) h17_1 ?_
    refine g_tsIn (pc := 17) (off := 38) (tgt := 55) C dX0_run_17 (by decide) (by decide) (by decide) (by decide) ?_
    refine g_aload_n (pc := 55) C dX0_run_55 0 rfl ?_
    refine g_aload_n (pc := 56) C dX0_run_56 0 rfl ?_
    refine g_get (pc := 57) (T := TX0) (N := 5) (v := .int 5) C ib_X0 0 rfl rfl 3 (by decide) mf_X0_22 rfl rfl rfl dX0_run_57 ?_
    refine g_iload (pc := 60) C dX0_run_60 5 rfl ?_
    refine g_wrVI (pc := 62) (rest := []) (wr := []) C (fun _ => wA G h a (rnK kp 0 (lnL 5)) (nI (0 + 3)) m 5 ka) rfl k_X0_leansFrom (c_leans_5_5 l G h a kp 0 m ka x (by first | assumption | omega)) ml_X0_32 rfl ⟨Nat.le_of_ble_eq_true rfl, Nat.le_of_ble_eq_true rfl⟩ rfl [0, 1] [] [0, 1] rfl (by decide) rfl (by decide) (by decide) (by decide) (fun _ => rfl) 0 rfl rfl rfl rfl (Nat.le_of_ble_eq_true rfl) ⟨by decide, by decide⟩ dX0_run_62 (fun r62 _ e62 => ?_)
    subst e62
    exact g_retIW (pc := 65) C rfl rfl () (rfl) (by simp [acV, *]) (by have e9 : acL 5 act = lnL 5 := (by simp [acL, *]); rw [e9]; rfl) dX0_run_65
  by_cases h17_2 : act = 2
  · refine g_top (z := 2) h17_2 ?_
    refine g_tsIn (pc := 17) (off := 49) (tgt := 66) C dX0_run_17 (by decide) (by decide) (by decide) (by decide) ?_
    refine g_aload_n (pc := 66) C dX0_run_66 0 rfl ?_
    refine g_aload_n (pc := 67) C dX0_run_67 0 rfl ?_
    refine g_get (pc := 68) (T := TX0) (N := 5) (v := .int 5) C ib_X0 0 rfl rfl 3 (by decide) mf_X0_22 rfl rfl rfl dX0_run_68 ?_
    refine g_iload (pc := 71) C dX0_run_71 5 rfl ?_
    refine g_wrVI (pc := 73) (rest := []) (wr := []) C (fun _ => wA G h a (rnK kp 0 (smL 5)) (nI (0 + 6)) m 5 ka) rfl k_X0_sumsFrom (c_sums_5_5 l G h a kp 0 m ka x (by first | assumption | omega)) ml_X0_35 rfl ⟨Nat.le_of_ble_eq_true rfl, Nat.le_of_ble_eq_true rfl⟩ rfl [0, 1] [] [0, 1] rfl (by decide) rfl (by decide) (by decide) (by decide) (fun _ => rfl) 0 rfl rfl rfl rfl (Nat.le_of_ble_eq_true rfl) ⟨by decide, by decide⟩ dX0_run_73 (fun r73 _ e73 => ?_)
    subst e73
    exact g_retIW (pc := 76) C rfl rfl () (rfl) (by simp [acV, *]) (by have e9 : acL 5 act = smL 5 := (by simp [acL, *]); rw [e9]; rfl) dX0_run_76
  refine g_tsOut (pc := 17) (tgt := 77) C dX0_run_17 (by have a0 := lv_neT h17_0 (a := 0) rfl; have a1 := lv_neT h17_1 (a := 1) rfl; have a2 := lv_neT h17_2 (a := 2) rfl; omega) (by decide) ?_
  refine g_iconst (pc := 77) (v := 0) C dX0_run_77 (by decide) ?_
  exact g_retIW (pc := 78) C rfl rfl () (rfl) (by simp [acV, *]) (by have e9 : acL 5 act = [] := (by simp [acL, *]); rw [e9]; rfl) dX0_run_78
set_option maxRecDepth 20000 in
set_option maxHeartbeats 4000000 in
theorem c_run_6 (l : Launch) (G : gT) (h : Nat) (a : Nat) (kp : Nat → Int32) (nm : Int32) (kd : Int32) (aa : Int32) (m : Int32) (ka : Int32) (act : Int32) (x : Int32) : WI l yX0_run cX0_run 6 (some .int) 8 0 0 G [.ref h, .int m, .int 6, .int ka, .int act, .int x] (wA G h a kp 0 nm kd aa) (S := Unit) (fun r _ => r = acV 6 act m ka x) (fun _ => wA G h a (rnK kp 0 (acL 6 act)) (nI (acL 6 act).length) m 6 ka) := by
  intro sz9
  refine start_W (by decide) (Nat.le_of_ble_eq_true rfl) (fun p9 e9 s9 m9 a9 b9 t9 c9 C => ?_)
  refine g_lv (lv' := [(0, .ref h), (1, .int m), (2, .int 6), (3, .int ka), (4, .int act), (5, .int x)]) rfl ?_
  refine g_aload_n (pc := 0) C dX0_run_0 0 rfl ?_
  refine g_iload_n (pc := 1) C dX0_run_1 1 rfl ?_
  refine g_put (pc := 2) (T := TX0) (N := 5) (ty := .int) (ws' := [oC h 0 [.ref a, .int 0, .int m, .int kd, .int aa], iC G a 20 kp]) C rfl ib_X0 tyX0 tyX0_ok nmX0 0 rfl rfl 2 (by decide) mf_X0_19 rfl rfl rfl (by decide +kernel) rfl rfl (Nat.le_of_ble_eq_true rfl) dX0_run_2 rfl ?_
  refine g_aload_n (pc := 5) C dX0_run_5 0 rfl ?_
  refine g_iload_n (pc := 6) C dX0_run_6 2 rfl ?_
  refine g_put (pc := 7) (T := TX0) (N := 5) (ty := .int) (ws' := [oC h 0 [.ref a, .int 0, .int m, .int 6, .int aa], iC G a 20 kp]) C rfl ib_X0 tyX0 tyX0_ok nmX0 0 rfl rfl 3 (by decide) mf_X0_22 rfl rfl rfl (by decide +kernel) rfl rfl (Nat.le_of_ble_eq_true rfl) dX0_run_7 rfl ?_
  refine g_aload_n (pc := 10) C dX0_run_10 0 rfl ?_
  refine g_iload_n (pc := 11) C dX0_run_11 3 rfl ?_
  refine g_put (pc := 12) (T := TX0) (N := 5) (ty := .int) (ws' := [oC h 0 [.ref a, .int 0, .int m, .int 6, .int ka], iC G a 20 kp]) C rfl ib_X0 tyX0 tyX0_ok nmX0 0 rfl rfl 4 (by decide) mf_X0_25 rfl rfl rfl (by decide +kernel) rfl rfl (Nat.le_of_ble_eq_true rfl) dX0_run_12 rfl ?_
  refine g_iload (pc := 15) C dX0_run_15 4 rfl ?_
  by_cases h17_0 : act = 0
  · refine g_top (z := 0) h17_0 ?_
    refine g_tsIn (pc := 17) (off := 27) (tgt := 44) C dX0_run_17 (by decide) (by decide) (by decide) (by decide) ?_
    refine g_aload_n (pc := 44) C dX0_run_44 0 rfl ?_
    refine g_aload_n (pc := 45) C dX0_run_45 0 rfl ?_
    refine g_get (pc := 46) (T := TX0) (N := 5) (v := .int 6) C ib_X0 0 rfl rfl 3 (by decide) mf_X0_22 rfl rfl rfl dX0_run_46 ?_
    refine g_iload (pc := 49) C dX0_run_49 5 rfl ?_
    refine g_wrVI (pc := 51) (rest := []) (wr := []) C (fun _ => wA G h a (rnK kp 0 (akL 6)) (nI (0 + 3)) m 6 ka) rfl k_X0_asksFrom (c_asks_6 l G h a kp 0 m 6 ka x (by first | assumption | omega)) ml_X0_28 rfl ⟨Nat.le_of_ble_eq_true rfl, Nat.le_of_ble_eq_true rfl⟩ rfl [0, 1] [] [0, 1] rfl (by decide) rfl (by decide) (by decide) (by decide) (fun _ => rfl) 0 rfl rfl rfl rfl (Nat.le_of_ble_eq_true rfl) ⟨by decide, by decide⟩ dX0_run_51 (fun r51 _ e51 => ?_)
    subst e51
    exact g_retIW (pc := 54) C rfl rfl () (rfl) (by simp [acV, *]) (by have e9 : acL 6 act = akL 6 := (by simp [acL, *]); rw [e9]; rfl) dX0_run_54
  by_cases h17_1 : act = 1
  · refine g_top (z := 1) h17_1 ?_
    refine g_tsIn (pc := 17) (off := 38) (tgt := 55) C dX0_run_17 (by decide) (by decide) (by decide) (by decide) ?_
    refine g_aload_n (pc := 55) C dX0_run_55 0 rfl ?_
    refine g_aload_n (pc := 56) C dX0_run_56 0 rfl ?_
    refine g_get (pc := 57) (T := TX0) (N := 5) (v := .int 6) C ib_X0 0 rfl rfl 3 (by decide) mf_X0_22 rfl rfl rfl dX0_run_57 ?_
    refine g_iload (pc := 60) C dX0_run_60 5 rfl ?_
    refine g_wrVI (pc := 62) (rest := []) (wr := []) C (fun _ => wA G h a (rnK kp 0 (lnL 6)) (nI (0 + 5)) m 6 ka) rfl k_X0_leansFrom (c_leans_6_6 l G h a kp 0 m ka x (by first | assumption | omega)) ml_X0_32 rfl ⟨Nat.le_of_ble_eq_true rfl, Nat.le_of_ble_eq_true rfl⟩ rfl [0, 1] [] [0, 1] rfl (by decide) rfl (by decide) (by decide) (by decide) (fun _ => rfl) 0 rfl rfl rfl rfl (Nat.le_of_ble_eq_true rfl) ⟨by decide, by decide⟩ dX0_run_62 (fun r62 _ e62 => ?_)
    subst e62
    exact g_retIW (pc := 65) C rfl rfl () (rfl) (by simp [acV, *]) (by have e9 : acL 6 act = lnL 6 := (by simp [acL, *]); rw [e9]; rfl) dX0_run_65
  by_cases h17_2 : act = 2
  · refine g_top (z := 2) h17_2 ?_
    refine g_tsIn (pc := 17) (off := 49) (tgt := 66) C dX0_run_17 (by decide) (by decide) (by decide) (by decide) ?_
    refine g_aload_n (pc := 66) C dX0_run_66 0 rfl ?_
    refine g_aload_n (pc := 67) C dX0_run_67 0 rfl ?_
    refine g_get (pc := 68) (T := TX0) (N := 5) (v := .int 6) C ib_X0 0 rfl rfl 3 (by decide) mf_X0_22 rfl rfl rfl dX0_run_68 ?_
    refine g_iload (pc := 71) C dX0_run_71 5 rfl ?_
    refine g_wrVI (pc := 73) (rest := []) (wr := []) C (fun _ => wA G h a (rnK kp 0 (smL 6)) (nI (0 + 10)) m 6 ka) rfl k_X0_sumsFrom (c_sums_6_6 l G h a kp 0 m ka x (by first | assumption | omega)) ml_X0_35 rfl ⟨Nat.le_of_ble_eq_true rfl, Nat.le_of_ble_eq_true rfl⟩ rfl [0, 1] [] [0, 1] rfl (by decide) rfl (by decide) (by decide) (by decide) (fun _ => rfl) 0 rfl rfl rfl rfl (Nat.le_of_ble_eq_true rfl) ⟨by decide, by decide⟩ dX0_run_73 (fun r73 _ e73 => ?_)
    subst e73
    exact g_retIW (pc := 76) C rfl rfl () (rfl) (by simp [acV, *]) (by have e9 : acL 6 act = smL 6 := (by simp [acL, *]); rw [e9]; rfl) dX0_run_76
  refine g_tsOut (pc := 17) (tgt := 77) C dX0_run_17 (by have a0 := lv_neT h17_0 (a := 0) rfl; have a1 := lv_neT h17_1 (a := 1) rfl; have a2 := lv_neT h17_2 (a := 2) rfl; omega) (by decide) ?_
  refine g_iconst (pc := 77) (v := 0) C dX0_run_77 (by decide) ?_
  exact g_retIW (pc := 78) C rfl rfl () (rfl) (by simp [acV, *]) (by have e9 : acL 6 act = [] := (by simp [acL, *]); rw [e9]; rfl) dX0_run_78
theorem c_X0_run (l : Launch) (G : gT) (h : Nat) (a : Nat) (kp : Nat → Int32) (nm : Int32) (kd : Int32) (aa : Int32) (m : Int32) (k : Nat) (ka : Int32) (act : Int32) (x : Int32) (hk : k ≤ 6) : WI l yX0_run cX0_run 6 (some .int) 8 0 0 G [.ref h, .int m, .int (nI k), .int ka, .int act, .int x] (wA G h a kp 0 nm kd aa) (S := Unit) (fun r _ => r = acV k act m ka x) (fun _ => wA G h a (rnK kp 0 (acL k act)) (nI (acL k act).length) m (nI k) ka) := by
  rcases (show k = 0 ∨ k = 1 ∨ k = 2 ∨ k = 3 ∨ k = 4 ∨ k = 5 ∨ k = 6 from by omega) with rfl | rfl | rfl | rfl | rfl | rfl | rfl
  · exact c_run_0 l G h a kp nm kd aa m ka act x
  · exact c_run_1 l G h a kp nm kd aa m ka act x
  · exact c_run_2 l G h a kp nm kd aa m ka act x
  · exact c_run_3 l G h a kp nm kd aa m ka act x
  · exact c_run_4 l G h a kp nm kd aa m ka act x
  · exact c_run_5 l G h a kp nm kd aa m ka act x
  · exact c_run_6 l G h a kp nm kd aa m ka act x
def trV (kp : Nat → Int32) (b : Nat) (i : Int32) : Int32 := if 0 ≤ i ∧ i < nI b ∧ i < 20 then kp (nx i) else -1
theorem trace_min {b : Nat} (hb : b < 1000) : ∃ k, mMin (nI b) 20 = nI k ∧ k ≤ b ∧ k ≤ 20 ∧ (k = b ∨ k = 20) := by
  unfold mMin
  by_cases h : (20 : Int32) < nI b
  · rw [if_pos h]; exact ⟨20, rfl, Nat.le_of_lt ((nI_ltI (a := 20) (by decide) (by omega)).mp h), Nat.le_refl _, Or.inr rfl⟩
  · rw [if_neg h]; exact ⟨b, rfl, Nat.le_refl _, Nat.not_lt.mp (fun q => h ((nI_ltI (a := 20) (by decide) (by omega)).mpr q)), Or.inl rfl⟩
theorem trace_in {b : Nat} (hb : b < 1000) {i : Int32} (h : 0 ≤ i ∧ i ≤ mMin (nI b) 20 - 1) : 0 ≤ i ∧ i < nI b ∧ i < 20 := by
  obtain ⟨k, e, h1, h2, -⟩ := trace_min hb
  rw [e] at h
  obtain ⟨j, hj, rfl⟩ := (lt_Q (by omega)).mp h
  exact ⟨h.1, nI_lt (by omega) (by omega), nI_lt (b := 20) (by omega) (by decide)⟩
theorem trace_out {b : Nat} (hb : b < 1000) {i : Int32} (h : 0 ≤ i ∧ i < nI b ∧ i < 20) : 0 ≤ i ∧ i ≤ mMin (nI b) 20 - 1 := by
  obtain ⟨k, e, h1, h2, h3⟩ := trace_min hb
  obtain ⟨j, hj, rfl⟩ := nI_of2 (M := 20) (n := 20) rfl (Int32.not_lt.mpr h.1) (Int32.le_of_lt h.2.2)
  have a1 := (nI_ltI (by omega) (by omega)).mp h.2.1
  have a2 := (nI_ltI (b := 20) (by omega) (by decide)).mp h.2.2
  rw [e]
  exact (lt_Q (by omega)).mpr ⟨j, by omega, rfl⟩
set_option maxRecDepth 20000 in
set_option maxHeartbeats 4000000 in
theorem c_X0_traceAt (l : Launch) (G : gT) (h : Nat) (a : Nat) (kp : Nat → Int32) (b : Nat) (nm : Int32) (kd : Int32) (aa : Int32) (i : Int32) (hb : b < 1000) : RI l yX0_traceAt cX0_traceAt 2 (some .int) 1 G [.ref h, .int i] (wA G h a kp (nI b) nm kd aa) (trV kp b i) := by
  refine start_R (by decide) (Nat.le_of_ble_eq_true rfl) (fun p9 e9 s9 m9 a9 b9 t9 c9 C => ?_)
  refine g_lv (lv' := [(0, .ref h), (1, .int i)]) rfl ?_
  refine g_iload_n (pc := 0) C dX0_traceAt_0 1 rfl ?_
  refine g_iconst (pc := 1) (v := 0) C dX0_traceAt_1 (by decide) ?_
  refine g_aload_n (pc := 2) C dX0_traceAt_2 0 rfl ?_
  refine g_get (pc := 3) (T := TX0) (N := 5) (v := .int (nI b)) C ib_X0 0 rfl rfl 1 (by decide) mf_X0_15 rfl rfl rfl dX0_traceAt_3 ?_
  refine g_bipush (pc := 6) (v := 20) C dX0_traceAt_6 (by decide) ?_
  refine g_mmin (pc := 8) (v := mMin (nI b) 20) C ml_X0_38 rfl ⟨Nat.le_of_ble_eq_true rfl, Nat.le_of_ble_eq_true rfl⟩ ⟨by decide, by decide⟩ rfl dX0_traceAt_8 ?_
  refine g_iconst (pc := 11) (v := 1) C dX0_traceAt_11 (by decide) ?_
  refine g_isub (pc := 12) C dX0_traceAt_12 ?_
  refine g_rdSNI (pc := 13) (val := bI (0 ≤ i ∧ i ≤ ((mMin (nI b) 20) - 1))) (rest := []) C k_X6_isWithin (c_X6_isWithin l G i 0 ((mMin (nI b) 20) - 1)) (List.mem_of_getElem? (i := 14) rfl) rfl ⟨Nat.le_of_ble_eq_true rfl, Nat.le_of_ble_eq_true rfl⟩ rfl [] rfl rfl (Nat.le_of_ble_eq_true rfl) ⟨by decide, by decide⟩ dX0_traceAt_13 ?_
  refine g_ifb_eq (pc := 16) (tgt := 28) C dX0_traceAt_16 (by decide) (fun h16 => ?_) (fun h16 => ?_)
  · refine g_iconst (pc := 28) (v := (-1)) C dX0_traceAt_28 (by decide) ?_
    exact g_retIR (pc := 29) C (rfl) (by rw [trV, if_neg (fun q => h16 (trace_out hb q))]) dX0_traceAt_29
  · have e19 : 0 ≤ i ∧ i < nI b ∧ i < 20 := trace_in hb h16
    obtain ⟨j9, hj9, rfl⟩ := nI_of2 (M := 20) (n := 20) rfl (Int32.not_lt.mpr e19.1) (Int32.le_of_lt e19.2.2)
    have hj20 : j9 < 20 := (nI_ltI (by omega) (by decide)).mp e19.2.2
    refine g_aload_n (pc := 19) C dX0_traceAt_19 0 rfl ?_
    refine g_get (pc := 20) (T := TX0) (N := 5) (v := .ref a) C ib_X0 0 rfl rfl 0 (by decide) mf_X0_11 rfl rfl rfl dX0_traceAt_20 ?_
    refine g_iload_n (pc := 23) C dX0_traceAt_23 1 rfl ?_
    refine g_iald (pc := 24) (v := kp j9) C 1 rfl j9 (rfl) ⟨by omega, by decide⟩ (rfl) dX0_traceAt_24 ?_
    refine g_goto (pc := 25) (tgt := 29) C dX0_traceAt_25 (by decide) ?_
    exact g_retIR (pc := 29) C (rfl) (by rw [trV, if_pos e19, nx_nI (by omega)]) dX0_traceAt_29
