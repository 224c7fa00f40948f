theorem beS_3 (lt : Nat → Int32) (n : Nat) (ν : tT) (z : Nat × Int32) : beS lt n ν z 3 = if nuV lt n (beS lt n ν z 1) = nuV lt n z then ftS (beS lt n ν z 2) (nI ((beS lt n ν z 1).1 + 1)) else beS lt n ν z 2 := rfl
set_option maxRecDepth 20000 in
set_option maxHeartbeats 4000000 in
theorem c_X4_readGroup (l : Launch) (G : gT) (tx : Nat) (al : Nat) (dr : Nat) (n : Nat) (z : Nat × Int32) (lt : Nat → Int32) (da : Nat) (db : Nat) (dc : Nat) (ν : tT) (hT : TI ν) (hz : z.1 ≤ n) (hn : n ≤ 160) : WV l yX4_readGroup cX4_readGroup 7 (none) 5 0 0 G [.ref tx] (wP G tx al dr n z lt ++ (wT G dr da db dc ν)) (S := Unit) (fun _ => True) (fun _ => wP G tx al dr n (grS lt n ν z 5) lt ++ (wT G dr da db dc (grT lt n ν z))) := by
  have hg9 := fun k => grZ_le (lt := lt) (ν := ν) hz k
  intro sz9
  refine start_W (by decide) (Nat.le_of_ble_eq_true rfl) (fun p9 e9 s9 m9 a9 b9 t9 c9 C => ?_)
  refine g_lv (lv' := [(0, .ref tx)]) rfl ?_
  refine g_aload_n (pc := 0) C dX4_readGroup_0 0 rfl ?_
  refine g_get (pc := 1) (T := TX4) (N := 5) (v := .int (nI z.1)) C ib_X4 0 rfl rfl 4 (by decide) mf_X4_33 rfl rfl rfl dX4_readGroup_1 ?_
  refine g_istore_n (pc := 4) (lv' := [(1, .int (nI z.1)), (0, .ref tx)]) C dX4_readGroup_4 rfl (by decide) rfl ?_
  refine g_aload_n (pc := 5) C dX4_readGroup_5 1 rfl ?_
  refine g_ldcS (pc := 6) (q := 0) C dX4_readGroup_6 (List.mem_of_getElem? (i := 0) rfl) rfl rfl ?_
  refine g_wrVV (pc := 8) (rest := []) (wr := [oC dr 3 [.ref da, .ref db, .ref dc, .int (ν 8 0), .int (ν 8 1), .int (ν 8 2), .int (ν 8 3), .int (ν 8 4), .int (ν 8 5), .int (ν 8 6)], iC G da 16 (fq ν), iC G db 64 (ν 2), iC G dc 50 (fg ν)]) C (fun _ => wP G tx al dr n (rwS lt n 0 z (kwn 0)) lt ++ (wT G dr da db dc ν)) rfl k_X4_readWord (c_X4_readWord l G tx al dr n z lt 0 (by first | assumption | omega | exact hg9 _) (by first | assumption | omega | exact hg9 _) (by first | assumption | omega | exact hg9 _)) ml_X4_55 rfl ⟨Nat.le_of_ble_eq_true rfl, Nat.le_of_ble_eq_true rfl⟩ rfl [0, 1] [2, 3, 4, 5] [4, 5, 0, 1, 2, 3] rfl (by decide) rfl (by decide) (by decide) (by decide) (fun _ => rfl) 0 rfl rfl rfl rfl (Nat.le_of_ble_eq_true rfl) ⟨by decide, by decide⟩ dX4_readGroup_8 (fun _ _ => ?_)
  refine g_aload_n (pc := 11) C dX4_readGroup_11 1 rfl ?_
  refine g_get (pc := 12) (T := TX4) (N := 5) (v := .ref dr) C ib_X4 0 rfl rfl 1 (by decide) mf_X4_18 rfl rfl rfl dX4_readGroup_12 ?_
  refine g_rdVI (pc := 15) (val := bI (tG ν < 10)) (rest := []) C k_X3_hasRoomForGroup (c_X3_hasRoomForGroup l G dr da db dc ν (by first | assumption | omega | exact hg9 _)) ml_X4_82 rfl ⟨Nat.le_of_ble_eq_true rfl, Nat.le_of_ble_eq_true rfl⟩ rfl [2, 3, 4, 5] rfl 2 rfl rfl rfl rfl (Nat.le_of_ble_eq_true rfl) ⟨by decide, by decide⟩ dX4_readGroup_15 ?_
  refine g_ifb_ne (pc := 18) (tgt := 26) C dX4_readGroup_18 (by decide) (fun h18 => ?_) (fun h18 => ?_)
  · refine g_ws (ws' := wP G tx al dr n (grS lt n ν z 0) lt ++ (wT G dr da db dc ν)) (by rw [grS, grZ, if_pos h18]) ?_
    refine g_aload_n (pc := 26) C dX4_readGroup_26 1 rfl ?_
    refine g_iconst (pc := 27) (v := 1) C dX4_readGroup_27 (by decide) ?_
    refine g_sipush (pc := 28) (v := 999) C dX4_readGroup_28 (by decide) ?_
    refine g_wrVI (pc := 31) (rest := []) (wr := [oC dr 3 [.ref da, .ref db, .ref dc, .int (ν 8 0), .int (ν 8 1), .int (ν 8 2), .int (ν 8 3), .int (ν 8 4), .int (ν 8 5), .int (ν 8 6)], iC G da 16 (fq ν), iC G db 64 (ν 2), iC G dc 50 (fg ν)]) C (fun _ => wP G tx al dr n (nuS lt n 1 999 (grS lt n ν z 0)) lt ++ (wT G dr da db dc ν)) rfl k_X4_readNumber (c_X4_readNumber l G tx al dr n (grS lt n ν z 0) lt 1 999 (by first | assumption | omega | exact hg9 _) (by first | assumption | omega | exact hg9 _)) ml_X4_67 rfl ⟨Nat.le_of_ble_eq_true rfl, Nat.le_of_ble_eq_true rfl⟩ rfl [0, 1] [2, 3, 4, 5] [4, 5, 0, 1, 2, 3] rfl (by decide) rfl (by decide) (by decide) (by decide) (fun _ => rfl) 0 rfl rfl rfl rfl (Nat.le_of_ble_eq_true rfl) ⟨by decide, by decide⟩ dX4_readGroup_31 (fun r31 _ e31 => ?_)
    subst e31
    refine g_ws (ws' := wP G tx al dr n (grS lt n ν z 1) lt ++ (wT G dr da db dc ν)) (rfl) ?_
    refine g_istore_n (pc := 34) (lv' := [(2, .int (nuV lt n (grS lt n ν z 0))), (1, .int (nI z.1)), (0, .ref tx)]) C dX4_readGroup_34 rfl (by decide) rfl ?_
    refine g_aload_n (pc := 35) C dX4_readGroup_35 2 rfl ?_
    refine g_iconst (pc := 36) (v := 0) C dX4_readGroup_36 (by decide) ?_
    refine g_iconst (pc := 37) (v := 2) C dX4_readGroup_37 (by decide) ?_
    refine g_wrVI (pc := 38) (rest := []) (wr := [oC dr 3 [.ref da, .ref db, .ref dc, .int (ν 8 0), .int (ν 8 1), .int (ν 8 2), .int (ν 8 3), .int (ν 8 4), .int (ν 8 5), .int (ν 8 6)], iC G da 16 (fq ν), iC G db 64 (ν 2), iC G dc 50 (fg ν)]) C (fun _ => wP G tx al dr n (nuS lt n 0 2 (grS lt n ν z 1)) lt ++ (wT G dr da db dc ν)) rfl k_X4_readNumber (c_X4_readNumber l G tx al dr n (grS lt n ν z 1) lt 0 2 (by first | assumption | omega | exact hg9 _) (by first | assumption | omega | exact hg9 _)) ml_X4_67 rfl ⟨Nat.le_of_ble_eq_true rfl, Nat.le_of_ble_eq_true rfl⟩ rfl [0, 1] [2, 3, 4, 5] [4, 5, 0, 1, 2, 3] rfl (by decide) rfl (by decide) (by decide) (by decide) (fun _ => rfl) 0 rfl rfl rfl rfl (Nat.le_of_ble_eq_true rfl) ⟨by decide, by decide⟩ dX4_readGroup_38 (fun r38 _ e38 => ?_)
    subst e38
    refine g_ws (ws' := wP G tx al dr n (grS lt n ν z 2) lt ++ (wT G dr da db dc ν)) (rfl) ?_
    refine g_istore_n (pc := 41) (lv' := [(3, .int (nuV lt n (grS lt n ν z 1))), (2, .int (nuV lt n (grS lt n ν z 0))), (1, .int (nI z.1)), (0, .ref tx)]) C dX4_readGroup_41 rfl (by decide) rfl ?_
    refine g_aload_n (pc := 42) C dX4_readGroup_42 3 rfl ?_
    refine g_iconst (pc := 43) (v := 0) C dX4_readGroup_43 (by decide) ?_
    refine g_bipush (pc := 44) (v := 10) C dX4_readGroup_44 (by decide) ?_
    refine g_wrVI (pc := 46) (rest := []) (wr := [oC dr 3 [.ref da, .ref db, .ref dc, .int (ν 8 0), .int (ν 8 1), .int (ν 8 2), .int (ν 8 3), .int (ν 8 4), .int (ν 8 5), .int (ν 8 6)], iC G da 16 (fq ν), iC G db 64 (ν 2), iC G dc 50 (fg ν)]) C (fun _ => wP G tx al dr n (nuS lt n 0 10 (grS lt n ν z 2)) lt ++ (wT G dr da db dc ν)) rfl k_X4_readNumber (c_X4_readNumber l G tx al dr n (grS lt n ν z 2) lt 0 10 (by first | assumption | omega | exact hg9 _) (by first | assumption | omega | exact hg9 _)) ml_X4_67 rfl ⟨Nat.le_of_ble_eq_true rfl, Nat.le_of_ble_eq_true rfl⟩ rfl [0, 1] [2, 3, 4, 5] [4, 5, 0, 1, 2, 3] rfl (by decide) rfl (by decide) (by decide) (by decide) (fun _ => rfl) 0 rfl rfl rfl rfl (Nat.le_of_ble_eq_true rfl) ⟨by decide, by decide⟩ dX4_readGroup_46 (fun r46 _ e46 => ?_)
    subst e46
    refine g_ws (ws' := wP G tx al dr n (grS lt n ν z 3) lt ++ (wT G dr da db dc ν)) (rfl) ?_
    refine g_istore (pc := 49) (lv' := [(4, .int (nuV lt n (grS lt n ν z 2))), (3, .int (nuV lt n (grS lt n ν z 1))), (2, .int (nuV lt n (grS lt n ν z 0))), (1, .int (nI z.1)), (0, .ref tx)]) C dX4_readGroup_49 (by decide) rfl ?_
    refine g_aload_n (pc := 51) C dX4_readGroup_51 4 rfl ?_
    refine g_iconst (pc := 52) (v := 0) C dX4_readGroup_52 (by decide) ?_
    refine g_bipush (pc := 53) (v := 10) C dX4_readGroup_53 (by decide) ?_
    refine g_wrVI (pc := 55) (rest := []) (wr := [oC dr 3 [.ref da, .ref db, .ref dc, .int (ν 8 0), .int (ν 8 1), .int (ν 8 2), .int (ν 8 3), .int (ν 8 4), .int (ν 8 5), .int (ν 8 6)], iC G da 16 (fq ν), iC G db 64 (ν 2), iC G dc 50 (fg ν)]) C (fun _ => wP G tx al dr n (nuS lt n 0 10 (grS lt n ν z 3)) lt ++ (wT G dr da db dc ν)) rfl k_X4_readNumber (c_X4_readNumber l G tx al dr n (grS lt n ν z 3) lt 0 10 (by first | assumption | omega | exact hg9 _) (by first | assumption | omega | exact hg9 _)) ml_X4_67 rfl ⟨Nat.le_of_ble_eq_true rfl, Nat.le_of_ble_eq_true rfl⟩ rfl [0, 1] [2, 3, 4, 5] [4, 5, 0, 1, 2, 3] rfl (by decide) rfl (by decide) (by decide) (by decide) (fun _ => rfl) 0 rfl rfl rfl rfl (Nat.le_of_ble_eq_true rfl) ⟨by decide, by decide⟩ dX4_readGroup_55 (fun r55 _ e55 => ?_)
    subst e55
    refine g_ws (ws' := wP G tx al dr n (grS lt n ν z 4) lt ++ (wT G dr da db dc ν)) (rfl) ?_
    refine g_istore (pc := 58) (lv' := [(5, .int (nuV lt n (grS lt n ν z 3))), (4, .int (nuV lt n (grS lt n ν z 2))), (3, .int (nuV lt n (grS lt n ν z 1))), (2, .int (nuV lt n (grS lt n ν z 0))), (1, .int (nI z.1)), (0, .ref tx)]) C dX4_readGroup_58 (by decide) rfl ?_
    refine g_aload_n (pc := 60) C dX4_readGroup_60 5 rfl ?_
    refine g_iconst (pc := 61) (v := 0) C dX4_readGroup_61 (by decide) ?_
    refine g_bipush (pc := 62) (v := 10) C dX4_readGroup_62 (by decide) ?_
    refine g_wrVI (pc := 64) (rest := []) (wr := [oC dr 3 [.ref da, .ref db, .ref dc, .int (ν 8 0), .int (ν 8 1), .int (ν 8 2), .int (ν 8 3), .int (ν 8 4), .int (ν 8 5), .int (ν 8 6)], iC G da 16 (fq ν), iC G db 64 (ν 2), iC G dc 50 (fg ν)]) C (fun _ => wP G tx al dr n (nuS lt n 0 10 (grS lt n ν z 4)) lt ++ (wT G dr da db dc ν)) rfl k_X4_readNumber (c_X4_readNumber l G tx al dr n (grS lt n ν z 4) lt 0 10 (by first | assumption | omega | exact hg9 _) (by first | assumption | omega | exact hg9 _)) ml_X4_67 rfl ⟨Nat.le_of_ble_eq_true rfl, Nat.le_of_ble_eq_true rfl⟩ rfl [0, 1] [2, 3, 4, 5] [4, 5, 0, 1, 2, 3] rfl (by decide) rfl (by decide) (by decide) (by decide) (fun _ => rfl) 0 rfl rfl rfl rfl (Nat.le_of_ble_eq_true rfl) ⟨by decide, by decide⟩ dX4_readGroup_64 (fun r64 _ e64 => ?_)
    subst e64
    refine g_ws (ws' := wP G tx al dr n (grS lt n ν z 5) lt ++ (wT G dr da db dc ν)) (rfl) ?_
    refine g_istore (pc := 67) (lv' := [(6, .int (nuV lt n (grS lt n ν z 4))), (5, .int (nuV lt n (grS lt n ν z 3))), (4, .int (nuV lt n (grS lt n ν z 2))), (3, .int (nuV lt n (grS lt n ν z 1))), (2, .int (nuV lt n (grS lt n ν z 0))), (1, .int (nI z.1)), (0, .ref tx)]) C dX4_readGroup_67 (by decide) rfl ?_
    refine g_aload_n (pc := 69) C dX4_readGroup_69 6 rfl ?_
    refine g_get (pc := 70) (T := TX4) (N := 5) (v := .int ((grS lt n ν z 5).2)) C ib_X4 0 rfl rfl 2 (by decide) mf_X4_22 rfl rfl rfl dX4_readGroup_70 ?_
    refine g_iconst (pc := 73) (v := (-1)) C dX4_readGroup_73 (by decide) ?_
    refine g_icmp_ne (pc := 74) (tgt := 93) C dX4_readGroup_74 (by decide) (fun h74 => ?_) (fun h74 => ?_)
    · exact g_retVW (pc := 93) C rfl rfl () trivial (by rw [grT, if_neg h74]) dX4_readGroup_93
    · refine g_aload_n (pc := 77) C dX4_readGroup_77 6 rfl ?_
      refine g_get (pc := 78) (T := TX4) (N := 5) (v := .ref dr) C ib_X4 0 rfl rfl 1 (by decide) mf_X4_18 rfl rfl rfl dX4_readGroup_78 ?_
      refine g_iload_n (pc := 81) C dX4_readGroup_81 4 rfl ?_
      refine g_iload_n (pc := 82) C dX4_readGroup_82 3 rfl ?_
      refine g_iload (pc := 83) C dX4_readGroup_83 2 rfl ?_
      refine g_iload (pc := 85) C dX4_readGroup_85 1 rfl ?_
      refine g_iload (pc := 87) C dX4_readGroup_87 0 rfl ?_
      refine g_wrVI (pc := 89) (rest := []) (wr := [oC tx 4 [.ref al, .ref dr, .int ((grS lt n ν z 5).2), .int (nI n), .int (nI ((grS lt n ν z 5).1))], iC G al 160 lt]) C (fun _ => wP G tx al dr n (grS lt n ν z 5) lt ++ (wT G dr da db dc (aGr ν (nuV lt n (grS lt n ν z 0)) (nuV lt n (grS lt n ν z 1)) (nuV lt n (grS lt n ν z 2)) (nuV lt n (grS lt n ν z 3)) (nuV lt n (grS lt n ν z 4))))) rfl k_X3_addGroup (c_X3_addGroup l G dr da db dc ν (nuV lt n (grS lt n ν z 0)) (nuV lt n (grS lt n ν z 1)) (nuV lt n (grS lt n ν z 2)) (nuV lt n (grS lt n ν z 3)) (nuV lt n (grS lt n ν z 4)) (by first | assumption | omega | exact hg9 _) (grS_ok hn hz h74).1) ml_X4_86 rfl ⟨Nat.le_of_ble_eq_true rfl, Nat.le_of_ble_eq_true rfl⟩ rfl [2, 3, 4, 5] [0, 1] [0, 1, 2, 3, 4, 5] rfl (by decide) rfl (by decide) (by decide) (by decide) (fun _ => rfl) 2 rfl rfl rfl rfl (Nat.le_of_ble_eq_true rfl) ⟨by decide, by decide⟩ dX4_readGroup_89 (fun r89 _ e89 => ?_)
      subst e89
      refine g_pop (pc := 92) C dX4_readGroup_92 rfl ?_
      exact g_retVW (pc := 93) C rfl rfl () trivial (by rw [grT, if_pos h74] <;> rfl) dX4_readGroup_93
  · refine g_aload_n (pc := 21) C dX4_readGroup_21 1 rfl ?_
    refine g_iload_n (pc := 22) C dX4_readGroup_22 0 rfl ?_
    refine g_wrVV (pc := 23) (rest := []) (wr := [oC dr 3 [.ref da, .ref db, .ref dc, .int (ν 8 0), .int (ν 8 1), .int (ν 8 2), .int (ν 8 3), .int (ν 8 4), .int (ν 8 5), .int (ν 8 6)], iC G da 16 (fq ν), iC G db 64 (ν 2), iC G dc 50 (fg ν)]) C (fun _ => wP G tx al dr n (ftS (rwS lt n 0 z (kwn 0)) (nI z.1)) lt ++ (wT G dr da db dc ν)) rfl k_X4_faultAt (c_X4_faultAt l G tx al dr n (rwS lt n 0 z (kwn 0)) lt (nI z.1)) ml_X4_77 rfl ⟨Nat.le_of_ble_eq_true rfl, Nat.le_of_ble_eq_true rfl⟩ rfl [0, 1] [2, 3, 4, 5] [4, 5, 0, 1, 2, 3] rfl (by decide) rfl (by decide) (by decide) (by decide) (fun _ => rfl) 0 rfl rfl rfl rfl (Nat.le_of_ble_eq_true rfl) ⟨by decide, by decide⟩ dX4_readGroup_23 (fun _ _ => ?_)
    refine g_ws (ws' := wP G tx al dr n (grS lt n ν z 0) lt ++ (wT G dr da db dc ν)) (by rw [grS, grZ, if_neg h18]) ?_
    refine g_aload_n (pc := 26) C dX4_readGroup_26 1 rfl ?_
    refine g_iconst (pc := 27) (v := 1) C dX4_readGroup_27 (by decide) ?_
    refine g_sipush (pc := 28) (v := 999) C dX4_readGroup_28 (by decide) ?_
    refine g_wrVI (pc := 31) (rest := []) (wr := [oC dr 3 [.ref da, .ref db, .ref dc, .int (ν 8 0), .int (ν 8 1), .int (ν 8 2), .int (ν 8 3), .int (ν 8 4), .int (ν 8 5), .int (ν 8 6)], iC G da 16 (fq ν), iC G db 64 (ν 2), iC G dc 50 (fg ν)]) C (fun _ => wP G tx al dr n (nuS lt n 1 999 (grS lt n ν z 0)) lt ++ (wT G dr da db dc ν)) rfl k_X4_readNumber (c_X4_readNumber l G tx al dr n (grS lt n ν z 0) lt 1 999 (by first | assumption | omega | exact hg9 _) (by first | assumption | omega | exact hg9 _)) ml_X4_67 rfl ⟨Nat.le_of_ble_eq_true rfl, Nat.le_of_ble_eq_true rfl⟩ rfl [0, 1] [2, 3, 4, 5] [4, 5, 0, 1, 2, 3] rfl (by decide) rfl (by decide) (by decide) (by decide) (fun _ => rfl) 0 rfl rfl rfl rfl (Nat.le_of_ble_eq_true rfl) ⟨by decide, by decide⟩ dX4_readGroup_31 (fun r31 _ e31 => ?_)
    subst e31
    refine g_ws (ws' := wP G tx al dr n (grS lt n ν z 1) lt ++ (wT G dr da db dc ν)) (rfl) ?_
    refine g_istore_n (pc := 34) (lv' := [(2, .int (nuV lt n (grS lt n ν z 0))), (1, .int (nI z.1)), (0, .ref tx)]) C dX4_readGroup_34 rfl (by decide) rfl ?_
    refine g_aload_n (pc := 35) C dX4_readGroup_35 2 rfl ?_
    refine g_iconst (pc := 36) (v := 0) C dX4_readGroup_36 (by decide) ?_
    refine g_iconst (pc := 37) (v := 2) C dX4_readGroup_37 (by decide) ?_
    refine g_wrVI (pc := 38) (rest := []) (wr := [oC dr 3 [.ref da, .ref db, .ref dc, .int (ν 8 0), .int (ν 8 1), .int (ν 8 2), .int (ν 8 3), .int (ν 8 4), .int (ν 8 5), .int (ν 8 6)], iC G da 16 (fq ν), iC G db 64 (ν 2), iC G dc 50 (fg ν)]) C (fun _ => wP G tx al dr n (nuS lt n 0 2 (grS lt n ν z 1)) lt ++ (wT G dr da db dc ν)) rfl k_X4_readNumber (c_X4_readNumber l G tx al dr n (grS lt n ν z 1) lt 0 2 (by first | assumption | omega | exact hg9 _) (by first | assumption | omega | exact hg9 _)) ml_X4_67 rfl ⟨Nat.le_of_ble_eq_true rfl, Nat.le_of_ble_eq_true rfl⟩ rfl [0, 1] [2, 3, 4, 5] [4, 5, 0, 1, 2, 3] rfl (by decide) rfl (by decide) (by decide) (by decide) (fun _ => rfl) 0 rfl rfl rfl rfl (Nat.le_of_ble_eq_true rfl) ⟨by decide, by decide⟩ dX4_readGroup_38 (fun r38 _ e38 => ?_)
    subst e38
    refine g_ws (ws' := wP G tx al dr n (grS lt n ν z 2) lt ++ (wT G dr da db dc ν)) (rfl) ?_
    refine g_istore_n (pc := 41) (lv' := [(3, .int (nuV lt n (grS lt n ν z 1))), (2, .int (nuV lt n (grS lt n ν z 0))), (1, .int (nI z.1)), (0, .ref tx)]) C dX4_readGroup_41 rfl (by decide) rfl ?_
    refine g_aload_n (pc := 42) C dX4_readGroup_42 3 rfl ?_
    refine g_iconst (pc := 43) (v := 0) C dX4_readGroup_43 (by decide) ?_
    refine g_bipush (pc := 44) (v := 10) C dX4_readGroup_44 (by decide) ?_
    refine g_wrVI (pc := 46) (rest := []) (wr := [oC dr 3 [.ref da, .ref db, .ref dc, .int (ν 8 0), .int (ν 8 1), .int (ν 8 2), .int (ν 8 3), .int (ν 8 4), .int (ν 8 5), .int (ν 8 6)], iC G da 16 (fq ν), iC G db 64 (ν 2), iC G dc 50 (fg ν)]) C (fun _ => wP G tx al dr n (nuS lt n 0 10 (grS lt n ν z 2)) lt ++ (wT G dr da db dc ν)) rfl k_X4_readNumber (c_X4_readNumber l G tx al dr n (grS lt n ν z 2) lt 0 10 (by first | assumption | omega | exact hg9 _) (by first | assumption | omega | exact hg9 _)) ml_X4_67 rfl ⟨Nat.le_of_ble_eq_true rfl, Nat.le_of_ble_eq_true rfl⟩ rfl [0, 1] [2, 3, 4, 5] [4, 5, 0, 1, 2, 3] rfl (by decide) rfl (by decide) (by decide) (by decide) (fun _ => rfl) 0 rfl rfl rfl rfl (Nat.le_of_ble_eq_true rfl) ⟨by decide, by decide⟩ dX4_readGroup_46 (fun r46 _ e46 => ?_)
    subst e46
    refine g_ws (ws' := wP G tx al dr n (grS lt n ν z 3) lt ++ (wT G dr da db dc ν)) (rfl) ?_
    refine g_istore (pc := 49) (lv' := [(4, .int (nuV lt n (grS lt n ν z 2))), (3, .int (nuV lt n (grS lt n ν z 1))), (2, .int (nuV lt n (grS lt n ν z 0))), (1, .int (nI z.1)), (0, .ref tx)]) C dX4_readGroup_49 (by decide) rfl ?_
    refine g_aload_n (pc := 51) C dX4_readGroup_51 4 rfl ?_
    refine g_iconst (pc := 52) (v := 0) C dX4_readGroup_52 (by decide) ?_
    refine g_bipush (pc := 53) (v := 10) C dX4_readGroup_53 (by decide) ?_
    refine g_wrVI (pc := 55) (rest := []) (wr := [oC dr 3 [.ref da, .ref db, .ref dc, .int (ν 8 0), .int (ν 8 1), .int (ν 8 2), .int (ν 8 3), .int (ν 8 4), .int (ν 8 5), .int (ν 8 6)], iC G da 16 (fq ν), iC G db 64 (ν 2), iC G dc 50 (fg ν)]) C (fun _ => wP G tx al dr n (nuS lt n 0 10 (grS lt n ν z 3)) lt ++ (wT G dr da db dc ν)) rfl k_X4_readNumber (c_X4_readNumber l G tx al dr n (grS lt n ν z 3) lt 0 10 (by first | assumption | omega | exact hg9 _) (by first | assumption | omega | exact hg9 _)) ml_X4_67 rfl ⟨Nat.le_of_ble_eq_true rfl, Nat.le_of_ble_eq_true rfl⟩ rfl [0, 1] [2, 3, 4, 5] [4, 5, 0, 1, 2, 3] rfl (by decide) rfl (by decide) (by decide) (by decide) (fun _ => rfl) 0 rfl rfl rfl rfl (Nat.le_of_ble_eq_true rfl) ⟨by decide, by decide⟩ dX4_readGroup_55 (fun r55 _ e55 => ?_)
    subst e55
    refine g_ws (ws' := wP G tx al dr n (grS lt n ν z 4) lt ++ (wT G dr da db dc ν)) (rfl) ?_
    refine g_istore (pc := 58) (lv' := [(5, .int (nuV lt n (grS lt n ν z 3))), (4, .int (nuV lt n (grS lt n ν z 2))), (3, .int (nuV lt n (grS lt n ν z 1))), (2, .int (nuV lt n (grS lt n ν z 0))), (1, .int (nI z.1)), (0, .ref tx)]) C dX4_readGroup_58 (by decide) rfl ?_
    refine g_aload_n (pc := 60) C dX4_readGroup_60 5 rfl ?_
    refine g_iconst (pc := 61) (v := 0) C dX4_readGroup_61 (by decide) ?_
    refine g_bipush (pc := 62) (v := 10) C dX4_readGroup_62 (by decide) ?_
    refine g_wrVI (pc := 64) (rest := []) (wr := [oC dr 3 [.ref da, .ref db, .ref dc, .int (ν 8 0), .int (ν 8 1), .int (ν 8 2), .int (ν 8 3), .int (ν 8 4), .int (ν 8 5), .int (ν 8 6)], iC G da 16 (fq ν), iC G db 64 (ν 2), iC G dc 50 (fg ν)]) C (fun _ => wP G tx al dr n (nuS lt n 0 10 (grS lt n ν z 4)) lt ++ (wT G dr da db dc ν)) rfl k_X4_readNumber (c_X4_readNumber l G tx al dr n (grS lt n ν z 4) lt 0 10 (by first | assumption | omega | exact hg9 _) (by first | assumption | omega | exact hg9 _)) ml_X4_67 rfl ⟨Nat.le_of_ble_eq_true rfl, Nat.le_of_ble_eq_true rfl⟩ rfl [0, 1] [2, 3, 4, 5] [4, 5, 0, 1, 2, 3] rfl (by decide) rfl (by decide) (by decide) (by decide) (fun _ => rfl) 0 rfl rfl rfl rfl (Nat.le_of_ble_eq_true rfl) ⟨by decide, by decide⟩ dX4_readGroup_64 (fun r64 _ e64 => ?_)
    subst e64
    refine g_ws (ws' := wP G tx al dr n (grS lt n ν z 5) lt ++ (wT G dr da db dc ν)) (rfl) ?_
    refine g_istore (pc := 67) (lv' := [(6, .int (nuV lt n (grS lt n ν z 4))), (5, .int (nuV lt n (grS lt n ν z 3))), (4, .int (nuV lt n (grS lt n ν z 2))), (3, .int (nuV lt n (grS lt n ν z 1))), (2, .int (nuV lt n (grS lt n ν z 0))), (1, .int (nI z.1)), (0, .ref tx)]) C dX4_readGroup_67 (by decide) rfl ?_
    refine g_aload_n (pc := 69) C dX4_readGroup_69 6 rfl ?_
    refine g_get (pc := 70) (T := TX4) (N := 5) (v := .int ((grS lt n ν z 5).2)) C ib_X4 0 rfl rfl 2 (by decide) mf_X4_22 rfl rfl rfl dX4_readGroup_70 ?_
    refine g_iconst (pc := 73) (v := (-1)) C dX4_readGroup_73 (by decide) ?_
    refine g_icmp_ne (pc := 74) (tgt := 93) C dX4_readGroup_74 (by decide) (fun h74 => ?_) (fun h74 => ?_)
    · exact g_retVW (pc := 93) C rfl rfl () trivial (by rw [grT, if_neg h74]) dX4_readGroup_93
    · refine g_aload_n (pc := 77) C dX4_readGroup_77 6 rfl ?_
      refine g_get (pc := 78) (T := TX4) (N := 5) (v := .ref dr) C ib_X4 0 rfl rfl 1 (by decide) mf_X4_18 rfl rfl rfl dX4_readGroup_78 ?_
      refine g_iload_n (pc := 81) C dX4_readGroup_81 4 rfl ?_
      refine g_iload_n (pc := 82) C dX4_readGroup_82 3 rfl ?_
      refine g_iload (pc := 83) C dX4_readGroup_83 2 rfl ?_
      refine g_iload (pc := 85) C dX4_readGroup_85 1 rfl ?_
      refine g_iload (pc := 87) C dX4_readGroup_87 0 rfl ?_
      refine g_wrVI (pc := 89) (rest := []) (wr := [oC tx 4 [.ref al, .ref dr, .int ((grS lt n ν z 5).2), .int (nI n), .int (nI ((grS lt n ν z 5).1))], iC G al 160 lt]) C (fun _ => wP G tx al dr n (grS lt n ν z 5) lt ++ (wT G dr da db dc (aGr ν (nuV lt n (grS lt n ν z 0)) (nuV lt n (grS lt n ν z 1)) (nuV lt n (grS lt n ν z 2)) (nuV lt n (grS lt n ν z 3)) (nuV lt n (grS lt n ν z 4))))) rfl k_X3_addGroup (c_X3_addGroup l G dr da db dc ν (nuV lt n (grS lt n ν z 0)) (nuV lt n (grS lt n ν z 1)) (nuV lt n (grS lt n ν z 2)) (nuV lt n (grS lt n ν z 3)) (nuV lt n (grS lt n ν z 4)) (by first | assumption | omega | exact hg9 _) (grS_ok hn hz h74).1) ml_X4_86 rfl ⟨Nat.le_of_ble_eq_true rfl, Nat.le_of_ble_eq_true rfl⟩ rfl [2, 3, 4, 5] [0, 1] [0, 1, 2, 3, 4, 5] rfl (by decide) rfl (by decide) (by decide) (by decide) (fun _ => rfl) 2 rfl rfl rfl rfl (Nat.le_of_ble_eq_true rfl) ⟨by decide, by decide⟩ dX4_readGroup_89 (fun r89 _ e89 => ?_)
      subst e89
      refine g_pop (pc := 92) C dX4_readGroup_92 rfl ?_
      exact g_retVW (pc := 93) C rfl rfl () trivial (by rw [grT, if_pos h74] <;> rfl) dX4_readGroup_93
set_option maxRecDepth 20000 in
set_option maxHeartbeats 4000000 in
theorem c_X4_readQuestion (l : Launch) (G : gT) (tx : Nat) (al : Nat) (dr : Nat) (n : Nat) (z : Nat × Int32) (lt : Nat → Int32) (da : Nat) (db : Nat) (dc : Nat) (ν : tT) (hT : TI ν) (hz : z.1 ≤ n) (hn : n ≤ 160) : WV l yX4_readQuestion cX4_readQuestion 4 (none) 5 0 0 G [.ref tx] (wP G tx al dr n z lt ++ (wT G dr da db dc ν)) (S := Unit) (fun _ => True) (fun _ => wP G tx al dr n (quS lt n ν z 2) lt ++ (wT G dr da db dc (quT lt n ν z))) := by
  have hg9 := fun k => quS_le (lt := lt) (ν := ν) hz k
  intro sz9
  refine start_W (by decide) (Nat.le_of_ble_eq_true rfl) (fun p9 e9 s9 m9 a9 b9 t9 c9 C => ?_)
  refine g_lv (lv' := [(0, .ref tx)]) rfl ?_
  refine g_aload_n (pc := 0) C dX4_readQuestion_0 0 rfl ?_
  refine g_get (pc := 1) (T := TX4) (N := 5) (v := .int (nI z.1)) C ib_X4 0 rfl rfl 4 (by decide) mf_X4_33 rfl rfl rfl dX4_readQuestion_1 ?_
  refine g_istore_n (pc := 4) (lv' := [(1, .int (nI z.1)), (0, .ref tx)]) C dX4_readQuestion_4 rfl (by decide) rfl ?_
  refine g_aload_n (pc := 5) C dX4_readQuestion_5 1 rfl ?_
  refine g_ldcS (pc := 6) (q := 1) C dX4_readQuestion_6 (List.mem_of_getElem? (i := 1) rfl) rfl rfl ?_
  refine g_wrVV (pc := 8) (rest := []) (wr := [oC dr 3 [.ref da, .ref db, .ref dc, .int (ν 8 0), .int (ν 8 1), .int (ν 8 2), .int (ν 8 3), .int (ν 8 4), .int (ν 8 5), .int (ν 8 6)], iC G da 16 (fq ν), iC G db 64 (ν 2), iC G dc 50 (fg ν)]) C (fun _ => wP G tx al dr n (rwS lt n 1 z (kwn 1)) lt ++ (wT G dr da db dc ν)) rfl k_X4_readWord (c_X4_readWord l G tx al dr n z lt 1 (by first | assumption | omega | exact hg9 _) (by first | assumption | omega | exact hg9 _) (by first | assumption | omega | exact hg9 _)) ml_X4_55 rfl ⟨Nat.le_of_ble_eq_true rfl, Nat.le_of_ble_eq_true rfl⟩ rfl [0, 1] [2, 3, 4, 5] [4, 5, 0, 1, 2, 3] rfl (by decide) rfl (by decide) (by decide) (by decide) (fun _ => rfl) 0 rfl rfl rfl rfl (Nat.le_of_ble_eq_true rfl) ⟨by decide, by decide⟩ dX4_readQuestion_8 (fun _ _ => ?_)
  refine g_aload_n (pc := 11) C dX4_readQuestion_11 1 rfl ?_
  refine g_get (pc := 12) (T := TX4) (N := 5) (v := .ref dr) C ib_X4 0 rfl rfl 1 (by decide) mf_X4_18 rfl rfl rfl dX4_readQuestion_12 ?_
  refine g_rdVI (pc := 15) (val := bI (tQ ν < 8)) (rest := []) C k_X3_hasRoomForQuestion (c_X3_hasRoomForQuestion l G dr da db dc ν (by first | assumption | omega | exact hg9 _)) ml_X4_92 rfl ⟨Nat.le_of_ble_eq_true rfl, Nat.le_of_ble_eq_true rfl⟩ rfl [2, 3, 4, 5] rfl 2 rfl rfl rfl rfl (Nat.le_of_ble_eq_true rfl) ⟨by decide, by decide⟩ dX4_readQuestion_15 ?_
  refine g_ifb_ne (pc := 18) (tgt := 26) C dX4_readQuestion_18 (by decide) (fun h18 => ?_) (fun h18 => ?_)
  · refine g_ws (ws' := wP G tx al dr n (quS lt n ν z 0) lt ++ (wT G dr da db dc ν)) (by rw [quS, if_pos h18]) ?_
    refine g_aload_n (pc := 26) C dX4_readQuestion_26 1 rfl ?_
    refine g_iconst (pc := 27) (v := 0) C dX4_readQuestion_27 (by decide) ?_
    refine g_bipush (pc := 28) (v := 6) C dX4_readQuestion_28 (by decide) ?_
    refine g_wrVI (pc := 30) (rest := []) (wr := [oC dr 3 [.ref da, .ref db, .ref dc, .int (ν 8 0), .int (ν 8 1), .int (ν 8 2), .int (ν 8 3), .int (ν 8 4), .int (ν 8 5), .int (ν 8 6)], iC G da 16 (fq ν), iC G db 64 (ν 2), iC G dc 50 (fg ν)]) C (fun _ => wP G tx al dr n (nuS lt n 0 6 (quS lt n ν z 0)) lt ++ (wT G dr da db dc ν)) rfl k_X4_readNumber (c_X4_readNumber l G tx al dr n (quS lt n ν z 0) lt 0 6 (by first | assumption | omega | exact hg9 _) (by first | assumption | omega | exact hg9 _)) ml_X4_67 rfl ⟨Nat.le_of_ble_eq_true rfl, Nat.le_of_ble_eq_true rfl⟩ rfl [0, 1] [2, 3, 4, 5] [4, 5, 0, 1, 2, 3] rfl (by decide) rfl (by decide) (by decide) (by decide) (fun _ => rfl) 0 rfl rfl rfl rfl (Nat.le_of_ble_eq_true rfl) ⟨by decide, by decide⟩ dX4_readQuestion_30 (fun r30 _ e30 => ?_)
    subst e30
    refine g_ws (ws' := wP G tx al dr n (quS lt n ν z 1) lt ++ (wT G dr da db dc ν)) (rfl) ?_
    refine g_istore_n (pc := 33) (lv' := [(2, .int (nuV lt n (quS lt n ν z 0))), (1, .int (nI z.1)), (0, .ref tx)]) C dX4_readQuestion_33 rfl (by decide) rfl ?_
    refine g_aload_n (pc := 34) C dX4_readQuestion_34 2 rfl ?_
    refine g_iconst (pc := 35) (v := 0) C dX4_readQuestion_35 (by decide) ?_
    refine g_bipush (pc := 36) (v := 9) C dX4_readQuestion_36 (by decide) ?_
    refine g_wrVI (pc := 38) (rest := []) (wr := [oC dr 3 [.ref da, .ref db, .ref dc, .int (ν 8 0), .int (ν 8 1), .int (ν 8 2), .int (ν 8 3), .int (ν 8 4), .int (ν 8 5), .int (ν 8 6)], iC G da 16 (fq ν), iC G db 64 (ν 2), iC G dc 50 (fg ν)]) C (fun _ => wP G tx al dr n (nuS lt n 0 9 (quS lt n ν z 1)) lt ++ (wT G dr da db dc ν)) rfl k_X4_readNumber (c_X4_readNumber l G tx al dr n (quS lt n ν z 1) lt 0 9 (by first | assumption | omega | exact hg9 _) (by first | assumption | omega | exact hg9 _)) ml_X4_67 rfl ⟨Nat.le_of_ble_eq_true rfl, Nat.le_of_ble_eq_true rfl⟩ rfl [0, 1] [2, 3, 4, 5] [4, 5, 0, 1, 2, 3] rfl (by decide) rfl (by decide) (by decide) (by decide) (fun _ => rfl) 0 rfl rfl rfl rfl (Nat.le_of_ble_eq_true rfl) ⟨by decide, by decide⟩ dX4_readQuestion_38 (fun r38 _ e38 => ?_)
    subst e38
    refine g_ws (ws' := wP G tx al dr n (quS lt n ν z 2) lt ++ (wT G dr da db dc ν)) (rfl) ?_
    refine g_istore_n (pc := 41) (lv' := [(3, .int (nuV lt n (quS lt n ν z 1))), (2, .int (nuV lt n (quS lt n ν z 0))), (1, .int (nI z.1)), (0, .ref tx)]) C dX4_readQuestion_41 rfl (by decide) rfl ?_
    refine g_aload_n (pc := 42) C dX4_readQuestion_42 3 rfl ?_
    refine g_get (pc := 43) (T := TX4) (N := 5) (v := .int ((quS lt n ν z 2).2)) C ib_X4 0 rfl rfl 2 (by decide) mf_X4_22 rfl rfl rfl dX4_readQuestion_43 ?_
    refine g_iconst (pc := 46) (v := (-1)) C dX4_readQuestion_46 (by decide) ?_
    refine g_icmp_ne (pc := 47) (tgt := 60) C dX4_readQuestion_47 (by decide) (fun h47 => ?_) (fun h47 => ?_)
    · exact g_retVW (pc := 60) C rfl rfl () trivial (by rw [quT, if_neg h47]) dX4_readQuestion_60
    · refine g_aload_n (pc := 50) C dX4_readQuestion_50 3 rfl ?_
      refine g_get (pc := 51) (T := TX4) (N := 5) (v := .ref dr) C ib_X4 0 rfl rfl 1 (by decide) mf_X4_18 rfl rfl rfl dX4_readQuestion_51 ?_
      refine g_iload_n (pc := 54) C dX4_readQuestion_54 1 rfl ?_
      refine g_iload_n (pc := 55) C dX4_readQuestion_55 0 rfl ?_
      refine g_wrVI (pc := 56) (rest := []) (wr := [oC tx 4 [.ref al, .ref dr, .int ((quS lt n ν z 2).2), .int (nI n), .int (nI ((quS lt n ν z 2).1))], iC G al 160 lt]) C (fun _ => wP G tx al dr n (quS lt n ν z 2) lt ++ (wT G dr da db dc (aQu ν (nuV lt n (quS lt n ν z 0)) (nuV lt n (quS lt n ν z 1))))) rfl k_X3_addQuestion (c_X3_addQuestion l G dr da db dc ν (nuV lt n (quS lt n ν z 0)) (nuV lt n (quS lt n ν z 1)) (by first | assumption | omega | exact hg9 _) (quS_ok hn hz h47).1) ml_X4_95 rfl ⟨Nat.le_of_ble_eq_true rfl, Nat.le_of_ble_eq_true rfl⟩ rfl [2, 3, 4, 5] [0, 1] [0, 1, 2, 3, 4, 5] rfl (by decide) rfl (by decide) (by decide) (by decide) (fun _ => rfl) 2 rfl rfl rfl rfl (Nat.le_of_ble_eq_true rfl) ⟨by decide, by decide⟩ dX4_readQuestion_56 (fun r56 _ e56 => ?_)
      subst e56
      refine g_pop (pc := 59) C dX4_readQuestion_59 rfl ?_
      exact g_retVW (pc := 60) C rfl rfl () trivial (by rw [quT, if_pos h47] <;> rfl) dX4_readQuestion_60
  · refine g_aload_n (pc := 21) C dX4_readQuestion_21 1 rfl ?_
    refine g_iload_n (pc := 22) C dX4_readQuestion_22 0 rfl ?_
    refine g_wrVV (pc := 23) (rest := []) (wr := [oC dr 3 [.ref da, .ref db, .ref dc, .int (ν 8 0), .int (ν 8 1), .int (ν 8 2), .int (ν 8 3), .int (ν 8 4), .int (ν 8 5), .int (ν 8 6)], iC G da 16 (fq ν), iC G db 64 (ν 2), iC G dc 50 (fg ν)]) C (fun _ => wP G tx al dr n (ftS (rwS lt n 1 z (kwn 1)) (nI z.1)) lt ++ (wT G dr da db dc ν)) rfl k_X4_faultAt (c_X4_faultAt l G tx al dr n (rwS lt n 1 z (kwn 1)) lt (nI z.1)) ml_X4_77 rfl ⟨Nat.le_of_ble_eq_true rfl, Nat.le_of_ble_eq_true rfl⟩ rfl [0, 1] [2, 3, 4, 5] [4, 5, 0, 1, 2, 3] rfl (by decide) rfl (by decide) (by decide) (by decide) (fun _ => rfl) 0 rfl rfl rfl rfl (Nat.le_of_ble_eq_true rfl) ⟨by decide, by decide⟩ dX4_readQuestion_23 (fun _ _ => ?_)
    refine g_ws (ws' := wP G tx al dr n (quS lt n ν z 0) lt ++ (wT G dr da db dc ν)) (by rw [quS, if_neg h18]) ?_
    refine g_aload_n (pc := 26) C dX4_readQuestion_26 1 rfl ?_
    refine g_iconst (pc := 27) (v := 0) C dX4_readQuestion_27 (by decide) ?_
    refine g_bipush (pc := 28) (v := 6) C dX4_readQuestion_28 (by decide) ?_
    refine g_wrVI (pc := 30) (rest := []) (wr := [oC dr 3 [.ref da, .ref db, .ref dc, .int (ν 8 0), .int (ν 8 1), .int (ν 8 2), .int (ν 8 3), .int (ν 8 4), .int (ν 8 5), .int (ν 8 6)], iC G da 16 (fq ν), iC G db 64 (ν 2), iC G dc 50 (fg ν)]) C (fun _ => wP G tx al dr n (nuS lt n 0 6 (quS lt n ν z 0)) lt ++ (wT G dr da db dc ν)) rfl k_X4_readNumber (c_X4_readNumber l G tx al dr n (quS lt n ν z 0) lt 0 6 (by first | assumption | omega | exact hg9 _) (by first | assumption | omega | exact hg9 _)) ml_X4_67 rfl ⟨Nat.le_of_ble_eq_true rfl, Nat.le_of_ble_eq_true rfl⟩ rfl [0, 1] [2, 3, 4, 5] [4, 5, 0, 1, 2, 3] rfl (by decide) rfl (by decide) (by decide) (by decide) (fun _ => rfl) 0 rfl rfl rfl rfl (Nat.le_of_ble_eq_true rfl) ⟨by decide, by decide⟩ dX4_readQuestion_30 (fun r30 _ e30 => ?_)
    subst e30
    refine g_ws (ws' := wP G tx al dr n (quS lt n ν z 1) lt ++ (wT G dr da db dc ν)) (rfl) ?_
    refine g_istore_n (pc := 33) (lv' := [(2, .int (nuV lt n (quS lt n ν z 0))), (1, .int (nI z.1)), (0, .ref tx)]) C dX4_readQuestion_33 rfl (by decide) rfl ?_
    refine g_aload_n (pc := 34) C dX4_readQuestion_34 2 rfl ?_
    refine g_iconst (pc := 35) (v := 0) C dX4_readQuestion_35 (by decide) ?_
    refine g_bipush (pc := 36) (v := 9) C dX4_readQuestion_36 (by decide) ?_
    refine g_wrVI (pc := 38) (rest := []) (wr := [oC dr 3 [.ref da, .ref db, .ref dc, .int (ν 8 0), .int (ν 8 1), .int (ν 8 2), .int (ν 8 3), .int (ν 8 4), .int (ν 8 5), .int (ν 8 6)], iC G da 16 (fq ν), iC G db 64 (ν 2), iC G dc 50 (fg ν)]) C (fun _ => wP G tx al dr n (nuS lt n 0 9 (quS lt n ν z 1)) lt ++ (wT G dr da db dc ν)) rfl k_X4_readNumber (c_X4_readNumber l G tx al dr n (quS lt n ν z 1) lt 0 9 (by first | assumption | omega | exact hg9 _) (by first | assumption | omega | exact hg9 _)) ml_X4_67 rfl ⟨Nat.le_of_ble_eq_true rfl, Nat.le_of_ble_eq_true rfl⟩ rfl [0, 1] [2, 3, 4, 5] [4, 5, 0, 1, 2, 3] rfl (by decide) rfl (by decide) (by decide) (by decide) (fun _ => rfl) 0 rfl rfl rfl rfl (Nat.le_of_ble_eq_true rfl) ⟨by decide, by decide⟩ dX4_readQuestion_38 (fun r38 _ e38 => ?_)
    subst e38
    refine g_ws (ws' := wP G tx al dr n (quS lt n ν z 2) lt ++ (wT G dr da db dc ν)) (rfl) ?_
    refine g_istore_n (pc := 41) (lv' := [(3, .int (nuV lt n (quS lt n ν z 1))), (2, .int (nuV lt n (quS lt n ν z 0))), (1, .int (nI z.1)), (0, .ref tx)]) C dX4_readQuestion_41 rfl (by decide) rfl ?_
    refine g_aload_n (pc := 42) C dX4_readQuestion_42 3 rfl ?_
    refine g_get (pc := 43) (T := TX4) (N := 5) (v := .int ((quS lt n ν z 2).2)) C ib_X4 0 rfl rfl 2 (by decide) mf_X4_22 rfl rfl rfl dX4_readQuestion_43 ?_
    refine g_iconst (pc := 46) (v := (-1)) C dX4_readQuestion_46 (by decide) ?_
    refine g_icmp_ne (pc := 47) (tgt := 60) C dX4_readQuestion_47 (by decide) (fun h47 => ?_) (fun h47 => ?_)
    · exact g_retVW (pc := 60) C rfl rfl () trivial (by rw [quT, if_neg h47]) dX4_readQuestion_60
    · refine g_aload_n (pc := 50) C dX4_readQuestion_50 3 rfl ?_
      refine g_get (pc := 51) (T := TX4) (N := 5) (v := .ref dr) C ib_X4 0 rfl rfl 1 (by decide) mf_X4_18 rfl rfl rfl dX4_readQuestion_51 ?_
      refine g_iload_n (pc := 54) C dX4_readQuestion_54 1 rfl ?_
      refine g_iload_n (pc := 55) C dX4_readQuestion_55 0 rfl ?_
      refine g_wrVI (pc := 56) (rest := []) (wr := [oC tx 4 [.ref al, .ref dr, .int ((quS lt n ν z 2).2), .int (nI n), .int (nI ((quS lt n ν z 2).1))], iC G al 160 lt]) C (fun _ => wP G tx al dr n (quS lt n ν z 2) lt ++ (wT G dr da db dc (aQu ν (nuV lt n (quS lt n ν z 0)) (nuV lt n (quS lt n ν z 1))))) rfl k_X3_addQuestion (c_X3_addQuestion l G dr da db dc ν (nuV lt n (quS lt n ν z 0)) (nuV lt n (quS lt n ν z 1)) (by first | assumption | omega | exact hg9 _) (quS_ok hn hz h47).1) ml_X4_95 rfl ⟨Nat.le_of_ble_eq_true rfl, Nat.le_of_ble_eq_true rfl⟩ rfl [2, 3, 4, 5] [0, 1] [0, 1, 2, 3, 4, 5] rfl (by decide) rfl (by decide) (by decide) (by decide) (fun _ => rfl) 2 rfl rfl rfl rfl (Nat.le_of_ble_eq_true rfl) ⟨by decide, by decide⟩ dX4_readQuestion_56 (fun r56 _ e56 => ?_)
      subst e56
      refine g_pop (pc := 59) C dX4_readQuestion_59 rfl ?_
      exact g_retVW (pc := 60) C rfl rfl () trivial (by rw [quT, if_pos h47] <;> rfl) dX4_readQuestion_60
set_option maxRecDepth 20000 in
set_option maxHeartbeats 4000000 in
theorem c_X4_readBearing (l : Launch) (G : gT) (tx : Nat) (al : Nat) (dr : Nat) (n : Nat) (z : Nat × Int32) (lt : Nat → Int32) (da : Nat) (db : Nat) (dc : Nat) (ν : tT) (sg : Int32) (hT : TI ν) (hz : z.1 ≤ n) (hn : n ≤ 160) : WV l yX4_readBearing cX4_readBearing 6 (none) 5 0 0 G [.ref tx, .int sg] (wP G tx al dr n z lt ++ (wT G dr da db dc ν)) (S := Unit) (fun _ => True) (fun _ => wP G tx al dr n (beS lt n ν z 4) lt ++ (wT G dr da db dc (beT lt n ν z sg))) := by
  have hq8 := hT.q8
  have hg9 := fun k => beS_le (lt := lt) (ν := ν) hz k
  intro sz9
  refine start_W (by decide) (Nat.le_of_ble_eq_true rfl) (fun p9 e9 s9 m9 a9 b9 t9 c9 C => ?_)
  refine g_lv (lv' := [(0, .ref tx), (1, .int sg)]) rfl ?_
  refine g_aload_n (pc := 0) C dX4_readBearing_0 0 rfl ?_
  refine g_iconst (pc := 1) (v := 0) C dX4_readBearing_1 (by decide) ?_
  refine g_aload_n (pc := 2) C dX4_readBearing_2 0 rfl ?_
  refine g_get (pc := 3) (T := TX4) (N := 5) (v := .ref dr) C ib_X4 0 rfl rfl 1 (by decide) mf_X4_18 rfl rfl rfl dX4_readBearing_3 ?_
  refine g_get (pc := 6) (T := TX3) (N := 10) (v := .int (ν 8 0)) C ib_X3 2 rfl rfl 3 (by decide) mf_X4_98 rfl rfl rfl dX4_readBearing_6 ?_
  refine g_top (z := nI (tQ ν)) (hT.q) ?_
  refine g_iconst (pc := 9) (v := 1) C dX4_readBearing_9 (by decide) ?_
  refine g_isub (pc := 10) C dX4_readBearing_10 ?_
  refine g_wrVI (pc := 11) (rest := []) (wr := [oC dr 3 [.ref da, .ref db, .ref dc, .int (ν 8 0), .int (ν 8 1), .int (ν 8 2), .int (ν 8 3), .int (ν 8 4), .int (ν 8 5), .int (ν 8 6)], iC G da 16 (fq ν), iC G db 64 (ν 2), iC G dc 50 (fg ν)]) C (fun _ => wP G tx al dr n (nuS lt n 0 ((nI (tQ ν)) - 1) z) lt ++ (wT G dr da db dc ν)) rfl k_X4_readNumber (c_X4_readNumber l G tx al dr n z lt 0 ((nI (tQ ν)) - 1) (by first | assumption | omega | exact hg9 _ | exact hg9 1 | exact hg9 2 | exact hg9 3) (by first | assumption | omega | exact hg9 _ | exact hg9 1 | exact hg9 2 | exact hg9 3)) ml_X4_67 rfl ⟨Nat.le_of_ble_eq_true rfl, Nat.le_of_ble_eq_true rfl⟩ rfl [0, 1] [2, 3, 4, 5] [4, 5, 0, 1, 2, 3] rfl (by decide) rfl (by decide) (by decide) (by decide) (fun _ => rfl) 0 rfl rfl rfl rfl (Nat.le_of_ble_eq_true rfl) ⟨by decide, by decide⟩ dX4_readBearing_11 (fun r11 _ e11 => ?_)
  subst e11
  refine g_ws (ws' := wP G tx al dr n (beS lt n ν z 1) lt ++ (wT G dr da db dc ν)) (rfl) ?_
  refine g_istore_n (pc := 14) (lv' := [(2, .int (nuV lt n z)), (0, .ref tx), (1, .int sg)]) C dX4_readBearing_14 rfl (by decide) rfl ?_
  refine g_aload_n (pc := 15) C dX4_readBearing_15 1 rfl ?_
  refine g_get (pc := 16) (T := TX4) (N := 5) (v := .int (nI ((beS lt n ν z 1).1))) C ib_X4 0 rfl rfl 4 (by decide) mf_X4_33 rfl rfl rfl dX4_readBearing_16 ?_
  refine g_iconst (pc := 19) (v := 1) C dX4_readBearing_19 (by decide) ?_
  refine g_iaddN (pc := 20) (i := (beS lt n ν z 1).1) (j := 1) C dX4_readBearing_20 ?_
  refine g_istore_n (pc := 21) (lv' := [(3, .int (nI (((beS lt n ν z 1).1) + 1))), (2, .int (nuV lt n z)), (0, .ref tx), (1, .int sg)]) C dX4_readBearing_21 rfl (by decide) rfl ?_
  refine g_aload_n (pc := 22) C dX4_readBearing_22 2 rfl ?_
  refine g_iconst (pc := 23) (v := 0) C dX4_readBearing_23 (by decide) ?_
  refine g_aload_n (pc := 24) C dX4_readBearing_24 2 rfl ?_
  refine g_get (pc := 25) (T := TX4) (N := 5) (v := .ref dr) C ib_X4 0 rfl rfl 1 (by decide) mf_X4_18 rfl rfl rfl dX4_readBearing_25 ?_
  refine g_get (pc := 28) (T := TX3) (N := 10) (v := .int (ν 8 0)) C ib_X3 2 rfl rfl 3 (by decide) mf_X4_98 rfl rfl rfl dX4_readBearing_28 ?_
  refine g_top (z := nI (tQ ν)) (hT.q) ?_
  refine g_iconst (pc := 31) (v := 1) C dX4_readBearing_31 (by decide) ?_
  refine g_isub (pc := 32) C dX4_readBearing_32 ?_
  refine g_wrVI (pc := 33) (rest := []) (wr := [oC dr 3 [.ref da, .ref db, .ref dc, .int (ν 8 0), .int (ν 8 1), .int (ν 8 2), .int (ν 8 3), .int (ν 8 4), .int (ν 8 5), .int (ν 8 6)], iC G da 16 (fq ν), iC G db 64 (ν 2), iC G dc 50 (fg ν)]) C (fun _ => wP G tx al dr n (nuS lt n 0 ((nI (tQ ν)) - 1) (beS lt n ν z 1)) lt ++ (wT G dr da db dc ν)) rfl k_X4_readNumber (c_X4_readNumber l G tx al dr n (beS lt n ν z 1) lt 0 ((nI (tQ ν)) - 1) (by first | assumption | omega | exact hg9 _ | exact hg9 1 | exact hg9 2 | exact hg9 3) (by first | assumption | omega | exact hg9 _ | exact hg9 1 | exact hg9 2 | exact hg9 3)) ml_X4_67 rfl ⟨Nat.le_of_ble_eq_true rfl, Nat.le_of_ble_eq_true rfl⟩ rfl [0, 1] [2, 3, 4, 5] [4, 5, 0, 1, 2, 3] rfl (by decide) rfl (by decide) (by decide) (by decide) (fun _ => rfl) 0 rfl rfl rfl rfl (Nat.le_of_ble_eq_true rfl) ⟨by decide, by decide⟩ dX4_readBearing_33 (fun r33 _ e33 => ?_)
  subst e33
  refine g_ws (ws' := wP G tx al dr n (beS lt n ν z 2) lt ++ (wT G dr da db dc ν)) (rfl) ?_
  refine g_istore (pc := 36) (lv' := [(4, .int (nuV lt n (beS lt n ν z 1))), (3, .int (nI (((beS lt n ν z 1).1) + 1))), (2, .int (nuV lt n z)), (0, .ref tx), (1, .int sg)]) C dX4_readBearing_36 (by decide) rfl ?_
  refine g_iload (pc := 38) C dX4_readBearing_38 0 rfl ?_
  refine g_iload_n (pc := 40) C dX4_readBearing_40 2 rfl ?_
  refine g_icmp_ne (pc := 41) (tgt := 49) C dX4_readBearing_41 (by decide) (fun h41 => ?_) (fun h41 => ?_)
  · refine g_ws (ws' := wP G tx al dr n (beS lt n ν z 3) lt ++ (wT G dr da db dc ν)) (by rw [beS_3, if_neg h41] <;> rfl) ?_
    refine g_aload_n (pc := 49) C dX4_readBearing_49 3 rfl ?_
    refine g_iconst (pc := 50) (v := 0) C dX4_readBearing_50 (by decide) ?_
    refine g_bipush (pc := 51) (v := 9) C dX4_readBearing_51 (by decide) ?_
    refine g_wrVI (pc := 53) (rest := []) (wr := [oC dr 3 [.ref da, .ref db, .ref dc, .int (ν 8 0), .int (ν 8 1), .int (ν 8 2), .int (ν 8 3), .int (ν 8 4), .int (ν 8 5), .int (ν 8 6)], iC G da 16 (fq ν), iC G db 64 (ν 2), iC G dc 50 (fg ν)]) C (fun _ => wP G tx al dr n (nuS lt n 0 9 (beS lt n ν z 3)) lt ++ (wT G dr da db dc ν)) rfl k_X4_readNumber (c_X4_readNumber l G tx al dr n (beS lt n ν z 3) lt 0 9 (by first | assumption | omega | exact hg9 _ | exact hg9 1 | exact hg9 2 | exact hg9 3) (by first | assumption | omega | exact hg9 _ | exact hg9 1 | exact hg9 2 | exact hg9 3)) ml_X4_67 rfl ⟨Nat.le_of_ble_eq_true rfl, Nat.le_of_ble_eq_true rfl⟩ rfl [0, 1] [2, 3, 4, 5] [4, 5, 0, 1, 2, 3] rfl (by decide) rfl (by decide) (by decide) (by decide) (fun _ => rfl) 0 rfl rfl rfl rfl (Nat.le_of_ble_eq_true rfl) ⟨by decide, by decide⟩ dX4_readBearing_53 (fun r53 _ e53 => ?_)
    subst e53
    refine g_ws (ws' := wP G tx al dr n (beS lt n ν z 4) lt ++ (wT G dr da db dc ν)) (rfl) ?_
    refine g_istore (pc := 56) (lv' := [(5, .int (nuV lt n (beS lt n ν z 3))), (4, .int (nuV lt n (beS lt n ν z 1))), (3, .int (nI (((beS lt n ν z 1).1) + 1))), (2, .int (nuV lt n z)), (0, .ref tx), (1, .int sg)]) C dX4_readBearing_56 (by decide) rfl ?_
    refine g_aload_n (pc := 58) C dX4_readBearing_58 4 rfl ?_
    refine g_get (pc := 59) (T := TX4) (N := 5) (v := .int ((beS lt n ν z 4).2)) C ib_X4 0 rfl rfl 2 (by decide) mf_X4_22 rfl rfl rfl dX4_readBearing_59 ?_
    refine g_iconst (pc := 62) (v := (-1)) C dX4_readBearing_62 (by decide) ?_
    refine g_icmp_ne (pc := 63) (tgt := 80) C dX4_readBearing_63 (by decide) (fun h63 => ?_) (fun h63 => ?_)
    · exact g_retVW (pc := 80) C rfl rfl () trivial (by rw [beT, if_neg h63]) dX4_readBearing_80
    · have hb9 := beS_ok hT hn hz h63
      refine g_lv (lv' := [(5, .int (nuV lt n (beS lt n ν z 3))), (4, .int (nuV lt n (beS lt n ν z 1))), (3, .int (nI (((beS lt n ν z 1).1) + 1))), (2, .int (nI (nx (nuV lt n z)))), (0, .ref tx), (1, .int sg)]) (congrArg (fun z9 : Int32 => ([(5, .int (nuV lt n (beS lt n ν z 3))), (4, .int (nuV lt n (beS lt n ν z 1))), (3, .int (nI (((beS lt n ν z 1).1) + 1))), (2, .int z9), (0, .ref tx), (1, .int sg)] : List (Nat × Value))) (hb9.1.1)) ?_
      refine g_lv (lv' := [(5, .int (nuV lt n (beS lt n ν z 3))), (4, .int (nI (nx (nuV lt n (beS lt n ν z 1))))), (3, .int (nI (((beS lt n ν z 1).1) + 1))), (2, .int (nI (nx (nuV lt n z)))), (0, .ref tx), (1, .int sg)]) (congrArg (fun z9 : Int32 => ([(5, .int (nuV lt n (beS lt n ν z 3))), (4, .int z9), (3, .int (nI (((beS lt n ν z 1).1) + 1))), (2, .int (nI (nx (nuV lt n z)))), (0, .ref tx), (1, .int sg)] : List (Nat × Value))) (hb9.2.1.1)) ?_
      refine g_aload_n (pc := 66) C dX4_readBearing_66 4 rfl ?_
      refine g_get (pc := 67) (T := TX4) (N := 5) (v := .ref dr) C ib_X4 0 rfl rfl 1 (by decide) mf_X4_18 rfl rfl rfl dX4_readBearing_67 ?_
      refine g_iload_n (pc := 70) C dX4_readBearing_70 3 rfl ?_
      refine g_iload (pc := 71) C dX4_readBearing_71 1 rfl ?_
      refine g_iload_n (pc := 73) C dX4_readBearing_73 5 rfl ?_
      refine g_iload (pc := 74) C dX4_readBearing_74 0 rfl ?_
      refine g_imul (pc := 76) C dX4_readBearing_76 ?_
      refine g_wrVV (pc := 77) (rest := []) (wr := [oC tx 4 [.ref al, .ref dr, .int ((beS lt n ν z 4).2), .int (nI n), .int (nI ((beS lt n ν z 4).1))], iC G al 160 lt]) C (fun _ => wP G tx al dr n (beS lt n ν z 4) lt ++ (wT G dr da db dc (aBe ν (nx (nuV lt n z)) (nx (nuV lt n (beS lt n ν z 1))) (sg * (nuV lt n (beS lt n ν z 3)))))) rfl k_X3_putBearing (c_X3_putBearing l G dr da db dc ν (nx (nuV lt n z)) (nx (nuV lt n (beS lt n ν z 1))) (sg * (nuV lt n (beS lt n ν z 3))) (by first | assumption | omega | exact hg9 _ | exact hg9 1 | exact hg9 2 | exact hg9 3) (by first | assumption | omega | exact hg9 _ | exact hg9 1 | exact hg9 2 | exact hg9 3)) ml_X4_101 rfl ⟨Nat.le_of_ble_eq_true rfl, Nat.le_of_ble_eq_true rfl⟩ rfl [2, 3, 4, 5] [0, 1] [0, 1, 2, 3, 4, 5] rfl (by decide) rfl (by decide) (by decide) (by decide) (fun _ => rfl) 2 rfl rfl rfl rfl (Nat.le_of_ble_eq_true rfl) ⟨by decide, by decide⟩ dX4_readBearing_77 (fun _ _ => ?_)
      exact g_retVW (pc := 80) C rfl rfl () trivial (by rw [beT, if_pos h63] <;> rfl) dX4_readBearing_80
  · refine g_aload_n (pc := 44) C dX4_readBearing_44 3 rfl ?_
    refine g_iload_n (pc := 45) C dX4_readBearing_45 1 rfl ?_
    refine g_wrVV (pc := 46) (rest := []) (wr := [oC dr 3 [.ref da, .ref db, .ref dc, .int (ν 8 0), .int (ν 8 1), .int (ν 8 2), .int (ν 8 3), .int (ν 8 4), .int (ν 8 5), .int (ν 8 6)], iC G da 16 (fq ν), iC G db 64 (ν 2), iC G dc 50 (fg ν)]) C (fun _ => wP G tx al dr n (ftS (beS lt n ν z 2) (nI (((beS lt n ν z 1).1) + 1))) lt ++ (wT G dr da db dc ν)) rfl k_X4_faultAt (c_X4_faultAt l G tx al dr n (beS lt n ν z 2) lt (nI (((beS lt n ν z 1).1) + 1))) ml_X4_77 rfl ⟨Nat.le_of_ble_eq_true rfl, Nat.le_of_ble_eq_true rfl⟩ rfl [0, 1] [2, 3, 4, 5] [4, 5, 0, 1, 2, 3] rfl (by decide) rfl (by decide) (by decide) (by decide) (fun _ => rfl) 0 rfl rfl rfl rfl (Nat.le_of_ble_eq_true rfl) ⟨by decide, by decide⟩ dX4_readBearing_46 (fun _ _ => ?_)
    refine g_ws (ws' := wP G tx al dr n (beS lt n ν z 3) lt ++ (wT G dr da db dc ν)) (by rw [beS_3, if_pos h41] <;> rfl) ?_
    refine g_aload_n (pc := 49) C dX4_readBearing_49 3 rfl ?_
    refine g_iconst (pc := 50) (v := 0) C dX4_readBearing_50 (by decide) ?_
    refine g_bipush (pc := 51) (v := 9) C dX4_readBearing_51 (by decide) ?_
    refine g_wrVI (pc := 53) (rest := []) (wr := [oC dr 3 [.ref da, .ref db, .ref dc, .int (ν 8 0), .int (ν 8 1), .int (ν 8 2), .int (ν 8 3), .int (ν 8 4), .int (ν 8 5), .int (ν 8 6)], iC G da 16 (fq ν), iC G db 64 (ν 2), iC G dc 50 (fg ν)]) C (fun _ => wP G tx al dr n (nuS lt n 0 9 (beS lt n ν z 3)) lt ++ (wT G dr da db dc ν)) rfl k_X4_readNumber (c_X4_readNumber l G tx al dr n (beS lt n ν z 3) lt 0 9 (by first | assumption | omega | exact hg9 _ | exact hg9 1 | exact hg9 2 | exact hg9 3) (by first | assumption | omega | exact hg9 _ | exact hg9 1 | exact hg9 2 | exact hg9 3)) ml_X4_67 rfl ⟨Nat.le_of_ble_eq_true rfl, Nat.le_of_ble_eq_true rfl⟩ rfl [0, 1] [2, 3, 4, 5] [4, 5, 0, 1, 2, 3] rfl (by decide) rfl (by decide) (by decide) (by decide) (fun _ => rfl) 0 rfl rfl rfl rfl (Nat.le_of_ble_eq_true rfl) ⟨by decide, by decide⟩ dX4_readBearing_53 (fun r53 _ e53 => ?_)
    subst e53
    refine g_ws (ws' := wP G tx al dr n (beS lt n ν z 4) lt ++ (wT G dr da db dc ν)) (rfl) ?_
    refine g_istore (pc := 56) (lv' := [(5, .int (nuV lt n (beS lt n ν z 3))), (4, .int (nuV lt n (beS lt n ν z 1))), (3, .int (nI (((beS lt n ν z 1).1) + 1))), (2, .int (nuV lt n z)), (0, .ref tx), (1, .int sg)]) C dX4_readBearing_56 (by decide) rfl ?_
    refine g_aload_n (pc := 58) C dX4_readBearing_58 4 rfl ?_
    refine g_get (pc := 59) (T := TX4) (N := 5) (v := .int ((beS lt n ν z 4).2)) C ib_X4 0 rfl rfl 2 (by decide) mf_X4_22 rfl rfl rfl dX4_readBearing_59 ?_
    refine g_iconst (pc := 62) (v := (-1)) C dX4_readBearing_62 (by decide) ?_
    refine g_icmp_ne (pc := 63) (tgt := 80) C dX4_readBearing_63 (by decide) (fun h63 => ?_) (fun h63 => ?_)
    · exact g_retVW (pc := 80) C rfl rfl () trivial (by rw [beT, if_neg h63]) dX4_readBearing_80
    · have hb9 := beS_ok hT hn hz h63
      refine g_lv (lv' := [(5, .int (nuV lt n (beS lt n ν z 3))), (4, .int (nuV lt n (beS lt n ν z 1))), (3, .int (nI (((beS lt n ν z 1).1) + 1))), (2, .int (nI (nx (nuV lt n z)))), (0, .ref tx), (1, .int sg)]) (congrArg (fun z9 : Int32 => ([(5, .int (nuV lt n (beS lt n ν z 3))), (4, .int (nuV lt n (beS lt n ν z 1))), (3, .int (nI (((beS lt n ν z 1).1) + 1))), (2, .int z9), (0, .ref tx), (1, .int sg)] : List (Nat × Value))) (hb9.1.1)) ?_
      refine g_lv (lv' := [(5, .int (nuV lt n (beS lt n ν z 3))), (4, .int (nI (nx (nuV lt n (beS lt n ν z 1))))), (3, .int (nI (((beS lt n ν z 1).1) + 1))), (2, .int (nI (nx (nuV lt n z)))), (0, .ref tx), (1, .int sg)]) (congrArg (fun z9 : Int32 => ([(5, .int (nuV lt n (beS lt n ν z 3))), (4, .int z9), (3, .int (nI (((beS lt n ν z 1).1) + 1))), (2, .int (nI (nx (nuV lt n z)))), (0, .ref tx), (1, .int sg)] : List (Nat × Value))) (hb9.2.1.1)) ?_
      refine g_aload_n (pc := 66) C dX4_readBearing_66 4 rfl ?_
      refine g_get (pc := 67) (T := TX4) (N := 5) (v := .ref dr) C ib_X4 0 rfl rfl 1 (by decide) mf_X4_18 rfl rfl rfl dX4_readBearing_67 ?_
      refine g_iload_n (pc := 70) C dX4_readBearing_70 3 rfl ?_
      refine g_iload (pc := 71) C dX4_readBearing_71 1 rfl ?_
      refine g_iload_n (pc := 73) C dX4_readBearing_73 5 rfl ?_
      refine g_iload (pc := 74) C dX4_readBearing_74 0 rfl ?_
      refine g_imul (pc := 76) C dX4_readBearing_76 ?_
      refine g_wrVV (pc := 77) (rest := []) (wr := [oC tx 4 [.ref al, .ref dr, .int ((beS lt n ν z 4).2), .int (nI n), .int (nI ((beS lt n ν z 4).1))], iC G al 160 lt]) C (fun _ => wP G tx al dr n (beS lt n ν z 4) lt ++ (wT G dr da db dc (aBe ν (nx (nuV lt n z)) (nx (nuV lt n (beS lt n ν z 1))) (sg * (nuV lt n (beS lt n ν z 3)))))) rfl k_X3_putBearing (c_X3_putBearing l G dr da db dc ν (nx (nuV lt n z)) (nx (nuV lt n (beS lt n ν z 1))) (sg * (nuV lt n (beS lt n ν z 3))) (by first | assumption | omega | exact hg9 _ | exact hg9 1 | exact hg9 2 | exact hg9 3) (by first | assumption | omega | exact hg9 _ | exact hg9 1 | exact hg9 2 | exact hg9 3)) ml_X4_101 rfl ⟨Nat.le_of_ble_eq_true rfl, Nat.le_of_ble_eq_true rfl⟩ rfl [2, 3, 4, 5] [0, 1] [0, 1, 2, 3, 4, 5] rfl (by decide) rfl (by decide) (by decide) (by decide) (fun _ => rfl) 2 rfl rfl rfl rfl (Nat.le_of_ble_eq_true rfl) ⟨by decide, by decide⟩ dX4_readBearing_77 (fun _ _ => ?_)
      exact g_retVW (pc := 80) C rfl rfl () trivial (by rw [beT, if_pos h63] <;> rfl) dX4_readBearing_80
set_option maxRecDepth 20000 in
set_option maxHeartbeats 4000000 in
theorem c_X4_readItem (l : Launch) (G : gT) (tx : Nat) (al : Nat) (dr : Nat) (n : Nat) (z : Nat × Int32) (lt : Nat → Int32) (da : Nat) (db : Nat) (dc : Nat) (ν : tT) (hT : TI ν) (hz : z.1 ≤ n) (hn : n ≤ 160) : WV l yX4_readItem cX4_readItem 1 (none) 6 0 0 G [.ref tx] (wP G tx al dr n z lt ++ (wT G dr da db dc ν)) (S := Unit) (fun _ => True) (fun _ => wP G tx al dr n (itS lt n ν z) lt ++ (wT G dr da db dc (itT lt n ν z))) := by
  intro sz9
  refine start_W (by decide) (Nat.le_of_ble_eq_true rfl) (fun p9 e9 s9 m9 a9 b9 t9 c9 C => ?_)
  refine g_lv (lv' := [(0, .ref tx)]) rfl ?_
  refine g_aload_n (pc := 0) C dX4_readItem_0 0 rfl ?_
  refine g_rdVI (pc := 1) (val := ltr lt n z.1) (rest := []) C k_X4_letterHere (c_X4_letterHere l G tx al dr n z lt (by first | assumption | omega | decide) (by first | assumption | omega | decide)) ml_X4_43 rfl ⟨Nat.le_of_ble_eq_true rfl, Nat.le_of_ble_eq_true rfl⟩ rfl [0, 1] rfl 0 rfl rfl rfl rfl (Nat.le_of_ble_eq_true rfl) ⟨by decide, by decide⟩ dX4_readItem_1 ?_
  by_cases h4_97 : ltr lt n z.1 = 97
  · refine g_top (z := 97) h4_97 ?_
    refine g_tsIn (pc := 4) (off := 112) (tgt := 116) C dX4_readItem_4 (by decide) (by decide) (by decide) (by decide) ?_
    refine g_aload_n (pc := 116) C dX4_readItem_116 0 rfl ?_
    refine g_ldcS (pc := 117) (q := 3) C dX4_readItem_117 (List.mem_of_getElem? (i := 3) rfl) rfl rfl ?_
    refine g_wrVV (pc := 119) (rest := []) (wr := [oC dr 3 [.ref da, .ref db, .ref dc, .int (ν 8 0), .int (ν 8 1), .int (ν 8 2), .int (ν 8 3), .int (ν 8 4), .int (ν 8 5), .int (ν 8 6)], iC G da 16 (fq ν), iC G db 64 (ν 2), iC G dc 50 (fg ν)]) C (fun _ => wP G tx al dr n (rwS lt n 3 z (kwn 3)) lt ++ (wT G dr da db dc ν)) rfl k_X4_readWord (c_X4_readWord l G tx al dr n z lt 3 (by first | assumption | omega | decide) (by first | assumption | omega | decide) (by first | assumption | omega | decide)) ml_X4_55 rfl ⟨Nat.le_of_ble_eq_true rfl, Nat.le_of_ble_eq_true rfl⟩ rfl [0, 1] [2, 3, 4, 5] [4, 5, 0, 1, 2, 3] rfl (by decide) rfl (by decide) (by decide) (by decide) (fun _ => rfl) 0 rfl rfl rfl rfl (Nat.le_of_ble_eq_true rfl) ⟨by decide, by decide⟩ dX4_readItem_119 (fun _ _ => ?_)
    refine g_aload_n (pc := 122) C dX4_readItem_122 0 rfl ?_
    refine g_iconst (pc := 123) (v := (-1)) C dX4_readItem_123 (by decide) ?_
    refine g_wrVV (pc := 124) (rest := []) (wr := []) C (fun _ => wP G tx al dr n (beS lt n ν (rwS lt n 3 z (kwn 3)) 4) lt ++ (wT G dr da db dc (beT lt n ν (rwS lt n 3 z (kwn 3)) (-1)))) rfl k_X4_readBearing (c_X4_readBearing l G tx al dr n (rwS lt n 3 z (kwn 3)) lt da db dc ν (-1) (by first | assumption | omega | decide) (rwS_le (by decide) hz (kwn 3) (Nat.le_refl _)) (by first | assumption | omega | decide)) ml_X4_59 rfl ⟨Nat.le_of_ble_eq_true rfl, Nat.le_of_ble_eq_true rfl⟩ rfl [0, 1, 2, 3, 4, 5] [] [0, 1, 2, 3, 4, 5] rfl (by decide) rfl (by decide) (by decide) (by decide) (fun _ => rfl) 0 rfl rfl rfl rfl (Nat.le_of_ble_eq_true rfl) ⟨by decide, by decide⟩ dX4_readItem_124 (fun _ _ => ?_)
    refine g_goto (pc := 127) (tgt := 184) C dX4_readItem_127 (by decide) ?_
    exact g_retVW (pc := 184) C rfl rfl () trivial (by rw [itS, itT, if_neg (by rw [h4_97]; decide), if_neg (by rw [h4_97]; decide), if_neg (by rw [h4_97]; decide), if_pos h4_97, if_neg (by rw [h4_97]; decide), if_neg (by rw [h4_97]; decide), if_neg (by rw [h4_97]; decide), if_pos h4_97] <;> rfl) dX4_readItem_184
  by_cases h4_98 : ltr lt n z.1 = 98
  · refine g_top (z := 98) h4_98 ?_
    refine g_tsIn (pc := 4) (off := 98) (tgt := 102) C dX4_readItem_4 (by decide) (by decide) (by decide) (by decide) ?_
    refine g_aload_n (pc := 102) C dX4_readItem_102 0 rfl ?_
    refine g_ldcS (pc := 103) (q := 2) C dX4_readItem_103 (List.mem_of_getElem? (i := 2) rfl) rfl rfl ?_
    refine g_wrVV (pc := 105) (rest := []) (wr := [oC dr 3 [.ref da, .ref db, .ref dc, .int (ν 8 0), .int (ν 8 1), .int (ν 8 2), .int (ν 8 3), .int (ν 8 4), .int (ν 8 5), .int (ν 8 6)], iC G da 16 (fq ν), iC G db 64 (ν 2), iC G dc 50 (fg ν)]) C (fun _ => wP G tx al dr n (rwS lt n 2 z (kwn 2)) lt ++ (wT G dr da db dc ν)) rfl k_X4_readWord (c_X4_readWord l G tx al dr n z lt 2 (by first | assumption | omega | decide) (by first | assumption | omega | decide) (by first | assumption | omega | decide)) ml_X4_55 rfl ⟨Nat.le_of_ble_eq_true rfl, Nat.le_of_ble_eq_true rfl⟩ rfl [0, 1] [2, 3, 4, 5] [4, 5, 0, 1, 2, 3] rfl (by decide) rfl (by decide) (by decide) (by decide) (fun _ => rfl) 0 rfl rfl rfl rfl (Nat.le_of_ble_eq_true rfl) ⟨by decide, by decide⟩ dX4_readItem_105 (fun _ _ => ?_)
    refine g_aload_n (pc := 108) C dX4_readItem_108 0 rfl ?_
    refine g_iconst (pc := 109) (v := 1) C dX4_readItem_109 (by decide) ?_
    refine g_wrVV (pc := 110) (rest := []) (wr := []) C (fun _ => wP G tx al dr n (beS lt n ν (rwS lt n 2 z (kwn 2)) 4) lt ++ (wT G dr da db dc (beT lt n ν (rwS lt n 2 z (kwn 2)) 1))) rfl k_X4_readBearing (c_X4_readBearing l G tx al dr n (rwS lt n 2 z (kwn 2)) lt da db dc ν 1 (by first | assumption | omega | decide) (rwS_le (by decide) hz (kwn 2) (Nat.le_refl _)) (by first | assumption | omega | decide)) ml_X4_59 rfl ⟨Nat.le_of_ble_eq_true rfl, Nat.le_of_ble_eq_true rfl⟩ rfl [0, 1, 2, 3, 4, 5] [] [0, 1, 2, 3, 4, 5] rfl (by decide) rfl (by decide) (by decide) (by decide) (fun _ => rfl) 0 rfl rfl rfl rfl (Nat.le_of_ble_eq_true rfl) ⟨by decide, by decide⟩ dX4_readItem_110 (fun _ _ => ?_)
    refine g_goto (pc := 113) (tgt := 184) C dX4_readItem_113 (by decide) ?_
    exact g_retVW (pc := 184) C rfl rfl () trivial (by rw [itS, itT, if_neg (by rw [h4_98]; decide), if_neg (by rw [h4_98]; decide), if_pos h4_98, if_neg (by rw [h4_98]; decide), if_neg (by rw [h4_98]; decide), if_pos h4_98] <;> rfl) dX4_readItem_184
  by_cases h4_99 : ltr lt n z.1 = 99
  · refine g_top (z := 99) h4_99 ?_
    refine g_tsIn (pc := 4) (off := 172) (tgt := 176) C dX4_readItem_4 (by decide) (by decide) (by decide) (by decide) ?_
    refine g_aload_n (pc := 176) C dX4_readItem_176 0 rfl ?_
    refine g_aload_n (pc := 177) C dX4_readItem_177 0 rfl ?_
    refine g_get (pc := 178) (T := TX4) (N := 5) (v := .int (nI z.1)) C ib_X4 0 rfl rfl 4 (by decide) mf_X4_33 rfl rfl rfl dX4_readItem_178 ?_
    refine g_wrVV (pc := 181) (rest := []) (wr := [oC dr 3 [.ref da, .ref db, .ref dc, .int (ν 8 0), .int (ν 8 1), .int (ν 8 2), .int (ν 8 3), .int (ν 8 4), .int (ν 8 5), .int (ν 8 6)], iC G da 16 (fq ν), iC G db 64 (ν 2), iC G dc 50 (fg ν)]) C (fun _ => wP G tx al dr n (ftS z (nI z.1)) lt ++ (wT G dr da db dc ν)) rfl k_X4_faultAt (c_X4_faultAt l G tx al dr n z lt (nI z.1)) ml_X4_77 rfl ⟨Nat.le_of_ble_eq_true rfl, Nat.le_of_ble_eq_true rfl⟩ rfl [0, 1] [2, 3, 4, 5] [4, 5, 0, 1, 2, 3] rfl (by decide) rfl (by decide) (by decide) (by decide) (fun _ => rfl) 0 rfl rfl rfl rfl (Nat.le_of_ble_eq_true rfl) ⟨by decide, by decide⟩ dX4_readItem_181 (fun _ _ => ?_)
    exact g_retVW (pc := 184) C rfl rfl () trivial (by rw [itS, itT, h4_99] <;> rfl) dX4_readItem_184
  by_cases h4_100 : ltr lt n z.1 = 100
  · refine g_top (z := 100) h4_100 ?_
    refine g_tsIn (pc := 4) (off := 172) (tgt := 176) C dX4_readItem_4 (by decide) (by decide) (by decide) (by decide) ?_
    refine g_aload_n (pc := 176) C dX4_readItem_176 0 rfl ?_
    refine g_aload_n (pc := 177) C dX4_readItem_177 0 rfl ?_
    refine g_get (pc := 178) (T := TX4) (N := 5) (v := .int (nI z.1)) C ib_X4 0 rfl rfl 4 (by decide) mf_X4_33 rfl rfl rfl dX4_readItem_178 ?_
    refine g_wrVV (pc := 181) (rest := []) (wr := [oC dr 3 [.ref da, .ref db, .ref dc, .int (ν 8 0), .int (ν 8 1), .int (ν 8 2), .int (ν 8 3), .int (ν 8 4), .int (ν 8 5), .int (ν 8 6)], iC G da 16 (fq ν), iC G db 64 (ν 2), iC G dc 50 (fg ν)]) C (fun _ => wP G tx al dr n (ftS z (nI z.1)) lt ++ (wT G dr da db dc ν)) rfl k_X4_faultAt (c_X4_faultAt l G tx al dr n z lt (nI z.1)) ml_X4_77 rfl ⟨Nat.le_of_ble_eq_true rfl, Nat.le_of_ble_eq_true rfl⟩ rfl [0, 1] [2, 3, 4, 5] [4, 5, 0, 1, 2, 3] rfl (by decide) rfl (by decide) (by decide) (by decide) (fun _ => rfl) 0 rfl rfl rfl rfl (Nat.le_of_ble_eq_true rfl) ⟨by decide, by decide⟩ dX4_readItem_181 (fun _ _ => ?_)
    exact g_retVW (pc := 184) C rfl rfl () trivial (by rw [itS, itT, h4_100] <;> rfl) dX4_readItem_184
  by_cases h4_101 : ltr lt n z.1 = 101
  · refine g_top (z := 101) h4_101 ?_
    refine g_tsIn (pc := 4) (off := 172) (tgt := 176) C dX4_readItem_4 (by decide) (by decide) (by decide) (by decide) ?_
    refine g_aload_n (pc := 176) C dX4_readItem_176 0 rfl ?_
    refine g_aload_n (pc := 177) C dX4_readItem_177 0 rfl ?_
    refine g_get (pc := 178) (T := TX4) (N := 5) (v := .int (nI z.1)) C ib_X4 0 rfl rfl 4 (by decide) mf_X4_33 rfl rfl rfl dX4_readItem_178 ?_
    refine g_wrVV (pc := 181) (rest := []) (wr := [oC dr 3 [.ref da, .ref db, .ref dc, .int (ν 8 0), .int (ν 8 1), .int (ν 8 2), .int (ν 8 3), .int (ν 8 4), .int (ν 8 5), .int (ν 8 6)], iC G da 16 (fq ν), iC G db 64 (ν 2), iC G dc 50 (fg ν)]) C (fun _ => wP G tx al dr n (ftS z (nI z.1)) lt ++ (wT G dr da db dc ν)) rfl k_X4_faultAt (c_X4_faultAt l G tx al dr n z lt (nI z.1)) ml_X4_77 rfl ⟨Nat.le_of_ble_eq_true rfl, Nat.le_of_ble_eq_true rfl⟩ rfl [0, 1] [2, 3, 4, 5] [4, 5, 0, 1, 2, 3] rfl (by decide) rfl (by decide) (by decide) (by decide) (fun _ => rfl) 0 rfl rfl rfl rfl (Nat.le_of_ble_eq_true rfl) ⟨by decide, by decide⟩ dX4_readItem_181 (fun _ _ => ?_)
    exact g_retVW (pc := 184) C rfl rfl () trivial (by rw [itS, itT, h4_101] <;> rfl) dX4_readItem_184
  by_cases h4_102 : ltr lt n z.1 = 102
  · refine g_top (z := 102) h4_102 ?_
    refine g_tsIn (pc := 4) (off := 172) (tgt := 176) C dX4_readItem_4 (by decide) (by decide) (by decide) (by decide) ?_
    refine g_aload_n (pc := 176) C dX4_readItem_176 0 rfl ?_
    refine g_aload_n (pc := 177) C dX4_readItem_177 0 rfl ?_
    refine g_get (pc := 178) (T := TX4) (N := 5) (v := .int (nI z.1)) C ib_X4 0 rfl rfl 4 (by decide) mf_X4_33 rfl rfl rfl dX4_readItem_178 ?_
    refine g_wrVV (pc := 181) (rest := []) (wr := [oC dr 3 [.ref da, .ref db, .ref dc, .int (ν 8 0), .int (ν 8 1), .int (ν 8 2), .int (ν 8 3), .int (ν 8 4), .int (ν 8 5), .int (ν 8 6)], iC G da 16 (fq ν), iC G db 64 (ν 2), iC G dc 50 (fg ν)]) C (fun _ => wP G tx al dr n (ftS z (nI z.1)) lt ++ (wT G dr da db dc ν)) rfl k_X4_faultAt (c_X4_faultAt l G tx al dr n z lt (nI z.1)) ml_X4_77 rfl ⟨Nat.le_of_ble_eq_true rfl, Nat.le_of_ble_eq_true rfl⟩ rfl [0, 1] [2, 3, 4, 5] [4, 5, 0, 1, 2, 3] rfl (by decide) rfl (by decide) (by decide) (by decide) (fun _ => rfl) 0 rfl rfl rfl rfl (Nat.le_of_ble_eq_true rfl) ⟨by decide, by decide⟩ dX4_readItem_181 (fun _ _ => ?_)
    exact g_retVW (pc := 184) C rfl rfl () trivial (by rw [itS, itT, h4_102] <;> rfl) dX4_readItem_184
  by_cases h4_103 : ltr lt n z.1 = 103
  · refine g_top (z := 103) h4_103 ?_
    refine g_tsIn (pc := 4) (off := 84) (tgt := 88) C dX4_readItem_4 (by decide) (by decide) (by decide) (by decide) ?_
    refine g_aload_n (pc := 88) C dX4_readItem_88 0 rfl ?_
    refine g_wrVV (pc := 89) (rest := []) (wr := []) C (fun _ => wP G tx al dr n (grS lt n ν z 5) lt ++ (wT G dr da db dc (grT lt n ν z))) rfl k_X4_readGroup (c_X4_readGroup l G tx al dr n z lt da db dc ν (by first | assumption | omega | decide) (by first | assumption | omega | decide) (by first | assumption | omega | decide)) ml_X4_47 rfl ⟨Nat.le_of_ble_eq_true rfl, Nat.le_of_ble_eq_true rfl⟩ rfl [0, 1, 2, 3, 4, 5] [] [0, 1, 2, 3, 4, 5] rfl (by decide) rfl (by decide) (by decide) (by decide) (fun _ => rfl) 0 rfl rfl rfl rfl (Nat.le_of_ble_eq_true rfl) ⟨by decide, by decide⟩ dX4_readItem_89 (fun _ _ => ?_)
    refine g_goto (pc := 92) (tgt := 184) C dX4_readItem_92 (by decide) ?_
    exact g_retVW (pc := 184) C rfl rfl () trivial (by rw [itS, itT, if_pos h4_103, if_pos h4_103] <;> rfl) dX4_readItem_184
  by_cases h4_104 : ltr lt n z.1 = 104
  · refine g_top (z := 104) h4_104 ?_
    refine g_tsIn (pc := 4) (off := 149) (tgt := 153) C dX4_readItem_4 (by decide) (by decide) (by decide) (by decide) ?_
    refine g_aload_n (pc := 153) C dX4_readItem_153 0 rfl ?_
    refine g_ldcS (pc := 154) (q := 5) C dX4_readItem_154 (List.mem_of_getElem? (i := 5) rfl) rfl rfl ?_
    refine g_wrVV (pc := 156) (rest := []) (wr := [oC dr 3 [.ref da, .ref db, .ref dc, .int (ν 8 0), .int (ν 8 1), .int (ν 8 2), .int (ν 8 3), .int (ν 8 4), .int (ν 8 5), .int (ν 8 6)], iC G da 16 (fq ν), iC G db 64 (ν 2), iC G dc 50 (fg ν)]) C (fun _ => wP G tx al dr n (rwS lt n 5 z (kwn 5)) lt ++ (wT G dr da db dc ν)) rfl k_X4_readWord (c_X4_readWord l G tx al dr n z lt 5 (by first | assumption | omega | decide) (by first | assumption | omega | decide) (by first | assumption | omega | decide)) ml_X4_55 rfl ⟨Nat.le_of_ble_eq_true rfl, Nat.le_of_ble_eq_true rfl⟩ rfl [0, 1] [2, 3, 4, 5] [4, 5, 0, 1, 2, 3] rfl (by decide) rfl (by decide) (by decide) (by decide) (fun _ => rfl) 0 rfl rfl rfl rfl (Nat.le_of_ble_eq_true rfl) ⟨by decide, by decide⟩ dX4_readItem_156 (fun _ _ => ?_)
    refine g_aload_n (pc := 159) C dX4_readItem_159 0 rfl ?_
    refine g_get (pc := 160) (T := TX4) (N := 5) (v := .ref dr) C ib_X4 0 rfl rfl 1 (by decide) mf_X4_18 rfl rfl rfl dX4_readItem_160 ?_
    refine g_aload_n (pc := 163) C dX4_readItem_163 0 rfl ?_
    refine g_iconst (pc := 164) (v := 0) C dX4_readItem_164 (by decide) ?_
    refine g_bipush (pc := 165) (v := 7) C dX4_readItem_165 (by decide) ?_
    refine g_wrVI (pc := 167) (rest := [.ref dr]) (wr := [oC dr 3 [.ref da, .ref db, .ref dc, .int (ν 8 0), .int (ν 8 1), .int (ν 8 2), .int (ν 8 3), .int (ν 8 4), .int (ν 8 5), .int (ν 8 6)], iC G da 16 (fq ν), iC G db 64 (ν 2), iC G dc 50 (fg ν)]) C (fun _ => wP G tx al dr n (nuS lt n 0 7 (rwS lt n 5 z (kwn 5))) lt ++ (wT G dr da db dc ν)) rfl k_X4_readNumber (c_X4_readNumber l G tx al dr n (rwS lt n 5 z (kwn 5)) lt 0 7 (rwS_le (by decide) hz (kwn 5) (Nat.le_refl _)) (by first | assumption | omega | decide)) ml_X4_67 rfl ⟨Nat.le_of_ble_eq_true rfl, Nat.le_of_ble_eq_true rfl⟩ rfl [0, 1] [2, 3, 4, 5] [4, 5, 0, 1, 2, 3] rfl (by decide) rfl (by decide) (by decide) (by decide) (fun _ => rfl) 0 rfl rfl rfl rfl (Nat.le_of_ble_eq_true rfl) ⟨by decide, by decide⟩ dX4_readItem_167 (fun r167 _ e167 => ?_)
    subst e167
    refine g_put (pc := 170) (T := TX3) (N := 10) (ty := .int) (ws' := wP G tx al dr n (nuS lt n 0 7 (rwS lt n 5 z (kwn 5))) lt ++ ([oC dr 3 [.ref da, .ref db, .ref dc, .int (ν 8 0), .int (ν 8 1), .int (ν 8 2), .int (nuV lt n (rwS lt n 5 z (kwn 5))), .int (ν 8 4), .int (ν 8 5), .int (ν 8 6)], iC G da 16 (fq ν), iC G db 64 (ν 2), iC G dc 50 (fg ν)])) C rfl ib_X3 tyX3 tyX3_ok nmX3 2 rfl rfl 6 (by decide) mf_X4_75 rfl rfl rfl (by decide +kernel) rfl rfl (Nat.le_of_ble_eq_true rfl) dX4_readItem_170 rfl ?_
    refine g_goto (pc := 173) (tgt := 184) C dX4_readItem_173 (by decide) ?_
    exact g_retVW (pc := 184) C rfl rfl () trivial (by rw [itS, itT, if_neg (by rw [h4_104]; decide), if_neg (by rw [h4_104]; decide), if_neg (by rw [h4_104]; decide), if_neg (by rw [h4_104]; decide), if_neg (by rw [h4_104]; decide), if_pos h4_104, if_neg (by rw [h4_104]; decide), if_neg (by rw [h4_104]; decide), if_neg (by rw [h4_104]; decide), if_neg (by rw [h4_104]; decide), if_neg (by rw [h4_104]; decide), if_pos h4_104] <;> (simp [wT, aSc, fq_upn, fg_upn, up2_n, up2]; done)) dX4_readItem_184
  by_cases h4_105 : ltr lt n z.1 = 105
  · refine g_top (z := 105) h4_105 ?_
    refine g_tsIn (pc := 4) (off := 172) (tgt := 176) C dX4_readItem_4 (by decide) (by decide) (by decide) (by decide) ?_
    refine g_aload_n (pc := 176) C dX4_readItem_176 0 rfl ?_
    refine g_aload_n (pc := 177) C dX4_readItem_177 0 rfl ?_
    refine g_get (pc := 178) (T := TX4) (N := 5) (v := .int (nI z.1)) C ib_X4 0 rfl rfl 4 (by decide) mf_X4_33 rfl rfl rfl dX4_readItem_178 ?_
    refine g_wrVV (pc := 181) (rest := []) (wr := [oC dr 3 [.ref da, .ref db, .ref dc, .int (ν 8 0), .int (ν 8 1), .int (ν 8 2), .int (ν 8 3), .int (ν 8 4), .int (ν 8 5), .int (ν 8 6)], iC G da 16 (fq ν), iC G db 64 (ν 2), iC G dc 50 (fg ν)]) C (fun _ => wP G tx al dr n (ftS z (nI z.1)) lt ++ (wT G dr da db dc ν)) rfl k_X4_faultAt (c_X4_faultAt l G tx al dr n z lt (nI z.1)) ml_X4_77 rfl ⟨Nat.le_of_ble_eq_true rfl, Nat.le_of_ble_eq_true rfl⟩ rfl [0, 1] [2, 3, 4, 5] [4, 5, 0, 1, 2, 3] rfl (by decide) rfl (by decide) (by decide) (by decide) (fun _ => rfl) 0 rfl rfl rfl rfl (Nat.le_of_ble_eq_true rfl) ⟨by decide, by decide⟩ dX4_readItem_181 (fun _ _ => ?_)
    exact g_retVW (pc := 184) C rfl rfl () trivial (by rw [itS, itT, h4_105] <;> rfl) dX4_readItem_184
  by_cases h4_106 : ltr lt n z.1 = 106
  · refine g_top (z := 106) h4_106 ?_
    refine g_tsIn (pc := 4) (off := 172) (tgt := 176) C dX4_readItem_4 (by decide) (by decide) (by decide) (by decide) ?_
    refine g_aload_n (pc := 176) C dX4_readItem_176 0 rfl ?_
    refine g_aload_n (pc := 177) C dX4_readItem_177 0 rfl ?_
    refine g_get (pc := 178) (T := TX4) (N := 5) (v := .int (nI z.1)) C ib_X4 0 rfl rfl 4 (by decide) mf_X4_33 rfl rfl rfl dX4_readItem_178 ?_
    refine g_wrVV (pc := 181) (rest := []) (wr := [oC dr 3 [.ref da, .ref db, .ref dc, .int (ν 8 0), .int (ν 8 1), .int (ν 8 2), .int (ν 8 3), .int (ν 8 4), .int (ν 8 5), .int (ν 8 6)], iC G da 16 (fq ν), iC G db 64 (ν 2), iC G dc 50 (fg ν)]) C (fun _ => wP G tx al dr n (ftS z (nI z.1)) lt ++ (wT G dr da db dc ν)) rfl k_X4_faultAt (c_X4_faultAt l G tx al dr n z lt (nI z.1)) ml_X4_77 rfl ⟨Nat.le_of_ble_eq_true rfl, Nat.le_of_ble_eq_true rfl⟩ rfl [0, 1] [2, 3, 4, 5] [4, 5, 0, 1, 2, 3] rfl (by decide) rfl (by decide) (by decide) (by decide) (fun _ => rfl) 0 rfl rfl rfl rfl (Nat.le_of_ble_eq_true rfl) ⟨by decide, by decide⟩ dX4_readItem_181 (fun _ _ => ?_)
    exact g_retVW (pc := 184) C rfl rfl () trivial (by rw [itS, itT, h4_106] <;> rfl) dX4_readItem_184
  by_cases h4_107 : ltr lt n z.1 = 107
  · refine g_top (z := 107) h4_107 ?_
    refine g_tsIn (pc := 4) (off := 172) (tgt := 176) C dX4_readItem_4 (by decide) (by decide) (by decide) (by decide) ?_
    refine g_aload_n (pc := 176) C dX4_readItem_176 0 rfl ?_
    refine g_aload_n (pc := 177) C dX4_readItem_177 0 rfl ?_
    refine g_get (pc := 178) (T := TX4) (N := 5) (v := .int (nI z.1)) C ib_X4 0 rfl rfl 4 (by decide) mf_X4_33 rfl rfl rfl dX4_readItem_178 ?_
    refine g_wrVV (pc := 181) (rest := []) (wr := [oC dr 3 [.ref da, .ref db, .ref dc, .int (ν 8 0), .int (ν 8 1), .int (ν 8 2), .int (ν 8 3), .int (ν 8 4), .int (ν 8 5), .int (ν 8 6)], iC G da 16 (fq ν), iC G db 64 (ν 2), iC G dc 50 (fg ν)]) C (fun _ => wP G tx al dr n (ftS z (nI z.1)) lt ++ (wT G dr da db dc ν)) rfl k_X4_faultAt (c_X4_faultAt l G tx al dr n z lt (nI z.1)) ml_X4_77 rfl ⟨Nat.le_of_ble_eq_true rfl, Nat.le_of_ble_eq_true rfl⟩ rfl [0, 1] [2, 3, 4, 5] [4, 5, 0, 1, 2, 3] rfl (by decide) rfl (by decide) (by decide) (by decide) (fun _ => rfl) 0 rfl rfl rfl rfl (Nat.le_of_ble_eq_true rfl) ⟨by decide, by decide⟩ dX4_readItem_181 (fun _ _ => ?_)
    exact g_retVW (pc := 184) C rfl rfl () trivial (by rw [itS, itT, h4_107] <;> rfl) dX4_readItem_184
  by_cases h4_108 : ltr lt n z.1 = 108
  · refine g_top (z := 108) h4_108 ?_
    refine g_tsIn (pc := 4) (off := 172) (tgt := 176) C dX4_readItem_4 (by decide) (by decide) (by decide) (by decide) ?_
    refine g_aload_n (pc := 176) C dX4_readItem_176 0 rfl ?_
    refine g_aload_n (pc := 177) C dX4_readItem_177 0 rfl ?_
    refine g_get (pc := 178) (T := TX4) (N := 5) (v := .int (nI z.1)) C ib_X4 0 rfl rfl 4 (by decide) mf_X4_33 rfl rfl rfl dX4_readItem_178 ?_
    refine g_wrVV (pc := 181) (rest := []) (wr := [oC dr 3 [.ref da, .ref db, .ref dc, .int (ν 8 0), .int (ν 8 1), .int (ν 8 2), .int (ν 8 3), .int (ν 8 4), .int (ν 8 5), .int (ν 8 6)], iC G da 16 (fq ν), iC G db 64 (ν 2), iC G dc 50 (fg ν)]) C (fun _ => wP G tx al dr n (ftS z (nI z.1)) lt ++ (wT G dr da db dc ν)) rfl k_X4_faultAt (c_X4_faultAt l G tx al dr n z lt (nI z.1)) ml_X4_77 rfl ⟨Nat.le_of_ble_eq_true rfl, Nat.le_of_ble_eq_true rfl⟩ rfl [0, 1] [2, 3, 4, 5] [4, 5, 0, 1, 2, 3] rfl (by decide) rfl (by decide) (by decide) (by decide) (fun _ => rfl) 0 rfl rfl rfl rfl (Nat.le_of_ble_eq_true rfl) ⟨by decide, by decide⟩ dX4_readItem_181 (fun _ _ => ?_)
    exact g_retVW (pc := 184) C rfl rfl () trivial (by rw [itS, itT, h4_108] <;> rfl) dX4_readItem_184
  by_cases h4_109 : ltr lt n z.1 = 109
  · refine g_top (z := 109) h4_109 ?_
    refine g_tsIn (pc := 4) (off := 172) (tgt := 176) C dX4_readItem_4 (by decide) (by decide) (by decide) (by decide) ?_
    refine g_aload_n (pc := 176) C dX4_readItem_176 0 rfl ?_
    refine g_aload_n (pc := 177) C dX4_readItem_177 0 rfl ?_
    refine g_get (pc := 178) (T := TX4) (N := 5) (v := .int (nI z.1)) C ib_X4 0 rfl rfl 4 (by decide) mf_X4_33 rfl rfl rfl dX4_readItem_178 ?_
    refine g_wrVV (pc := 181) (rest := []) (wr := [oC dr 3 [.ref da, .ref db, .ref dc, .int (ν 8 0), .int (ν 8 1), .int (ν 8 2), .int (ν 8 3), .int (ν 8 4), .int (ν 8 5), .int (ν 8 6)], iC G da 16 (fq ν), iC G db 64 (ν 2), iC G dc 50 (fg ν)]) C (fun _ => wP G tx al dr n (ftS z (nI z.1)) lt ++ (wT G dr da db dc ν)) rfl k_X4_faultAt (c_X4_faultAt l G tx al dr n z lt (nI z.1)) ml_X4_77 rfl ⟨Nat.le_of_ble_eq_true rfl, Nat.le_of_ble_eq_true rfl⟩ rfl [0, 1] [2, 3, 4, 5] [4, 5, 0, 1, 2, 3] rfl (by decide) rfl (by decide) (by decide) (by decide) (fun _ => rfl) 0 rfl rfl rfl rfl (Nat.le_of_ble_eq_true rfl) ⟨by decide, by decide⟩ dX4_readItem_181 (fun _ _ => ?_)
    exact g_retVW (pc := 184) C rfl rfl () trivial (by rw [itS, itT, h4_109] <;> rfl) dX4_readItem_184
  by_cases h4_110 : ltr lt n z.1 = 110
  · refine g_top (z := 110) h4_110 ?_
    refine g_tsIn (pc := 4) (off := 172) (tgt := 176) C dX4_readItem_4 (by decide) (by decide) (by decide) (by decide) ?_
    refine g_aload_n (pc := 176) C dX4_readItem_176 0 rfl ?_
    refine g_aload_n (pc := 177) C dX4_readItem_177 0 rfl ?_
    refine g_get (pc := 178) (T := TX4) (N := 5) (v := .int (nI z.1)) C ib_X4 0 rfl rfl 4 (by decide) mf_X4_33 rfl rfl rfl dX4_readItem_178 ?_
    refine g_wrVV (pc := 181) (rest := []) (wr := [oC dr 3 [.ref da, .ref db, .ref dc, .int (ν 8 0), .int (ν 8 1), .int (ν 8 2), .int (ν 8 3), .int (ν 8 4), .int (ν 8 5), .int (ν 8 6)], iC G da 16 (fq ν), iC G db 64 (ν 2), iC G dc 50 (fg ν)]) C (fun _ => wP G tx al dr n (ftS z (nI z.1)) lt ++ (wT G dr da db dc ν)) rfl k_X4_faultAt (c_X4_faultAt l G tx al dr n z lt (nI z.1)) ml_X4_77 rfl ⟨Nat.le_of_ble_eq_true rfl, Nat.le_of_ble_eq_true rfl⟩ rfl [0, 1] [2, 3, 4, 5] [4, 5, 0, 1, 2, 3] rfl (by decide) rfl (by decide) (by decide) (by decide) (fun _ => rfl) 0 rfl rfl rfl rfl (Nat.le_of_ble_eq_true rfl) ⟨by decide, by decide⟩ dX4_readItem_181 (fun _ _ => ?_)
    exact g_retVW (pc := 184) C rfl rfl () trivial (by rw [itS, itT, h4_110] <;> rfl) dX4_readItem_184
  by_cases h4_111 : ltr lt n z.1 = 111
  · refine g_top (z := 111) h4_111 ?_
    refine g_tsIn (pc := 4) (off := 172) (tgt := 176) C dX4_readItem_4 (by decide) (by decide) (by decide) (by decide) ?_
    refine g_aload_n (pc := 176) C dX4_readItem_176 0 rfl ?_
    refine g_aload_n (pc := 177) C dX4_readItem_177 0 rfl ?_
    refine g_get (pc := 178) (T := TX4) (N := 5) (v := .int (nI z.1)) C ib_X4 0 rfl rfl 4 (by decide) mf_X4_33 rfl rfl rfl dX4_readItem_178 ?_
    refine g_wrVV (pc := 181) (rest := []) (wr := [oC dr 3 [.ref da, .ref db, .ref dc, .int (ν 8 0), .int (ν 8 1), .int (ν 8 2), .int (ν 8 3), .int (ν 8 4), .int (ν 8 5), .int (ν 8 6)], iC G da 16 (fq ν), iC G db 64 (ν 2), iC G dc 50 (fg ν)]) C (fun _ => wP G tx al dr n (ftS z (nI z.1)) lt ++ (wT G dr da db dc ν)) rfl k_X4_faultAt (c_X4_faultAt l G tx al dr n z lt (nI z.1)) ml_X4_77 rfl ⟨Nat.le_of_ble_eq_true rfl, Nat.le_of_ble_eq_true rfl⟩ rfl [0, 1] [2, 3, 4, 5] [4, 5, 0, 1, 2, 3] rfl (by decide) rfl (by decide) (by decide) (by decide) (fun _ => rfl) 0 rfl rfl rfl rfl (Nat.le_of_ble_eq_true rfl) ⟨by decide, by decide⟩ dX4_readItem_181 (fun _ _ => ?_)
    exact g_retVW (pc := 184) C rfl rfl () trivial (by rw [itS, itT, h4_111] <;> rfl) dX4_readItem_184
  by_cases h4_112 : ltr lt n z.1 = 112
  · refine g_top (z := 112) h4_112 ?_
    refine g_tsIn (pc := 4) (off := 126) (tgt := 130) C dX4_readItem_4 (by decide) (by decide) (by decide) (by decide) ?_
    refine g_aload_n (pc := 130) C dX4_readItem_130 0 rfl ?_
    refine g_ldcS (pc := 131) (q := 4) C dX4_readItem_131 (List.mem_of_getElem? (i := 4) rfl) rfl rfl ?_
    refine g_wrVV (pc := 133) (rest := []) (wr := [oC dr 3 [.ref da, .ref db, .ref dc, .int (ν 8 0), .int (ν 8 1), .int (ν 8 2), .int (ν 8 3), .int (ν 8 4), .int (ν 8 5), .int (ν 8 6)], iC G da 16 (fq ν), iC G db 64 (ν 2), iC G dc 50 (fg ν)]) C (fun _ => wP G tx al dr n (rwS lt n 4 z (kwn 4)) lt ++ (wT G dr da db dc ν)) rfl k_X4_readWord (c_X4_readWord l G tx al dr n z lt 4 (by first | assumption | omega | decide) (by first | assumption | omega | decide) (by first | assumption | omega | decide)) ml_X4_55 rfl ⟨Nat.le_of_ble_eq_true rfl, Nat.le_of_ble_eq_true rfl⟩ rfl [0, 1] [2, 3, 4, 5] [4, 5, 0, 1, 2, 3] rfl (by decide) rfl (by decide) (by decide) (by decide) (fun _ => rfl) 0 rfl rfl rfl rfl (Nat.le_of_ble_eq_true rfl) ⟨by decide, by decide⟩ dX4_readItem_133 (fun _ _ => ?_)
    refine g_aload_n (pc := 136) C dX4_readItem_136 0 rfl ?_
    refine g_get (pc := 137) (T := TX4) (N := 5) (v := .ref dr) C ib_X4 0 rfl rfl 1 (by decide) mf_X4_18 rfl rfl rfl dX4_readItem_137 ?_
    refine g_aload_n (pc := 140) C dX4_readItem_140 0 rfl ?_
    refine g_iconst (pc := 141) (v := 0) C dX4_readItem_141 (by decide) ?_
    refine g_bipush (pc := 142) (v := 99) C dX4_readItem_142 (by decide) ?_
    refine g_wrVI (pc := 144) (rest := [.ref dr]) (wr := [oC dr 3 [.ref da, .ref db, .ref dc, .int (ν 8 0), .int (ν 8 1), .int (ν 8 2), .int (ν 8 3), .int (ν 8 4), .int (ν 8 5), .int (ν 8 6)], iC G da 16 (fq ν), iC G db 64 (ν 2), iC G dc 50 (fg ν)]) C (fun _ => wP G tx al dr n (nuS lt n 0 99 (rwS lt n 4 z (kwn 4))) lt ++ (wT G dr da db dc ν)) rfl k_X4_readNumber (c_X4_readNumber l G tx al dr n (rwS lt n 4 z (kwn 4)) lt 0 99 (rwS_le (by decide) hz (kwn 4) (Nat.le_refl _)) (by first | assumption | omega | decide)) ml_X4_67 rfl ⟨Nat.le_of_ble_eq_true rfl, Nat.le_of_ble_eq_true rfl⟩ rfl [0, 1] [2, 3, 4, 5] [4, 5, 0, 1, 2, 3] rfl (by decide) rfl (by decide) (by decide) (by decide) (fun _ => rfl) 0 rfl rfl rfl rfl (Nat.le_of_ble_eq_true rfl) ⟨by decide, by decide⟩ dX4_readItem_144 (fun r144 _ e144 => ?_)
    subst e144
    refine g_put (pc := 147) (T := TX3) (N := 10) (ty := .int) (ws' := wP G tx al dr n (nuS lt n 0 99 (rwS lt n 4 z (kwn 4))) lt ++ ([oC dr 3 [.ref da, .ref db, .ref dc, .int (ν 8 0), .int (ν 8 1), .int (nuV lt n (rwS lt n 4 z (kwn 4))), .int (ν 8 3), .int (ν 8 4), .int (ν 8 5), .int (ν 8 6)], iC G da 16 (fq ν), iC G db 64 (ν 2), iC G dc 50 (fg ν)])) C rfl ib_X3 tyX3 tyX3_ok nmX3 2 rfl rfl 5 (by decide) mf_X4_71 rfl rfl rfl (by decide +kernel) rfl rfl (Nat.le_of_ble_eq_true rfl) dX4_readItem_147 rfl ?_
    refine g_goto (pc := 150) (tgt := 184) C dX4_readItem_150 (by decide) ?_
    exact g_retVW (pc := 184) C rfl rfl () trivial (by rw [itS, itT, if_neg (by rw [h4_112]; decide), if_neg (by rw [h4_112]; decide), if_neg (by rw [h4_112]; decide), if_neg (by rw [h4_112]; decide), if_pos h4_112, if_neg (by rw [h4_112]; decide), if_neg (by rw [h4_112]; decide), if_neg (by rw [h4_112]; decide), if_neg (by rw [h4_112]; decide), if_pos h4_112] <;> (simp [wT, aSc, fq_upn, fg_upn, up2_n, up2]; done)) dX4_readItem_184
  by_cases h4_113 : ltr lt n z.1 = 113
  · refine g_top (z := 113) h4_113 ?_
    refine g_tsIn (pc := 4) (off := 91) (tgt := 95) C dX4_readItem_4 (by decide) (by decide) (by decide) (by decide) ?_
    refine g_aload_n (pc := 95) C dX4_readItem_95 0 rfl ?_
    refine g_wrVV (pc := 96) (rest := []) (wr := []) C (fun _ => wP G tx al dr n (quS lt n ν z 2) lt ++ (wT G dr da db dc (quT lt n ν z))) rfl k_X4_readQuestion (c_X4_readQuestion l G tx al dr n z lt da db dc ν (by first | assumption | omega | decide) (by first | assumption | omega | decide) (by first | assumption | omega | decide)) ml_X4_50 rfl ⟨Nat.le_of_ble_eq_true rfl, Nat.le_of_ble_eq_true rfl⟩ rfl [0, 1, 2, 3, 4, 5] [] [0, 1, 2, 3, 4, 5] rfl (by decide) rfl (by decide) (by decide) (by decide) (fun _ => rfl) 0 rfl rfl rfl rfl (Nat.le_of_ble_eq_true rfl) ⟨by decide, by decide⟩ dX4_readItem_96 (fun _ _ => ?_)
    refine g_goto (pc := 99) (tgt := 184) C dX4_readItem_99 (by decide) ?_
    exact g_retVW (pc := 184) C rfl rfl () trivial (by rw [itS, itT, if_neg (by rw [h4_113]; decide), if_pos h4_113, if_neg (by rw [h4_113]; decide), if_pos h4_113] <;> rfl) dX4_readItem_184
  refine g_tsOut (pc := 4) (tgt := 176) C dX4_readItem_4 (by have a0 := lv_neT h4_97 (a := 97) rfl; have a1 := lv_neT h4_98 (a := 98) rfl; have a2 := lv_neT h4_99 (a := 99) rfl; have a3 := lv_neT h4_100 (a := 100) rfl; have a4 := lv_neT h4_101 (a := 101) rfl; have a5 := lv_neT h4_102 (a := 102) rfl; have a6 := lv_neT h4_103 (a := 103) rfl; have a7 := lv_neT h4_104 (a := 104) rfl; have a8 := lv_neT h4_105 (a := 105) rfl; have a9 := lv_neT h4_106 (a := 106) rfl; have a10 := lv_neT h4_107 (a := 107) rfl; have a11 := lv_neT h4_108 (a := 108) rfl; have a12 := lv_neT h4_109 (a := 109) rfl; have a13 := lv_neT h4_110 (a := 110) rfl; have a14 := lv_neT h4_111 (a := 111) rfl; have a15 := lv_neT h4_112 (a := 112) rfl; have a16 := lv_neT h4_113 (a := 113) rfl; omega) (by decide) ?_
  refine g_aload_n (pc := 176) C dX4_readItem_176 0 rfl ?_
  refine g_aload_n (pc := 177) C dX4_readItem_177 0 rfl ?_
  refine g_get (pc := 178) (T := TX4) (N := 5) (v := .int (nI z.1)) C ib_X4 0 rfl rfl 4 (by decide) mf_X4_33 rfl rfl rfl dX4_readItem_178 ?_
  refine g_wrVV (pc := 181) (rest := []) (wr := [oC dr 3 [.ref da, .ref db, .ref dc, .int (ν 8 0), .int (ν 8 1), .int (ν 8 2), .int (ν 8 3), .int (ν 8 4), .int (ν 8 5), .int (ν 8 6)], iC G da 16 (fq ν), iC G db 64 (ν 2), iC G dc 50 (fg ν)]) C (fun _ => wP G tx al dr n (ftS z (nI z.1)) lt ++ (wT G dr da db dc ν)) rfl k_X4_faultAt (c_X4_faultAt l G tx al dr n z lt (nI z.1)) ml_X4_77 rfl ⟨Nat.le_of_ble_eq_true rfl, Nat.le_of_ble_eq_true rfl⟩ rfl [0, 1] [2, 3, 4, 5] [4, 5, 0, 1, 2, 3] rfl (by decide) rfl (by decide) (by decide) (by decide) (fun _ => rfl) 0 rfl rfl rfl rfl (Nat.le_of_ble_eq_true rfl) ⟨by decide, by decide⟩ dX4_readItem_181 (fun _ _ => ?_)
  exact g_retVW (pc := 184) C rfl rfl () trivial (by rw [itS, itT, if_neg h4_103, if_neg h4_113, if_neg h4_98, if_neg h4_97, if_neg h4_112, if_neg h4_104, if_neg h4_103, if_neg h4_113, if_neg h4_98, if_neg h4_97, if_neg h4_112, if_neg h4_104]) dX4_readItem_184
