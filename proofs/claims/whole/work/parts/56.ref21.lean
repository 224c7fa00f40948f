set_option maxRecDepth 20000 in
set_option maxHeartbeats 4000000 in
theorem c_X7_order (l : Launch) (G : gT) (m : Nat) (A : Nat → Nat) (τ : tT) (y : Nat → Int32) (o : Nat → Nat) (bo : Nat → Nat) (set : Int32) (i : Int32) (rr : Nat → Int32) (hT : TI τ) : WI l yX7_order cX7_order 7 (some .int) 10 0 0 G [.ref m, .int set, .int i] (wN G m A τ y ++ ([iC G (A 18) 6 (nA o), iC G (A 19) 6 (nA bo), iC G (A 11) 8 rr])) (S := Int32 × (Nat → Nat) × (Nat → Nat)) (fun r _ => r = if rcOr τ set i = 0 then orV τ (nx set) i else (rcOr τ set i)) (fun u => wN G m A τ (upd y 5 u.1) ++ ([iC G (A 18) 6 (nA u.2.1), iC G (A 19) 6 (nA u.2.2), iC G (A 11) 8 (rfI rr (rcOr τ set i))])) := by
  have hg10 := hT.g10
  have hq8 := hT.q8
  intro sz9
  refine start_W (by decide) (Nat.le_of_ble_eq_true rfl) (fun p9 e9 s9 m9 a9 b9 t9 c9 C => ?_)
  refine g_lv (lv' := [(0, .ref m), (1, .int set), (2, .int i)]) rfl ?_
  refine g_iload_n (pc := 0) C dX7_order_0 2 rfl ?_
  refine g_iconst (pc := 1) (v := (-1)) C dX7_order_1 (by decide) ?_
  refine g_iload_n (pc := 2) C dX7_order_2 1 rfl ?_
  refine g_rdSI (pc := 3) (val := bcV set) (rest := [.int (-1), .int i]) C k_J6_bitCount_0f7a4 (c_J6_bitCount_0f7a4 l G set) ml_X7_252 rfl ⟨Nat.le_of_ble_eq_true rfl, Nat.le_of_ble_eq_true rfl⟩ rfl [] rfl rfl (Nat.le_of_ble_eq_true rfl) ⟨by decide, by decide⟩ dX7_order_3 ?_
  refine g_iconst (pc := 6) (v := 1) C dX7_order_6 (by decide) ?_
  refine g_isub (pc := 7) C dX7_order_7 ?_
  refine g_rdSI (pc := 8) (val := bI ((-1) ≤ i ∧ i ≤ ((bcV set) - 1))) (rest := []) C k_X7_within (c_X7_within l G i (-1) ((bcV set) - 1)) ml_X7_88 rfl ⟨Nat.le_of_ble_eq_true rfl, Nat.le_of_ble_eq_true rfl⟩ rfl [] rfl rfl (Nat.le_of_ble_eq_true rfl) ⟨by decide, by decide⟩ dX7_order_8 ?_
  refine g_ifb_ne (pc := 11) (tgt := 21) C dX7_order_11 (by decide) (fun h11 => ?_) (fun h11 => ?_)
  · refine g_iload_n (pc := 21) C dX7_order_21 1 rfl ?_
    refine g_if_lt (pc := 22) (tgt := 44) C dX7_order_22 (by decide) (fun h22 => ?_) (fun h22 => ?_)
    · have hu9 := set_no hq8 (Or.inl h22)
      refine g_aload_n (pc := 44) C dX7_order_44 0 rfl ?_
      refine g_bipush (pc := 45) (v := (-6)) C dX7_order_45 (by decide) ?_
      refine g_wrVI (pc := 47) (rest := []) (wr := [iC G (A 18) 6 (nA o), iC G (A 19) 6 (nA bo)]) C (fun _ => wN G m A τ y ++ ([iC G (A 18) 6 (nA o), iC G (A 19) 6 (nA bo), iC G (A 11) 8 (rfI rr (-6))])) rfl k_X7_no (c_X7_no l G m A τ y rr (-6) (by first | assumption | omega | decide)) ml_X7_81 rfl ⟨Nat.le_of_ble_eq_true rfl, Nat.le_of_ble_eq_true rfl⟩ rfl [0, 1, 2, 3, 4, 5, 6, 7, 8, 11] [9, 10] [2, 3, 4, 5, 6, 7, 8, 9, 10, 0, 1, 11] rfl (by decide) rfl (by decide) (by decide) (by decide) (fun _ => rfl) 0 rfl rfl rfl rfl (Nat.le_of_ble_eq_true rfl) ⟨by decide, by decide⟩ dX7_order_47 (fun r47 _ e47 => ?_)
      subst e47
      exact g_retIW (pc := 50) C rfl rfl (y 5, o, bo) (rfl) (by have e9 : rcOr τ set i = (-6) := (by first | (simp [rcOr, *]; done) | (grind [rcOr])); rw [if_neg (by rw [e9] <;> (first | done | decide)), e9]) (by have e9 : rcOr τ set i = (-6) := (by first | (simp [rcOr, *]; done) | (grind [rcOr])); rw [e9] <;> (first | done | rfl | (rw [if_neg (by decide)] <;> (first | done | rfl)))) dX7_order_50
    · refine g_iload_n (pc := 25) C dX7_order_25 1 rfl ?_
      refine g_iconst (pc := 26) (v := 1) C dX7_order_26 (by decide) ?_
      refine g_aload_n (pc := 27) C dX7_order_27 0 rfl ?_
      refine g_get (pc := 28) (T := TX7) (N := 33) (v := .int (τ 8 0)) C ib_X7 0 rfl rfl 3 (by decide) mf_X7_85 rfl rfl rfl dX7_order_28 ?_
      refine g_top (z := nI (tQ τ)) (hT.q) ?_
      refine g_ishl (pc := 31) C dX7_order_31 ?_
      refine g_icmp_ge (pc := 32) (tgt := 44) C dX7_order_32 (by decide) (fun h32 => ?_) (fun h32 => ?_)
      · have hu9 := set_no hq8 (Or.inr h32)
        refine g_aload_n (pc := 44) C dX7_order_44 0 rfl ?_
        refine g_bipush (pc := 45) (v := (-6)) C dX7_order_45 (by decide) ?_
        refine g_wrVI (pc := 47) (rest := []) (wr := [iC G (A 18) 6 (nA o), iC G (A 19) 6 (nA bo)]) C (fun _ => wN G m A τ y ++ ([iC G (A 18) 6 (nA o), iC G (A 19) 6 (nA bo), iC G (A 11) 8 (rfI rr (-6))])) rfl k_X7_no (c_X7_no l G m A τ y rr (-6) (by first | assumption | omega | decide)) ml_X7_81 rfl ⟨Nat.le_of_ble_eq_true rfl, Nat.le_of_ble_eq_true rfl⟩ rfl [0, 1, 2, 3, 4, 5, 6, 7, 8, 11] [9, 10] [2, 3, 4, 5, 6, 7, 8, 9, 10, 0, 1, 11] rfl (by decide) rfl (by decide) (by decide) (by decide) (fun _ => rfl) 0 rfl rfl rfl rfl (Nat.le_of_ble_eq_true rfl) ⟨by decide, by decide⟩ dX7_order_47 (fun r47 _ e47 => ?_)
        subst e47
        exact g_retIW (pc := 50) C rfl rfl (y 5, o, bo) (rfl) (by have e9 : rcOr τ set i = (-6) := (by first | (simp [rcOr, *]; done) | (grind [rcOr])); rw [if_neg (by rw [e9] <;> (first | done | decide)), e9]) (by have e9 : rcOr τ set i = (-6) := (by first | (simp [rcOr, *]; done) | (grind [rcOr])); rw [e9] <;> (first | done | rfl | (rw [if_neg (by decide)] <;> (first | done | rfl)))) dX7_order_50
      · refine g_iload_n (pc := 35) C dX7_order_35 1 rfl ?_
        refine g_rdSI (pc := 36) (val := bcV set) (rest := []) C k_J6_bitCount_0f7a4 (c_J6_bitCount_0f7a4 l G set) ml_X7_252 rfl ⟨Nat.le_of_ble_eq_true rfl, Nat.le_of_ble_eq_true rfl⟩ rfl [] rfl rfl (Nat.le_of_ble_eq_true rfl) ⟨by decide, by decide⟩ dX7_order_36 ?_
        refine g_bipush (pc := 39) (v := 6) C dX7_order_39 (by decide) ?_
        refine g_icmp_le (pc := 41) (tgt := 51) C dX7_order_41 (by decide) (fun h41 => ?_) (fun h41 => ?_)
        · obtain ⟨S8, hS2, rfl⟩ := set_of hq8 h22 h32
          have hu9 := set_ush hq8 hS2
          have hS8 : S8 < 256 := Nat.lt_of_lt_of_le hS2 (p28 hq8)
          have eS8 : nx (nI S8) = S8 := nx_nI (by omega)
          have hbc : bcV (nI S8) = nI (nL S8) := bcV_nI S8 hS8
          have hn8 := nL_8 S8
          have h11n : -1 ≤ i ∧ i ≤ nI (nL S8) - 1 := by rw [← hbc]; exact h11
          have hn6 : nL S8 ≤ 6 := by have z := h41; rw [hbc] at z; exact (nI_leI (b := 6) (by omega) (by decide)).mp z
          refine g_aload_n (pc := 51) C dX7_order_51 0 rfl ?_
          refine g_iconst (pc := 52) (v := 0) C dX7_order_52 (by decide) ?_
          refine g_put (pc := 53) (T := TX7) (N := 33) (ty := .int) (ws' := [oC m 6 [.ref (A 0), .ref (A 1), .ref (A 2), .int (τ 8 0), .ref (A 3), .ref (A 4), .ref (A 5), .int (τ 8 1), .ref (A 6), .ref (A 7), .ref (A 8), .ref (A 9), .ref (A 10), .int (τ 8 2), .int (τ 8 3), .int (τ 8 5), .int (τ 8 6), .int (τ 8 4), .int (y 0), .ref (A 11), .int (y 1), .ref (A 12), .int (y 2), .ref (A 13), .ref (A 14), .int (y 3), .int (y 4), .ref (A 15), .ref (A 16), .ref (A 17), .ref (A 18), .ref (A 19), .int 0], iC G (A 3) 8 (τ 0), iC G (A 4) 8 (τ 1), iC G (A 5) 64 (τ 2), iC G (A 6) 10 (τ 3), iC G (A 7) 10 (τ 4), iC G (A 8) 10 (τ 5), iC G (A 9) 10 (τ 6), iC G (A 10) 10 (τ 7), iC G (A 18) 6 (nA o), iC G (A 19) 6 (nA bo), iC G (A 11) 8 rr]) C rfl ib_X7 tyX7 tyX7_ok nmX7 0 rfl rfl 32 (by decide) mf_X7_245 rfl rfl rfl (by decide +kernel) rfl rfl (Nat.le_of_ble_eq_true rfl) dX7_order_53 rfl ?_
          refine g_ws (ws' := wN G m A τ (upd y 5 (nI 0)) ++ ([iC G (A 18) 6 (nA o), iC G (A 19) 6 (nA bo), iC G (A 11) 8 rr])) (by rfl) ?_
          refine g_iconst (pc := 56) (v := 0) C dX7_order_56 (by decide) ?_
          refine g_istore_n (pc := 57) (lv' := [(3, .int 0), (0, .ref m), (1, .int (nI S8)), (2, .int i)]) C dX7_order_57 rfl (by decide) rfl ?_
          have key_58 : ∀ (n58 : Nat) (p : Nat) (hp : p ≤ tQ τ), tQ τ - p < n58 → GW p9 l e9 (rmh 10 0 0) s9 m9 a9 b9 t9 c9 (MQ b9 (va_Qi (fun r (_ : Int32 × (Nat → Nat) × (Nat → Nat)) => r = if rcOr τ (nI S8) i = 0 then orV τ (nx (nI S8)) i else (rcOr τ (nI S8) i)) (BW G (wN G m A τ y ++ ([iC G (A 18) 6 (nA o), iC G (A 19) 6 (nA bo), iC G (A 11) 8 rr])) sz9 (fun u => wN G m A τ (upd y 5 u.1) ++ ([iC G (A 18) 6 (nA u.2.1), iC G (A 19) 6 (nA u.2.2), iC G (A 11) 8 (rfI rr (rcOr τ (nI S8) i))]))) (va_A (wN G m A τ y ++ ([iC G (A 18) 6 (nA o), iC G (A 19) 6 (nA bo), iC G (A 11) 8 rr])) sz9)) a9 s9 0 0 (va_A (wN G m A τ y ++ ([iC G (A 18) 6 (nA o), iC G (A 19) 6 (nA bo), iC G (A 11) 8 rr])) sz9)) G (va_A (wN G m A τ y ++ ([iC G (A 18) 6 (nA o), iC G (A 19) 6 (nA bo), iC G (A 11) 8 rr])) sz9) true 7 0 0 (wN G m A τ (upd y 5 (nI (flN S8 p))) ++ ([iC G (A 18) 6 (nA (oB S8 o p)), iC G (A 19) 6 (nA bo), iC G (A 11) 8 rr])) [(0, .ref m), (1, .int (nI S8)), (2, .int i), (3, .int (nI p))] 58 [] := by
            intro n58
            induction n58 with
            | zero => intro p hp hn58; exact absurd hn58 (Nat.not_lt_zero _)
            | succ n58 ih58 =>
              intro p hp hn58
              refine g_iload_n (pc := 58) C dX7_order_58 3 rfl ?_
              refine g_aload_n (pc := 59) C dX7_order_59 0 rfl ?_
              refine g_get (pc := 60) (T := TX7) (N := 33) (v := .int (τ 8 0)) C ib_X7 0 rfl rfl 3 (by decide) mf_X7_85 rfl rfl rfl dX7_order_60 ?_
              refine g_top (z := nI (tQ τ)) (hT.q) ?_
              refine g_icmpN_ge (pc := 63) (i := p) (j := tQ τ) (tgt := 97) C dX7_order_63 (by decide) ⟨by omega, by omega⟩ (fun h63 => ?_) (fun h63 => ?_)
              · refine g_ws (ws' := wN G m A τ (upd y 5 (nI (nL S8))) ++ ([iC G (A 18) 6 (nA (oB S8 o (tQ τ))), iC G (A 19) 6 (nA bo), iC G (A 11) 8 rr])) (by rw [show p = tQ τ from by omega, show flN S8 (tQ τ) = nL S8 from by unfold flN; rw [fl_n hq8 hS2]; rfl]) ?_
                refine g_iconst (pc := 97) (v := (-1)) C dX7_order_97 (by decide) ?_
                refine g_istore_n (pc := 98) (lv' := [(3, .int (-1)), (0, .ref m), (1, .int (nI S8)), (2, .int i)]) C dX7_order_98 rfl (by decide) rfl ?_
                refine g_iconst (pc := 99) (v := 1) C dX7_order_99 (by decide) ?_
                refine g_istore (pc := 100) (lv' := [(4, .int 1), (3, .int (-1)), (0, .ref m), (1, .int (nI S8)), (2, .int i)]) C dX7_order_100 (by decide) rfl ?_
                have key_102 : ∀ (n102 : Nat) (k : Nat) (o2 : Nat → Nat) (b2 : Nat → Nat) (hk : k ≤ (PP (nL S8)).length) (hR : k < (PP (nL S8)).length → RelF (fL S8) (nL S8) (gF (ZK S8 k)) o2) (hB : 0 < k → ∀ z, z < nL S8 → b2 z % 8 = (FK τ S8 k).2.getD z 0), (PP (nL S8)).length - k < n102 → GW p9 l e9 (rmh 10 0 0) s9 m9 a9 b9 t9 c9 (MQ b9 (va_Qi (fun r (_ : Int32 × (Nat → Nat) × (Nat → Nat)) => r = if rcOr τ (nI S8) i = 0 then orV τ (nx (nI S8)) i else (rcOr τ (nI S8) i)) (BW G (wN G m A τ y ++ ([iC G (A 18) 6 (nA o), iC G (A 19) 6 (nA bo), iC G (A 11) 8 rr])) sz9 (fun u => wN G m A τ (upd y 5 u.1) ++ ([iC G (A 18) 6 (nA u.2.1), iC G (A 19) 6 (nA u.2.2), iC G (A 11) 8 (rfI rr (rcOr τ (nI S8) i))]))) (va_A (wN G m A τ y ++ ([iC G (A 18) 6 (nA o), iC G (A 19) 6 (nA bo), iC G (A 11) 8 rr])) sz9)) a9 s9 0 0 (va_A (wN G m A τ y ++ ([iC G (A 18) 6 (nA o), iC G (A 19) 6 (nA bo), iC G (A 11) 8 rr])) sz9)) G (va_A (wN G m A τ y ++ ([iC G (A 18) 6 (nA o), iC G (A 19) 6 (nA bo), iC G (A 11) 8 rr])) sz9) true 7 0 0 (wN G m A τ (upd y 5 (nI (nL S8))) ++ ([iC G (A 18) 6 (nA o2), iC G (A 19) 6 (nA b2), iC G (A 11) 8 rr])) [(0, .ref m), (2, .int i), (3, .int (lsO τ S8 k)), (4, .int (bI (k < (PP (nL S8)).length)))] 102 [] := by
                  intro n102
                  induction n102 with
                  | zero => intro k o2 b2 hk hR hB hn102; exact absurd hn102 (Nat.not_lt_zero _)
                  | succ n102 ih102 =>
                    intro k o2 b2 hk hR hB hn102
                    refine g_iload (pc := 102) C dX7_order_102 3 rfl ?_
                    refine g_ifb_eq (pc := 104) (tgt := 176) C dX7_order_104 (by decide) (fun h104 => ?_) (fun h104 => ?_)
                    · have hke : k = (PP (nL S8)).length := by omega
                      have hE := FK_end τ hS8 hn6
                      have hB9 := hB (by have := (PP_0 _ (show nL S8 < 7 by omega)).2; omega)
                      refine g_iload_n (pc := 176) C dX7_order_176 1 rfl ?_
                      refine g_iconst (pc := 177) (v := (-1)) C dX7_order_177 (by decide) ?_
                      refine g_icmp_ne (pc := 178) (tgt := 185) C dX7_order_178 (by decide) (fun h178 => ?_) (fun h178 => ?_)
                      · obtain ⟨i8, hi8, rfl⟩ := ix_nI (by omega) h11n h178
                        have ei8 : nx (nI i8) = i8 := nx_nI (by omega)
                        refine g_aload_n (pc := 185) C dX7_order_185 0 rfl ?_
                        refine g_get (pc := 186) (T := TX7) (N := 33) (v := .ref (A 19)) C ib_X7 0 rfl rfl 31 (by decide) mf_X7_68 rfl rfl rfl dX7_order_186 ?_
                        refine g_iload_n (pc := 189) C dX7_order_189 1 rfl ?_
                        refine g_iald (pc := 190) (v := nI (b2 i8 % 8)) C 10 rfl i8 (rfl) ⟨by omega, by decide⟩ (rfl) dX7_order_190 ?_
                        exact g_retIW (pc := 191) C rfl rfl ((nI (nL S8)), o2, b2) (rfl) (by have e9 : rcOr τ (nI S8) (nI i8) = 0 := (by first | (simp [rcOr, *]; done) | (grind [rcOr])); rw [if_pos e9] <;> (rw [orV, if_neg h178, eS8, ei8, hB9 i8 hi8, hke, hE.1])) (by have e9 : rcOr τ (nI S8) (nI i8) = 0 := (by first | (simp [rcOr, *]; done) | (grind [rcOr])); rw [e9, rfI_0] <;> (rfl)) dX7_order_191
                      · refine g_iload_n (pc := 181) C dX7_order_181 2 rfl ?_
                        refine g_goto (pc := 182) (tgt := 191) C dX7_order_182 (by decide) ?_
                        exact g_retIW (pc := 191) C rfl rfl ((nI (nL S8)), o2, b2) (rfl) (by have e9 : rcOr τ (nI S8) i = 0 := (by first | (simp [rcOr, *]; done) | (grind [rcOr])); rw [if_pos e9] <;> (rw [orV, if_pos h178, eS8, hke, hE.2])) (by have e9 : rcOr τ (nI S8) i = 0 := (by first | (simp [rcOr, *]; done) | (grind [rcOr])); rw [e9, rfI_0] <;> (rfl)) dX7_order_191
                    · have hkl := h104
                      have hRk := hR hkl
                      refine g_aload_n (pc := 107) C dX7_order_107 0 rfl ?_
                      refine g_aload_n (pc := 108) C dX7_order_108 0 rfl ?_
                      refine g_get (pc := 109) (T := TX7) (N := 33) (v := .ref (A 18)) C ib_X7 0 rfl rfl 30 (by decide) mf_X7_65 rfl rfl rfl dX7_order_109 ?_
                      refine g_aload_n (pc := 112) C dX7_order_112 0 rfl ?_
                      refine g_get (pc := 113) (T := TX7) (N := 33) (v := .int ((upd y 5 (nI (nL S8))) 5)) C ib_X7 0 rfl rfl 32 (by decide) mf_X7_245 rfl rfl rfl dX7_order_113 ?_
                      refine g_top (z := nI (nL S8)) (rfl) ?_
                      refine g_rdVI (pc := 116) (val := sumN (fun x9 => chL τ (ahL (fun z => o2 z % 8) x9) ((fun z => o2 z % 8) x9)) (nL S8)) (rest := []) C k_X7_leansOf (c_X7_leansOf l G m A τ (upd y 5 (nI (nL S8))) (A 18) 6 (nA o2) (fun z => o2 z % 8) (nL S8) (by first | assumption | omega | decide) (by first | assumption | omega | decide) (by first | assumption | omega | decide) (fun z hz => ⟨rfl, m8 (o2 z)⟩)) ml_X7_260 rfl ⟨Nat.le_of_ble_eq_true rfl, Nat.le_of_ble_eq_true rfl⟩ rfl [0, 1, 2, 3, 4, 5, 6, 7, 8, 9] rfl 0 rfl rfl rfl rfl (Nat.le_of_ble_eq_true rfl) ⟨by decide, by decide⟩ dX7_order_116 ?_
                      refine g_top (z := nI (coN τ [] (PK S8 k))) ((lean_co hT o2 (nL S8)).trans (by rw [zO_PK hS8 hn6 hkl hRk])) ?_
                      refine g_istore (pc := 119) (lv' := [(5, .int (nI (coN τ [] (PK S8 k)))), (0, .ref m), (2, .int i), (3, .int (lsO τ S8 k)), (4, .int (bI (k < (PP (nL S8)).length)))]) C dX7_order_119 (by decide) rfl ?_
                      refine g_iload_n (pc := 121) C dX7_order_121 3 rfl ?_
                      refine g_iconst (pc := 122) (v := (-1)) C dX7_order_122 (by decide) ?_
                      refine g_icmp_eq (pc := 123) (tgt := 132) C dX7_order_123 (by decide) (fun h123 => ?_) (fun h123 => ?_)
                      · refine g_iload (pc := 132) C dX7_order_132 0 rfl ?_
                        refine g_istore_n (pc := 134) (lv' := [(3, .int (nI (coN τ [] (PK S8 k)))), (5, .int (nI (coN τ [] (PK S8 k)))), (0, .ref m), (2, .int i), (4, .int (bI (k < (PP (nL S8)).length)))]) C dX7_order_134 rfl (by decide) rfl ?_
                        refine g_iconst (pc := 135) (v := 0) C dX7_order_135 (by decide) ?_
                        refine g_istore (pc := 136) (lv' := [(6, .int 0), (3, .int (nI (coN τ [] (PK S8 k)))), (5, .int (nI (coN τ [] (PK S8 k)))), (0, .ref m), (2, .int i), (4, .int (bI (k < (PP (nL S8)).length)))]) C dX7_order_136 (by decide) rfl ?_
                        have key_138 : ∀ (n138 : Nat) (e : Nat) (he : e ≤ nL S8) (hls : lsO τ S8 k = -1 ∨ ¬ lsO τ S8 k ≤ nI (coN τ [] (PK S8 k))), nL S8 - e < n138 → GW p9 l e9 (rmh 10 0 0) s9 m9 a9 b9 t9 c9 (MQ b9 (va_Qi (fun r (_ : Int32 × (Nat → Nat) × (Nat → Nat)) => r = if rcOr τ (nI S8) i = 0 then orV τ (nx (nI S8)) i else (rcOr τ (nI S8) i)) (BW G (wN G m A τ y ++ ([iC G (A 18) 6 (nA o), iC G (A 19) 6 (nA bo), iC G (A 11) 8 rr])) sz9 (fun u => wN G m A τ (upd y 5 u.1) ++ ([iC G (A 18) 6 (nA u.2.1), iC G (A 19) 6 (nA u.2.2), iC G (A 11) 8 (rfI rr (rcOr τ (nI S8) i))]))) (va_A (wN G m A τ y ++ ([iC G (A 18) 6 (nA o), iC G (A 19) 6 (nA bo), iC G (A 11) 8 rr])) sz9)) a9 s9 0 0 (va_A (wN G m A τ y ++ ([iC G (A 18) 6 (nA o), iC G (A 19) 6 (nA bo), iC G (A 11) 8 rr])) sz9)) G (va_A (wN G m A τ y ++ ([iC G (A 18) 6 (nA o), iC G (A 19) 6 (nA bo), iC G (A 11) 8 rr])) sz9) true 7 0 0 (wN G m A τ (upd y 5 (nI (nL S8))) ++ ([iC G (A 18) 6 (nA o2), iC G (A 19) 6 (nA (bU o2 b2 e)), iC G (A 11) 8 rr])) [(0, .ref m), (2, .int i), (3, .int (nI (coN τ [] (PK S8 k)))), (6, .int (nI e))] 138 [] := by
                          intro n138
                          induction n138 with
                          | zero => intro e he hls hn138; exact absurd hn138 (Nat.not_lt_zero _)
                          | succ n138 ih138 =>
                            intro e he hls hn138
                            refine g_iload (pc := 138) C dX7_order_138 3 rfl ?_
                            refine g_aload_n (pc := 140) C dX7_order_140 0 rfl ?_
                            refine g_get (pc := 141) (T := TX7) (N := 33) (v := .int ((upd y 5 (nI (nL S8))) 5)) C ib_X7 0 rfl rfl 32 (by decide) mf_X7_245 rfl rfl rfl dX7_order_141 ?_
                            refine g_top (z := nI (nL S8)) (rfl) ?_
                            refine g_icmpN_ge (pc := 144) (i := e) (j := nL S8) (tgt := 167) C dX7_order_144 (by decide) ⟨by omega, by omega⟩ (fun h144 => ?_) (fun h144 => ?_)
                            · refine g_aload_n (pc := 167) C dX7_order_167 0 rfl ?_
                              refine g_wrVI (pc := 168) (rest := []) (wr := [iC G (A 19) 6 (nA (bU o2 b2 e)), iC G (A 11) 8 rr]) C (fun _ => wN G m A τ (upd y 5 (nI (nL S8))) ++ ([iC G (A 18) 6 (nA (nxO o2 (nL S8))), iC G (A 19) 6 (nA (bU o2 b2 e)), iC G (A 11) 8 rr])) rfl k_X7_next (c_X7_next l G m A τ (upd y 5 (nI (nL S8))) o2 (nL S8) rfl (by first | assumption | omega | decide)) ml_X7_263 rfl ⟨Nat.le_of_ble_eq_true rfl, Nat.le_of_ble_eq_true rfl⟩ rfl [0, 1, 2, 3, 4, 5, 6, 7, 8, 9] [10, 11] [2, 3, 4, 5, 6, 7, 8, 9, 10, 11, 0, 1] rfl (by decide) rfl (by decide) (by decide) (by decide) (fun _ => rfl) 0 rfl rfl rfl rfl (Nat.le_of_ble_eq_true rfl) ⟨by decide, by decide⟩ dX7_order_168 (fun r168 _ e168 => ?_)
                              subst e168
                              refine g_istore (pc := 171) (lv' := [(4, .int (bI (0 < pI o2 ((nL S8) - 1)))), (0, .ref m), (2, .int i), (3, .int (nI (coN τ [] (PK S8 k)))), (6, .int (nI e))]) C dX7_order_171 (by decide) rfl ?_
                              refine g_goto (pc := 173) (tgt := 102) C dX7_order_173 (by decide) ?_
                              refine g_ws (ws' := wN G m A τ (upd y 5 (nI (nL S8))) ++ ([iC G (A 18) 6 (nA (nxO o2 (nL S8))), iC G (A 19) 6 (nA (bU o2 b2 e)), iC G (A 11) 8 rr])) (rfl) ?_
                              refine g_sub (lv' := [(0, .ref m), (2, .int i), (3, .int (nI (coN τ [] (PK S8 k)))), (4, .int (bI (0 < pI o2 ((nL S8) - 1))))]) [1, 2, 3, 0] rfl ?_
                              refine g_lv (lv' := [(0, .ref m), (2, .int i), (3, .int (lsO τ S8 (k + 1))), (4, .int (bI ((k + 1) < (PP (nL S8)).length)))]) (by rw [(ls_up τ hS8 hn6 hkl (hls)).2, bI_iff (step_k hS8 hn6 hkl hRk).1]) ?_
                              exact ih102 (k + 1) (nxO o2 (nL S8)) (bU o2 b2 e) (by omega) (step_k hS8 hn6 hkl hRk).2 (fun _ => by rw [show e = nL S8 from by omega]; exact best_up hS8 hn6 hkl hRk (ls_up τ hS8 hn6 hkl (hls)).1) (by omega)
                            · refine g_aload_n (pc := 147) C dX7_order_147 0 rfl ?_
                              refine g_get (pc := 148) (T := TX7) (N := 33) (v := .ref (A 19)) C ib_X7 0 rfl rfl 31 (by decide) mf_X7_68 rfl rfl rfl dX7_order_148 ?_
                              refine g_iload (pc := 151) C dX7_order_151 3 rfl ?_
                              refine g_aload_n (pc := 153) C dX7_order_153 0 rfl ?_
                              refine g_get (pc := 154) (T := TX7) (N := 33) (v := .ref (A 18)) C ib_X7 0 rfl rfl 30 (by decide) mf_X7_65 rfl rfl rfl dX7_order_154 ?_
                              refine g_iload (pc := 157) C dX7_order_157 3 rfl ?_
                              refine g_iald (pc := 159) (v := (nA o2) e) C 9 rfl e (rfl) ⟨by omega, by decide⟩ (rfl) dX7_order_159 ?_
                              refine g_iast (pc := 160) (ws' := wN G m A τ (upd y 5 (nI (nL S8))) ++ ([iC G (A 18) 6 (nA o2), iC G (A 19) 6 (upd (nA (bU o2 b2 e)) e ((nA o2) e)), iC G (A 11) 8 rr])) C rfl 10 rfl e (rfl) ⟨by omega, by decide⟩ dX7_order_160 rfl ?_
                              refine g_iinc (pc := 161) (v := nI (e + 1)) (lv' := [(6, .int (nI (e + 1))), (0, .ref m), (2, .int i), (3, .int (nI (coN τ [] (PK S8 k))))]) C dX7_order_161 3 rfl (nI_1 e) (by decide) rfl ?_
                              refine g_goto (pc := 164) (tgt := 138) C dX7_order_164 (by decide) ?_
                              refine g_ws (ws' := wN G m A τ (upd y 5 (nI (nL S8))) ++ ([iC G (A 18) 6 (nA o2), iC G (A 19) 6 (nA (bU o2 b2 (e + 1))), iC G (A 11) 8 rr])) (by rw [bU_s]) ?_
                              refine g_sub (lv' := [(0, .ref m), (2, .int i), (3, .int (nI (coN τ [] (PK S8 k)))), (6, .int (nI (e + 1)))]) [1, 2, 3, 0] rfl ?_
                              exact ih138 (e + 1) (by first | assumption | omega | decide) (by first | assumption | omega | decide) (by omega)
                        refine g_ws (ws' := wN G m A τ (upd y 5 (nI (nL S8))) ++ ([iC G (A 18) 6 (nA o2), iC G (A 19) 6 (nA (bU o2 b2 0)), iC G (A 11) 8 rr])) (by rw [bU_0]) ?_
                        refine g_sub (lv' := [(0, .ref m), (2, .int i), (3, .int (nI (coN τ [] (PK S8 k)))), (6, .int (nI 0))]) [3, 4, 1, 0] rfl ?_
                        exact key_138 _ 0 (by first | assumption | omega | decide) (Or.inl h123) (Nat.lt_succ_self _)
                      · refine g_iload (pc := 126) C dX7_order_126 0 rfl ?_
                        refine g_iload_n (pc := 128) C dX7_order_128 3 rfl ?_
                        refine g_icmp_ge (pc := 129) (tgt := 167) C dX7_order_129 (by decide) (fun h129 => ?_) (fun h129 => ?_)
                        · refine g_aload_n (pc := 167) C dX7_order_167 1 rfl ?_
                          refine g_wrVI (pc := 168) (rest := []) (wr := [iC G (A 19) 6 (nA b2), iC G (A 11) 8 rr]) C (fun _ => wN G m A τ (upd y 5 (nI (nL S8))) ++ ([iC G (A 18) 6 (nA (nxO o2 (nL S8))), iC G (A 19) 6 (nA b2), iC G (A 11) 8 rr])) rfl k_X7_next (c_X7_next l G m A τ (upd y 5 (nI (nL S8))) o2 (nL S8) rfl (by first | assumption | omega | decide)) ml_X7_263 rfl ⟨Nat.le_of_ble_eq_true rfl, Nat.le_of_ble_eq_true rfl⟩ rfl [0, 1, 2, 3, 4, 5, 6, 7, 8, 9] [10, 11] [2, 3, 4, 5, 6, 7, 8, 9, 10, 11, 0, 1] rfl (by decide) rfl (by decide) (by decide) (by decide) (fun _ => rfl) 0 rfl rfl rfl rfl (Nat.le_of_ble_eq_true rfl) ⟨by decide, by decide⟩ dX7_order_168 (fun r168 _ e168 => ?_)
                          subst e168
                          refine g_istore (pc := 171) (lv' := [(4, .int (bI (0 < pI o2 ((nL S8) - 1)))), (5, .int (nI (coN τ [] (PK S8 k)))), (0, .ref m), (2, .int i), (3, .int (lsO τ S8 k))]) C dX7_order_171 (by decide) rfl ?_
                          refine g_goto (pc := 173) (tgt := 102) C dX7_order_173 (by decide) ?_
                          refine g_ws (ws' := wN G m A τ (upd y 5 (nI (nL S8))) ++ ([iC G (A 18) 6 (nA (nxO o2 (nL S8))), iC G (A 19) 6 (nA b2), iC G (A 11) 8 rr])) (rfl) ?_
                          refine g_sub (lv' := [(0, .ref m), (2, .int i), (3, .int (lsO τ S8 k)), (4, .int (bI (0 < pI o2 ((nL S8) - 1))))]) [2, 3, 4, 0] rfl ?_
                          refine g_lv (lv' := [(0, .ref m), (2, .int i), (3, .int (lsO τ S8 (k + 1))), (4, .int (bI ((k + 1) < (PP (nL S8)).length)))]) (by rw [(ls_keep τ hS8 hn6 hkl h123 h129).2.1, bI_iff (step_k hS8 hn6 hkl hRk).1]) ?_
                          exact ih102 (k + 1) (nxO o2 (nL S8)) b2 (by omega) (step_k hS8 hn6 hkl hRk).2 (fun _ => by rw [(ls_keep τ hS8 hn6 hkl h123 h129).1]; exact hB (ls_keep τ hS8 hn6 hkl h123 h129).2.2) (by omega)
                        · refine g_iload (pc := 132) C dX7_order_132 0 rfl ?_
                          refine g_istore_n (pc := 134) (lv' := [(3, .int (nI (coN τ [] (PK S8 k)))), (5, .int (nI (coN τ [] (PK S8 k)))), (0, .ref m), (2, .int i), (4, .int (bI (k < (PP (nL S8)).length)))]) C dX7_order_134 rfl (by decide) rfl ?_
                          refine g_iconst (pc := 135) (v := 0) C dX7_order_135 (by decide) ?_
                          refine g_istore (pc := 136) (lv' := [(6, .int 0), (3, .int (nI (coN τ [] (PK S8 k)))), (5, .int (nI (coN τ [] (PK S8 k)))), (0, .ref m), (2, .int i), (4, .int (bI (k < (PP (nL S8)).length)))]) C dX7_order_136 (by decide) rfl ?_
                          have key_138 : ∀ (n138 : Nat) (e : Nat) (he : e ≤ nL S8) (hls : lsO τ S8 k = -1 ∨ ¬ lsO τ S8 k ≤ nI (coN τ [] (PK S8 k))), nL S8 - e < n138 → GW p9 l e9 (rmh 10 0 0) s9 m9 a9 b9 t9 c9 (MQ b9 (va_Qi (fun r (_ : Int32 × (Nat → Nat) × (Nat → Nat)) => r = if rcOr τ (nI S8) i = 0 then orV τ (nx (nI S8)) i else (rcOr τ (nI S8) i)) (BW G (wN G m A τ y ++ ([iC G (A 18) 6 (nA o), iC G (A 19) 6 (nA bo), iC G (A 11) 8 rr])) sz9 (fun u => wN G m A τ (upd y 5 u.1) ++ ([iC G (A 18) 6 (nA u.2.1), iC G (A 19) 6 (nA u.2.2), iC G (A 11) 8 (rfI rr (rcOr τ (nI S8) i))]))) (va_A (wN G m A τ y ++ ([iC G (A 18) 6 (nA o), iC G (A 19) 6 (nA bo), iC G (A 11) 8 rr])) sz9)) a9 s9 0 0 (va_A (wN G m A τ y ++ ([iC G (A 18) 6 (nA o), iC G (A 19) 6 (nA bo), iC G (A 11) 8 rr])) sz9)) G (va_A (wN G m A τ y ++ ([iC G (A 18) 6 (nA o), iC G (A 19) 6 (nA bo), iC G (A 11) 8 rr])) sz9) true 7 0 0 (wN G m A τ (upd y 5 (nI (nL S8))) ++ ([iC G (A 18) 6 (nA o2), iC G (A 19) 6 (nA (bU o2 b2 e)), iC G (A 11) 8 rr])) [(0, .ref m), (2, .int i), (3, .int (nI (coN τ [] (PK S8 k)))), (6, .int (nI e))] 138 [] := by
                            intro n138
                            induction n138 with
                            | zero => intro e he hls hn138; exact absurd hn138 (Nat.not_lt_zero _)
                            | succ n138 ih138 =>
                              intro e he hls hn138
                              refine g_iload (pc := 138) C dX7_order_138 3 rfl ?_
                              refine g_aload_n (pc := 140) C dX7_order_140 0 rfl ?_
                              refine g_get (pc := 141) (T := TX7) (N := 33) (v := .int ((upd y 5 (nI (nL S8))) 5)) C ib_X7 0 rfl rfl 32 (by decide) mf_X7_245 rfl rfl rfl dX7_order_141 ?_
                              refine g_top (z := nI (nL S8)) (rfl) ?_
                              refine g_icmpN_ge (pc := 144) (i := e) (j := nL S8) (tgt := 167) C dX7_order_144 (by decide) ⟨by omega, by omega⟩ (fun h144 => ?_) (fun h144 => ?_)
                              · refine g_aload_n (pc := 167) C dX7_order_167 0 rfl ?_
                                refine g_wrVI (pc := 168) (rest := []) (wr := [iC G (A 19) 6 (nA (bU o2 b2 e)), iC G (A 11) 8 rr]) C (fun _ => wN G m A τ (upd y 5 (nI (nL S8))) ++ ([iC G (A 18) 6 (nA (nxO o2 (nL S8))), iC G (A 19) 6 (nA (bU o2 b2 e)), iC G (A 11) 8 rr])) rfl k_X7_next (c_X7_next l G m A τ (upd y 5 (nI (nL S8))) o2 (nL S8) rfl (by first | assumption | omega | decide)) ml_X7_263 rfl ⟨Nat.le_of_ble_eq_true rfl, Nat.le_of_ble_eq_true rfl⟩ rfl [0, 1, 2, 3, 4, 5, 6, 7, 8, 9] [10, 11] [2, 3, 4, 5, 6, 7, 8, 9, 10, 11, 0, 1] rfl (by decide) rfl (by decide) (by decide) (by decide) (fun _ => rfl) 0 rfl rfl rfl rfl (Nat.le_of_ble_eq_true rfl) ⟨by decide, by decide⟩ dX7_order_168 (fun r168 _ e168 => ?_)
                                subst e168
                                refine g_istore (pc := 171) (lv' := [(4, .int (bI (0 < pI o2 ((nL S8) - 1)))), (0, .ref m), (2, .int i), (3, .int (nI (coN τ [] (PK S8 k)))), (6, .int (nI e))]) C dX7_order_171 (by decide) rfl ?_
                                refine g_goto (pc := 173) (tgt := 102) C dX7_order_173 (by decide) ?_
                                refine g_ws (ws' := wN G m A τ (upd y 5 (nI (nL S8))) ++ ([iC G (A 18) 6 (nA (nxO o2 (nL S8))), iC G (A 19) 6 (nA (bU o2 b2 e)), iC G (A 11) 8 rr])) (rfl) ?_
                                refine g_sub (lv' := [(0, .ref m), (2, .int i), (3, .int (nI (coN τ [] (PK S8 k)))), (4, .int (bI (0 < pI o2 ((nL S8) - 1))))]) [1, 2, 3, 0] rfl ?_
                                refine g_lv (lv' := [(0, .ref m), (2, .int i), (3, .int (lsO τ S8 (k + 1))), (4, .int (bI ((k + 1) < (PP (nL S8)).length)))]) (by rw [(ls_up τ hS8 hn6 hkl (hls)).2, bI_iff (step_k hS8 hn6 hkl hRk).1]) ?_
                                exact ih102 (k + 1) (nxO o2 (nL S8)) (bU o2 b2 e) (by omega) (step_k hS8 hn6 hkl hRk).2 (fun _ => by rw [show e = nL S8 from by omega]; exact best_up hS8 hn6 hkl hRk (ls_up τ hS8 hn6 hkl (hls)).1) (by omega)
                              · refine g_aload_n (pc := 147) C dX7_order_147 0 rfl ?_
                                refine g_get (pc := 148) (T := TX7) (N := 33) (v := .ref (A 19)) C ib_X7 0 rfl rfl 31 (by decide) mf_X7_68 rfl rfl rfl dX7_order_148 ?_
                                refine g_iload (pc := 151) C dX7_order_151 3 rfl ?_
                                refine g_aload_n (pc := 153) C dX7_order_153 0 rfl ?_
                                refine g_get (pc := 154) (T := TX7) (N := 33) (v := .ref (A 18)) C ib_X7 0 rfl rfl 30 (by decide) mf_X7_65 rfl rfl rfl dX7_order_154 ?_
                                refine g_iload (pc := 157) C dX7_order_157 3 rfl ?_
                                refine g_iald (pc := 159) (v := (nA o2) e) C 9 rfl e (rfl) ⟨by omega, by decide⟩ (rfl) dX7_order_159 ?_
                                refine g_iast (pc := 160) (ws' := wN G m A τ (upd y 5 (nI (nL S8))) ++ ([iC G (A 18) 6 (nA o2), iC G (A 19) 6 (upd (nA (bU o2 b2 e)) e ((nA o2) e)), iC G (A 11) 8 rr])) C rfl 10 rfl e (rfl) ⟨by omega, by decide⟩ dX7_order_160 rfl ?_
                                refine g_iinc (pc := 161) (v := nI (e + 1)) (lv' := [(6, .int (nI (e + 1))), (0, .ref m), (2, .int i), (3, .int (nI (coN τ [] (PK S8 k))))]) C dX7_order_161 3 rfl (nI_1 e) (by decide) rfl ?_
                                refine g_goto (pc := 164) (tgt := 138) C dX7_order_164 (by decide) ?_
                                refine g_ws (ws' := wN G m A τ (upd y 5 (nI (nL S8))) ++ ([iC G (A 18) 6 (nA o2), iC G (A 19) 6 (nA (bU o2 b2 (e + 1))), iC G (A 11) 8 rr])) (by rw [bU_s]) ?_
                                refine g_sub (lv' := [(0, .ref m), (2, .int i), (3, .int (nI (coN τ [] (PK S8 k)))), (6, .int (nI (e + 1)))]) [1, 2, 3, 0] rfl ?_
                                exact ih138 (e + 1) (by first | assumption | omega | decide) (by first | assumption | omega | decide) (by omega)
                          refine g_ws (ws' := wN G m A τ (upd y 5 (nI (nL S8))) ++ ([iC G (A 18) 6 (nA o2), iC G (A 19) 6 (nA (bU o2 b2 0)), iC G (A 11) 8 rr])) (by rw [bU_0]) ?_
                          refine g_sub (lv' := [(0, .ref m), (2, .int i), (3, .int (nI (coN τ [] (PK S8 k)))), (6, .int (nI 0))]) [3, 4, 1, 0] rfl ?_
                          exact key_138 _ 0 (by first | assumption | omega | decide) (Or.inr h129) (Nat.lt_succ_self _)
                refine g_ws (ws' := wN G m A τ (upd y 5 (nI (nL S8))) ++ ([iC G (A 18) 6 (nA (oB S8 o (tQ τ))), iC G (A 19) 6 (nA bo), iC G (A 11) 8 rr])) (rfl) ?_
                refine g_sub (lv' := [(0, .ref m), (2, .int i), (3, .int (-1)), (4, .int 1)]) [2, 4, 1, 0] rfl ?_
                refine g_lv (lv' := [(0, .ref m), (2, .int i), (3, .int (lsO τ S8 0)), (4, .int (bI (0 < (PP (nL S8)).length)))]) (by rw [bI_t (PP_0 _ (by omega)).2] <;> rfl) ?_
                exact key_102 _ 0 (oB S8 o (tQ τ)) bo (Nat.zero_le _) (fun _ => rel_0 hn6 (oB_end hq8 hS2 o)) (fun z => absurd z (Nat.lt_irrefl 0)) (Nat.lt_succ_self _)
              · refine g_iload_n (pc := 66) C dX7_order_66 1 rfl ?_
                refine g_iload_n (pc := 67) C dX7_order_67 3 rfl ?_
                refine g_rdSI (pc := 68) (val := bI ((nI S8) >>> ((nI p) &&& 31) &&& 1 = 1)) (rest := []) C k_X7_has (c_X7_has l G (nI S8) (nI p)) ml_X7_257 rfl ⟨Nat.le_of_ble_eq_true rfl, Nat.le_of_ble_eq_true rfl⟩ rfl [] rfl rfl (Nat.le_of_ble_eq_true rfl) ⟨by decide, by decide⟩ dX7_order_68 ?_
                refine g_ifb_eq (pc := 71) (tgt := 91) C dX7_order_71 (by decide) (fun h71 => ?_) (fun h71 => ?_)
                · refine g_iinc (pc := 91) (v := nI (p + 1)) (lv' := [(3, .int (nI (p + 1))), (0, .ref m), (1, .int (nI S8)), (2, .int i)]) C dX7_order_91 3 rfl (nI_1 p) (by decide) rfl ?_
                  refine g_goto (pc := 94) (tgt := 58) C dX7_order_94 (by decide) ?_
                  refine g_ws (ws' := wN G m A τ (upd y 5 (nI (flN S8 (p + 1)))) ++ ([iC G (A 18) 6 (nA (oB S8 o (p + 1))), iC G (A 19) 6 (nA bo), iC G (A 11) 8 rr])) (by rw [oB_f o (fun z => h71 ((has_t S8 hS8 p (by omega)).mpr z)), flN_f (fun z => h71 ((has_t S8 hS8 p (by omega)).mpr z))]) ?_
                  refine g_sub (lv' := [(0, .ref m), (1, .int (nI S8)), (2, .int i), (3, .int (nI (p + 1)))]) [1, 2, 3, 0] rfl ?_
                  exact ih58 (p + 1) (by first | assumption | omega | decide) (by omega)
                · have hbt := (has_t S8 hS8 p (by omega)).mp h71
                  have hro := fl_room S8 hS8 p (by omega) hbt
                  refine g_aload_n (pc := 74) C dX7_order_74 0 rfl ?_
                  refine g_get (pc := 75) (T := TX7) (N := 33) (v := .ref (A 18)) C ib_X7 0 rfl rfl 30 (by decide) mf_X7_65 rfl rfl rfl dX7_order_75 ?_
                  refine g_aload_n (pc := 78) C dX7_order_78 0 rfl ?_
                  refine g_dup (pc := 79) C dX7_order_79 rfl ?_
                  refine g_get (pc := 80) (T := TX7) (N := 33) (v := .int ((upd y 5 (nI (flN S8 p))) 5)) C ib_X7 0 rfl rfl 32 (by decide) mf_X7_245 rfl rfl rfl dX7_order_80 ?_
                  refine g_top (z := nI (flN S8 p)) (rfl) ?_
                  refine g_dup_x1 (pc := 83) C dX7_order_83 rfl rfl ?_
                  refine g_iconst (pc := 84) (v := 1) C dX7_order_84 (by decide) ?_
                  refine g_iaddN (pc := 85) (i := flN S8 p) (j := 1) C dX7_order_85 ?_
                  refine g_put (pc := 86) (T := TX7) (N := 33) (ty := .int) (ws' := [oC m 6 [.ref (A 0), .ref (A 1), .ref (A 2), .int (τ 8 0), .ref (A 3), .ref (A 4), .ref (A 5), .int (τ 8 1), .ref (A 6), .ref (A 7), .ref (A 8), .ref (A 9), .ref (A 10), .int (τ 8 2), .int (τ 8 3), .int (τ 8 5), .int (τ 8 6), .int (τ 8 4), .int ((upd y 5 (nI (flN S8 p))) 0), .ref (A 11), .int ((upd y 5 (nI (flN S8 p))) 1), .ref (A 12), .int ((upd y 5 (nI (flN S8 p))) 2), .ref (A 13), .ref (A 14), .int ((upd y 5 (nI (flN S8 p))) 3), .int ((upd y 5 (nI (flN S8 p))) 4), .ref (A 15), .ref (A 16), .ref (A 17), .ref (A 18), .ref (A 19), .int (nI ((flN S8 p) + 1))], iC G (A 3) 8 (τ 0), iC G (A 4) 8 (τ 1), iC G (A 5) 64 (τ 2), iC G (A 6) 10 (τ 3), iC G (A 7) 10 (τ 4), iC G (A 8) 10 (τ 5), iC G (A 9) 10 (τ 6), iC G (A 10) 10 (τ 7), iC G (A 18) 6 (nA (oB S8 o p)), iC G (A 19) 6 (nA bo), iC G (A 11) 8 rr]) C rfl ib_X7 tyX7 tyX7_ok nmX7 0 rfl rfl 32 (by decide) mf_X7_245 rfl rfl rfl (by decide +kernel) rfl rfl (Nat.le_of_ble_eq_true rfl) dX7_order_86 rfl ?_
                  refine g_iload_n (pc := 89) C dX7_order_89 3 rfl ?_
                  refine g_iast (pc := 90) (ws' := [oC m 6 [.ref (A 0), .ref (A 1), .ref (A 2), .int (τ 8 0), .ref (A 3), .ref (A 4), .ref (A 5), .int (τ 8 1), .ref (A 6), .ref (A 7), .ref (A 8), .ref (A 9), .ref (A 10), .int (τ 8 2), .int (τ 8 3), .int (τ 8 5), .int (τ 8 6), .int (τ 8 4), .int ((upd y 5 (nI (flN S8 p))) 0), .ref (A 11), .int ((upd y 5 (nI (flN S8 p))) 1), .ref (A 12), .int ((upd y 5 (nI (flN S8 p))) 2), .ref (A 13), .ref (A 14), .int ((upd y 5 (nI (flN S8 p))) 3), .int ((upd y 5 (nI (flN S8 p))) 4), .ref (A 15), .ref (A 16), .ref (A 17), .ref (A 18), .ref (A 19), .int (nI ((flN S8 p) + 1))], iC G (A 3) 8 (τ 0), iC G (A 4) 8 (τ 1), iC G (A 5) 64 (τ 2), iC G (A 6) 10 (τ 3), iC G (A 7) 10 (τ 4), iC G (A 8) 10 (τ 5), iC G (A 9) 10 (τ 6), iC G (A 10) 10 (τ 7), iC G (A 18) 6 (upd (nA (oB S8 o p)) (flN S8 p) (nI p)), iC G (A 19) 6 (nA bo), iC G (A 11) 8 rr]) C rfl 9 rfl (flN S8 p) (rfl) ⟨by omega, by decide⟩ dX7_order_90 rfl ?_
                  refine g_iinc (pc := 91) (v := nI (p + 1)) (lv' := [(3, .int (nI (p + 1))), (0, .ref m), (1, .int (nI S8)), (2, .int i)]) C dX7_order_91 3 rfl (nI_1 p) (by decide) rfl ?_
                  refine g_goto (pc := 94) (tgt := 58) C dX7_order_94 (by decide) ?_
                  refine g_ws (ws' := wN G m A τ (upd y 5 (nI (flN S8 (p + 1)))) ++ ([iC G (A 18) 6 (nA (oB S8 o (p + 1))), iC G (A 19) 6 (nA bo), iC G (A 11) 8 rr])) (by rw [← oB_t o hbt (by omega), flN_t hbt] <;> rfl) ?_
                  refine g_sub (lv' := [(0, .ref m), (1, .int (nI S8)), (2, .int i), (3, .int (nI (p + 1)))]) [1, 2, 3, 0] rfl ?_
                  exact ih58 (p + 1) (by first | assumption | omega | decide) (by omega)
          refine g_ws (ws' := wN G m A τ (upd y 5 (nI (flN S8 0))) ++ ([iC G (A 18) 6 (nA (oB S8 o 0)), iC G (A 19) 6 (nA bo), iC G (A 11) 8 rr])) (by rw [oB_0, flN_0]) ?_
          refine g_sub (lv' := [(0, .ref m), (1, .int (nI S8)), (2, .int i), (3, .int (nI 0))]) [1, 2, 3, 0] rfl ?_
          exact key_58 _ 0 (by first | assumption | omega | decide) (Nat.lt_succ_self _)
        · refine g_aload_n (pc := 44) C dX7_order_44 0 rfl ?_
          refine g_bipush (pc := 45) (v := (-6)) C dX7_order_45 (by decide) ?_
          refine g_wrVI (pc := 47) (rest := []) (wr := [iC G (A 18) 6 (nA o), iC G (A 19) 6 (nA bo)]) C (fun _ => wN G m A τ y ++ ([iC G (A 18) 6 (nA o), iC G (A 19) 6 (nA bo), iC G (A 11) 8 (rfI rr (-6))])) rfl k_X7_no (c_X7_no l G m A τ y rr (-6) (by first | assumption | omega | decide)) ml_X7_81 rfl ⟨Nat.le_of_ble_eq_true rfl, Nat.le_of_ble_eq_true rfl⟩ rfl [0, 1, 2, 3, 4, 5, 6, 7, 8, 11] [9, 10] [2, 3, 4, 5, 6, 7, 8, 9, 10, 0, 1, 11] rfl (by decide) rfl (by decide) (by decide) (by decide) (fun _ => rfl) 0 rfl rfl rfl rfl (Nat.le_of_ble_eq_true rfl) ⟨by decide, by decide⟩ dX7_order_47 (fun r47 _ e47 => ?_)
          subst e47
          exact g_retIW (pc := 50) C rfl rfl (y 5, o, bo) (rfl) (by have e9 : rcOr τ set i = (-6) := (by first | (simp [rcOr, *]; done) | (grind [rcOr])); rw [if_neg (by rw [e9] <;> (first | done | decide)), e9]) (by have e9 : rcOr τ set i = (-6) := (by first | (simp [rcOr, *]; done) | (grind [rcOr])); rw [e9] <;> (first | done | rfl | (rw [if_neg (by decide)] <;> (first | done | rfl)))) dX7_order_50
  · refine g_aload_n (pc := 14) C dX7_order_14 0 rfl ?_
    refine g_bipush (pc := 15) (v := (-5)) C dX7_order_15 (by decide) ?_
    refine g_wrVI (pc := 17) (rest := []) (wr := [iC G (A 18) 6 (nA o), iC G (A 19) 6 (nA bo)]) C (fun _ => wN G m A τ y ++ ([iC G (A 18) 6 (nA o), iC G (A 19) 6 (nA bo), iC G (A 11) 8 (rfI rr (-5))])) rfl k_X7_no (c_X7_no l G m A τ y rr (-5) (by first | assumption | omega | decide)) ml_X7_81 rfl ⟨Nat.le_of_ble_eq_true rfl, Nat.le_of_ble_eq_true rfl⟩ rfl [0, 1, 2, 3, 4, 5, 6, 7, 8, 11] [9, 10] [2, 3, 4, 5, 6, 7, 8, 9, 10, 0, 1, 11] rfl (by decide) rfl (by decide) (by decide) (by decide) (fun _ => rfl) 0 rfl rfl rfl rfl (Nat.le_of_ble_eq_true rfl) ⟨by decide, by decide⟩ dX7_order_17 (fun r17 _ e17 => ?_)
    subst e17
    exact g_retIW (pc := 20) C rfl rfl (y 5, o, bo) (rfl) (by have e9 : rcOr τ set i = (-5) := (by first | (simp [rcOr, *]; done) | (grind [rcOr])); rw [if_neg (by rw [e9] <;> (first | done | decide)), e9]) (by have e9 : rcOr τ set i = (-5) := (by first | (simp [rcOr, *]; done) | (grind [rcOr])); rw [e9] <;> (first | done | rfl | (rw [if_neg (by decide)] <;> (first | done | rfl)))) dX7_order_20
