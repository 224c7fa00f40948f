/-! THE CLAIM OUT OF ONE WALK OF THE LAW'S BODY. Your part is whole_start (and what it stands on); all else here is the same for every law, but numbers. -/
def R_law : String := "AskedTheOtherWayAboutLaw"
def lw_P (b : Addr) (xs : List Int32) (args : Array Value) (s : State) : Prop := args = #[.ref b] ∧ s.IntsAt b xs ∧ xs.length ≤ 3072 ∧ (Jvm.Cond.and given_1 narrow_1).before args s = true
def lw_Q (_ : Array Value) (s : State) (o : Outcome) (t : State) : Prop := o = .returned (some (.int 1)) ∧ Framed s o t [] 600000 7302250
def lw_Z (below : List Frame) (a : Array Value) (s : State) : State → Prop := fun t => ∃ o, t.status = .running ∧ Ended t below o ∧ lw_Q a s o t
/-- the law's own end, with 1 on the stack, nothing written that was there before, its room as the claim has it -/
theorem lw_ret {p : Program} {l : Launch} {e : Env} {s : State} {m : MethodId} {below : List Frame} {meth : Method} {c : Code} {b : Nat} (hx : p.tables.exec = Jvm.exec) (hb : c.code = code) (hr : meth.sig.returnType = ret) (hlocks : meth.locks = false) {pc : Nat} {H : Heap} {ls : Array Slot} (hdg : decode code pc = .ok (.ireturn, 1)) : W p l e room_1 s m #[Value.ref b] below meth c H [] 600000 7302250 (lw_Z below #[Value.ref b] s) (F0 m pc ls [.int 1]) := by
  intro T hT X
  obtain ⟨fs, hret, hrun, hended, hW, hframe⟩ := X.leave (v := some (.int 1)) (hlocks := hlocks) (fun h => by rw [hr] at h; cases h)
  have hmeth' : T.vm.method? m = some meth := X.method'
  refine ⟨T.setFrames fs, ?_, .returned (some (.int 1)), hrun, hended, rfl, ⟨_, rfl⟩, hW, hframe⟩
  jvm_step X.here [X.here.top, hx, hb, hdg, hmeth', hr, ret, narrow_b1]
  (try refine ⟨rfl, ?_⟩); (try refine ⟨rfl, ?_⟩)
  first | (intro acts; rw [hret _ acts rfl rfl rfl]) | rw [hret _ _ rfl rfl rfl]
  exact Steps.refl _
/-- what holds at the law's entry: the machine, the code, the tables' words (any of lw_tbl by 'hts w (by decide +kernel)'), the script of L ints xs at the cell b, what the Statement gives of the start (any of its parts by flat_of_before) -/
def lw_At (p : Program) (s : State) (m : MethodId) (meth : Method) (c : Code) (b L : Nat) (xs : Nat → Int32) : Prop :=
  p.tables.exec = Jvm.exec ∧ c.code = code ∧ meth.sig.returnType = ret ∧ c.maxLocals = 4 ∧ s.vm.findClass R_law = some m.cls ∧ (∀ w ∈ lw_tbl, w.before #[Value.ref b] s = true) ∧ va_X b L xs s s.heap ∧ b < s.heap.size ∧ meth.locks = false ∧ (Jvm.Cond.and given_1 narrow_1).before #[Value.ref b] s = true ∧ meth.name = yL_law.name

set_option maxRecDepth 20000 in
set_option maxHeartbeats 4000000 in
theorem whole_start {p9 : Program} {e9 : Env} {s9 : State} {m9 : MethodId} {b9 : List Frame} {t9 : Method} {c9 : Code} (l : Launch) (hflags : l.flags = flags0) {b L : Nat} {xs : Nat → Int32} (hL : L ≤ 3072) (C0 : lw_At p9 s9 m9 t9 c9 b L xs) : W p9 l e9 room_1 s9 m9 #[Value.ref b] b9 t9 c9 s9.heap [] 0 0 (lw_Z b9 #[Value.ref b] s9) (entryFrame m9 ([Value.ref b] : List Value).toArray 4) := by
  obtain ⟨hx, hb, hr, hml, hown, hts, hX, hbl, hlocks, hgv, hnm⟩ := C0
  obtain ⟨G, hKZ, hG⟩ := kz_start hts hgv
  have C : Cx p9 s9 m9 #[Value.ref b] t9 c9 G (fun q : Nat => s9.heap.size ≤ q) true 4 cL_law yL_law ret := ⟨hx, hb, hml, hown, fun q hq => hts q (big_in q hq), hKZ, fun q h => (by show G.2.2.2.1 ≤ q; rw [hG]; exact h), fun _ q h => h, hr, hlocks, hnm⟩
  have hbA : ¬ (fun q : Nat => s9.heap.size ≤ q) b := Nat.not_le.mpr hbl
  have hl := lv_entry ([.ref b]) (n := 4) (Nat.le_of_ble_eq_true rfl)
  rw [lg_entry_eq]
  refine (?_ : GW p9 l e9 room_1 s9 m9 #[Value.ref b] b9 t9 c9 (lw_Z b9 #[Value.ref b] s9) G (fun q : Nat => s9.heap.size ≤ q) true 4 0 0 [] [(0, .ref b)] 0 []) s9.heap [] _ ⟨fun k q h => absurd h (by simp), va_S.rf, fun _ => ⟨fun i j p q h => absurd h (by simp), fun k q h => absurd h (by simp)⟩⟩ hl
  refine g_new (pc := 0) (ci := 5) (fs := [.null, .null, .int 0, .null, .null, .null, .null, .null, .int 0]) C rfl ib_X6 tyX6 tyX6_ok rfl mn_L_7 mb_X6 mt_X6 rfl (fun j hj => by rcases (show j = 0 ∨ j = 1 ∨ j = 2 ∨ j = 3 ∨ j = 4 ∨ j = 5 ∨ j = 6 ∨ j = 7 ∨ j = 8 by omega) with rfl | rfl | rfl | rfl | rfl | rfl | rfl | rfl | rfl <;> rfl) ⟨by decide, by decide⟩ dL_law_0 (fun q0 => ?_)
  refine g_ws (ws' := [oC q0 5 [.null, .null, .int 0, .null, .null, .null, .null, .null, .int 0]]) rfl ?_
  refine g_widen (k := 1) (n := 9) (by decide) (by decide) ?_
  refine g_dup (pc := 3) C dL_law_3 rfl ?_
  refine g_wrIV (pc := 4) (rest := [.ref q0]) (wr := []) C (fun u => [wX q0 u.1 u.2.2.2.2.1 0 u.2.2.2.2.2.2.2.2.1 u.2.2.2.2.2.2.2.2.2.2.2.1 u.2.2.2.2.2.2.2.2.2.2.2.2.2.2.2.1 u.2.2.2.2.2.2.2.2.2.2.2.2.2.2.2.2.2.2.2.2.2.1 u.2.2.2.2.2.2.2.2.2.2.2.2.2.2.2.2.2.2.2.2.2.2.2 (-1)] ++ (wT G u.1 u.2.1 u.2.2.1 u.2.2.2.1 τ0 ++ (wT G u.2.2.2.2.1 u.2.2.2.2.2.1 u.2.2.2.2.2.2.1 u.2.2.2.2.2.2.2.1 τ0 ++ (wO G u.2.2.2.2.2.2.2.2.1 u.2.2.2.2.2.2.2.2.2.1 u.2.2.2.2.2.2.2.2.2.2.1 (fun _ => 0) (fun _ => 0) ++ (wS G u.2.2.2.2.2.2.2.2.2.2.2.1 u.2.2.2.2.2.2.2.2.2.2.2.2.1 u.2.2.2.2.2.2.2.2.2.2.2.2.2.1 u.2.2.2.2.2.2.2.2.2.2.2.2.2.2.1 (fun _ => -1) (fun _ => 0) (fun _ => 0) ++ ([wI u.2.2.2.2.2.2.2.2.2.2.2.2.2.2.2.1 u.2.2.2.2.2.2.2.2.2.2.2.2.2.2.2.2.1 u.2.2.2.2.2.2.2.2.2.2.2.2.2.2.2.2.2.1 (-1) 0 0, iC G u.2.2.2.2.2.2.2.2.2.2.2.2.2.2.2.2.1 160 (fun _ => 0)] ++ (wT G u.2.2.2.2.2.2.2.2.2.2.2.2.2.2.2.2.2.1 u.2.2.2.2.2.2.2.2.2.2.2.2.2.2.2.2.2.2.1 u.2.2.2.2.2.2.2.2.2.2.2.2.2.2.2.2.2.2.2.1 u.2.2.2.2.2.2.2.2.2.2.2.2.2.2.2.2.2.2.2.2.1 τ0 ++ (wA G u.2.2.2.2.2.2.2.2.2.2.2.2.2.2.2.2.2.2.2.2.2.1 u.2.2.2.2.2.2.2.2.2.2.2.2.2.2.2.2.2.2.2.2.2.2.1 (fun _ => 0) 0 0 0 0 ++ ([iC G u.2.2.2.2.2.2.2.2.2.2.2.2.2.2.2.2.2.2.2.2.2.2.2 8 (fun _ => 0)]))))))))) rfl k_X6_init (c_X6_init l G q0) ml_L_9 rfl ⟨Nat.le_of_ble_eq_true rfl, Nat.le_of_ble_eq_true rfl⟩ rfl [0] [] [0, 1, 2, 3, 4, 5, 6, 7, 8, 9, 10, 11, 12, 13, 14, 15, 16, 17, 18, 19, 20, 21, 22, 23, 24] rfl (by decide) rfl (by decide) (by decide) (by decide) (fun _ => rfl) rfl (Nat.le_of_ble_eq_true rfl) ⟨by decide, by decide⟩ dL_law_4 (fun u4 _ => ?_)
  obtain ⟨t_4, ta_4, tb_4, tc_4, im_4, na_4, nb_4, nc_4, o_4, oa_4, ob_4, sv_4, sa_4, sb_4, sc_4, tx_4, al_4, dr_4, da_4, db_4, dc_4, ac_4, ak_4, rf_4⟩ := u4
  refine g_ws (ws' := [wX q0 t_4 im_4 0 o_4 sv_4 tx_4 ac_4 rf_4 (-1)] ++ (wT G t_4 ta_4 tb_4 tc_4 τ0 ++ (wT G im_4 na_4 nb_4 nc_4 τ0 ++ (wO G o_4 oa_4 ob_4 (fun _ => 0) (fun _ => 0) ++ (wS G sv_4 sa_4 sb_4 sc_4 (fun _ => -1) (fun _ => 0) (fun _ => 0) ++ ([wI tx_4 al_4 dr_4 (-1) 0 0, iC G al_4 160 (fun _ => 0)] ++ (wT G dr_4 da_4 db_4 dc_4 τ0 ++ (wA G ac_4 ak_4 (fun _ => 0) 0 0 0 0 ++ ([iC G rf_4 8 (fun _ => 0)]))))))))) rfl ?_
  refine g_widen (k := 25) (n := 2192) (by decide) (by decide) ?_
  refine g_astore_n (pc := 7) (lv' := [(1, .ref q0), (0, .ref b)]) C dL_law_7 rfl (by decide) rfl ?_
  refine g_new (pc := 8) (ci := 6) (fs := [.null, .null, .null, .int 0, .null, .null, .null, .int 0, .null, .null, .null, .null, .null, .int 0, .int 0, .int 0, .int 0, .int 0, .int 0, .null, .int 0, .null, .int 0, .null, .null, .int 0, .int 0, .null, .null, .null, .null, .null, .int 0]) C rfl ib_X7 tyX7 tyX7_ok rfl mn_L_10 mb_X7 mt_X7 rfl (fun j hj => by rcases (show j = 0 ∨ j = 1 ∨ j = 2 ∨ j = 3 ∨ j = 4 ∨ j = 5 ∨ j = 6 ∨ j = 7 ∨ j = 8 ∨ j = 9 ∨ j = 10 ∨ j = 11 ∨ j = 12 ∨ j = 13 ∨ j = 14 ∨ j = 15 ∨ j = 16 ∨ j = 17 ∨ j = 18 ∨ j = 19 ∨ j = 20 ∨ j = 21 ∨ j = 22 ∨ j = 23 ∨ j = 24 ∨ j = 25 ∨ j = 26 ∨ j = 27 ∨ j = 28 ∨ j = 29 ∨ j = 30 ∨ j = 31 ∨ j = 32 by omega) with rfl | rfl | rfl | rfl | rfl | rfl | rfl | rfl | rfl | rfl | rfl | rfl | rfl | rfl | rfl | rfl | rfl | rfl | rfl | rfl | rfl | rfl | rfl | rfl | rfl | rfl | rfl | rfl | rfl | rfl | rfl | rfl | rfl <;> rfl) ⟨by decide, by decide⟩ dL_law_8 (fun q8 => ?_)
  refine g_ws (ws' := [wX q0 t_4 im_4 0 o_4 sv_4 tx_4 ac_4 rf_4 (-1)] ++ (wT G t_4 ta_4 tb_4 tc_4 τ0 ++ (wT G im_4 na_4 nb_4 nc_4 τ0 ++ (wO G o_4 oa_4 ob_4 (fun _ => 0) (fun _ => 0) ++ (wS G sv_4 sa_4 sb_4 sc_4 (fun _ => -1) (fun _ => 0) (fun _ => 0) ++ ([wI tx_4 al_4 dr_4 (-1) 0 0, iC G al_4 160 (fun _ => 0)] ++ (wT G dr_4 da_4 db_4 dc_4 τ0 ++ (wA G ac_4 ak_4 (fun _ => 0) 0 0 0 0 ++ ([iC G rf_4 8 (fun _ => 0), oC q8 6 [.null, .null, .null, .int 0, .null, .null, .null, .int 0, .null, .null, .null, .null, .null, .int 0, .int 0, .int 0, .int 0, .int 0, .int 0, .null, .int 0, .null, .int 0, .null, .null, .int 0, .int 0, .null, .null, .null, .null, .null, .int 0]]))))))))) rfl ?_
  refine g_widen (k := 26) (n := 2225) (by decide) (by decide) ?_
  refine g_dup (pc := 11) C dL_law_11 rfl ?_
  refine g_wrIV (pc := 12) (rest := [.ref q8]) (wr := [wX q0 t_4 im_4 0 o_4 sv_4 tx_4 ac_4 rf_4 (-1), oC t_4 3 [.ref ta_4, .ref tb_4, .ref tc_4, .int (τ0 8 0), .int (τ0 8 1), .int (τ0 8 2), .int (τ0 8 3), .int (τ0 8 4), .int (τ0 8 5), .int (τ0 8 6)], iC G ta_4 16 (fq τ0), iC G tb_4 64 (τ0 2), iC G tc_4 50 (fg τ0), oC im_4 3 [.ref na_4, .ref nb_4, .ref nc_4, .int (τ0 8 0), .int (τ0 8 1), .int (τ0 8 2), .int (τ0 8 3), .int (τ0 8 4), .int (τ0 8 5), .int (τ0 8 6)], iC G na_4 16 (fq τ0), iC G nb_4 64 (τ0 2), iC G nc_4 50 (fg τ0), oC o_4 1 [.ref oa_4, .ref ob_4], iC G oa_4 8 (fun _ => 0), iC G ob_4 256 (fun _ => 0), oC sv_4 2 [.ref sa_4, .ref sb_4, .ref sc_4], iC G sa_4 8 (fun _ => -1), iC G sb_4 8 (fun _ => 0), jC G sc_4 1280 (fun _ => 0), wI tx_4 al_4 dr_4 (-1) 0 0, iC G al_4 160 (fun _ => 0), oC dr_4 3 [.ref da_4, .ref db_4, .ref dc_4, .int (τ0 8 0), .int (τ0 8 1), .int (τ0 8 2), .int (τ0 8 3), .int (τ0 8 4), .int (τ0 8 5), .int (τ0 8 6)], iC G da_4 16 (fq τ0), iC G db_4 64 (τ0 2), iC G dc_4 50 (fg τ0), oC ac_4 0 [.ref ak_4, .int 0, .int 0, .int 0, .int 0], iC G ak_4 20 (fun _ => 0), iC G rf_4 8 (fun _ => 0)]) C (fun u => [wX q0 t_4 im_4 0 o_4 sv_4 tx_4 ac_4 rf_4 (-1)] ++ (wT G t_4 ta_4 tb_4 tc_4 τ0 ++ (wT G im_4 na_4 nb_4 nc_4 τ0 ++ (wO G o_4 oa_4 ob_4 (fun _ => 0) (fun _ => 0) ++ (wS G sv_4 sa_4 sb_4 sc_4 (fun _ => -1) (fun _ => 0) (fun _ => 0) ++ ([wI tx_4 al_4 dr_4 (-1) 0 0, iC G al_4 160 (fun _ => 0)] ++ (wT G dr_4 da_4 db_4 dc_4 τ0 ++ (wA G ac_4 ak_4 (fun _ => 0) 0 0 0 0 ++ ([iC G rf_4 8 (fun _ => 0)] ++ (wN G q8 u τ0 yI ++ ([iC G (u 0) 8 (fun _ => -1), iC G (u 1) 8 (fun _ => 0), jC G (u 2) 1280 (fun _ => 0), iC G (u 11) 8 (fun _ => 0), iC G (u 12) 20 (fun _ => 0), iC G (u 13) 137 (fun _ => 0), iC G (u 14) 137 (fun _ => 0), iC G (u 15) 5 (fun _ => 0), iC G (u 16) 10 (fun _ => 0), iC G (u 17) 10 (fun _ => 0), iC G (u 18) 6 (nA (fun _ => 0)), iC G (u 19) 6 (nA (fun _ => 0))]))))))))))) rfl k_X7_init (c_X7_init l G q8) ml_L_12 rfl ⟨Nat.le_of_ble_eq_true rfl, Nat.le_of_ble_eq_true rfl⟩ rfl [25] [0, 1, 2, 3, 4, 5, 6, 7, 8, 9, 10, 11, 12, 13, 14, 15, 16, 17, 18, 19, 20, 21, 22, 23, 24] [0, 1, 2, 3, 4, 5, 6, 7, 8, 9, 10, 11, 12, 13, 14, 15, 16, 17, 18, 19, 20, 21, 22, 23, 24, 25, 26, 27, 28, 29, 30, 31, 32, 33, 34, 35, 36, 37, 38, 39, 40, 41, 42, 43, 44, 45] rfl (by decide) rfl (by decide) (by decide) (by decide) (fun _ => rfl) rfl (Nat.le_of_ble_eq_true rfl) ⟨by decide, by decide⟩ dL_law_12 (fun A9_12 _ => ?_)
  refine g_ws (ws' := [wX q0 t_4 im_4 0 o_4 sv_4 tx_4 ac_4 rf_4 (-1)] ++ (wT G t_4 ta_4 tb_4 tc_4 τ0 ++ (wT G im_4 na_4 nb_4 nc_4 τ0 ++ (wO G o_4 oa_4 ob_4 (fun _ => 0) (fun _ => 0) ++ (wS G sv_4 sa_4 sb_4 sc_4 (fun _ => -1) (fun _ => 0) (fun _ => 0) ++ ([wI tx_4 al_4 dr_4 (-1) 0 0, iC G al_4 160 (fun _ => 0)] ++ (wT G dr_4 da_4 db_4 dc_4 τ0 ++ (wA G ac_4 ak_4 (fun _ => 0) 0 0 0 0 ++ ([iC G rf_4 8 (fun _ => 0)] ++ (wN G q8 A9_12 τ0 yI ++ ([iC G (A9_12 0) 8 (fun _ => -1), iC G (A9_12 1) 8 (fun _ => 0), jC G (A9_12 2) 1280 (fun _ => 0), iC G (A9_12 11) 8 (fun _ => 0), iC G (A9_12 12) 20 (fun _ => 0), iC G (A9_12 13) 137 (fun _ => 0), iC G (A9_12 14) 137 (fun _ => 0), iC G (A9_12 15) 5 (fun _ => 0), iC G (A9_12 16) 10 (fun _ => 0), iC G (A9_12 17) 10 (fun _ => 0), iC G (A9_12 18) 6 (nA (fun _ => 0)), iC G (A9_12 19) 6 (nA (fun _ => 0))]))))))))))) rfl ?_
  refine g_widen (k := 46) (n := 3990) (by decide) (by decide) ?_
  refine g_astore_n (pc := 15) (lv' := [(2, .ref q8), (1, .ref q0), (0, .ref b)]) C dL_law_15 rfl (by decide) rfl ?_
  refine g_iconst (pc := 16) (v := 0) C dL_law_16 (by decide) ?_
  refine g_istore_n (pc := 17) (lv' := [(3, .int 0), (2, .ref q8), (1, .ref q0), (0, .ref b)]) C dL_law_17 rfl (by decide) rfl ?_
  refine g_ws (ws' := LW G (aL [q0, t_4, ta_4, tb_4, tc_4, im_4, na_4, nb_4, nc_4, o_4, oa_4, ob_4, sv_4, sa_4, sb_4, sc_4, tx_4, al_4, dr_4, da_4, db_4, dc_4, ac_4, ak_4, rf_4]) q8 A9_12 0 (-1) τ0 τ0 (fun _ => 0) (fun _ => 0) (fun _ => -1) (fun _ => 0) (fun _ => 0) (-1) 0 0 (fun _ => 0) τ0 (fun _ => 0) 0 0 0 0 (fun _ => 0) yI (fun _ => 0) (fun _ => 0) (fun _ => 0) (fun _ => 0) (fun _ => 0) (fun _ => 0) (fun _ => 0) (fun _ => 0)) rfl ?_
  refine g_sub (lv' := [(0, .ref b), (1, .ref ((aL [q0, t_4, ta_4, tb_4, tc_4, im_4, na_4, nb_4, nc_4, o_4, oa_4, ob_4, sv_4, sa_4, sb_4, sc_4, tx_4, al_4, dr_4, da_4, db_4, dc_4, ac_4, ak_4, rf_4]) 0)), (2, .ref q8), (3, .int (nI 0))]) [3, 2, 1, 0] rfl ?_
  refine g_widen (k := 46 + 0) (n := 5000 + 8 * 0) (by decide) (by decide) ?_
  exact law_loop (F := aL [q0, t_4, ta_4, tb_4, tc_4, im_4, na_4, nb_4, nc_4, o_4, oa_4, ob_4, sv_4, sa_4, sb_4, sc_4, tx_4, al_4, dr_4, da_4, db_4, dc_4, ac_4, ak_4, rf_4]) (m := q8) (A := A9_12) C hX hbl hbA hL (fun cells slots ws lv h1 h2 H locs ls hI hl => va_forget (fun q hq => hI.2.1.2.2 q hq) (W.widen h1 h2 (lw_ret hx hb hr hlocks dL_law_1550))) (L + 1) 0 (Nat.zero_le L) (by omega) τz 0 (-1) τ0 τ0 (fun _ => 0) (fun _ => 0) (fun _ => -1) (fun _ => 0) (fun _ => 0) (-1) 0 0 (fun _ => 0) τ0 (fun _ => 0) 0 0 0 0 (fun _ => 0) yI (fun _ => 0) (fun _ => 0) (fun _ => 0) (fun _ => 0) (fun _ => 0) (fun _ => 0) (fun _ => 0) (fun _ => 0) li_0
set_option maxHeartbeats 4000000 in
theorem lw_walk (l : Launch) (hflags : l.flags = flags0) (b : Addr) (xs : List Int32) : MetFree l x (headSpec (Jvm.Cond.code x code maxLocals ret :: tables_1) room_1) (lw_P b xs) (fun _ _ _ _ _ => True) lw_Q := by
  refine MetFree.of_bodyS (code := code) (maxLocals := maxLocals) (ret := ret) (by decide) ?_ ?_
  · intro args s m h hn
    obtain ⟨meth, c, h1, h2, h3, h4, h5, h6, -, -⟩ := Cond.code_spec hn (atoms_spec (ws := Jvm.Cond.code x code maxLocals ret :: tables_1) h _ List.mem_cons_self)
    exact ⟨meth, c, h1, h2, h3, h4, h5, h6⟩
  · intro p e s m args below meth c s₁ B hml0 hP _
    obtain ⟨rfl, hx, hbd, hgv⟩ := hP
    obtain ⟨scr, harrAt, hlist, hof, hsmall⟩ := hx
    obtain ⟨hcb, hkn, -, -⟩ := State.arrayAt?_spec harrAt
    have hown : s.vm.findClass R_law = some m.cls := findClass_of_methodNamed B.named
    have hts0 : ∀ c ∈ (Jvm.Cond.code x code maxLocals ret :: tables_1), c.before #[Value.ref b] s = true := atoms_spec (ws := Jvm.Cond.code x code maxLocals ret :: tables_1) B.pre
    have hts : ∀ w ∈ lw_tbl, w.before #[Value.ref b] s = true := k2_hts_sels lw_privs (fun w hw => hts0 w (List.mem_cons_of_mem _ hw)) lw_privs_ok
    have hml : c.maxLocals = 4 := B.maxLocals_eq (hts0 _ List.mem_cons_self)
    have X₀ : Stand p l e room_1 s m #[Value.ref b] below meth c s₁ [] 0 0 := Stand.of_body B
    have hh0 : s₁.heap = s.heap := by rw [B.state]; rfl
    have hsz : scr.slots.size = xs.length := by rw [← Array.length_toList, hlist, List.length_map]
    have hval : ∀ j : Nat, j < xs.length → scr.slots[j]? = some (.int (xs.getD j 0)) := fun j hj => by
      rw [← Array.getElem?_toList, hlist]
      simp [hj]
    have hbl : b < s.heap.size := (Array.getElem?_eq_some_iff.mp hcb).1
    have hX : va_X b xs.length (fun j => xs.getD j 0) s s.heap := ⟨scr, hcb, hof, hkn, hsz, hval⟩
    have K : W p l e room_1 s m #[Value.ref b] below meth c s₁.heap [] 0 0 (lw_Z below #[Value.ref b] s) (entryFrame m ([Value.ref b] : List Value).toArray 4) := by
      rw [hh0]
      exact whole_start l hflags hbd ⟨B.exec, B.bytes, B.returns, hml, hown, hts, hX, hbl, B.notSynchronized, hgv, (name_of_methodNamed B.named B.method).1⟩
    obtain ⟨t, a1, o, b1, b2, b3⟩ := K s₁ rfl X₀
    exact ⟨t, o, a1, b1, b2, b3⟩
theorem lw_pre_spec {args : Array Value} {s : State} (h : (Jvm.Cond.and given_1 narrow_1).before args s = true) (hr : rest_1_c.before args s = true) : ∃ (b : Addr) (xs : List Int32), lw_P b xs args s := by
  have hs := flat_of_before _ h
  have hq := flat_of_before _ hr
  have hc : (Cond.count 1).before args s = true := hs _ (by decide +kernel)
  have harr : (Cond.arrayOf (.arg 0) .int).before args s = true := hs _ (by decide +kernel)
  have hle : (Cond.le (.length (.arg 0)) (.int 3072)).before args s = true := hs _ (by decide +kernel)
  have hlen : (Cond.isInt (.length (.arg 0))).before args s = true := hq _ (by decide +kernel)
  have hall : (Cond.all (.arg 0) (.isInt (.elem (.arg 0) (.index 0)))).before args s = true := hq _ (by decide +kernel)
  obtain ⟨b, xs, hb, hx⟩ := State.ints_of_pre rfl harr hlen hall
  have hsm : xs.length < 2 ^ 31 := hx.choose_spec.2.2.2
  have hev : (Term.length (.arg 0)).eval args s none [] s = some (.int xs.length.toInt32) := hx.length_eval hb
  have hv := Cond.le_ints hev (show (Term.int 3072).eval args s none [] s = some (.int 3072) from rfl)
  have hd : xs.length.toInt32 ≤ 3072 := by
    simpa [Cond.before, Cond.holds, hv] using hle
  have hN : xs.length ≤ 3072 := (Int32.ofNat_le_ofNat hsm (by decide)).mp (show Int32.ofNat xs.length ≤ Int32.ofNat 3072 from hd)
  exact ⟨b, xs, Cond.one_arg hc (show args[0]? = some (.ref b) from hb), hx, hN, h⟩
theorem lw_comes (l : Launch) (hflags : l.flags = flags0) : Comes l x (Jvm.Cond.code x code maxLocals ret :: tables_1) room_1 (fun tb e args s => Calls_1 tb e args s ∧ rest_1 tb e args s ∧ Pre_1 tb e args s)
    (fun _ _ args s o t => lw_Q args s o t) := by
  intro p e ha hc hk s m args below hf hfit hheap happ hpre
  obtain ⟨b, xs, hP⟩ := lw_pre_spec hpre.2.2 hpre.2.1
  obtain ⟨k, o, h1, h2, h3, hQ⟩ := lw_walk l hflags b xs p e ha hc hk s m args below hf ((Spec.applies_iff_loose hf).mp happ).1 hP trivial
  exact ⟨k, o, h1, h2, h3, hQ⟩
theorem lw_frame {s t : State} {o : Outcome} {args : Array Value} (h : Framed s o t [] 600000 7302250) :
    Framed s o t (fieldLocs frame_1_writes args s ++ arrayLocs frame_1_arrays args s ++ staticLocs frame_1_statics s) 600000 7302250 := h
theorem lw_limb (L : Cond) (hL : ∀ (args : Array Value) (s t : State), L.after args s (.returned (some (.int 1))) t = true) :
    ArmFor flags0 classFile x code maxLocals ret World_1 tables_1 room_1 Calls_1 rest_1 Pre_1
      (fun tb e a s o t => postC L tb e a s o t ∧ Framed s o t (fieldLocs frame_1_writes a s ++ arrayLocs frame_1_arrays a s ++ staticLocs frame_1_statics s) 600000 7302250) := by
  intro l hflags _ _ p e ha hc hk s m args below hf hfit hheap happ hpre
  obtain ⟨k, o, h1, h2, h3, rfl, hF⟩ := lw_comes l hflags p e ha hc hk s m args below hf hfit hheap happ hpre
  exact ⟨k, _, h1, h2, h3, hL args s _, lw_frame hF⟩
theorem i_vc : Claimed_1_1 ∧ Claimed_1_2 := ⟨lw_limb limb_1_1 (fun args s t => by simp [limb_1_1, Cond.after, Cond.holds, Cond.value]), lw_limb limb_1_2 (fun args s t => Cond.after_iff.mpr (by
  first | (rw [show limb_1_2 = Cond.eq .result (.int 1) from rfl, Cond.eq_ints (x := 1) (y := 1) rfl rfl]; simp; done) | (simp [limb_1_2, Cond.value, Term.eval]; done)))⟩

