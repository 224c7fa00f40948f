section GWL
variable {p : Program} {l : Launch} {e : Env} {R : Room} {s : State} {m : MethodId} {args : Array Value} {below : List Frame} {meth : Method} {c : Code} {Q : State → Prop} {G : gT} {A : Nat → Prop} {w : Bool} {nL cells slots : Nat} {ws : va_W} {lv : List (Nat × Value)} {pc : Nat} {st : List Value} {cc : ByteArray} {y : MethodName} {rt : Option FieldType}
theorem g_sld (C : Cx p s m args meth c G A w nL cc y rt) {b L : Nat} {xs : Nat → Int32} (hX : va_X b L xs s s.heap) (hbl : b < s.heap.size) (hbA : ¬ A b) {i : Int32} (k9 : Nat) (hk : i = nI k9) (hn : k9 < L ∧ L < 2 ^ 31) (hdg : decode cc pc = .ok (.iaload, 1)) (k : GW p l e R s m args below meth c Q G A w nL cells slots ws lv (pc + 1) (.int (xs k9) :: st)) : GW p l e R s m args below meth c Q G A w nL cells slots ws lv pc (.int i :: .ref b :: st) :=
  fun H L9 ls hI hl => va_sld C.1 C.2.1 hX hbl hbA hI.2.1 (in_nI hk hn).1 hdg (by rw [(in_nI hk hn).2]; exact k H L9 ls hI hl)
theorem g_slen (C : Cx p s m args meth c G A w nL cc y rt) {b L : Nat} {xs : Nat → Int32} (hX : va_X b L xs s s.heap) (hbl : b < s.heap.size) (hbA : ¬ A b) (hdg : decode cc pc = .ok (.arraylength, 1)) (k : GW p l e R s m args below meth c Q G A w nL cells slots ws lv (pc + 1) (.int (nI L) :: st)) : GW p l e R s m args below meth c Q G A w nL cells slots ws lv pc (.ref b :: st) :=
  fun H L9 ls hI hl => va_slen C.1 C.2.1 hX hbl hbA hI.2.1 hdg (k H L9 ls hI hl)
end GWL
/-- both programs' cells, side by side -/
def LW (G : gT) (F : Nat → Nat) (m : Nat) (A : Nat → Nat) (it : Int32) (lf : Int32) (τ : tT) (σ : tT) (sh : Nat → Int32) (lr : Nat → Int32) (hd : Nat → Int32) (sz : Nat → Int32) (el : Nat → Int64) (f0 : Int32) (s0 : Int32) (p0 : Int32) (lt : Nat → Int32) (ν0 : tT) (kp : Nat → Int32) (bc : Nat) (nm : Int32) (kd : Int32) (aa : Int32) (rr : Nat → Int32) (y : Nat → Int32) (el2 : Nat → Int64) (od : Nat → Int32) (ah : Nat → Int32) (nu : Nat → Int32) (an : Nat → Int32) (le : Nat → Int32) (o2 : Nat → Nat) (b2 : Nat → Nat) : va_W := [wX (F 0) (F 1) (F 5) it (F 9) (F 12) (F 16) (F 22) (F 24) lf] ++ (wT G (F 1) (F 2) (F 3) (F 4) τ ++ (wT G (F 5) (F 6) (F 7) (F 8) σ ++ (wO G (F 9) (F 10) (F 11) sh lr ++ (wS G (F 12) (F 13) (F 14) (F 15) hd sz el ++ ([wI (F 16) (F 17) (F 18) f0 s0 p0, iC G (F 17) 160 lt] ++ (wT G (F 18) (F 19) (F 20) (F 21) ν0 ++ (wA G (F 22) (F 23) kp (nI bc) nm kd aa ++ ([iC G (F 24) 8 rr] ++ (wN G m A τ y ++ ([iC G (A 0) 8 hd, iC G (A 1) 8 sz, jC G (A 2) 1280 el2, iC G (A 11) 8 rr, iC G (A 12) 20 kp, iC G (A 13) 137 od, iC G (A 14) 137 ah, iC G (A 15) 5 nu, iC G (A 16) 10 an, iC G (A 17) 10 le, iC G (A 18) 6 (nA o2), iC G (A 19) 6 (nA b2)]))))))))))
/-- what goes on from the loop's head -/
def LK (p9 : Program) (l : Launch) (e9 : Env) (s9 : State) (m9 : MethodId) (a9 : Array Value) (b9 : List Frame) (t9 : Method) (c9 : Code) (Q9 : State → Prop) (G : gT) (A9 : Nat → Prop) (F : Nat → Nat) (m : Nat) (A : Nat → Nat) (bs i : Nat) : Prop := ∀ (σ2 : tT) (it : Int32) (lf : Int32) (τ : tT) (σ : tT) (sh : Nat → Int32) (lr : Nat → Int32) (hd : Nat → Int32) (sz : Nat → Int32) (el : Nat → Int64) (f0 : Int32) (s0 : Int32) (p0 : Int32) (lt : Nat → Int32) (ν0 : tT) (kp : Nat → Int32) (bc : Nat) (nm : Int32) (kd : Int32) (aa : Int32) (rr : Nat → Int32) (y : Nat → Int32) (el2 : Nat → Int64) (od : Nat → Int32) (ah : Nat → Int32) (nu : Nat → Int32) (an : Nat → Int32) (le : Nat → Int32) (o2 : Nat → Nat) (b2 : Nat → Nat), LI it lf τ σ σ2 lr hd sz el el2 bc y od → GW p9 l e9 room_1 s9 m9 a9 b9 t9 c9 Q9 G A9 true 4 (46 + i) (5000 + 8 * i) (LW G F m A it lf τ σ sh lr hd sz el f0 s0 p0 lt ν0 kp bc nm kd aa rr y el2 od ah nu an le o2 b2) [(0, .ref bs), (1, .ref (F 0)), (2, .ref m), (3, .int (nI i))] 18 []
set_option maxRecDepth 20000 in
set_option maxHeartbeats 4000000 in
theorem law_row {p9 : Program} {l : Launch} {e9 : Env} {s9 : State} {m9 : MethodId} {a9 : Array Value} {b9 : List Frame} {t9 : Method} {c9 : Code} {Q9 : State → Prop} {G : gT} {A9 : Nat → Prop} {F : Nat → Nat} {m : Nat} {A : Nat → Nat} {bs L : Nat} {xs : Nat → Int32} (C : Cx p9 s9 m9 a9 t9 c9 G A9 true 4 cL_law yL_law ret) (hX : va_X bs L xs s9 s9.heap) (hbl : bs < s9.heap.size) (hbA : ¬ A9 bs) (hL : L ≤ 3072) {i : Nat} (hi : i + 6 ≤ L) (σ2 : tT) (it : Int32) (lf : Int32) (τ : tT) (σ : tT) (sh : Nat → Int32) (lr : Nat → Int32) (hd : Nat → Int32) (sz : Nat → Int32) (el : Nat → Int64) (f0 : Int32) (s0 : Int32) (p0 : Int32) (lt : Nat → Int32) (ν0 : tT) (kp : Nat → Int32) (bc : Nat) (nm : Int32) (kd : Int32) (aa : Int32) (rr : Nat → Int32) (y : Nat → Int32) (el2 : Nat → Int64) (od : Nat → Int32) (ah : Nat → Int32) (nu : Nat → Int32) (an : Nat → Int32) (le : Nat → Int32) (o2 : Nat → Nat) (b2 : Nat → Nat) (hI : LI it lf τ σ σ2 lr hd sz el el2 bc y od) (K : LK p9 l e9 s9 m9 a9 b9 t9 c9 Q9 G A9 F m A bs (i + 6)) : GW p9 l e9 room_1 s9 m9 a9 b9 t9 c9 Q9 G A9 true 4 (46 + i) (5000 + 8 * i) (LW G F m A it lf τ σ sh lr hd sz el f0 s0 p0 lt ν0 kp bc nm kd aa rr y el2 od ah nu an le o2 b2) [(0, .ref bs), (1, .ref (F 0)), (2, .ref m), (3, .int (nI i))] 216 [] := by
  have hT := hI.1.1
  have hT2 := hI.1.2.1
  have hT3 := hI.1.2.2.1
  have hf := hI.1.2.2.2.1
  have hσ := hI.1.2.2.2.2
  have hS := hI.2.1.1
  have hD : ∀ s, s < 8 → isQn (hd s) → ∃ q, q < tQ τ ∧ hd s = nI q := hI.2.1.2.1
  have hE := hI.2.1.2.2
  have h0 := hI.2.2.1
  have hb := hI.2.2.2.1
  have hy0 := hI.2.2.2.2.1
  have hy1 := hI.2.2.2.2.2.1
  have hy2 := hI.2.2.2.2.2.2
  refine g_ws (ws' := [wX (F 0) (F 1) (F 5) it (F 9) (F 12) (F 16) (F 22) (F 24) lf] ++ (wT G (F 1) (F 2) (F 3) (F 4) τ ++ (wT G (F 5) (F 6) (F 7) (F 8) σ ++ (wO G (F 9) (F 10) (F 11) sh lr ++ (wS G (F 12) (F 13) (F 14) (F 15) hd sz el ++ ([wI (F 16) (F 17) (F 18) f0 s0 p0, iC G (F 17) 160 lt] ++ (wT G (F 18) (F 19) (F 20) (F 21) ν0 ++ (wA G (F 22) (F 23) kp (nI bc) nm kd aa ++ ([iC G (F 24) 8 rr] ++ (wN G m A τ y ++ ([iC G (A 0) 8 hd, iC G (A 1) 8 sz, jC G (A 2) 1280 el2, iC G (A 11) 8 rr, iC G (A 12) 20 kp, iC G (A 13) 137 od, iC G (A 14) 137 ah, iC G (A 15) 5 nu, iC G (A 16) 10 an, iC G (A 17) 10 le, iC G (A 18) 6 (nA o2), iC G (A 19) 6 (nA b2)]))))))))))) rfl ?_
  refine g_aload_n (pc := 216) C dL_law_216 1 rfl ?_
  refine g_aload_n (pc := 217) C dL_law_217 0 rfl ?_
  refine g_iload_n (pc := 218) C dL_law_218 3 rfl ?_
  refine g_iconst (pc := 219) (v := 1) C dL_law_219 (by decide) ?_
  refine g_iaddN (pc := 220) (i := i) (j := 1) C dL_law_220 ?_
  refine g_sld (pc := 221) C hX hbl hbA (i + 1) rfl ⟨by omega, by omega⟩ dL_law_221 ?_
  refine g_aload_n (pc := 222) C dL_law_222 0 rfl ?_
  refine g_iload_n (pc := 223) C dL_law_223 3 rfl ?_
  refine g_iconst (pc := 224) (v := 2) C dL_law_224 (by decide) ?_
  refine g_iaddN (pc := 225) (i := i) (j := 2) C dL_law_225 ?_
  refine g_sld (pc := 226) C hX hbl hbA (i + 2) rfl ⟨by omega, by omega⟩ dL_law_226 ?_
  refine g_aload_n (pc := 227) C dL_law_227 0 rfl ?_
  refine g_iload_n (pc := 228) C dL_law_228 3 rfl ?_
  refine g_iconst (pc := 229) (v := 3) C dL_law_229 (by decide) ?_
  refine g_iaddN (pc := 230) (i := i) (j := 3) C dL_law_230 ?_
  refine g_sld (pc := 231) C hX hbl hbA (i + 3) rfl ⟨by omega, by omega⟩ dL_law_231 ?_
  refine g_wrVI (pc := 232) (rest := []) (wr := [oC (F 1) 3 [.ref (F 2), .ref (F 3), .ref (F 4), .int (τ 8 0), .int (τ 8 1), .int (τ 8 2), .int (τ 8 3), .int (τ 8 4), .int (τ 8 5), .int (τ 8 6)], iC G (F 2) 16 (fq τ), iC G (F 3) 64 (τ 2), iC G (F 4) 50 (fg τ), oC (F 5) 3 [.ref (F 6), .ref (F 7), .ref (F 8), .int (σ 8 0), .int (σ 8 1), .int (σ 8 2), .int (σ 8 3), .int (σ 8 4), .int (σ 8 5), .int (σ 8 6)], iC G (F 6) 16 (fq σ), iC G (F 7) 64 (σ 2), iC G (F 8) 50 (fg σ), oC (F 9) 1 [.ref (F 10), .ref (F 11)], iC G (F 10) 8 sh, iC G (F 11) 256 lr, wI (F 16) (F 17) (F 18) f0 s0 p0, iC G (F 17) 160 lt, oC (F 18) 3 [.ref (F 19), .ref (F 20), .ref (F 21), .int (ν0 8 0), .int (ν0 8 1), .int (ν0 8 2), .int (ν0 8 3), .int (ν0 8 4), .int (ν0 8 5), .int (ν0 8 6)], iC G (F 19) 16 (fq ν0), iC G (F 20) 64 (ν0 2), iC G (F 21) 50 (fg ν0), oC (F 22) 0 [.ref (F 23), .int (nI bc), .int nm, .int kd, .int aa], iC G (F 23) 20 kp, oC m 6 [.ref (A 0), .ref (A 1), .ref (A 2), .int (τ 8 0), .ref (A 3), .ref (A 4), .ref (A 5), .int (τ 8 1), .ref (A 6), .ref (A 7), .ref (A 8), .ref (A 9), .ref (A 10), .int (τ 8 2), .int (τ 8 3), .int (τ 8 5), .int (τ 8 6), .int (τ 8 4), .int (y 0), .ref (A 11), .int (y 1), .ref (A 12), .int (y 2), .ref (A 13), .ref (A 14), .int (y 3), .int (y 4), .ref (A 15), .ref (A 16), .ref (A 17), .ref (A 18), .ref (A 19), .int (y 5)], iC G (A 3) 8 (τ 0), iC G (A 4) 8 (τ 1), iC G (A 5) 64 (τ 2), iC G (A 6) 10 (τ 3), iC G (A 7) 10 (τ 4), iC G (A 8) 10 (τ 5), iC G (A 9) 10 (τ 6), iC G (A 10) 10 (τ 7), iC G (A 0) 8 hd, iC G (A 1) 8 sz, jC G (A 2) 1280 el2, iC G (A 11) 8 rr, iC G (A 12) 20 kp, iC G (A 13) 137 od, iC G (A 14) 137 ah, iC G (A 15) 5 nu, iC G (A 16) 10 an, iC G (A 17) 10 le, iC G (A 18) 6 (nA o2), iC G (A 19) 6 (nA b2)]) C (fun _ => [wX (F 0) (F 1) (F 5) it (F 9) (F 12) (F 16) (F 22) (F 24) lf] ++ (wT G (F 1) (F 2) (F 3) (F 4) τ ++ (wT G (F 5) (F 6) (F 7) (F 8) σ ++ (wO G (F 9) (F 10) (F 11) sh lr ++ (wS G (F 12) (F 13) (F 14) (F 15) (if rcRow (xs (i + 1)) (xs (i + 2)) (xs (i + 3)) = 0 then upd hd (nx (xs (i + 1))) (100 + (xs (i + 2))) else hd) (if rcRow (xs (i + 1)) (xs (i + 2)) (xs (i + 3)) = 0 then upd sz (nx (xs (i + 1))) (xs (i + 3)) else sz) (if rcRow (xs (i + 1)) (xs (i + 2)) (xs (i + 3)) = 0 then clr el (nx (xs (i + 1))) (nx (xs (i + 3))) else el) ++ ([wI (F 16) (F 17) (F 18) f0 s0 p0, iC G (F 17) 160 lt] ++ (wT G (F 18) (F 19) (F 20) (F 21) ν0 ++ (wA G (F 22) (F 23) kp (nI bc) nm kd aa ++ ([iC G (F 24) 8 (rfI rr (rcRow (xs (i + 1)) (xs (i + 2)) (xs (i + 3))))] ++ (wN G m A τ y ++ ([iC G (A 0) 8 hd, iC G (A 1) 8 sz, jC G (A 2) 1280 el2, iC G (A 11) 8 rr, iC G (A 12) 20 kp, iC G (A 13) 137 od, iC G (A 14) 137 ah, iC G (A 15) 5 nu, iC G (A 16) 10 an, iC G (A 17) 10 le, iC G (A 18) 6 (nA o2), iC G (A 19) 6 (nA b2)]))))))))))) rfl k_X6_row (c_X6_row l G (F 0) (F 1) (F 5) it (F 9) (F 12) (F 16) (F 22) (F 24) lf (F 13) (F 14) (F 15) hd sz el (xs (i + 1)) (xs (i + 2)) (xs (i + 3)) rr) ml_L_13 rfl ⟨Nat.le_of_ble_eq_true rfl, Nat.le_of_ble_eq_true rfl⟩ rfl [0, 12, 13, 14, 15, 24] [1, 2, 3, 4, 5, 6, 7, 8, 9, 10, 11, 16, 17, 18, 19, 20, 21, 22, 23, 25, 26, 27, 28, 29, 30, 31, 32, 33, 34, 35, 36, 37, 38, 39, 40, 41, 42, 43, 44, 45] [40, 0, 1, 2, 3, 4, 5, 6, 7, 8, 9, 10, 41, 42, 43, 44, 11, 12, 13, 14, 15, 16, 17, 18, 45, 19, 20, 21, 22, 23, 24, 25, 26, 27, 28, 29, 30, 31, 32, 33, 34, 35, 36, 37, 38, 39] rfl (by decide) rfl (by decide) (by decide) (by decide) (fun _ => rfl) 0 rfl rfl rfl rfl (Nat.le_of_ble_eq_true rfl) ⟨by show _ ≤ 600000; omega, by show _ ≤ 7302250; omega⟩ dL_law_232 (fun r232 _ e232 => ?_)
  subst e232
  refine g_aload_n (pc := 235) C dL_law_235 2 rfl ?_
  refine g_aload_n (pc := 236) C dL_law_236 0 rfl ?_
  refine g_iload_n (pc := 237) C dL_law_237 3 rfl ?_
  refine g_iconst (pc := 238) (v := 1) C dL_law_238 (by decide) ?_
  refine g_iaddN (pc := 239) (i := i) (j := 1) C dL_law_239 ?_
  refine g_sld (pc := 240) C hX hbl hbA (i + 1) rfl ⟨by omega, by omega⟩ dL_law_240 ?_
  refine g_aload_n (pc := 241) C dL_law_241 0 rfl ?_
  refine g_iload_n (pc := 242) C dL_law_242 3 rfl ?_
  refine g_iconst (pc := 243) (v := 2) C dL_law_243 (by decide) ?_
  refine g_iaddN (pc := 244) (i := i) (j := 2) C dL_law_244 ?_
  refine g_sld (pc := 245) C hX hbl hbA (i + 2) rfl ⟨by omega, by omega⟩ dL_law_245 ?_
  refine g_aload_n (pc := 246) C dL_law_246 0 rfl ?_
  refine g_iload_n (pc := 247) C dL_law_247 3 rfl ?_
  refine g_iconst (pc := 248) (v := 3) C dL_law_248 (by decide) ?_
  refine g_iaddN (pc := 249) (i := i) (j := 3) C dL_law_249 ?_
  refine g_sld (pc := 250) C hX hbl hbA (i + 3) rfl ⟨by omega, by omega⟩ dL_law_250 ?_
  refine g_wrVI (pc := 251) (rest := [.int (if rcRow (xs (i + 1)) (xs (i + 2)) (xs (i + 3)) = 0 then 1 else (rcRow (xs (i + 1)) (xs (i + 2)) (xs (i + 3))))]) (wr := [wX (F 0) (F 1) (F 5) it (F 9) (F 12) (F 16) (F 22) (F 24) lf, oC (F 1) 3 [.ref (F 2), .ref (F 3), .ref (F 4), .int (τ 8 0), .int (τ 8 1), .int (τ 8 2), .int (τ 8 3), .int (τ 8 4), .int (τ 8 5), .int (τ 8 6)], iC G (F 2) 16 (fq τ), iC G (F 3) 64 (τ 2), iC G (F 4) 50 (fg τ), oC (F 5) 3 [.ref (F 6), .ref (F 7), .ref (F 8), .int (σ 8 0), .int (σ 8 1), .int (σ 8 2), .int (σ 8 3), .int (σ 8 4), .int (σ 8 5), .int (σ 8 6)], iC G (F 6) 16 (fq σ), iC G (F 7) 64 (σ 2), iC G (F 8) 50 (fg σ), oC (F 9) 1 [.ref (F 10), .ref (F 11)], iC G (F 10) 8 sh, iC G (F 11) 256 lr, oC (F 12) 2 [.ref (F 13), .ref (F 14), .ref (F 15)], iC G (F 13) 8 (if rcRow (xs (i + 1)) (xs (i + 2)) (xs (i + 3)) = 0 then upd hd (nx (xs (i + 1))) (100 + (xs (i + 2))) else hd), iC G (F 14) 8 (if rcRow (xs (i + 1)) (xs (i + 2)) (xs (i + 3)) = 0 then upd sz (nx (xs (i + 1))) (xs (i + 3)) else sz), jC G (F 15) 1280 (if rcRow (xs (i + 1)) (xs (i + 2)) (xs (i + 3)) = 0 then clr el (nx (xs (i + 1))) (nx (xs (i + 3))) else el), wI (F 16) (F 17) (F 18) f0 s0 p0, iC G (F 17) 160 lt, oC (F 18) 3 [.ref (F 19), .ref (F 20), .ref (F 21), .int (ν0 8 0), .int (ν0 8 1), .int (ν0 8 2), .int (ν0 8 3), .int (ν0 8 4), .int (ν0 8 5), .int (ν0 8 6)], iC G (F 19) 16 (fq ν0), iC G (F 20) 64 (ν0 2), iC G (F 21) 50 (fg ν0), oC (F 22) 0 [.ref (F 23), .int (nI bc), .int nm, .int kd, .int aa], iC G (F 23) 20 kp, iC G (F 24) 8 (rfI rr (rcRow (xs (i + 1)) (xs (i + 2)) (xs (i + 3)))), iC G (A 12) 20 kp, iC G (A 13) 137 od, iC G (A 14) 137 ah, iC G (A 15) 5 nu, iC G (A 16) 10 an, iC G (A 17) 10 le, iC G (A 18) 6 (nA o2), iC G (A 19) 6 (nA b2)]) C (fun _ => [wX (F 0) (F 1) (F 5) it (F 9) (F 12) (F 16) (F 22) (F 24) lf] ++ (wT G (F 1) (F 2) (F 3) (F 4) τ ++ (wT G (F 5) (F 6) (F 7) (F 8) σ ++ (wO G (F 9) (F 10) (F 11) sh lr ++ (wS G (F 12) (F 13) (F 14) (F 15) (if rcRow (xs (i + 1)) (xs (i + 2)) (xs (i + 3)) = 0 then upd hd (nx (xs (i + 1))) (100 + (xs (i + 2))) else hd) (if rcRow (xs (i + 1)) (xs (i + 2)) (xs (i + 3)) = 0 then upd sz (nx (xs (i + 1))) (xs (i + 3)) else sz) (if rcRow (xs (i + 1)) (xs (i + 2)) (xs (i + 3)) = 0 then clr el (nx (xs (i + 1))) (nx (xs (i + 3))) else el) ++ ([wI (F 16) (F 17) (F 18) f0 s0 p0, iC G (F 17) 160 lt] ++ (wT G (F 18) (F 19) (F 20) (F 21) ν0 ++ (wA G (F 22) (F 23) kp (nI bc) nm kd aa ++ ([iC G (F 24) 8 (rfI rr (rcRow (xs (i + 1)) (xs (i + 2)) (xs (i + 3))))] ++ (wN G m A τ y ++ ([iC G (A 0) 8 (if rcRow (xs (i + 1)) (xs (i + 2)) (xs (i + 3)) = 0 then upd hd (nx (xs (i + 1))) (100 + (xs (i + 2))) else hd), iC G (A 1) 8 (if rcRow (xs (i + 1)) (xs (i + 2)) (xs (i + 3)) = 0 then upd sz (nx (xs (i + 1))) (xs (i + 3)) else sz), jC G (A 2) 1280 (if rcRow (xs (i + 1)) (xs (i + 2)) (xs (i + 3)) = 0 then clr el2 (nx (xs (i + 1))) 160 else el2), iC G (A 11) 8 (rfI rr (rcRow (xs (i + 1)) (xs (i + 2)) (xs (i + 3)))), iC G (A 12) 20 kp, iC G (A 13) 137 od, iC G (A 14) 137 ah, iC G (A 15) 5 nu, iC G (A 16) 10 an, iC G (A 17) 10 le, iC G (A 18) 6 (nA o2), iC G (A 19) 6 (nA b2)]))))))))))) rfl k_X7_row (c_X7_row l G m A τ y hd sz el2 (xs (i + 1)) (xs (i + 2)) (xs (i + 3)) rr) ml_L_17 rfl ⟨Nat.le_of_ble_eq_true rfl, Nat.le_of_ble_eq_true rfl⟩ rfl [25, 26, 27, 28, 29, 30, 31, 32, 33, 34, 35, 36, 37] [0, 1, 2, 3, 4, 5, 6, 7, 8, 9, 10, 11, 12, 13, 14, 15, 16, 17, 18, 19, 20, 21, 22, 23, 24, 38, 39, 40, 41, 42, 43, 44, 45] [0, 1, 2, 3, 4, 5, 6, 7, 8, 9, 10, 11, 12, 13, 14, 15, 16, 17, 18, 19, 20, 21, 22, 23, 24, 33, 34, 35, 36, 37, 38, 39, 40, 41, 42, 43, 44, 45, 25, 26, 27, 28, 29, 30, 31, 32] rfl (by decide) rfl (by decide) (by decide) (by decide) (fun _ => rfl) 25 rfl rfl rfl rfl (Nat.le_of_ble_eq_true rfl) ⟨by show _ ≤ 600000; omega, by show _ ≤ 7302250; omega⟩ dL_law_251 (fun r251 _ e251 => ?_)
  subst e251
  refine g_icmp_eq (pc := 254) (tgt := 1543) C dL_law_254 (by decide) (fun _ => ?_) (fun h => absurd (rfl) h)
  refine g_iinc (pc := 1543) (v := nI (i + 6)) (lv' := [(3, .int (nI (i + 6))), (0, .ref bs), (1, .ref (F 0)), (2, .ref m)]) C dL_law_1543 3 rfl (nI_add i 6) (by decide) rfl ?_
  refine g_goto (pc := 1546) (tgt := 18) C dL_law_1546 (by decide) ?_
  refine g_ws (ws' := LW G F m A it lf τ σ sh lr (if rcRow (xs (i + 1)) (xs (i + 2)) (xs (i + 3)) = 0 then upd hd (nx (xs (i + 1))) (100 + (xs (i + 2))) else hd) (if rcRow (xs (i + 1)) (xs (i + 2)) (xs (i + 3)) = 0 then upd sz (nx (xs (i + 1))) (xs (i + 3)) else sz) (if rcRow (xs (i + 1)) (xs (i + 2)) (xs (i + 3)) = 0 then clr el (nx (xs (i + 1))) (nx (xs (i + 3))) else el) f0 s0 p0 lt ν0 kp bc nm kd aa (rfI rr (rcRow (xs (i + 1)) (xs (i + 2)) (xs (i + 3)))) y (if rcRow (xs (i + 1)) (xs (i + 2)) (xs (i + 3)) = 0 then clr el2 (nx (xs (i + 1))) 160 else el2) od ah nu an le o2 b2) (rfl) ?_
  refine g_sub (lv' := [(0, .ref bs), (1, .ref (F 0)), (2, .ref m), (3, .int (nI (i + 6)))]) [1, 2, 3, 0] rfl ?_
  refine g_widen (k := 46 + (i + 6)) (n := 5000 + 8 * (i + 6)) (by omega) (by omega) ?_
  exact K σ2 it lf τ σ sh lr (if rcRow (xs (i + 1)) (xs (i + 2)) (xs (i + 3)) = 0 then upd hd (nx (xs (i + 1))) (100 + (xs (i + 2))) else hd) (if rcRow (xs (i + 1)) (xs (i + 2)) (xs (i + 3)) = 0 then upd sz (nx (xs (i + 1))) (xs (i + 3)) else sz) (if rcRow (xs (i + 1)) (xs (i + 2)) (xs (i + 3)) = 0 then clr el (nx (xs (i + 1))) (nx (xs (i + 3))) else el) f0 s0 p0 lt ν0 kp bc nm kd aa (rfI rr (rcRow (xs (i + 1)) (xs (i + 2)) (xs (i + 3)))) y (if rcRow (xs (i + 1)) (xs (i + 2)) (xs (i + 3)) = 0 then clr el2 (nx (xs (i + 1))) 160 else el2) od ah nu an le o2 b2 (hI.row _ _ _)
set_option maxRecDepth 20000 in
set_option maxHeartbeats 4000000 in
theorem law_set {p9 : Program} {l : Launch} {e9 : Env} {s9 : State} {m9 : MethodId} {a9 : Array Value} {b9 : List Frame} {t9 : Method} {c9 : Code} {Q9 : State → Prop} {G : gT} {A9 : Nat → Prop} {F : Nat → Nat} {m : Nat} {A : Nat → Nat} {bs L : Nat} {xs : Nat → Int32} (C : Cx p9 s9 m9 a9 t9 c9 G A9 true 4 cL_law yL_law ret) (hX : va_X bs L xs s9 s9.heap) (hbl : bs < s9.heap.size) (hbA : ¬ A9 bs) (hL : L ≤ 3072) {i : Nat} (hi : i + 6 ≤ L) (σ2 : tT) (it : Int32) (lf : Int32) (τ : tT) (σ : tT) (sh : Nat → Int32) (lr : Nat → Int32) (hd : Nat → Int32) (sz : Nat → Int32) (el : Nat → Int64) (f0 : Int32) (s0 : Int32) (p0 : Int32) (lt : Nat → Int32) (ν0 : tT) (kp : Nat → Int32) (bc : Nat) (nm : Int32) (kd : Int32) (aa : Int32) (rr : Nat → Int32) (y : Nat → Int32) (el2 : Nat → Int64) (od : Nat → Int32) (ah : Nat → Int32) (nu : Nat → Int32) (an : Nat → Int32) (le : Nat → Int32) (o2 : Nat → Nat) (b2 : Nat → Nat) (hI : LI it lf τ σ σ2 lr hd sz el el2 bc y od) (K : LK p9 l e9 s9 m9 a9 b9 t9 c9 Q9 G A9 F m A bs (i + 6)) : GW p9 l e9 room_1 s9 m9 a9 b9 t9 c9 Q9 G A9 true 4 (46 + i) (5000 + 8 * i) (LW G F m A it lf τ σ sh lr hd sz el f0 s0 p0 lt ν0 kp bc nm kd aa rr y el2 od ah nu an le o2 b2) [(0, .ref bs), (1, .ref (F 0)), (2, .ref m), (3, .int (nI i))] 259 [] := by
  have hT := hI.1.1
  have hT2 := hI.1.2.1
  have hT3 := hI.1.2.2.1
  have hf := hI.1.2.2.2.1
  have hσ := hI.1.2.2.2.2
  have hS := hI.2.1.1
  have hD : ∀ s, s < 8 → isQn (hd s) → ∃ q, q < tQ τ ∧ hd s = nI q := hI.2.1.2.1
  have hE := hI.2.1.2.2
  have h0 := hI.2.2.1
  have hb := hI.2.2.2.1
  have hy0 := hI.2.2.2.2.1
  have hy1 := hI.2.2.2.2.2.1
  have hy2 := hI.2.2.2.2.2.2
  refine g_ws (ws' := [wX (F 0) (F 1) (F 5) it (F 9) (F 12) (F 16) (F 22) (F 24) lf] ++ (wT G (F 1) (F 2) (F 3) (F 4) τ ++ (wT G (F 5) (F 6) (F 7) (F 8) σ ++ (wO G (F 9) (F 10) (F 11) sh lr ++ (wS G (F 12) (F 13) (F 14) (F 15) hd sz el ++ ([wI (F 16) (F 17) (F 18) f0 s0 p0, iC G (F 17) 160 lt] ++ (wT G (F 18) (F 19) (F 20) (F 21) ν0 ++ (wA G (F 22) (F 23) kp (nI bc) nm kd aa ++ ([iC G (F 24) 8 rr] ++ (wN G m A τ y ++ ([iC G (A 0) 8 hd, iC G (A 1) 8 sz, jC G (A 2) 1280 el2, iC G (A 11) 8 rr, iC G (A 12) 20 kp, iC G (A 13) 137 od, iC G (A 14) 137 ah, iC G (A 15) 5 nu, iC G (A 16) 10 an, iC G (A 17) 10 le, iC G (A 18) 6 (nA o2), iC G (A 19) 6 (nA b2)]))))))))))) rfl ?_
  refine g_aload_n (pc := 259) C dL_law_259 1 rfl ?_
  refine g_aload_n (pc := 260) C dL_law_260 0 rfl ?_
  refine g_iload_n (pc := 261) C dL_law_261 3 rfl ?_
  refine g_iconst (pc := 262) (v := 1) C dL_law_262 (by decide) ?_
  refine g_iaddN (pc := 263) (i := i) (j := 1) C dL_law_263 ?_
  refine g_sld (pc := 264) C hX hbl hbA (i + 1) rfl ⟨by omega, by omega⟩ dL_law_264 ?_
  refine g_aload_n (pc := 265) C dL_law_265 0 rfl ?_
  refine g_iload_n (pc := 266) C dL_law_266 3 rfl ?_
  refine g_iconst (pc := 267) (v := 2) C dL_law_267 (by decide) ?_
  refine g_iaddN (pc := 268) (i := i) (j := 2) C dL_law_268 ?_
  refine g_sld (pc := 269) C hX hbl hbA (i + 2) rfl ⟨by omega, by omega⟩ dL_law_269 ?_
  refine g_aload_n (pc := 270) C dL_law_270 0 rfl ?_
  refine g_iload_n (pc := 271) C dL_law_271 3 rfl ?_
  refine g_iconst (pc := 272) (v := 3) C dL_law_272 (by decide) ?_
  refine g_iaddN (pc := 273) (i := i) (j := 3) C dL_law_273 ?_
  refine g_sld (pc := 274) C hX hbl hbA (i + 3) rfl ⟨by omega, by omega⟩ dL_law_274 ?_
  refine g_i2l (pc := 275) (v := (xs (i + 3)).toInt64) C dL_law_275 rfl ?_
  refine g_bipush (pc := 276) (v := 32) C dL_law_276 (by decide) ?_
  refine g_lshl (pc := 278) (v := ((xs (i + 3)).toInt64) <<< (Int32.toInt64 32 &&& 63)) C dL_law_278 rfl ?_
  refine g_aload_n (pc := 279) C dL_law_279 0 rfl ?_
  refine g_iload_n (pc := 280) C dL_law_280 3 rfl ?_
  refine g_iconst (pc := 281) (v := 4) C dL_law_281 (by decide) ?_
  refine g_iaddN (pc := 282) (i := i) (j := 4) C dL_law_282 ?_
  refine g_sld (pc := 283) C hX hbl hbA (i + 4) rfl ⟨by omega, by omega⟩ dL_law_283 ?_
  refine g_i2l (pc := 284) (v := (xs (i + 4)).toInt64) C dL_law_284 rfl ?_
  refine g_ldc2 (pc := 285) (v := 4294967295) C mk_L_18 dL_law_285 ?_
  refine g_land (pc := 288) C dL_law_288 ?_
  refine g_lor (pc := 289) C dL_law_289 ?_
  refine g_wrVI (pc := 290) (rest := []) (wr := [oC (F 1) 3 [.ref (F 2), .ref (F 3), .ref (F 4), .int (τ 8 0), .int (τ 8 1), .int (τ 8 2), .int (τ 8 3), .int (τ 8 4), .int (τ 8 5), .int (τ 8 6)], iC G (F 2) 16 (fq τ), iC G (F 3) 64 (τ 2), iC G (F 4) 50 (fg τ), oC (F 5) 3 [.ref (F 6), .ref (F 7), .ref (F 8), .int (σ 8 0), .int (σ 8 1), .int (σ 8 2), .int (σ 8 3), .int (σ 8 4), .int (σ 8 5), .int (σ 8 6)], iC G (F 6) 16 (fq σ), iC G (F 7) 64 (σ 2), iC G (F 8) 50 (fg σ), oC (F 9) 1 [.ref (F 10), .ref (F 11)], iC G (F 10) 8 sh, iC G (F 11) 256 lr, wI (F 16) (F 17) (F 18) f0 s0 p0, iC G (F 17) 160 lt, oC (F 18) 3 [.ref (F 19), .ref (F 20), .ref (F 21), .int (ν0 8 0), .int (ν0 8 1), .int (ν0 8 2), .int (ν0 8 3), .int (ν0 8 4), .int (ν0 8 5), .int (ν0 8 6)], iC G (F 19) 16 (fq ν0), iC G (F 20) 64 (ν0 2), iC G (F 21) 50 (fg ν0), oC (F 22) 0 [.ref (F 23), .int (nI bc), .int nm, .int kd, .int aa], iC G (F 23) 20 kp, oC m 6 [.ref (A 0), .ref (A 1), .ref (A 2), .int (τ 8 0), .ref (A 3), .ref (A 4), .ref (A 5), .int (τ 8 1), .ref (A 6), .ref (A 7), .ref (A 8), .ref (A 9), .ref (A 10), .int (τ 8 2), .int (τ 8 3), .int (τ 8 5), .int (τ 8 6), .int (τ 8 4), .int (y 0), .ref (A 11), .int (y 1), .ref (A 12), .int (y 2), .ref (A 13), .ref (A 14), .int (y 3), .int (y 4), .ref (A 15), .ref (A 16), .ref (A 17), .ref (A 18), .ref (A 19), .int (y 5)], iC G (A 3) 8 (τ 0), iC G (A 4) 8 (τ 1), iC G (A 5) 64 (τ 2), iC G (A 6) 10 (τ 3), iC G (A 7) 10 (τ 4), iC G (A 8) 10 (τ 5), iC G (A 9) 10 (τ 6), iC G (A 10) 10 (τ 7), iC G (A 0) 8 hd, iC G (A 1) 8 sz, jC G (A 2) 1280 el2, iC G (A 11) 8 rr, iC G (A 12) 20 kp, iC G (A 13) 137 od, iC G (A 14) 137 ah, iC G (A 15) 5 nu, iC G (A 16) 10 an, iC G (A 17) 10 le, iC G (A 18) 6 (nA o2), iC G (A 19) 6 (nA b2)]) C (fun _ => [wX (F 0) (F 1) (F 5) it (F 9) (F 12) (F 16) (F 22) (F 24) lf] ++ (wT G (F 1) (F 2) (F 3) (F 4) τ ++ (wT G (F 5) (F 6) (F 7) (F 8) σ ++ (wO G (F 9) (F 10) (F 11) sh lr ++ (wS G (F 12) (F 13) (F 14) (F 15) hd sz (if rcSet hd sz (xs (i + 1)) (xs (i + 2)) = 0 then vp_updL el (nx (xs (i + 1)) * 160 + nx (xs (i + 2))) (lowB (hd (nx (xs (i + 1))) - 100) ((((xs (i + 3)).toInt64) <<< (Int32.toInt64 32 &&& 63)) ||| (((xs (i + 4)).toInt64) &&& 4294967295))) else el) ++ ([wI (F 16) (F 17) (F 18) f0 s0 p0, iC G (F 17) 160 lt] ++ (wT G (F 18) (F 19) (F 20) (F 21) ν0 ++ (wA G (F 22) (F 23) kp (nI bc) nm kd aa ++ ([iC G (F 24) 8 (rfI rr (rcSet hd sz (xs (i + 1)) (xs (i + 2))))] ++ (wN G m A τ y ++ ([iC G (A 0) 8 hd, iC G (A 1) 8 sz, jC G (A 2) 1280 el2, iC G (A 11) 8 rr, iC G (A 12) 20 kp, iC G (A 13) 137 od, iC G (A 14) 137 ah, iC G (A 15) 5 nu, iC G (A 16) 10 an, iC G (A 17) 10 le, iC G (A 18) 6 (nA o2), iC G (A 19) 6 (nA b2)]))))))))))) rfl k_X6_set (c_X6_set l G (F 0) (F 1) (F 5) it (F 9) (F 12) (F 16) (F 22) (F 24) lf (F 13) (F 14) (F 15) hd sz el (xs (i + 1)) (xs (i + 2)) ((((xs (i + 3)).toInt64) <<< (Int32.toInt64 32 &&& 63)) ||| (((xs (i + 4)).toInt64) &&& 4294967295)) rr (by first | assumption | omega)) ml_L_20 rfl ⟨Nat.le_of_ble_eq_true rfl, Nat.le_of_ble_eq_true rfl⟩ rfl [0, 12, 13, 14, 15, 24] [1, 2, 3, 4, 5, 6, 7, 8, 9, 10, 11, 16, 17, 18, 19, 20, 21, 22, 23, 25, 26, 27, 28, 29, 30, 31, 32, 33, 34, 35, 36, 37, 38, 39, 40, 41, 42, 43, 44, 45] [40, 0, 1, 2, 3, 4, 5, 6, 7, 8, 9, 10, 41, 42, 43, 44, 11, 12, 13, 14, 15, 16, 17, 18, 45, 19, 20, 21, 22, 23, 24, 25, 26, 27, 28, 29, 30, 31, 32, 33, 34, 35, 36, 37, 38, 39] rfl (by decide) rfl (by decide) (by decide) (by decide) (fun _ => rfl) 0 rfl rfl rfl rfl (Nat.le_of_ble_eq_true rfl) ⟨by show _ ≤ 600000; omega, by show _ ≤ 7302250; omega⟩ dL_law_290 (fun r290 _ e290 => ?_)
  subst e290
  refine g_aload_n (pc := 293) C dL_law_293 2 rfl ?_
  refine g_aload_n (pc := 294) C dL_law_294 0 rfl ?_
  refine g_iload_n (pc := 295) C dL_law_295 3 rfl ?_
  refine g_iconst (pc := 296) (v := 1) C dL_law_296 (by decide) ?_
  refine g_iaddN (pc := 297) (i := i) (j := 1) C dL_law_297 ?_
  refine g_sld (pc := 298) C hX hbl hbA (i + 1) rfl ⟨by omega, by omega⟩ dL_law_298 ?_
  refine g_aload_n (pc := 299) C dL_law_299 0 rfl ?_
  refine g_iload_n (pc := 300) C dL_law_300 3 rfl ?_
  refine g_iconst (pc := 301) (v := 2) C dL_law_301 (by decide) ?_
  refine g_iaddN (pc := 302) (i := i) (j := 2) C dL_law_302 ?_
  refine g_sld (pc := 303) C hX hbl hbA (i + 2) rfl ⟨by omega, by omega⟩ dL_law_303 ?_
  refine g_aload_n (pc := 304) C dL_law_304 0 rfl ?_
  refine g_iload_n (pc := 305) C dL_law_305 3 rfl ?_
  refine g_iconst (pc := 306) (v := 3) C dL_law_306 (by decide) ?_
  refine g_iaddN (pc := 307) (i := i) (j := 3) C dL_law_307 ?_
  refine g_sld (pc := 308) C hX hbl hbA (i + 3) rfl ⟨by omega, by omega⟩ dL_law_308 ?_
  refine g_i2l (pc := 309) (v := (xs (i + 3)).toInt64) C dL_law_309 rfl ?_
  refine g_bipush (pc := 310) (v := 32) C dL_law_310 (by decide) ?_
  refine g_lshl (pc := 312) (v := ((xs (i + 3)).toInt64) <<< (Int32.toInt64 32 &&& 63)) C dL_law_312 rfl ?_
  refine g_aload_n (pc := 313) C dL_law_313 0 rfl ?_
  refine g_iload_n (pc := 314) C dL_law_314 3 rfl ?_
  refine g_iconst (pc := 315) (v := 4) C dL_law_315 (by decide) ?_
  refine g_iaddN (pc := 316) (i := i) (j := 4) C dL_law_316 ?_
  refine g_sld (pc := 317) C hX hbl hbA (i + 4) rfl ⟨by omega, by omega⟩ dL_law_317 ?_
  refine g_i2l (pc := 318) (v := (xs (i + 4)).toInt64) C dL_law_318 rfl ?_
  refine g_ldc2 (pc := 319) (v := 4294967295) C mk_L_18 dL_law_319 ?_
  refine g_land (pc := 322) C dL_law_322 ?_
  refine g_lor (pc := 323) C dL_law_323 ?_
  refine g_wrVI (pc := 324) (rest := [.int (if rcSet hd sz (xs (i + 1)) (xs (i + 2)) = 0 then 1 else (rcSet hd sz (xs (i + 1)) (xs (i + 2))))]) (wr := [wX (F 0) (F 1) (F 5) it (F 9) (F 12) (F 16) (F 22) (F 24) lf, oC (F 1) 3 [.ref (F 2), .ref (F 3), .ref (F 4), .int (τ 8 0), .int (τ 8 1), .int (τ 8 2), .int (τ 8 3), .int (τ 8 4), .int (τ 8 5), .int (τ 8 6)], iC G (F 2) 16 (fq τ), iC G (F 3) 64 (τ 2), iC G (F 4) 50 (fg τ), oC (F 5) 3 [.ref (F 6), .ref (F 7), .ref (F 8), .int (σ 8 0), .int (σ 8 1), .int (σ 8 2), .int (σ 8 3), .int (σ 8 4), .int (σ 8 5), .int (σ 8 6)], iC G (F 6) 16 (fq σ), iC G (F 7) 64 (σ 2), iC G (F 8) 50 (fg σ), oC (F 9) 1 [.ref (F 10), .ref (F 11)], iC G (F 10) 8 sh, iC G (F 11) 256 lr, oC (F 12) 2 [.ref (F 13), .ref (F 14), .ref (F 15)], iC G (F 13) 8 hd, iC G (F 14) 8 sz, jC G (F 15) 1280 (if rcSet hd sz (xs (i + 1)) (xs (i + 2)) = 0 then vp_updL el (nx (xs (i + 1)) * 160 + nx (xs (i + 2))) (lowB (hd (nx (xs (i + 1))) - 100) ((((xs (i + 3)).toInt64) <<< (Int32.toInt64 32 &&& 63)) ||| (((xs (i + 4)).toInt64) &&& 4294967295))) else el), wI (F 16) (F 17) (F 18) f0 s0 p0, iC G (F 17) 160 lt, oC (F 18) 3 [.ref (F 19), .ref (F 20), .ref (F 21), .int (ν0 8 0), .int (ν0 8 1), .int (ν0 8 2), .int (ν0 8 3), .int (ν0 8 4), .int (ν0 8 5), .int (ν0 8 6)], iC G (F 19) 16 (fq ν0), iC G (F 20) 64 (ν0 2), iC G (F 21) 50 (fg ν0), oC (F 22) 0 [.ref (F 23), .int (nI bc), .int nm, .int kd, .int aa], iC G (F 23) 20 kp, iC G (F 24) 8 (rfI rr (rcSet hd sz (xs (i + 1)) (xs (i + 2)))), iC G (A 12) 20 kp, iC G (A 13) 137 od, iC G (A 14) 137 ah, iC G (A 15) 5 nu, iC G (A 16) 10 an, iC G (A 17) 10 le, iC G (A 18) 6 (nA o2), iC G (A 19) 6 (nA b2)]) C (fun _ => [wX (F 0) (F 1) (F 5) it (F 9) (F 12) (F 16) (F 22) (F 24) lf] ++ (wT G (F 1) (F 2) (F 3) (F 4) τ ++ (wT G (F 5) (F 6) (F 7) (F 8) σ ++ (wO G (F 9) (F 10) (F 11) sh lr ++ (wS G (F 12) (F 13) (F 14) (F 15) hd sz (if rcSet hd sz (xs (i + 1)) (xs (i + 2)) = 0 then vp_updL el (nx (xs (i + 1)) * 160 + nx (xs (i + 2))) (lowB (hd (nx (xs (i + 1))) - 100) ((((xs (i + 3)).toInt64) <<< (Int32.toInt64 32 &&& 63)) ||| (((xs (i + 4)).toInt64) &&& 4294967295))) else el) ++ ([wI (F 16) (F 17) (F 18) f0 s0 p0, iC G (F 17) 160 lt] ++ (wT G (F 18) (F 19) (F 20) (F 21) ν0 ++ (wA G (F 22) (F 23) kp (nI bc) nm kd aa ++ ([iC G (F 24) 8 (rfI rr (rcSet hd sz (xs (i + 1)) (xs (i + 2))))] ++ (wN G m A τ y ++ ([iC G (A 0) 8 hd, iC G (A 1) 8 sz, jC G (A 2) 1280 (if rcSet hd sz (xs (i + 1)) (xs (i + 2)) = 0 then vp_updL el2 (nx (xs (i + 1)) * 160 + nx (xs (i + 2))) (lowB (hd (nx (xs (i + 1))) - 100) ((((xs (i + 3)).toInt64) <<< (Int32.toInt64 32 &&& 63)) ||| (((xs (i + 4)).toInt64) &&& 4294967295))) else el2), iC G (A 11) 8 (rfI rr (rcSet hd sz (xs (i + 1)) (xs (i + 2)))), iC G (A 12) 20 kp, iC G (A 13) 137 od, iC G (A 14) 137 ah, iC G (A 15) 5 nu, iC G (A 16) 10 an, iC G (A 17) 10 le, iC G (A 18) 6 (nA o2), iC G (A 19) 6 (nA b2)]))))))))))) rfl k_X7_set (c_X7_set l G m A τ y hd sz el2 (xs (i + 1)) (xs (i + 2)) ((((xs (i + 3)).toInt64) <<< (Int32.toInt64 32 &&& 63)) ||| (((xs (i + 4)).toInt64) &&& 4294967295)) rr (by first | assumption | omega)) ml_L_24 rfl ⟨Nat.le_of_ble_eq_true rfl, Nat.le_of_ble_eq_true rfl⟩ rfl [25, 26, 27, 28, 29, 30, 31, 32, 33, 34, 35, 36, 37] [0, 1, 2, 3, 4, 5, 6, 7, 8, 9, 10, 11, 12, 13, 14, 15, 16, 17, 18, 19, 20, 21, 22, 23, 24, 38, 39, 40, 41, 42, 43, 44, 45] [0, 1, 2, 3, 4, 5, 6, 7, 8, 9, 10, 11, 12, 13, 14, 15, 16, 17, 18, 19, 20, 21, 22, 23, 24, 33, 34, 35, 36, 37, 38, 39, 40, 41, 42, 43, 44, 45, 25, 26, 27, 28, 29, 30, 31, 32] rfl (by decide) rfl (by decide) (by decide) (by decide) (fun _ => rfl) 25 rfl rfl rfl rfl (Nat.le_of_ble_eq_true rfl) ⟨by show _ ≤ 600000; omega, by show _ ≤ 7302250; omega⟩ dL_law_324 (fun r324 _ e324 => ?_)
  subst e324
  refine g_icmp_eq (pc := 327) (tgt := 1543) C dL_law_327 (by decide) (fun _ => ?_) (fun h => absurd (rfl) h)
  refine g_iinc (pc := 1543) (v := nI (i + 6)) (lv' := [(3, .int (nI (i + 6))), (0, .ref bs), (1, .ref (F 0)), (2, .ref m)]) C dL_law_1543 3 rfl (nI_add i 6) (by decide) rfl ?_
  refine g_goto (pc := 1546) (tgt := 18) C dL_law_1546 (by decide) ?_
  refine g_ws (ws' := LW G F m A it lf τ σ sh lr hd sz (if rcSet hd sz (xs (i + 1)) (xs (i + 2)) = 0 then vp_updL el (nx (xs (i + 1)) * 160 + nx (xs (i + 2))) (lowB (hd (nx (xs (i + 1))) - 100) ((((xs (i + 3)).toInt64) <<< (Int32.toInt64 32 &&& 63)) ||| (((xs (i + 4)).toInt64) &&& 4294967295))) else el) f0 s0 p0 lt ν0 kp bc nm kd aa (rfI rr (rcSet hd sz (xs (i + 1)) (xs (i + 2)))) y (if rcSet hd sz (xs (i + 1)) (xs (i + 2)) = 0 then vp_updL el2 (nx (xs (i + 1)) * 160 + nx (xs (i + 2))) (lowB (hd (nx (xs (i + 1))) - 100) ((((xs (i + 3)).toInt64) <<< (Int32.toInt64 32 &&& 63)) ||| (((xs (i + 4)).toInt64) &&& 4294967295))) else el2) od ah nu an le o2 b2) (rfl) ?_
  refine g_sub (lv' := [(0, .ref bs), (1, .ref (F 0)), (2, .ref m), (3, .int (nI (i + 6)))]) [1, 2, 3, 0] rfl ?_
  refine g_widen (k := 46 + (i + 6)) (n := 5000 + 8 * (i + 6)) (by omega) (by omega) ?_
  exact K σ2 it lf τ σ sh lr hd sz (if rcSet hd sz (xs (i + 1)) (xs (i + 2)) = 0 then vp_updL el (nx (xs (i + 1)) * 160 + nx (xs (i + 2))) (lowB (hd (nx (xs (i + 1))) - 100) ((((xs (i + 3)).toInt64) <<< (Int32.toInt64 32 &&& 63)) ||| (((xs (i + 4)).toInt64) &&& 4294967295))) else el) f0 s0 p0 lt ν0 kp bc nm kd aa (rfI rr (rcSet hd sz (xs (i + 1)) (xs (i + 2)))) y (if rcSet hd sz (xs (i + 1)) (xs (i + 2)) = 0 then vp_updL el2 (nx (xs (i + 1)) * 160 + nx (xs (i + 2))) (lowB (hd (nx (xs (i + 1))) - 100) ((((xs (i + 3)).toInt64) <<< (Int32.toInt64 32 &&& 63)) ||| (((xs (i + 4)).toInt64) &&& 4294967295))) else el2) od ah nu an le o2 b2 (hI.els (eq_set hE _ _ _))
set_option maxRecDepth 20000 in
set_option maxHeartbeats 4000000 in
theorem law_copy {p9 : Program} {l : Launch} {e9 : Env} {s9 : State} {m9 : MethodId} {a9 : Array Value} {b9 : List Frame} {t9 : Method} {c9 : Code} {Q9 : State → Prop} {G : gT} {A9 : Nat → Prop} {F : Nat → Nat} {m : Nat} {A : Nat → Nat} {bs L : Nat} {xs : Nat → Int32} (C : Cx p9 s9 m9 a9 t9 c9 G A9 true 4 cL_law yL_law ret) (hX : va_X bs L xs s9 s9.heap) (hbl : bs < s9.heap.size) (hbA : ¬ A9 bs) (hL : L ≤ 3072) {i : Nat} (hi : i + 6 ≤ L) (σ2 : tT) (it : Int32) (lf : Int32) (τ : tT) (σ : tT) (sh : Nat → Int32) (lr : Nat → Int32) (hd : Nat → Int32) (sz : Nat → Int32) (el : Nat → Int64) (f0 : Int32) (s0 : Int32) (p0 : Int32) (lt : Nat → Int32) (ν0 : tT) (kp : Nat → Int32) (bc : Nat) (nm : Int32) (kd : Int32) (aa : Int32) (rr : Nat → Int32) (y : Nat → Int32) (el2 : Nat → Int64) (od : Nat → Int32) (ah : Nat → Int32) (nu : Nat → Int32) (an : Nat → Int32) (le : Nat → Int32) (o2 : Nat → Nat) (b2 : Nat → Nat) (hI : LI it lf τ σ σ2 lr hd sz el el2 bc y od) (K : LK p9 l e9 s9 m9 a9 b9 t9 c9 Q9 G A9 F m A bs (i + 6)) : GW p9 l e9 room_1 s9 m9 a9 b9 t9 c9 Q9 G A9 true 4 (46 + i) (5000 + 8 * i) (LW G F m A it lf τ σ sh lr hd sz el f0 s0 p0 lt ν0 kp bc nm kd aa rr y el2 od ah nu an le o2 b2) [(0, .ref bs), (1, .ref (F 0)), (2, .ref m), (3, .int (nI i))] 332 [] := by
  have hT := hI.1.1
  have hT2 := hI.1.2.1
  have hT3 := hI.1.2.2.1
  have hf := hI.1.2.2.2.1
  have hσ := hI.1.2.2.2.2
  have hS := hI.2.1.1
  have hD : ∀ s, s < 8 → isQn (hd s) → ∃ q, q < tQ τ ∧ hd s = nI q := hI.2.1.2.1
  have hE := hI.2.1.2.2
  have h0 := hI.2.2.1
  have hb := hI.2.2.2.1
  have hy0 := hI.2.2.2.2.1
  have hy1 := hI.2.2.2.2.2.1
  have hy2 := hI.2.2.2.2.2.2
  refine g_ws (ws' := [wX (F 0) (F 1) (F 5) it (F 9) (F 12) (F 16) (F 22) (F 24) lf] ++ (wT G (F 1) (F 2) (F 3) (F 4) τ ++ (wT G (F 5) (F 6) (F 7) (F 8) σ ++ (wO G (F 9) (F 10) (F 11) sh lr ++ (wS G (F 12) (F 13) (F 14) (F 15) hd sz el ++ ([wI (F 16) (F 17) (F 18) f0 s0 p0, iC G (F 17) 160 lt] ++ (wT G (F 18) (F 19) (F 20) (F 21) ν0 ++ (wA G (F 22) (F 23) kp (nI bc) nm kd aa ++ ([iC G (F 24) 8 rr] ++ (wN G m A τ y ++ ([iC G (A 0) 8 hd, iC G (A 1) 8 sz, jC G (A 2) 1280 el2, iC G (A 11) 8 rr, iC G (A 12) 20 kp, iC G (A 13) 137 od, iC G (A 14) 137 ah, iC G (A 15) 5 nu, iC G (A 16) 10 an, iC G (A 17) 10 le, iC G (A 18) 6 (nA o2), iC G (A 19) 6 (nA b2)]))))))))))) rfl ?_
  refine g_aload_n (pc := 332) C dL_law_332 1 rfl ?_
  refine g_aload_n (pc := 333) C dL_law_333 0 rfl ?_
  refine g_iload_n (pc := 334) C dL_law_334 3 rfl ?_
  refine g_iconst (pc := 335) (v := 1) C dL_law_335 (by decide) ?_
  refine g_iaddN (pc := 336) (i := i) (j := 1) C dL_law_336 ?_
  refine g_sld (pc := 337) C hX hbl hbA (i + 1) rfl ⟨by omega, by omega⟩ dL_law_337 ?_
  refine g_aload_n (pc := 338) C dL_law_338 0 rfl ?_
  refine g_iload_n (pc := 339) C dL_law_339 3 rfl ?_
  refine g_iconst (pc := 340) (v := 2) C dL_law_340 (by decide) ?_
  refine g_iaddN (pc := 341) (i := i) (j := 2) C dL_law_341 ?_
  refine g_sld (pc := 342) C hX hbl hbA (i + 2) rfl ⟨by omega, by omega⟩ dL_law_342 ?_
  refine g_aload_n (pc := 343) C dL_law_343 0 rfl ?_
  refine g_iload_n (pc := 344) C dL_law_344 3 rfl ?_
  refine g_iconst (pc := 345) (v := 3) C dL_law_345 (by decide) ?_
  refine g_iaddN (pc := 346) (i := i) (j := 3) C dL_law_346 ?_
  refine g_sld (pc := 347) C hX hbl hbA (i + 3) rfl ⟨by omega, by omega⟩ dL_law_347 ?_
  refine g_aload_n (pc := 348) C dL_law_348 0 rfl ?_
  refine g_iload_n (pc := 349) C dL_law_349 3 rfl ?_
  refine g_iconst (pc := 350) (v := 4) C dL_law_350 (by decide) ?_
  refine g_iaddN (pc := 351) (i := i) (j := 4) C dL_law_351 ?_
  refine g_sld (pc := 352) C hX hbl hbA (i + 4) rfl ⟨by omega, by omega⟩ dL_law_352 ?_
  refine g_aload_n (pc := 353) C dL_law_353 0 rfl ?_
  refine g_iload_n (pc := 354) C dL_law_354 3 rfl ?_
  refine g_iconst (pc := 355) (v := 5) C dL_law_355 (by decide) ?_
  refine g_iaddN (pc := 356) (i := i) (j := 5) C dL_law_356 ?_
  refine g_sld (pc := 357) C hX hbl hbA (i + 5) rfl ⟨by omega, by omega⟩ dL_law_357 ?_
  refine g_wrVI (pc := 358) (rest := []) (wr := [oC (F 1) 3 [.ref (F 2), .ref (F 3), .ref (F 4), .int (τ 8 0), .int (τ 8 1), .int (τ 8 2), .int (τ 8 3), .int (τ 8 4), .int (τ 8 5), .int (τ 8 6)], iC G (F 2) 16 (fq τ), iC G (F 3) 64 (τ 2), iC G (F 4) 50 (fg τ), oC (F 5) 3 [.ref (F 6), .ref (F 7), .ref (F 8), .int (σ 8 0), .int (σ 8 1), .int (σ 8 2), .int (σ 8 3), .int (σ 8 4), .int (σ 8 5), .int (σ 8 6)], iC G (F 6) 16 (fq σ), iC G (F 7) 64 (σ 2), iC G (F 8) 50 (fg σ), oC (F 9) 1 [.ref (F 10), .ref (F 11)], iC G (F 10) 8 sh, iC G (F 11) 256 lr, wI (F 16) (F 17) (F 18) f0 s0 p0, iC G (F 17) 160 lt, oC (F 18) 3 [.ref (F 19), .ref (F 20), .ref (F 21), .int (ν0 8 0), .int (ν0 8 1), .int (ν0 8 2), .int (ν0 8 3), .int (ν0 8 4), .int (ν0 8 5), .int (ν0 8 6)], iC G (F 19) 16 (fq ν0), iC G (F 20) 64 (ν0 2), iC G (F 21) 50 (fg ν0), oC (F 22) 0 [.ref (F 23), .int (nI bc), .int nm, .int kd, .int aa], iC G (F 23) 20 kp, oC m 6 [.ref (A 0), .ref (A 1), .ref (A 2), .int (τ 8 0), .ref (A 3), .ref (A 4), .ref (A 5), .int (τ 8 1), .ref (A 6), .ref (A 7), .ref (A 8), .ref (A 9), .ref (A 10), .int (τ 8 2), .int (τ 8 3), .int (τ 8 5), .int (τ 8 6), .int (τ 8 4), .int (y 0), .ref (A 11), .int (y 1), .ref (A 12), .int (y 2), .ref (A 13), .ref (A 14), .int (y 3), .int (y 4), .ref (A 15), .ref (A 16), .ref (A 17), .ref (A 18), .ref (A 19), .int (y 5)], iC G (A 3) 8 (τ 0), iC G (A 4) 8 (τ 1), iC G (A 5) 64 (τ 2), iC G (A 6) 10 (τ 3), iC G (A 7) 10 (τ 4), iC G (A 8) 10 (τ 5), iC G (A 9) 10 (τ 6), iC G (A 10) 10 (τ 7), iC G (A 0) 8 hd, iC G (A 1) 8 sz, jC G (A 2) 1280 el2, iC G (A 11) 8 rr, iC G (A 12) 20 kp, iC G (A 13) 137 od, iC G (A 14) 137 ah, iC G (A 15) 5 nu, iC G (A 16) 10 an, iC G (A 17) 10 le, iC G (A 18) 6 (nA o2), iC G (A 19) 6 (nA b2)]) C (fun _ => [wX (F 0) (F 1) (F 5) it (F 9) (F 12) (F 16) (F 22) (F 24) lf] ++ (wT G (F 1) (F 2) (F 3) (F 4) τ ++ (wT G (F 5) (F 6) (F 7) (F 8) σ ++ (wO G (F 9) (F 10) (F 11) sh lr ++ (wS G (F 12) (F 13) (F 14) (F 15) hd sz (if rcCopy hd sz (xs (i + 1)) (xs (i + 2)) (xs (i + 3)) (xs (i + 4)) (xs (i + 5)) = 0 then va_cpy el el (nx (xs (i + 1)) * 160 + nx (xs (i + 3))) (nx (xs (i + 2)) * 160 + nx (xs (i + 4))) (nx (xs (i + 5))) else el) ++ ([wI (F 16) (F 17) (F 18) f0 s0 p0, iC G (F 17) 160 lt] ++ (wT G (F 18) (F 19) (F 20) (F 21) ν0 ++ (wA G (F 22) (F 23) kp (nI bc) nm kd aa ++ ([iC G (F 24) 8 (rfI rr (rcCopy hd sz (xs (i + 1)) (xs (i + 2)) (xs (i + 3)) (xs (i + 4)) (xs (i + 5))))] ++ (wN G m A τ y ++ ([iC G (A 0) 8 hd, iC G (A 1) 8 sz, jC G (A 2) 1280 el2, iC G (A 11) 8 rr, iC G (A 12) 20 kp, iC G (A 13) 137 od, iC G (A 14) 137 ah, iC G (A 15) 5 nu, iC G (A 16) 10 an, iC G (A 17) 10 le, iC G (A 18) 6 (nA o2), iC G (A 19) 6 (nA b2)]))))))))))) rfl k_X6_copy (c_X6_copy l G (F 0) (F 1) (F 5) it (F 9) (F 12) (F 16) (F 22) (F 24) lf (F 13) (F 14) (F 15) hd sz el (xs (i + 1)) (xs (i + 2)) (xs (i + 3)) (xs (i + 4)) (xs (i + 5)) rr (by first | assumption | omega)) ml_L_25 rfl ⟨Nat.le_of_ble_eq_true rfl, Nat.le_of_ble_eq_true rfl⟩ rfl [0, 12, 13, 14, 15, 24] [1, 2, 3, 4, 5, 6, 7, 8, 9, 10, 11, 16, 17, 18, 19, 20, 21, 22, 23, 25, 26, 27, 28, 29, 30, 31, 32, 33, 34, 35, 36, 37, 38, 39, 40, 41, 42, 43, 44, 45] [40, 0, 1, 2, 3, 4, 5, 6, 7, 8, 9, 10, 41, 42, 43, 44, 11, 12, 13, 14, 15, 16, 17, 18, 45, 19, 20, 21, 22, 23, 24, 25, 26, 27, 28, 29, 30, 31, 32, 33, 34, 35, 36, 37, 38, 39] rfl (by decide) rfl (by decide) (by decide) (by decide) (fun _ => rfl) 0 rfl rfl rfl rfl (Nat.le_of_ble_eq_true rfl) ⟨by show _ ≤ 600000; omega, by show _ ≤ 7302250; omega⟩ dL_law_358 (fun r358 _ e358 => ?_)
  subst e358
  refine g_aload_n (pc := 361) C dL_law_361 2 rfl ?_
  refine g_aload_n (pc := 362) C dL_law_362 0 rfl ?_
  refine g_iload_n (pc := 363) C dL_law_363 3 rfl ?_
  refine g_iconst (pc := 364) (v := 1) C dL_law_364 (by decide) ?_
  refine g_iaddN (pc := 365) (i := i) (j := 1) C dL_law_365 ?_
  refine g_sld (pc := 366) C hX hbl hbA (i + 1) rfl ⟨by omega, by omega⟩ dL_law_366 ?_
  refine g_aload_n (pc := 367) C dL_law_367 0 rfl ?_
  refine g_iload_n (pc := 368) C dL_law_368 3 rfl ?_
  refine g_iconst (pc := 369) (v := 2) C dL_law_369 (by decide) ?_
  refine g_iaddN (pc := 370) (i := i) (j := 2) C dL_law_370 ?_
  refine g_sld (pc := 371) C hX hbl hbA (i + 2) rfl ⟨by omega, by omega⟩ dL_law_371 ?_
  refine g_aload_n (pc := 372) C dL_law_372 0 rfl ?_
  refine g_iload_n (pc := 373) C dL_law_373 3 rfl ?_
  refine g_iconst (pc := 374) (v := 3) C dL_law_374 (by decide) ?_
  refine g_iaddN (pc := 375) (i := i) (j := 3) C dL_law_375 ?_
  refine g_sld (pc := 376) C hX hbl hbA (i + 3) rfl ⟨by omega, by omega⟩ dL_law_376 ?_
  refine g_aload_n (pc := 377) C dL_law_377 0 rfl ?_
  refine g_iload_n (pc := 378) C dL_law_378 3 rfl ?_
  refine g_iconst (pc := 379) (v := 4) C dL_law_379 (by decide) ?_
  refine g_iaddN (pc := 380) (i := i) (j := 4) C dL_law_380 ?_
  refine g_sld (pc := 381) C hX hbl hbA (i + 4) rfl ⟨by omega, by omega⟩ dL_law_381 ?_
  refine g_aload_n (pc := 382) C dL_law_382 0 rfl ?_
  refine g_iload_n (pc := 383) C dL_law_383 3 rfl ?_
  refine g_iconst (pc := 384) (v := 5) C dL_law_384 (by decide) ?_
  refine g_iaddN (pc := 385) (i := i) (j := 5) C dL_law_385 ?_
  refine g_sld (pc := 386) C hX hbl hbA (i + 5) rfl ⟨by omega, by omega⟩ dL_law_386 ?_
  refine g_wrVI (pc := 387) (rest := [.int (if rcCopy hd sz (xs (i + 1)) (xs (i + 2)) (xs (i + 3)) (xs (i + 4)) (xs (i + 5)) = 0 then 1 else (rcCopy hd sz (xs (i + 1)) (xs (i + 2)) (xs (i + 3)) (xs (i + 4)) (xs (i + 5))))]) (wr := [wX (F 0) (F 1) (F 5) it (F 9) (F 12) (F 16) (F 22) (F 24) lf, oC (F 1) 3 [.ref (F 2), .ref (F 3), .ref (F 4), .int (τ 8 0), .int (τ 8 1), .int (τ 8 2), .int (τ 8 3), .int (τ 8 4), .int (τ 8 5), .int (τ 8 6)], iC G (F 2) 16 (fq τ), iC G (F 3) 64 (τ 2), iC G (F 4) 50 (fg τ), oC (F 5) 3 [.ref (F 6), .ref (F 7), .ref (F 8), .int (σ 8 0), .int (σ 8 1), .int (σ 8 2), .int (σ 8 3), .int (σ 8 4), .int (σ 8 5), .int (σ 8 6)], iC G (F 6) 16 (fq σ), iC G (F 7) 64 (σ 2), iC G (F 8) 50 (fg σ), oC (F 9) 1 [.ref (F 10), .ref (F 11)], iC G (F 10) 8 sh, iC G (F 11) 256 lr, oC (F 12) 2 [.ref (F 13), .ref (F 14), .ref (F 15)], iC G (F 13) 8 hd, iC G (F 14) 8 sz, jC G (F 15) 1280 (if rcCopy hd sz (xs (i + 1)) (xs (i + 2)) (xs (i + 3)) (xs (i + 4)) (xs (i + 5)) = 0 then va_cpy el el (nx (xs (i + 1)) * 160 + nx (xs (i + 3))) (nx (xs (i + 2)) * 160 + nx (xs (i + 4))) (nx (xs (i + 5))) else el), wI (F 16) (F 17) (F 18) f0 s0 p0, iC G (F 17) 160 lt, oC (F 18) 3 [.ref (F 19), .ref (F 20), .ref (F 21), .int (ν0 8 0), .int (ν0 8 1), .int (ν0 8 2), .int (ν0 8 3), .int (ν0 8 4), .int (ν0 8 5), .int (ν0 8 6)], iC G (F 19) 16 (fq ν0), iC G (F 20) 64 (ν0 2), iC G (F 21) 50 (fg ν0), oC (F 22) 0 [.ref (F 23), .int (nI bc), .int nm, .int kd, .int aa], iC G (F 23) 20 kp, iC G (F 24) 8 (rfI rr (rcCopy hd sz (xs (i + 1)) (xs (i + 2)) (xs (i + 3)) (xs (i + 4)) (xs (i + 5)))), iC G (A 12) 20 kp, iC G (A 13) 137 od, iC G (A 14) 137 ah, iC G (A 15) 5 nu, iC G (A 16) 10 an, iC G (A 17) 10 le, iC G (A 18) 6 (nA o2), iC G (A 19) 6 (nA b2)]) C (fun _ => [wX (F 0) (F 1) (F 5) it (F 9) (F 12) (F 16) (F 22) (F 24) lf] ++ (wT G (F 1) (F 2) (F 3) (F 4) τ ++ (wT G (F 5) (F 6) (F 7) (F 8) σ ++ (wO G (F 9) (F 10) (F 11) sh lr ++ (wS G (F 12) (F 13) (F 14) (F 15) hd sz (if rcCopy hd sz (xs (i + 1)) (xs (i + 2)) (xs (i + 3)) (xs (i + 4)) (xs (i + 5)) = 0 then va_cpy el el (nx (xs (i + 1)) * 160 + nx (xs (i + 3))) (nx (xs (i + 2)) * 160 + nx (xs (i + 4))) (nx (xs (i + 5))) else el) ++ ([wI (F 16) (F 17) (F 18) f0 s0 p0, iC G (F 17) 160 lt] ++ (wT G (F 18) (F 19) (F 20) (F 21) ν0 ++ (wA G (F 22) (F 23) kp (nI bc) nm kd aa ++ ([iC G (F 24) 8 (rfI rr (rcCopy hd sz (xs (i + 1)) (xs (i + 2)) (xs (i + 3)) (xs (i + 4)) (xs (i + 5))))] ++ (wN G m A τ y ++ ([iC G (A 0) 8 hd, iC G (A 1) 8 sz, jC G (A 2) 1280 (if rcCopy hd sz (xs (i + 1)) (xs (i + 2)) (xs (i + 3)) (xs (i + 4)) (xs (i + 5)) = 0 then va_cpy el2 el2 (nx (xs (i + 1)) * 160 + nx (xs (i + 3))) (nx (xs (i + 2)) * 160 + nx (xs (i + 4))) (nx (xs (i + 5))) else el2), iC G (A 11) 8 (rfI rr (rcCopy hd sz (xs (i + 1)) (xs (i + 2)) (xs (i + 3)) (xs (i + 4)) (xs (i + 5)))), iC G (A 12) 20 kp, iC G (A 13) 137 od, iC G (A 14) 137 ah, iC G (A 15) 5 nu, iC G (A 16) 10 an, iC G (A 17) 10 le, iC G (A 18) 6 (nA o2), iC G (A 19) 6 (nA b2)]))))))))))) rfl k_X7_copy (c_X7_copy l G m A τ y hd sz el2 (xs (i + 1)) (xs (i + 2)) (xs (i + 3)) (xs (i + 4)) (xs (i + 5)) rr (by first | assumption | omega)) ml_L_29 rfl ⟨Nat.le_of_ble_eq_true rfl, Nat.le_of_ble_eq_true rfl⟩ rfl [25, 26, 27, 28, 29, 30, 31, 32, 33, 34, 35, 36, 37] [0, 1, 2, 3, 4, 5, 6, 7, 8, 9, 10, 11, 12, 13, 14, 15, 16, 17, 18, 19, 20, 21, 22, 23, 24, 38, 39, 40, 41, 42, 43, 44, 45] [0, 1, 2, 3, 4, 5, 6, 7, 8, 9, 10, 11, 12, 13, 14, 15, 16, 17, 18, 19, 20, 21, 22, 23, 24, 33, 34, 35, 36, 37, 38, 39, 40, 41, 42, 43, 44, 45, 25, 26, 27, 28, 29, 30, 31, 32] rfl (by decide) rfl (by decide) (by decide) (by decide) (fun _ => rfl) 25 rfl rfl rfl rfl (Nat.le_of_ble_eq_true rfl) ⟨by show _ ≤ 600000; omega, by show _ ≤ 7302250; omega⟩ dL_law_387 (fun r387 _ e387 => ?_)
  subst e387
  refine g_icmp_eq (pc := 390) (tgt := 1543) C dL_law_390 (by decide) (fun _ => ?_) (fun h => absurd (rfl) h)
  refine g_iinc (pc := 1543) (v := nI (i + 6)) (lv' := [(3, .int (nI (i + 6))), (0, .ref bs), (1, .ref (F 0)), (2, .ref m)]) C dL_law_1543 3 rfl (nI_add i 6) (by decide) rfl ?_
  refine g_goto (pc := 1546) (tgt := 18) C dL_law_1546 (by decide) ?_
  refine g_ws (ws' := LW G F m A it lf τ σ sh lr hd sz (if rcCopy hd sz (xs (i + 1)) (xs (i + 2)) (xs (i + 3)) (xs (i + 4)) (xs (i + 5)) = 0 then va_cpy el el (nx (xs (i + 1)) * 160 + nx (xs (i + 3))) (nx (xs (i + 2)) * 160 + nx (xs (i + 4))) (nx (xs (i + 5))) else el) f0 s0 p0 lt ν0 kp bc nm kd aa (rfI rr (rcCopy hd sz (xs (i + 1)) (xs (i + 2)) (xs (i + 3)) (xs (i + 4)) (xs (i + 5)))) y (if rcCopy hd sz (xs (i + 1)) (xs (i + 2)) (xs (i + 3)) (xs (i + 4)) (xs (i + 5)) = 0 then va_cpy el2 el2 (nx (xs (i + 1)) * 160 + nx (xs (i + 3))) (nx (xs (i + 2)) * 160 + nx (xs (i + 4))) (nx (xs (i + 5))) else el2) od ah nu an le o2 b2) (rfl) ?_
  refine g_sub (lv' := [(0, .ref bs), (1, .ref (F 0)), (2, .ref m), (3, .int (nI (i + 6)))]) [1, 2, 3, 0] rfl ?_
  refine g_widen (k := 46 + (i + 6)) (n := 5000 + 8 * (i + 6)) (by omega) (by omega) ?_
  exact K σ2 it lf τ σ sh lr hd sz (if rcCopy hd sz (xs (i + 1)) (xs (i + 2)) (xs (i + 3)) (xs (i + 4)) (xs (i + 5)) = 0 then va_cpy el el (nx (xs (i + 1)) * 160 + nx (xs (i + 3))) (nx (xs (i + 2)) * 160 + nx (xs (i + 4))) (nx (xs (i + 5))) else el) f0 s0 p0 lt ν0 kp bc nm kd aa (rfI rr (rcCopy hd sz (xs (i + 1)) (xs (i + 2)) (xs (i + 3)) (xs (i + 4)) (xs (i + 5)))) y (if rcCopy hd sz (xs (i + 1)) (xs (i + 2)) (xs (i + 3)) (xs (i + 4)) (xs (i + 5)) = 0 then va_cpy el2 el2 (nx (xs (i + 1)) * 160 + nx (xs (i + 3))) (nx (xs (i + 2)) * 160 + nx (xs (i + 4))) (nx (xs (i + 5))) else el2) od ah nu an le o2 b2 (hI.els (eq_cpy hS hE _ _ _ _ _))
set_option maxRecDepth 20000 in
set_option maxHeartbeats 4000000 in
theorem law_element {p9 : Program} {l : Launch} {e9 : Env} {s9 : State} {m9 : MethodId} {a9 : Array Value} {b9 : List Frame} {t9 : Method} {c9 : Code} {Q9 : State → Prop} {G : gT} {A9 : Nat → Prop} {F : Nat → Nat} {m : Nat} {A : Nat → Nat} {bs L : Nat} {xs : Nat → Int32} (C : Cx p9 s9 m9 a9 t9 c9 G A9 true 4 cL_law yL_law ret) (hX : va_X bs L xs s9 s9.heap) (hbl : bs < s9.heap.size) (hbA : ¬ A9 bs) (hL : L ≤ 3072) {i : Nat} (hi : i + 6 ≤ L) (σ2 : tT) (it : Int32) (lf : Int32) (τ : tT) (σ : tT) (sh : Nat → Int32) (lr : Nat → Int32) (hd : Nat → Int32) (sz : Nat → Int32) (el : Nat → Int64) (f0 : Int32) (s0 : Int32) (p0 : Int32) (lt : Nat → Int32) (ν0 : tT) (kp : Nat → Int32) (bc : Nat) (nm : Int32) (kd : Int32) (aa : Int32) (rr : Nat → Int32) (y : Nat → Int32) (el2 : Nat → Int64) (od : Nat → Int32) (ah : Nat → Int32) (nu : Nat → Int32) (an : Nat → Int32) (le : Nat → Int32) (o2 : Nat → Nat) (b2 : Nat → Nat) (hI : LI it lf τ σ σ2 lr hd sz el el2 bc y od) (K : LK p9 l e9 s9 m9 a9 b9 t9 c9 Q9 G A9 F m A bs (i + 6)) : GW p9 l e9 room_1 s9 m9 a9 b9 t9 c9 Q9 G A9 true 4 (46 + i) (5000 + 8 * i) (LW G F m A it lf τ σ sh lr hd sz el f0 s0 p0 lt ν0 kp bc nm kd aa rr y el2 od ah nu an le o2 b2) [(0, .ref bs), (1, .ref (F 0)), (2, .ref m), (3, .int (nI i))] 395 [] := by
  have hT := hI.1.1
  have hT2 := hI.1.2.1
  have hT3 := hI.1.2.2.1
  have hf := hI.1.2.2.2.1
  have hσ := hI.1.2.2.2.2
  have hS := hI.2.1.1
  have hD : ∀ s, s < 8 → isQn (hd s) → ∃ q, q < tQ τ ∧ hd s = nI q := hI.2.1.2.1
  have hE := hI.2.1.2.2
  have h0 := hI.2.2.1
  have hb := hI.2.2.2.1
  have hy0 := hI.2.2.2.2.1
  have hy1 := hI.2.2.2.2.2.1
  have hy2 := hI.2.2.2.2.2.2
  refine g_ws (ws' := [wX (F 0) (F 1) (F 5) it (F 9) (F 12) (F 16) (F 22) (F 24) lf] ++ (wT G (F 1) (F 2) (F 3) (F 4) τ ++ (wT G (F 5) (F 6) (F 7) (F 8) σ ++ (wO G (F 9) (F 10) (F 11) sh lr ++ (wS G (F 12) (F 13) (F 14) (F 15) hd sz el ++ ([wI (F 16) (F 17) (F 18) f0 s0 p0, iC G (F 17) 160 lt] ++ (wT G (F 18) (F 19) (F 20) (F 21) ν0 ++ (wA G (F 22) (F 23) kp (nI bc) nm kd aa ++ ([iC G (F 24) 8 rr] ++ (wN G m A τ y ++ ([iC G (A 0) 8 hd, iC G (A 1) 8 sz, jC G (A 2) 1280 el2, iC G (A 11) 8 rr, iC G (A 12) 20 kp, iC G (A 13) 137 od, iC G (A 14) 137 ah, iC G (A 15) 5 nu, iC G (A 16) 10 an, iC G (A 17) 10 le, iC G (A 18) 6 (nA o2), iC G (A 19) 6 (nA b2)]))))))))))) rfl ?_
  refine g_aload_n (pc := 395) C dL_law_395 1 rfl ?_
  refine g_aload_n (pc := 396) C dL_law_396 0 rfl ?_
  refine g_iload_n (pc := 397) C dL_law_397 3 rfl ?_
  refine g_iconst (pc := 398) (v := 1) C dL_law_398 (by decide) ?_
  refine g_iaddN (pc := 399) (i := i) (j := 1) C dL_law_399 ?_
  refine g_sld (pc := 400) C hX hbl hbA (i + 1) rfl ⟨by omega, by omega⟩ dL_law_400 ?_
  refine g_aload_n (pc := 401) C dL_law_401 0 rfl ?_
  refine g_iload_n (pc := 402) C dL_law_402 3 rfl ?_
  refine g_iconst (pc := 403) (v := 2) C dL_law_403 (by decide) ?_
  refine g_iaddN (pc := 404) (i := i) (j := 2) C dL_law_404 ?_
  refine g_sld (pc := 405) C hX hbl hbA (i + 2) rfl ⟨by omega, by omega⟩ dL_law_405 ?_
  refine g_rdVL (pc := 406) (val := elV hd sz el (xs (i + 1)) (xs (i + 2))) (rest := []) C k_X6_element (c_X6_element l G (F 0) (F 1) (F 5) it (F 9) (F 12) (F 16) (F 22) (F 24) lf (F 13) (F 14) (F 15) hd sz el (xs (i + 1)) (xs (i + 2)) (by first | assumption | omega)) ml_L_30 rfl ⟨Nat.le_of_ble_eq_true rfl, Nat.le_of_ble_eq_true rfl⟩ rfl [0, 12, 13, 14, 15] rfl 0 rfl rfl rfl rfl (Nat.le_of_ble_eq_true rfl) ⟨by show _ ≤ 600000; omega, by show _ ≤ 7302250; omega⟩ dL_law_406 ?_
  refine g_aload_n (pc := 409) C dL_law_409 2 rfl ?_
  refine g_aload_n (pc := 410) C dL_law_410 0 rfl ?_
  refine g_iload_n (pc := 411) C dL_law_411 3 rfl ?_
  refine g_iconst (pc := 412) (v := 1) C dL_law_412 (by decide) ?_
  refine g_iaddN (pc := 413) (i := i) (j := 1) C dL_law_413 ?_
  refine g_sld (pc := 414) C hX hbl hbA (i + 1) rfl ⟨by omega, by omega⟩ dL_law_414 ?_
  refine g_aload_n (pc := 415) C dL_law_415 0 rfl ?_
  refine g_iload_n (pc := 416) C dL_law_416 3 rfl ?_
  refine g_iconst (pc := 417) (v := 2) C dL_law_417 (by decide) ?_
  refine g_iaddN (pc := 418) (i := i) (j := 2) C dL_law_418 ?_
  refine g_sld (pc := 419) C hX hbl hbA (i + 2) rfl ⟨by omega, by omega⟩ dL_law_419 ?_
  refine g_rdVL (pc := 420) (val := elV hd sz el2 (xs (i + 1)) (xs (i + 2))) (rest := [.long (elV hd sz el (xs (i + 1)) (xs (i + 2)))]) C k_X7_element (c_X7_element l G m A τ y hd sz el2 (xs (i + 1)) (xs (i + 2)) (by first | assumption | omega)) ml_L_34 rfl ⟨Nat.le_of_ble_eq_true rfl, Nat.le_of_ble_eq_true rfl⟩ rfl [25, 26, 27, 28, 29, 30, 31, 32, 33, 34, 35, 36] rfl 25 rfl rfl rfl rfl (Nat.le_of_ble_eq_true rfl) ⟨by show _ ≤ 600000; omega, by show _ ≤ 7302250; omega⟩ dL_law_420 ?_
  refine g_lcmp (pc := 423) C dL_law_423 ?_
  refine g_if_eq (pc := 424) (tgt := 1543) C dL_law_424 (by decide) (fun _ => ?_) (fun h => absurd ((lg_cmp_eq _ _).mpr (eq_el hS hE _ _)) h)
  refine g_iinc (pc := 1543) (v := nI (i + 6)) (lv' := [(3, .int (nI (i + 6))), (0, .ref bs), (1, .ref (F 0)), (2, .ref m)]) C dL_law_1543 3 rfl (nI_add i 6) (by decide) rfl ?_
  refine g_goto (pc := 1546) (tgt := 18) C dL_law_1546 (by decide) ?_
  refine g_ws (ws' := LW G F m A it lf τ σ sh lr hd sz el f0 s0 p0 lt ν0 kp bc nm kd aa rr y el2 od ah nu an le o2 b2) (rfl) ?_
  refine g_sub (lv' := [(0, .ref bs), (1, .ref (F 0)), (2, .ref m), (3, .int (nI (i + 6)))]) [1, 2, 3, 0] rfl ?_
  refine g_widen (k := 46 + (i + 6)) (n := 5000 + 8 * (i + 6)) (by omega) (by omega) ?_
  exact K σ2 it lf τ σ sh lr hd sz el f0 s0 p0 lt ν0 kp bc nm kd aa rr y el2 od ah nu an le o2 b2 (hI)
set_option maxRecDepth 20000 in
set_option maxHeartbeats 4000000 in
theorem law_show {p9 : Program} {l : Launch} {e9 : Env} {s9 : State} {m9 : MethodId} {a9 : Array Value} {b9 : List Frame} {t9 : Method} {c9 : Code} {Q9 : State → Prop} {G : gT} {A9 : Nat → Prop} {F : Nat → Nat} {m : Nat} {A : Nat → Nat} {bs L : Nat} {xs : Nat → Int32} (C : Cx p9 s9 m9 a9 t9 c9 G A9 true 4 cL_law yL_law ret) (hX : va_X bs L xs s9 s9.heap) (hbl : bs < s9.heap.size) (hbA : ¬ A9 bs) (hL : L ≤ 3072) {i : Nat} (hi : i + 6 ≤ L) (σ2 : tT) (it : Int32) (lf : Int32) (τ : tT) (σ : tT) (sh : Nat → Int32) (lr : Nat → Int32) (hd : Nat → Int32) (sz : Nat → Int32) (el : Nat → Int64) (f0 : Int32) (s0 : Int32) (p0 : Int32) (lt : Nat → Int32) (ν0 : tT) (kp : Nat → Int32) (bc : Nat) (nm : Int32) (kd : Int32) (aa : Int32) (rr : Nat → Int32) (y : Nat → Int32) (el2 : Nat → Int64) (od : Nat → Int32) (ah : Nat → Int32) (nu : Nat → Int32) (an : Nat → Int32) (le : Nat → Int32) (o2 : Nat → Nat) (b2 : Nat → Nat) (hI : LI it lf τ σ σ2 lr hd sz el el2 bc y od) (K : LK p9 l e9 s9 m9 a9 b9 t9 c9 Q9 G A9 F m A bs (i + 6)) : GW p9 l e9 room_1 s9 m9 a9 b9 t9 c9 Q9 G A9 true 4 (46 + i) (5000 + 8 * i) (LW G F m A it lf τ σ sh lr hd sz el f0 s0 p0 lt ν0 kp bc nm kd aa rr y el2 od ah nu an le o2 b2) [(0, .ref bs), (1, .ref (F 0)), (2, .ref m), (3, .int (nI i))] 429 [] := by
  have hT := hI.1.1
  have hT2 := hI.1.2.1
  have hT3 := hI.1.2.2.1
  have hf := hI.1.2.2.2.1
  have hσ := hI.1.2.2.2.2
  have hS := hI.2.1.1
  have hD : ∀ s, s < 8 → isQn (hd s) → ∃ q, q < tQ τ ∧ hd s = nI q := hI.2.1.2.1
  have hE := hI.2.1.2.2
  have h0 := hI.2.2.1
  have hb := hI.2.2.2.1
  have hy0 := hI.2.2.2.2.1
  have hy1 := hI.2.2.2.2.2.1
  have hy2 := hI.2.2.2.2.2.2
  refine g_ws (ws' := [wX (F 0) (F 1) (F 5) it (F 9) (F 12) (F 16) (F 22) (F 24) lf] ++ (wT G (F 1) (F 2) (F 3) (F 4) τ ++ (wT G (F 5) (F 6) (F 7) (F 8) σ ++ (wO G (F 9) (F 10) (F 11) sh lr ++ (wS G (F 12) (F 13) (F 14) (F 15) hd sz el ++ ([wI (F 16) (F 17) (F 18) f0 s0 p0, iC G (F 17) 160 lt] ++ (wT G (F 18) (F 19) (F 20) (F 21) ν0 ++ (wA G (F 22) (F 23) kp (nI bc) nm kd aa ++ ([iC G (F 24) 8 rr] ++ (wN G m A τ y ++ ([iC G (A 0) 8 hd, iC G (A 1) 8 sz, jC G (A 2) 1280 el2, iC G (A 11) 8 rr, iC G (A 12) 20 kp, iC G (A 13) 137 od, iC G (A 14) 137 ah, iC G (A 15) 5 nu, iC G (A 16) 10 an, iC G (A 17) 10 le, iC G (A 18) 6 (nA o2), iC G (A 19) 6 (nA b2)]))))))))))) rfl ?_
  refine g_aload_n (pc := 429) C dL_law_429 1 rfl ?_
  refine g_aload_n (pc := 430) C dL_law_430 0 rfl ?_
  refine g_iload_n (pc := 431) C dL_law_431 3 rfl ?_
  refine g_iconst (pc := 432) (v := 1) C dL_law_432 (by decide) ?_
  refine g_iaddN (pc := 433) (i := i) (j := 1) C dL_law_433 ?_
  refine g_sld (pc := 434) C hX hbl hbA (i + 1) rfl ⟨by omega, by omega⟩ dL_law_434 ?_
  refine g_aload_n (pc := 435) C dL_law_435 0 rfl ?_
  refine g_iload_n (pc := 436) C dL_law_436 3 rfl ?_
  refine g_iconst (pc := 437) (v := 2) C dL_law_437 (by decide) ?_
  refine g_iaddN (pc := 438) (i := i) (j := 2) C dL_law_438 ?_
  refine g_sld (pc := 439) C hX hbl hbA (i + 2) rfl ⟨by omega, by omega⟩ dL_law_439 ?_
  refine g_wrVI (pc := 440) (rest := []) (wr := [oC (F 5) 3 [.ref (F 6), .ref (F 7), .ref (F 8), .int (σ 8 0), .int (σ 8 1), .int (σ 8 2), .int (σ 8 3), .int (σ 8 4), .int (σ 8 5), .int (σ 8 6)], iC G (F 6) 16 (fq σ), iC G (F 7) 64 (σ 2), iC G (F 8) 50 (fg σ), oC (F 9) 1 [.ref (F 10), .ref (F 11)], iC G (F 10) 8 sh, iC G (F 11) 256 lr, wI (F 16) (F 17) (F 18) f0 s0 p0, iC G (F 17) 160 lt, oC (F 18) 3 [.ref (F 19), .ref (F 20), .ref (F 21), .int (ν0 8 0), .int (ν0 8 1), .int (ν0 8 2), .int (ν0 8 3), .int (ν0 8 4), .int (ν0 8 5), .int (ν0 8 6)], iC G (F 19) 16 (fq ν0), iC G (F 20) 64 (ν0 2), iC G (F 21) 50 (fg ν0), oC (F 22) 0 [.ref (F 23), .int (nI bc), .int nm, .int kd, .int aa], iC G (F 23) 20 kp, oC m 6 [.ref (A 0), .ref (A 1), .ref (A 2), .int (τ 8 0), .ref (A 3), .ref (A 4), .ref (A 5), .int (τ 8 1), .ref (A 6), .ref (A 7), .ref (A 8), .ref (A 9), .ref (A 10), .int (τ 8 2), .int (τ 8 3), .int (τ 8 5), .int (τ 8 6), .int (τ 8 4), .int (y 0), .ref (A 11), .int (y 1), .ref (A 12), .int (y 2), .ref (A 13), .ref (A 14), .int (y 3), .int (y 4), .ref (A 15), .ref (A 16), .ref (A 17), .ref (A 18), .ref (A 19), .int (y 5)], iC G (A 3) 8 (τ 0), iC G (A 4) 8 (τ 1), iC G (A 5) 64 (τ 2), iC G (A 6) 10 (τ 3), iC G (A 7) 10 (τ 4), iC G (A 8) 10 (τ 5), iC G (A 9) 10 (τ 6), iC G (A 10) 10 (τ 7), iC G (A 0) 8 hd, iC G (A 1) 8 sz, jC G (A 2) 1280 el2, iC G (A 11) 8 rr, iC G (A 12) 20 kp, iC G (A 13) 137 od, iC G (A 14) 137 ah, iC G (A 15) 5 nu, iC G (A 16) 10 an, iC G (A 17) 10 le, iC G (A 18) 6 (nA o2), iC G (A 19) 6 (nA b2)]) C (fun _ => [wX (F 0) (F 1) (F 5) it (F 9) (F 12) (F 16) (F 22) (F 24) lf] ++ (wT G (F 1) (F 2) (F 3) (F 4) τ ++ (wT G (F 5) (F 6) (F 7) (F 8) σ ++ (wO G (F 9) (F 10) (F 11) sh lr ++ (wS G (F 12) (F 13) (F 14) (F 15) (if rcShow τ (xs (i + 1)) (xs (i + 2)) = 0 then upd hd (nx (xs (i + 1))) (xs (i + 2)) else hd) sz el ++ ([wI (F 16) (F 17) (F 18) f0 s0 p0, iC G (F 17) 160 lt] ++ (wT G (F 18) (F 19) (F 20) (F 21) ν0 ++ (wA G (F 22) (F 23) kp (nI bc) nm kd aa ++ ([iC G (F 24) 8 (rfI rr (rcShow τ (xs (i + 1)) (xs (i + 2))))] ++ (wN G m A τ y ++ ([iC G (A 0) 8 hd, iC G (A 1) 8 sz, jC G (A 2) 1280 el2, iC G (A 11) 8 rr, iC G (A 12) 20 kp, iC G (A 13) 137 od, iC G (A 14) 137 ah, iC G (A 15) 5 nu, iC G (A 16) 10 an, iC G (A 17) 10 le, iC G (A 18) 6 (nA o2), iC G (A 19) 6 (nA b2)]))))))))))) rfl k_X6_show (c_X6_show l G (F 0) (F 1) (F 5) it (F 9) (F 12) (F 16) (F 22) (F 24) lf (F 2) (F 3) (F 4) τ (F 13) (F 14) (F 15) hd sz el (xs (i + 1)) (xs (i + 2)) rr (by first | assumption | omega)) ml_L_35 rfl ⟨Nat.le_of_ble_eq_true rfl, Nat.le_of_ble_eq_true rfl⟩ rfl [0, 1, 2, 3, 4, 12, 13, 14, 15, 24] [5, 6, 7, 8, 9, 10, 11, 16, 17, 18, 19, 20, 21, 22, 23, 25, 26, 27, 28, 29, 30, 31, 32, 33, 34, 35, 36, 37, 38, 39, 40, 41, 42, 43, 44, 45] [36, 37, 38, 39, 40, 0, 1, 2, 3, 4, 5, 6, 41, 42, 43, 44, 7, 8, 9, 10, 11, 12, 13, 14, 45, 15, 16, 17, 18, 19, 20, 21, 22, 23, 24, 25, 26, 27, 28, 29, 30, 31, 32, 33, 34, 35] rfl (by decide) rfl (by decide) (by decide) (by decide) (fun _ => rfl) 0 rfl rfl rfl rfl (Nat.le_of_ble_eq_true rfl) ⟨by show _ ≤ 600000; omega, by show _ ≤ 7302250; omega⟩ dL_law_440 (fun r440 _ e440 => ?_)
  subst e440
  refine g_aload_n (pc := 443) C dL_law_443 2 rfl ?_
  refine g_aload_n (pc := 444) C dL_law_444 0 rfl ?_
  refine g_iload_n (pc := 445) C dL_law_445 3 rfl ?_
  refine g_iconst (pc := 446) (v := 1) C dL_law_446 (by decide) ?_
  refine g_iaddN (pc := 447) (i := i) (j := 1) C dL_law_447 ?_
  refine g_sld (pc := 448) C hX hbl hbA (i + 1) rfl ⟨by omega, by omega⟩ dL_law_448 ?_
  refine g_aload_n (pc := 449) C dL_law_449 0 rfl ?_
  refine g_iload_n (pc := 450) C dL_law_450 3 rfl ?_
  refine g_iconst (pc := 451) (v := 2) C dL_law_451 (by decide) ?_
  refine g_iaddN (pc := 452) (i := i) (j := 2) C dL_law_452 ?_
  refine g_sld (pc := 453) C hX hbl hbA (i + 2) rfl ⟨by omega, by omega⟩ dL_law_453 ?_
  refine g_wrVI (pc := 454) (rest := [.int (if rcShow τ (xs (i + 1)) (xs (i + 2)) = 0 then (if (xs (i + 2)) = -1 then 0 else 1) else (rcShow τ (xs (i + 1)) (xs (i + 2))))]) (wr := [wX (F 0) (F 1) (F 5) it (F 9) (F 12) (F 16) (F 22) (F 24) lf, oC (F 1) 3 [.ref (F 2), .ref (F 3), .ref (F 4), .int (τ 8 0), .int (τ 8 1), .int (τ 8 2), .int (τ 8 3), .int (τ 8 4), .int (τ 8 5), .int (τ 8 6)], iC G (F 2) 16 (fq τ), iC G (F 3) 64 (τ 2), iC G (F 4) 50 (fg τ), oC (F 5) 3 [.ref (F 6), .ref (F 7), .ref (F 8), .int (σ 8 0), .int (σ 8 1), .int (σ 8 2), .int (σ 8 3), .int (σ 8 4), .int (σ 8 5), .int (σ 8 6)], iC G (F 6) 16 (fq σ), iC G (F 7) 64 (σ 2), iC G (F 8) 50 (fg σ), oC (F 9) 1 [.ref (F 10), .ref (F 11)], iC G (F 10) 8 sh, iC G (F 11) 256 lr, oC (F 12) 2 [.ref (F 13), .ref (F 14), .ref (F 15)], iC G (F 13) 8 (if rcShow τ (xs (i + 1)) (xs (i + 2)) = 0 then upd hd (nx (xs (i + 1))) (xs (i + 2)) else hd), iC G (F 14) 8 sz, jC G (F 15) 1280 el, wI (F 16) (F 17) (F 18) f0 s0 p0, iC G (F 17) 160 lt, oC (F 18) 3 [.ref (F 19), .ref (F 20), .ref (F 21), .int (ν0 8 0), .int (ν0 8 1), .int (ν0 8 2), .int (ν0 8 3), .int (ν0 8 4), .int (ν0 8 5), .int (ν0 8 6)], iC G (F 19) 16 (fq ν0), iC G (F 20) 64 (ν0 2), iC G (F 21) 50 (fg ν0), oC (F 22) 0 [.ref (F 23), .int (nI bc), .int nm, .int kd, .int aa], iC G (F 23) 20 kp, iC G (F 24) 8 (rfI rr (rcShow τ (xs (i + 1)) (xs (i + 2)))), iC G (A 1) 8 sz, jC G (A 2) 1280 el2, iC G (A 12) 20 kp, iC G (A 13) 137 od, iC G (A 14) 137 ah, iC G (A 15) 5 nu, iC G (A 16) 10 an, iC G (A 17) 10 le, iC G (A 18) 6 (nA o2), iC G (A 19) 6 (nA b2)]) C (fun _ => [wX (F 0) (F 1) (F 5) it (F 9) (F 12) (F 16) (F 22) (F 24) lf] ++ (wT G (F 1) (F 2) (F 3) (F 4) τ ++ (wT G (F 5) (F 6) (F 7) (F 8) σ ++ (wO G (F 9) (F 10) (F 11) sh lr ++ (wS G (F 12) (F 13) (F 14) (F 15) (if rcShow τ (xs (i + 1)) (xs (i + 2)) = 0 then upd hd (nx (xs (i + 1))) (xs (i + 2)) else hd) sz el ++ ([wI (F 16) (F 17) (F 18) f0 s0 p0, iC G (F 17) 160 lt] ++ (wT G (F 18) (F 19) (F 20) (F 21) ν0 ++ (wA G (F 22) (F 23) kp (nI bc) nm kd aa ++ ([iC G (F 24) 8 (rfI rr (rcShow τ (xs (i + 1)) (xs (i + 2))))] ++ (wN G m A τ y ++ ([iC G (A 0) 8 (if rcShow τ (xs (i + 1)) (xs (i + 2)) = 0 then upd hd (nx (xs (i + 1))) (xs (i + 2)) else hd), iC G (A 1) 8 sz, jC G (A 2) 1280 el2, iC G (A 11) 8 (rfI rr (rcShow τ (xs (i + 1)) (xs (i + 2)))), iC G (A 12) 20 kp, iC G (A 13) 137 od, iC G (A 14) 137 ah, iC G (A 15) 5 nu, iC G (A 16) 10 an, iC G (A 17) 10 le, iC G (A 18) 6 (nA o2), iC G (A 19) 6 (nA b2)]))))))))))) rfl k_X7_show (c_X7_show l G m A τ y hd (xs (i + 1)) (xs (i + 2)) rr (by first | assumption | omega)) ml_L_39 rfl ⟨Nat.le_of_ble_eq_true rfl, Nat.le_of_ble_eq_true rfl⟩ rfl [25, 26, 27, 28, 29, 30, 31, 32, 33, 34, 37] [0, 1, 2, 3, 4, 5, 6, 7, 8, 9, 10, 11, 12, 13, 14, 15, 16, 17, 18, 19, 20, 21, 22, 23, 24, 35, 36, 38, 39, 40, 41, 42, 43, 44, 45] [0, 1, 2, 3, 4, 5, 6, 7, 8, 9, 10, 11, 12, 13, 14, 15, 16, 17, 18, 19, 20, 21, 22, 23, 24, 35, 36, 37, 38, 39, 40, 41, 42, 43, 44, 25, 26, 45, 27, 28, 29, 30, 31, 32, 33, 34] rfl (by decide) rfl (by decide) (by decide) (by decide) (fun _ => rfl) 25 rfl rfl rfl rfl (Nat.le_of_ble_eq_true rfl) ⟨by show _ ≤ 600000; omega, by show _ ≤ 7302250; omega⟩ dL_law_454 (fun r454 _ e454 => ?_)
  subst e454
  refine g_icmp_eq (pc := 457) (tgt := 1543) C dL_law_457 (by decide) (fun _ => ?_) (fun h => absurd (rfl) h)
  refine g_iinc (pc := 1543) (v := nI (i + 6)) (lv' := [(3, .int (nI (i + 6))), (0, .ref bs), (1, .ref (F 0)), (2, .ref m)]) C dL_law_1543 3 rfl (nI_add i 6) (by decide) rfl ?_
  refine g_goto (pc := 1546) (tgt := 18) C dL_law_1546 (by decide) ?_
  refine g_ws (ws' := LW G F m A it lf τ σ sh lr (if rcShow τ (xs (i + 1)) (xs (i + 2)) = 0 then upd hd (nx (xs (i + 1))) (xs (i + 2)) else hd) sz el f0 s0 p0 lt ν0 kp bc nm kd aa (rfI rr (rcShow τ (xs (i + 1)) (xs (i + 2)))) y el2 od ah nu an le o2 b2) (rfl) ?_
  refine g_sub (lv' := [(0, .ref bs), (1, .ref (F 0)), (2, .ref m), (3, .int (nI (i + 6)))]) [1, 2, 3, 0] rfl ?_
  refine g_widen (k := 46 + (i + 6)) (n := 5000 + 8 * (i + 6)) (by omega) (by omega) ?_
  exact K σ2 it lf τ σ sh lr (if rcShow τ (xs (i + 1)) (xs (i + 2)) = 0 then upd hd (nx (xs (i + 1))) (xs (i + 2)) else hd) sz el f0 s0 p0 lt ν0 kp bc nm kd aa (rfI rr (rcShow τ (xs (i + 1)) (xs (i + 2)))) y el2 od ah nu an le o2 b2 (hI.shw _ _)
set_option maxRecDepth 20000 in
set_option maxHeartbeats 4000000 in
theorem law_holds {p9 : Program} {l : Launch} {e9 : Env} {s9 : State} {m9 : MethodId} {a9 : Array Value} {b9 : List Frame} {t9 : Method} {c9 : Code} {Q9 : State → Prop} {G : gT} {A9 : Nat → Prop} {F : Nat → Nat} {m : Nat} {A : Nat → Nat} {bs L : Nat} {xs : Nat → Int32} (C : Cx p9 s9 m9 a9 t9 c9 G A9 true 4 cL_law yL_law ret) (hX : va_X bs L xs s9 s9.heap) (hbl : bs < s9.heap.size) (hbA : ¬ A9 bs) (hL : L ≤ 3072) {i : Nat} (hi : i + 6 ≤ L) (σ2 : tT) (it : Int32) (lf : Int32) (τ : tT) (σ : tT) (sh : Nat → Int32) (lr : Nat → Int32) (hd : Nat → Int32) (sz : Nat → Int32) (el : Nat → Int64) (f0 : Int32) (s0 : Int32) (p0 : Int32) (lt : Nat → Int32) (ν0 : tT) (kp : Nat → Int32) (bc : Nat) (nm : Int32) (kd : Int32) (aa : Int32) (rr : Nat → Int32) (y : Nat → Int32) (el2 : Nat → Int64) (od : Nat → Int32) (ah : Nat → Int32) (nu : Nat → Int32) (an : Nat → Int32) (le : Nat → Int32) (o2 : Nat → Nat) (b2 : Nat → Nat) (hI : LI it lf τ σ σ2 lr hd sz el el2 bc y od) (K : LK p9 l e9 s9 m9 a9 b9 t9 c9 Q9 G A9 F m A bs (i + 6)) : GW p9 l e9 room_1 s9 m9 a9 b9 t9 c9 Q9 G A9 true 4 (46 + i) (5000 + 8 * i) (LW G F m A it lf τ σ sh lr hd sz el f0 s0 p0 lt ν0 kp bc nm kd aa rr y el2 od ah nu an le o2 b2) [(0, .ref bs), (1, .ref (F 0)), (2, .ref m), (3, .int (nI i))] 462 [] := by
  have hT := hI.1.1
  have hT2 := hI.1.2.1
  have hT3 := hI.1.2.2.1
  have hf := hI.1.2.2.2.1
  have hσ := hI.1.2.2.2.2
  have hS := hI.2.1.1
  have hD : ∀ s, s < 8 → isQn (hd s) → ∃ q, q < tQ τ ∧ hd s = nI q := hI.2.1.2.1
  have hE := hI.2.1.2.2
  have h0 := hI.2.2.1
  have hb := hI.2.2.2.1
  have hy0 := hI.2.2.2.2.1
  have hy1 := hI.2.2.2.2.2.1
  have hy2 := hI.2.2.2.2.2.2
  refine g_ws (ws' := [wX (F 0) (F 1) (F 5) it (F 9) (F 12) (F 16) (F 22) (F 24) lf] ++ (wT G (F 1) (F 2) (F 3) (F 4) τ ++ (wT G (F 5) (F 6) (F 7) (F 8) σ ++ (wO G (F 9) (F 10) (F 11) sh lr ++ (wS G (F 12) (F 13) (F 14) (F 15) hd sz el ++ ([wI (F 16) (F 17) (F 18) f0 s0 p0, iC G (F 17) 160 lt] ++ (wT G (F 18) (F 19) (F 20) (F 21) ν0 ++ (wA G (F 22) (F 23) kp (nI bc) nm kd aa ++ ([iC G (F 24) 8 rr] ++ (wN G m A τ y ++ ([iC G (A 0) 8 hd, iC G (A 1) 8 sz, jC G (A 2) 1280 el2, iC G (A 11) 8 rr, iC G (A 12) 20 kp, iC G (A 13) 137 od, iC G (A 14) 137 ah, iC G (A 15) 5 nu, iC G (A 16) 10 an, iC G (A 17) 10 le, iC G (A 18) 6 (nA o2), iC G (A 19) 6 (nA b2)]))))))))))) rfl ?_
  refine g_aload_n (pc := 462) C dL_law_462 1 rfl ?_
  refine g_aload_n (pc := 463) C dL_law_463 0 rfl ?_
  refine g_iload_n (pc := 464) C dL_law_464 3 rfl ?_
  refine g_iconst (pc := 465) (v := 1) C dL_law_465 (by decide) ?_
  refine g_iaddN (pc := 466) (i := i) (j := 1) C dL_law_466 ?_
  refine g_sld (pc := 467) C hX hbl hbA (i + 1) rfl ⟨by omega, by omega⟩ dL_law_467 ?_
  refine g_rdVI (pc := 468) (val := (if in8 (xs (i + 1)) then hd (nx (xs (i + 1))) else -1)) (rest := []) C k_X6_holds (c_X6_holds l G (F 0) (F 1) (F 5) it (F 9) (F 12) (F 16) (F 22) (F 24) lf (F 13) (F 14) (F 15) hd sz el (xs (i + 1))) ml_L_40 rfl ⟨Nat.le_of_ble_eq_true rfl, Nat.le_of_ble_eq_true rfl⟩ rfl [0, 12, 13, 14, 15] rfl 0 rfl rfl rfl rfl (Nat.le_of_ble_eq_true rfl) ⟨by show _ ≤ 600000; omega, by show _ ≤ 7302250; omega⟩ dL_law_468 ?_
  refine g_aload_n (pc := 471) C dL_law_471 2 rfl ?_
  refine g_aload_n (pc := 472) C dL_law_472 0 rfl ?_
  refine g_iload_n (pc := 473) C dL_law_473 3 rfl ?_
  refine g_iconst (pc := 474) (v := 1) C dL_law_474 (by decide) ?_
  refine g_iaddN (pc := 475) (i := i) (j := 1) C dL_law_475 ?_
  refine g_sld (pc := 476) C hX hbl hbA (i + 1) rfl ⟨by omega, by omega⟩ dL_law_476 ?_
  refine g_rdVI (pc := 477) (val := (if in8 (xs (i + 1)) then hd (nx (xs (i + 1))) else -1)) (rest := [.int (if in8 (xs (i + 1)) then hd (nx (xs (i + 1))) else -1)]) C k_X7_holds (c_X7_holds l G m A τ y hd (xs (i + 1))) ml_L_44 rfl ⟨Nat.le_of_ble_eq_true rfl, Nat.le_of_ble_eq_true rfl⟩ rfl [25, 26, 27, 28, 29, 30, 31, 32, 33, 34] rfl 25 rfl rfl rfl rfl (Nat.le_of_ble_eq_true rfl) ⟨by show _ ≤ 600000; omega, by show _ ≤ 7302250; omega⟩ dL_law_477 ?_
  refine g_icmp_eq (pc := 480) (tgt := 1543) C dL_law_480 (by decide) (fun _ => ?_) (fun h => absurd (rfl) h)
  refine g_iinc (pc := 1543) (v := nI (i + 6)) (lv' := [(3, .int (nI (i + 6))), (0, .ref bs), (1, .ref (F 0)), (2, .ref m)]) C dL_law_1543 3 rfl (nI_add i 6) (by decide) rfl ?_
  refine g_goto (pc := 1546) (tgt := 18) C dL_law_1546 (by decide) ?_
  refine g_ws (ws' := LW G F m A it lf τ σ sh lr hd sz el f0 s0 p0 lt ν0 kp bc nm kd aa rr y el2 od ah nu an le o2 b2) (rfl) ?_
  refine g_sub (lv' := [(0, .ref bs), (1, .ref (F 0)), (2, .ref m), (3, .int (nI (i + 6)))]) [1, 2, 3, 0] rfl ?_
  refine g_widen (k := 46 + (i + 6)) (n := 5000 + 8 * (i + 6)) (by omega) (by omega) ?_
  exact K σ2 it lf τ σ sh lr hd sz el f0 s0 p0 lt ν0 kp bc nm kd aa rr y el2 od ah nu an le o2 b2 (hI)
set_option maxRecDepth 20000 in
set_option maxHeartbeats 4000000 in
theorem law_says {p9 : Program} {l : Launch} {e9 : Env} {s9 : State} {m9 : MethodId} {a9 : Array Value} {b9 : List Frame} {t9 : Method} {c9 : Code} {Q9 : State → Prop} {G : gT} {A9 : Nat → Prop} {F : Nat → Nat} {m : Nat} {A : Nat → Nat} {bs L : Nat} {xs : Nat → Int32} (C : Cx p9 s9 m9 a9 t9 c9 G A9 true 4 cL_law yL_law ret) (hX : va_X bs L xs s9 s9.heap) (hbl : bs < s9.heap.size) (hbA : ¬ A9 bs) (hL : L ≤ 3072) {i : Nat} (hi : i + 6 ≤ L) (σ2 : tT) (it : Int32) (lf : Int32) (τ : tT) (σ : tT) (sh : Nat → Int32) (lr : Nat → Int32) (hd : Nat → Int32) (sz : Nat → Int32) (el : Nat → Int64) (f0 : Int32) (s0 : Int32) (p0 : Int32) (lt : Nat → Int32) (ν0 : tT) (kp : Nat → Int32) (bc : Nat) (nm : Int32) (kd : Int32) (aa : Int32) (rr : Nat → Int32) (y : Nat → Int32) (el2 : Nat → Int64) (od : Nat → Int32) (ah : Nat → Int32) (nu : Nat → Int32) (an : Nat → Int32) (le : Nat → Int32) (o2 : Nat → Nat) (b2 : Nat → Nat) (hI : LI it lf τ σ σ2 lr hd sz el el2 bc y od) (K : LK p9 l e9 s9 m9 a9 b9 t9 c9 Q9 G A9 F m A bs (i + 6)) : GW p9 l e9 room_1 s9 m9 a9 b9 t9 c9 Q9 G A9 true 4 (46 + i) (5000 + 8 * i) (LW G F m A it lf τ σ sh lr hd sz el f0 s0 p0 lt ν0 kp bc nm kd aa rr y el2 od ah nu an le o2 b2) [(0, .ref bs), (1, .ref (F 0)), (2, .ref m), (3, .int (nI i))] 485 [] := by
  have hT := hI.1.1
  have hT2 := hI.1.2.1
  have hT3 := hI.1.2.2.1
  have hf := hI.1.2.2.2.1
  have hσ := hI.1.2.2.2.2
  have hS := hI.2.1.1
  have hD : ∀ s, s < 8 → isQn (hd s) → ∃ q, q < tQ τ ∧ hd s = nI q := hI.2.1.2.1
  have hE := hI.2.1.2.2
  have h0 := hI.2.2.1
  have hb := hI.2.2.2.1
  have hy0 := hI.2.2.2.2.1
  have hy1 := hI.2.2.2.2.2.1
  have hy2 := hI.2.2.2.2.2.2
  refine g_ws (ws' := [wX (F 0) (F 1) (F 5) it (F 9) (F 12) (F 16) (F 22) (F 24) lf] ++ (wT G (F 1) (F 2) (F 3) (F 4) τ ++ (wT G (F 5) (F 6) (F 7) (F 8) σ ++ (wO G (F 9) (F 10) (F 11) sh lr ++ (wS G (F 12) (F 13) (F 14) (F 15) hd sz el ++ ([wI (F 16) (F 17) (F 18) f0 s0 p0, iC G (F 17) 160 lt] ++ (wT G (F 18) (F 19) (F 20) (F 21) ν0 ++ (wA G (F 22) (F 23) kp (nI bc) nm kd aa ++ ([iC G (F 24) 8 rr] ++ (wN G m A τ y ++ ([iC G (A 0) 8 hd, iC G (A 1) 8 sz, jC G (A 2) 1280 el2, iC G (A 11) 8 rr, iC G (A 12) 20 kp, iC G (A 13) 137 od, iC G (A 14) 137 ah, iC G (A 15) 5 nu, iC G (A 16) 10 an, iC G (A 17) 10 le, iC G (A 18) 6 (nA o2), iC G (A 19) 6 (nA b2)]))))))))))) rfl ?_
  refine g_aload_n (pc := 485) C dL_law_485 1 rfl ?_
  refine g_aload_n (pc := 486) C dL_law_486 0 rfl ?_
  refine g_iload_n (pc := 487) C dL_law_487 3 rfl ?_
  refine g_iconst (pc := 488) (v := 1) C dL_law_488 (by decide) ?_
  refine g_iaddN (pc := 489) (i := i) (j := 1) C dL_law_489 ?_
  refine g_sld (pc := 490) C hX hbl hbA (i + 1) rfl ⟨by omega, by omega⟩ dL_law_490 ?_
  refine g_aload_n (pc := 491) C dL_law_491 0 rfl ?_
  refine g_iload_n (pc := 492) C dL_law_492 3 rfl ?_
  refine g_iconst (pc := 493) (v := 2) C dL_law_493 (by decide) ?_
  refine g_iaddN (pc := 494) (i := i) (j := 2) C dL_law_494 ?_
  refine g_sld (pc := 495) C hX hbl hbA (i + 2) rfl ⟨by omega, by omega⟩ dL_law_495 ?_
  refine g_wrVI (pc := 496) (rest := []) (wr := [oC (F 5) 3 [.ref (F 6), .ref (F 7), .ref (F 8), .int (σ 8 0), .int (σ 8 1), .int (σ 8 2), .int (σ 8 3), .int (σ 8 4), .int (σ 8 5), .int (σ 8 6)], iC G (F 6) 16 (fq σ), iC G (F 7) 64 (σ 2), iC G (F 8) 50 (fg σ), oC (F 9) 1 [.ref (F 10), .ref (F 11)], iC G (F 10) 8 sh, iC G (F 11) 256 lr, wI (F 16) (F 17) (F 18) f0 s0 p0, iC G (F 17) 160 lt, oC (F 18) 3 [.ref (F 19), .ref (F 20), .ref (F 21), .int (ν0 8 0), .int (ν0 8 1), .int (ν0 8 2), .int (ν0 8 3), .int (ν0 8 4), .int (ν0 8 5), .int (ν0 8 6)], iC G (F 19) 16 (fq ν0), iC G (F 20) 64 (ν0 2), iC G (F 21) 50 (fg ν0), oC (F 22) 0 [.ref (F 23), .int (nI bc), .int nm, .int kd, .int aa], iC G (F 23) 20 kp, oC m 6 [.ref (A 0), .ref (A 1), .ref (A 2), .int (τ 8 0), .ref (A 3), .ref (A 4), .ref (A 5), .int (τ 8 1), .ref (A 6), .ref (A 7), .ref (A 8), .ref (A 9), .ref (A 10), .int (τ 8 2), .int (τ 8 3), .int (τ 8 5), .int (τ 8 6), .int (τ 8 4), .int (y 0), .ref (A 11), .int (y 1), .ref (A 12), .int (y 2), .ref (A 13), .ref (A 14), .int (y 3), .int (y 4), .ref (A 15), .ref (A 16), .ref (A 17), .ref (A 18), .ref (A 19), .int (y 5)], iC G (A 3) 8 (τ 0), iC G (A 4) 8 (τ 1), iC G (A 5) 64 (τ 2), iC G (A 6) 10 (τ 3), iC G (A 7) 10 (τ 4), iC G (A 8) 10 (τ 5), iC G (A 9) 10 (τ 6), iC G (A 10) 10 (τ 7), iC G (A 0) 8 hd, iC G (A 1) 8 sz, jC G (A 2) 1280 el2, iC G (A 11) 8 rr, iC G (A 12) 20 kp, iC G (A 13) 137 od, iC G (A 14) 137 ah, iC G (A 15) 5 nu, iC G (A 16) 10 an, iC G (A 17) 10 le, iC G (A 18) 6 (nA o2), iC G (A 19) 6 (nA b2)]) C (fun _ => [wX (F 0) (F 1) (F 5) it (F 9) (F 12) (F 16) (F 22) (F 24) lf] ++ (wT G (F 1) (F 2) (F 3) (F 4) τ ++ (wT G (F 5) (F 6) (F 7) (F 8) σ ++ (wO G (F 9) (F 10) (F 11) sh lr ++ (wS G (F 12) (F 13) (F 14) (F 15) hd sz el ++ ([wI (F 16) (F 17) (F 18) f0 s0 p0, iC G (F 17) 160 lt] ++ (wT G (F 18) (F 19) (F 20) (F 21) ν0 ++ (wA G (F 22) (F 23) kp (nI bc) nm kd aa ++ ([iC G (F 24) 8 (rfI rr (rcSays τ hd (xs (i + 1)) (xs (i + 2))))] ++ (wN G m A τ y ++ ([iC G (A 0) 8 hd, iC G (A 1) 8 sz, jC G (A 2) 1280 el2, iC G (A 11) 8 rr, iC G (A 12) 20 kp, iC G (A 13) 137 od, iC G (A 14) 137 ah, iC G (A 15) 5 nu, iC G (A 16) 10 an, iC G (A 17) 10 le, iC G (A 18) 6 (nA o2), iC G (A 19) 6 (nA b2)]))))))))))) rfl k_X6_says (c_X6_says l G (F 0) (F 1) (F 5) it (F 9) (F 12) (F 16) (F 22) (F 24) lf (F 2) (F 3) (F 4) τ (F 13) (F 14) (F 15) hd sz el (xs (i + 1)) (xs (i + 2)) rr (by first | assumption | omega)) ml_L_45 rfl ⟨Nat.le_of_ble_eq_true rfl, Nat.le_of_ble_eq_true rfl⟩ rfl [0, 1, 2, 3, 4, 12, 13, 14, 15, 24] [5, 6, 7, 8, 9, 10, 11, 16, 17, 18, 19, 20, 21, 22, 23, 25, 26, 27, 28, 29, 30, 31, 32, 33, 34, 35, 36, 37, 38, 39, 40, 41, 42, 43, 44, 45] [36, 37, 38, 39, 40, 0, 1, 2, 3, 4, 5, 6, 41, 42, 43, 44, 7, 8, 9, 10, 11, 12, 13, 14, 45, 15, 16, 17, 18, 19, 20, 21, 22, 23, 24, 25, 26, 27, 28, 29, 30, 31, 32, 33, 34, 35] rfl (by decide) rfl (by decide) (by decide) (by decide) (fun _ => rfl) 0 rfl rfl rfl rfl (Nat.le_of_ble_eq_true rfl) ⟨by show _ ≤ 600000; omega, by show _ ≤ 7302250; omega⟩ dL_law_496 (fun r496 _ e496 => ?_)
  subst e496
  refine g_aload_n (pc := 499) C dL_law_499 2 rfl ?_
  refine g_aload_n (pc := 500) C dL_law_500 0 rfl ?_
  refine g_iload_n (pc := 501) C dL_law_501 3 rfl ?_
  refine g_iconst (pc := 502) (v := 1) C dL_law_502 (by decide) ?_
  refine g_iaddN (pc := 503) (i := i) (j := 1) C dL_law_503 ?_
  refine g_sld (pc := 504) C hX hbl hbA (i + 1) rfl ⟨by omega, by omega⟩ dL_law_504 ?_
  refine g_aload_n (pc := 505) C dL_law_505 0 rfl ?_
  refine g_iload_n (pc := 506) C dL_law_506 3 rfl ?_
  refine g_iconst (pc := 507) (v := 2) C dL_law_507 (by decide) ?_
  refine g_iaddN (pc := 508) (i := i) (j := 2) C dL_law_508 ?_
  refine g_sld (pc := 509) C hX hbl hbA (i + 2) rfl ⟨by omega, by omega⟩ dL_law_509 ?_
  refine g_wrVI (pc := 510) (rest := [.int (if rcSays τ hd (xs (i + 1)) (xs (i + 2)) = 0 then saV τ (nx (hd (nx (xs (i + 1))))) (xs (i + 2)) else (rcSays τ hd (xs (i + 1)) (xs (i + 2))))]) (wr := [wX (F 0) (F 1) (F 5) it (F 9) (F 12) (F 16) (F 22) (F 24) lf, oC (F 1) 3 [.ref (F 2), .ref (F 3), .ref (F 4), .int (τ 8 0), .int (τ 8 1), .int (τ 8 2), .int (τ 8 3), .int (τ 8 4), .int (τ 8 5), .int (τ 8 6)], iC G (F 2) 16 (fq τ), iC G (F 3) 64 (τ 2), iC G (F 4) 50 (fg τ), oC (F 5) 3 [.ref (F 6), .ref (F 7), .ref (F 8), .int (σ 8 0), .int (σ 8 1), .int (σ 8 2), .int (σ 8 3), .int (σ 8 4), .int (σ 8 5), .int (σ 8 6)], iC G (F 6) 16 (fq σ), iC G (F 7) 64 (σ 2), iC G (F 8) 50 (fg σ), oC (F 9) 1 [.ref (F 10), .ref (F 11)], iC G (F 10) 8 sh, iC G (F 11) 256 lr, oC (F 12) 2 [.ref (F 13), .ref (F 14), .ref (F 15)], iC G (F 13) 8 hd, iC G (F 14) 8 sz, jC G (F 15) 1280 el, wI (F 16) (F 17) (F 18) f0 s0 p0, iC G (F 17) 160 lt, oC (F 18) 3 [.ref (F 19), .ref (F 20), .ref (F 21), .int (ν0 8 0), .int (ν0 8 1), .int (ν0 8 2), .int (ν0 8 3), .int (ν0 8 4), .int (ν0 8 5), .int (ν0 8 6)], iC G (F 19) 16 (fq ν0), iC G (F 20) 64 (ν0 2), iC G (F 21) 50 (fg ν0), oC (F 22) 0 [.ref (F 23), .int (nI bc), .int nm, .int kd, .int aa], iC G (F 23) 20 kp, iC G (F 24) 8 (rfI rr (rcSays τ hd (xs (i + 1)) (xs (i + 2)))), iC G (A 1) 8 sz, jC G (A 2) 1280 el2, iC G (A 12) 20 kp, iC G (A 13) 137 od, iC G (A 14) 137 ah, iC G (A 15) 5 nu, iC G (A 16) 10 an, iC G (A 17) 10 le, iC G (A 18) 6 (nA o2), iC G (A 19) 6 (nA b2)]) C (fun _ => [wX (F 0) (F 1) (F 5) it (F 9) (F 12) (F 16) (F 22) (F 24) lf] ++ (wT G (F 1) (F 2) (F 3) (F 4) τ ++ (wT G (F 5) (F 6) (F 7) (F 8) σ ++ (wO G (F 9) (F 10) (F 11) sh lr ++ (wS G (F 12) (F 13) (F 14) (F 15) hd sz el ++ ([wI (F 16) (F 17) (F 18) f0 s0 p0, iC G (F 17) 160 lt] ++ (wT G (F 18) (F 19) (F 20) (F 21) ν0 ++ (wA G (F 22) (F 23) kp (nI bc) nm kd aa ++ ([iC G (F 24) 8 (rfI rr (rcSays τ hd (xs (i + 1)) (xs (i + 2))))] ++ (wN G m A τ y ++ ([iC G (A 0) 8 hd, iC G (A 1) 8 sz, jC G (A 2) 1280 el2, iC G (A 11) 8 (rfI rr (rcSays τ hd (xs (i + 1)) (xs (i + 2)))), iC G (A 12) 20 kp, iC G (A 13) 137 od, iC G (A 14) 137 ah, iC G (A 15) 5 nu, iC G (A 16) 10 an, iC G (A 17) 10 le, iC G (A 18) 6 (nA o2), iC G (A 19) 6 (nA b2)]))))))))))) rfl k_X7_says (c_X7_says l G m A τ y hd sz (xs (i + 1)) (xs (i + 2)) rr (by first | assumption | omega) (by first | assumption | omega) (by first | assumption | omega)) ml_L_48 rfl ⟨Nat.le_of_ble_eq_true rfl, Nat.le_of_ble_eq_true rfl⟩ rfl [25, 26, 27, 28, 29, 30, 31, 32, 33, 34, 37] [0, 1, 2, 3, 4, 5, 6, 7, 8, 9, 10, 11, 12, 13, 14, 15, 16, 17, 18, 19, 20, 21, 22, 23, 24, 35, 36, 38, 39, 40, 41, 42, 43, 44, 45] [0, 1, 2, 3, 4, 5, 6, 7, 8, 9, 10, 11, 12, 13, 14, 15, 16, 17, 18, 19, 20, 21, 22, 23, 24, 35, 36, 37, 38, 39, 40, 41, 42, 43, 44, 25, 26, 45, 27, 28, 29, 30, 31, 32, 33, 34] rfl (by decide) rfl (by decide) (by decide) (by decide) (fun _ => rfl) 25 rfl rfl rfl rfl (Nat.le_of_ble_eq_true rfl) ⟨by show _ ≤ 600000; omega, by show _ ≤ 7302250; omega⟩ dL_law_510 (fun r510 _ e510 => ?_)
  subst e510
  refine g_icmp_eq (pc := 513) (tgt := 1543) C dL_law_513 (by decide) (fun _ => ?_) (fun h => absurd (rfl) h)
  refine g_iinc (pc := 1543) (v := nI (i + 6)) (lv' := [(3, .int (nI (i + 6))), (0, .ref bs), (1, .ref (F 0)), (2, .ref m)]) C dL_law_1543 3 rfl (nI_add i 6) (by decide) rfl ?_
  refine g_goto (pc := 1546) (tgt := 18) C dL_law_1546 (by decide) ?_
  refine g_ws (ws' := LW G F m A it lf τ σ sh lr hd sz el f0 s0 p0 lt ν0 kp bc nm kd aa (rfI rr (rcSays τ hd (xs (i + 1)) (xs (i + 2)))) y el2 od ah nu an le o2 b2) (rfl) ?_
  refine g_sub (lv' := [(0, .ref bs), (1, .ref (F 0)), (2, .ref m), (3, .int (nI (i + 6)))]) [1, 2, 3, 0] rfl ?_
  refine g_widen (k := 46 + (i + 6)) (n := 5000 + 8 * (i + 6)) (by omega) (by omega) ?_
  exact K σ2 it lf τ σ sh lr hd sz el f0 s0 p0 lt ν0 kp bc nm kd aa (rfI rr (rcSays τ hd (xs (i + 1)) (xs (i + 2)))) y el2 od ah nu an le o2 b2 (hI)
set_option maxRecDepth 20000 in
set_option maxHeartbeats 4000000 in
theorem law_question {p9 : Program} {l : Launch} {e9 : Env} {s9 : State} {m9 : MethodId} {a9 : Array Value} {b9 : List Frame} {t9 : Method} {c9 : Code} {Q9 : State → Prop} {G : gT} {A9 : Nat → Prop} {F : Nat → Nat} {m : Nat} {A : Nat → Nat} {bs L : Nat} {xs : Nat → Int32} (C : Cx p9 s9 m9 a9 t9 c9 G A9 true 4 cL_law yL_law ret) (hX : va_X bs L xs s9 s9.heap) (hbl : bs < s9.heap.size) (hbA : ¬ A9 bs) (hL : L ≤ 3072) {i : Nat} (hi : i + 6 ≤ L) (σ2 : tT) (it : Int32) (lf : Int32) (τ : tT) (σ : tT) (sh : Nat → Int32) (lr : Nat → Int32) (hd : Nat → Int32) (sz : Nat → Int32) (el : Nat → Int64) (f0 : Int32) (s0 : Int32) (p0 : Int32) (lt : Nat → Int32) (ν0 : tT) (kp : Nat → Int32) (bc : Nat) (nm : Int32) (kd : Int32) (aa : Int32) (rr : Nat → Int32) (y : Nat → Int32) (el2 : Nat → Int64) (od : Nat → Int32) (ah : Nat → Int32) (nu : Nat → Int32) (an : Nat → Int32) (le : Nat → Int32) (o2 : Nat → Nat) (b2 : Nat → Nat) (hI : LI it lf τ σ σ2 lr hd sz el el2 bc y od) (K : LK p9 l e9 s9 m9 a9 b9 t9 c9 Q9 G A9 F m A bs (i + 6)) : GW p9 l e9 room_1 s9 m9 a9 b9 t9 c9 Q9 G A9 true 4 (46 + i) (5000 + 8 * i) (LW G F m A it lf τ σ sh lr hd sz el f0 s0 p0 lt ν0 kp bc nm kd aa rr y el2 od ah nu an le o2 b2) [(0, .ref bs), (1, .ref (F 0)), (2, .ref m), (3, .int (nI i))] 518 [] := by
  have hT := hI.1.1
  have hT2 := hI.1.2.1
  have hT3 := hI.1.2.2.1
  have hf := hI.1.2.2.2.1
  have hσ := hI.1.2.2.2.2
  have hS := hI.2.1.1
  have hD : ∀ s, s < 8 → isQn (hd s) → ∃ q, q < tQ τ ∧ hd s = nI q := hI.2.1.2.1
  have hE := hI.2.1.2.2
  have h0 := hI.2.2.1
  have hb := hI.2.2.2.1
  have hy0 := hI.2.2.2.2.1
  have hy1 := hI.2.2.2.2.2.1
  have hy2 := hI.2.2.2.2.2.2
  refine g_ws (ws' := [wX (F 0) (F 1) (F 5) it (F 9) (F 12) (F 16) (F 22) (F 24) lf] ++ (wT G (F 1) (F 2) (F 3) (F 4) τ ++ (wT G (F 5) (F 6) (F 7) (F 8) σ ++ (wO G (F 9) (F 10) (F 11) sh lr ++ (wS G (F 12) (F 13) (F 14) (F 15) hd sz el ++ ([wI (F 16) (F 17) (F 18) f0 s0 p0, iC G (F 17) 160 lt] ++ (wT G (F 18) (F 19) (F 20) (F 21) ν0 ++ (wA G (F 22) (F 23) kp (nI bc) nm kd aa ++ ([iC G (F 24) 8 rr] ++ (wN G m A τ y ++ ([iC G (A 0) 8 hd, iC G (A 1) 8 sz, jC G (A 2) 1280 el2, iC G (A 11) 8 rr, iC G (A 12) 20 kp, iC G (A 13) 137 od, iC G (A 14) 137 ah, iC G (A 15) 5 nu, iC G (A 16) 10 an, iC G (A 17) 10 le, iC G (A 18) 6 (nA o2), iC G (A 19) 6 (nA b2)]))))))))))) rfl ?_
  refine g_aload_n (pc := 518) C dL_law_518 1 rfl ?_
  refine g_aload_n (pc := 519) C dL_law_519 0 rfl ?_
  refine g_iload_n (pc := 520) C dL_law_520 3 rfl ?_
  refine g_iconst (pc := 521) (v := 1) C dL_law_521 (by decide) ?_
  refine g_iaddN (pc := 522) (i := i) (j := 1) C dL_law_522 ?_
  refine g_sld (pc := 523) C hX hbl hbA (i + 1) rfl ⟨by omega, by omega⟩ dL_law_523 ?_
  refine g_aload_n (pc := 524) C dL_law_524 0 rfl ?_
  refine g_iload_n (pc := 525) C dL_law_525 3 rfl ?_
  refine g_iconst (pc := 526) (v := 2) C dL_law_526 (by decide) ?_
  refine g_iaddN (pc := 527) (i := i) (j := 2) C dL_law_527 ?_
  refine g_sld (pc := 528) C hX hbl hbA (i + 2) rfl ⟨by omega, by omega⟩ dL_law_528 ?_
  refine g_wrVI (pc := 529) (rest := []) (wr := [oC (F 5) 3 [.ref (F 6), .ref (F 7), .ref (F 8), .int (σ 8 0), .int (σ 8 1), .int (σ 8 2), .int (σ 8 3), .int (σ 8 4), .int (σ 8 5), .int (σ 8 6)], iC G (F 6) 16 (fq σ), iC G (F 7) 64 (σ 2), iC G (F 8) 50 (fg σ), oC (F 9) 1 [.ref (F 10), .ref (F 11)], iC G (F 10) 8 sh, iC G (F 11) 256 lr, oC (F 12) 2 [.ref (F 13), .ref (F 14), .ref (F 15)], iC G (F 13) 8 hd, iC G (F 14) 8 sz, jC G (F 15) 1280 el, wI (F 16) (F 17) (F 18) f0 s0 p0, iC G (F 17) 160 lt, oC (F 18) 3 [.ref (F 19), .ref (F 20), .ref (F 21), .int (ν0 8 0), .int (ν0 8 1), .int (ν0 8 2), .int (ν0 8 3), .int (ν0 8 4), .int (ν0 8 5), .int (ν0 8 6)], iC G (F 19) 16 (fq ν0), iC G (F 20) 64 (ν0 2), iC G (F 21) 50 (fg ν0), oC (F 22) 0 [.ref (F 23), .int (nI bc), .int nm, .int kd, .int aa], iC G (F 23) 20 kp, oC m 6 [.ref (A 0), .ref (A 1), .ref (A 2), .int (τ 8 0), .ref (A 3), .ref (A 4), .ref (A 5), .int (τ 8 1), .ref (A 6), .ref (A 7), .ref (A 8), .ref (A 9), .ref (A 10), .int (τ 8 2), .int (τ 8 3), .int (τ 8 5), .int (τ 8 6), .int (τ 8 4), .int (y 0), .ref (A 11), .int (y 1), .ref (A 12), .int (y 2), .ref (A 13), .ref (A 14), .int (y 3), .int (y 4), .ref (A 15), .ref (A 16), .ref (A 17), .ref (A 18), .ref (A 19), .int (y 5)], iC G (A 3) 8 (τ 0), iC G (A 4) 8 (τ 1), iC G (A 5) 64 (τ 2), iC G (A 6) 10 (τ 3), iC G (A 7) 10 (τ 4), iC G (A 8) 10 (τ 5), iC G (A 9) 10 (τ 6), iC G (A 10) 10 (τ 7), iC G (A 0) 8 hd, iC G (A 1) 8 sz, jC G (A 2) 1280 el2, iC G (A 11) 8 rr, iC G (A 12) 20 kp, iC G (A 13) 137 od, iC G (A 14) 137 ah, iC G (A 15) 5 nu, iC G (A 16) 10 an, iC G (A 17) 10 le, iC G (A 18) 6 (nA o2), iC G (A 19) 6 (nA b2)]) C (fun _ => [wX (F 0) (F 1) (F 5) it (F 9) (F 12) (F 16) (F 22) (F 24) lf] ++ (wT G (F 1) (F 2) (F 3) (F 4) (if rcQu τ (xs (i + 1)) (xs (i + 2)) = 0 then aQu τ (xs (i + 1)) (xs (i + 2)) else τ) ++ (wT G (F 5) (F 6) (F 7) (F 8) σ ++ (wO G (F 9) (F 10) (F 11) sh lr ++ (wS G (F 12) (F 13) (F 14) (F 15) hd sz el ++ ([wI (F 16) (F 17) (F 18) f0 s0 p0, iC G (F 17) 160 lt] ++ (wT G (F 18) (F 19) (F 20) (F 21) ν0 ++ (wA G (F 22) (F 23) kp (nI bc) nm kd aa ++ ([iC G (F 24) 8 (rfI rr (rcQu τ (xs (i + 1)) (xs (i + 2))))] ++ (wN G m A τ y ++ ([iC G (A 0) 8 hd, iC G (A 1) 8 sz, jC G (A 2) 1280 el2, iC G (A 11) 8 rr, iC G (A 12) 20 kp, iC G (A 13) 137 od, iC G (A 14) 137 ah, iC G (A 15) 5 nu, iC G (A 16) 10 an, iC G (A 17) 10 le, iC G (A 18) 6 (nA o2), iC G (A 19) 6 (nA b2)]))))))))))) rfl k_X6_question (c_X6_question l G (F 0) (F 1) (F 5) it (F 9) (F 12) (F 16) (F 22) (F 24) lf (F 2) (F 3) (F 4) τ (xs (i + 1)) (xs (i + 2)) rr (by first | assumption | omega)) ml_L_49 rfl ⟨Nat.le_of_ble_eq_true rfl, Nat.le_of_ble_eq_true rfl⟩ rfl [0, 1, 2, 3, 4, 24] [5, 6, 7, 8, 9, 10, 11, 12, 13, 14, 15, 16, 17, 18, 19, 20, 21, 22, 23, 25, 26, 27, 28, 29, 30, 31, 32, 33, 34, 35, 36, 37, 38, 39, 40, 41, 42, 43, 44, 45] [40, 41, 42, 43, 44, 0, 1, 2, 3, 4, 5, 6, 7, 8, 9, 10, 11, 12, 13, 14, 15, 16, 17, 18, 45, 19, 20, 21, 22, 23, 24, 25, 26, 27, 28, 29, 30, 31, 32, 33, 34, 35, 36, 37, 38, 39] rfl (by decide) rfl (by decide) (by decide) (by decide) (fun _ => rfl) 0 rfl rfl rfl rfl (Nat.le_of_ble_eq_true rfl) ⟨by show _ ≤ 600000; omega, by show _ ≤ 7302250; omega⟩ dL_law_529 (fun r529 _ e529 => ?_)
  subst e529
  refine g_aload_n (pc := 532) C dL_law_532 2 rfl ?_
  refine g_aload_n (pc := 533) C dL_law_533 0 rfl ?_
  refine g_iload_n (pc := 534) C dL_law_534 3 rfl ?_
  refine g_iconst (pc := 535) (v := 1) C dL_law_535 (by decide) ?_
  refine g_iaddN (pc := 536) (i := i) (j := 1) C dL_law_536 ?_
  refine g_sld (pc := 537) C hX hbl hbA (i + 1) rfl ⟨by omega, by omega⟩ dL_law_537 ?_
  refine g_aload_n (pc := 538) C dL_law_538 0 rfl ?_
  refine g_iload_n (pc := 539) C dL_law_539 3 rfl ?_
  refine g_iconst (pc := 540) (v := 2) C dL_law_540 (by decide) ?_
  refine g_iaddN (pc := 541) (i := i) (j := 2) C dL_law_541 ?_
  refine g_sld (pc := 542) C hX hbl hbA (i + 2) rfl ⟨by omega, by omega⟩ dL_law_542 ?_
  refine g_wrVI (pc := 543) (rest := [.int (if rcQu τ (xs (i + 1)) (xs (i + 2)) = 0 then nI (tQ τ) else (rcQu τ (xs (i + 1)) (xs (i + 2))))]) (wr := [wX (F 0) (F 1) (F 5) it (F 9) (F 12) (F 16) (F 22) (F 24) lf, oC (F 1) 3 [.ref (F 2), .ref (F 3), .ref (F 4), .int ((if rcQu τ (xs (i + 1)) (xs (i + 2)) = 0 then aQu τ (xs (i + 1)) (xs (i + 2)) else τ) 8 0), .int ((if rcQu τ (xs (i + 1)) (xs (i + 2)) = 0 then aQu τ (xs (i + 1)) (xs (i + 2)) else τ) 8 1), .int ((if rcQu τ (xs (i + 1)) (xs (i + 2)) = 0 then aQu τ (xs (i + 1)) (xs (i + 2)) else τ) 8 2), .int ((if rcQu τ (xs (i + 1)) (xs (i + 2)) = 0 then aQu τ (xs (i + 1)) (xs (i + 2)) else τ) 8 3), .int ((if rcQu τ (xs (i + 1)) (xs (i + 2)) = 0 then aQu τ (xs (i + 1)) (xs (i + 2)) else τ) 8 4), .int ((if rcQu τ (xs (i + 1)) (xs (i + 2)) = 0 then aQu τ (xs (i + 1)) (xs (i + 2)) else τ) 8 5), .int ((if rcQu τ (xs (i + 1)) (xs (i + 2)) = 0 then aQu τ (xs (i + 1)) (xs (i + 2)) else τ) 8 6)], iC G (F 2) 16 (fq (if rcQu τ (xs (i + 1)) (xs (i + 2)) = 0 then aQu τ (xs (i + 1)) (xs (i + 2)) else τ)), iC G (F 3) 64 ((if rcQu τ (xs (i + 1)) (xs (i + 2)) = 0 then aQu τ (xs (i + 1)) (xs (i + 2)) else τ) 2), iC G (F 4) 50 (fg (if rcQu τ (xs (i + 1)) (xs (i + 2)) = 0 then aQu τ (xs (i + 1)) (xs (i + 2)) else τ)), oC (F 5) 3 [.ref (F 6), .ref (F 7), .ref (F 8), .int (σ 8 0), .int (σ 8 1), .int (σ 8 2), .int (σ 8 3), .int (σ 8 4), .int (σ 8 5), .int (σ 8 6)], iC G (F 6) 16 (fq σ), iC G (F 7) 64 (σ 2), iC G (F 8) 50 (fg σ), oC (F 9) 1 [.ref (F 10), .ref (F 11)], iC G (F 10) 8 sh, iC G (F 11) 256 lr, oC (F 12) 2 [.ref (F 13), .ref (F 14), .ref (F 15)], iC G (F 13) 8 hd, iC G (F 14) 8 sz, jC G (F 15) 1280 el, wI (F 16) (F 17) (F 18) f0 s0 p0, iC G (F 17) 160 lt, oC (F 18) 3 [.ref (F 19), .ref (F 20), .ref (F 21), .int (ν0 8 0), .int (ν0 8 1), .int (ν0 8 2), .int (ν0 8 3), .int (ν0 8 4), .int (ν0 8 5), .int (ν0 8 6)], iC G (F 19) 16 (fq ν0), iC G (F 20) 64 (ν0 2), iC G (F 21) 50 (fg ν0), oC (F 22) 0 [.ref (F 23), .int (nI bc), .int nm, .int kd, .int aa], iC G (F 23) 20 kp, iC G (F 24) 8 (rfI rr (rcQu τ (xs (i + 1)) (xs (i + 2)))), iC G (A 0) 8 hd, iC G (A 1) 8 sz, jC G (A 2) 1280 el2, iC G (A 12) 20 kp, iC G (A 13) 137 od, iC G (A 14) 137 ah, iC G (A 15) 5 nu, iC G (A 16) 10 an, iC G (A 17) 10 le, iC G (A 18) 6 (nA o2), iC G (A 19) 6 (nA b2)]) C (fun _ => [wX (F 0) (F 1) (F 5) it (F 9) (F 12) (F 16) (F 22) (F 24) lf] ++ (wT G (F 1) (F 2) (F 3) (F 4) (if rcQu τ (xs (i + 1)) (xs (i + 2)) = 0 then aQu τ (xs (i + 1)) (xs (i + 2)) else τ) ++ (wT G (F 5) (F 6) (F 7) (F 8) σ ++ (wO G (F 9) (F 10) (F 11) sh lr ++ (wS G (F 12) (F 13) (F 14) (F 15) hd sz el ++ ([wI (F 16) (F 17) (F 18) f0 s0 p0, iC G (F 17) 160 lt] ++ (wT G (F 18) (F 19) (F 20) (F 21) ν0 ++ (wA G (F 22) (F 23) kp (nI bc) nm kd aa ++ ([iC G (F 24) 8 (rfI rr (rcQu τ (xs (i + 1)) (xs (i + 2))))] ++ (wN G m A (if rcQu τ (xs (i + 1)) (xs (i + 2)) = 0 then aQu τ (xs (i + 1)) (xs (i + 2)) else τ) y ++ ([iC G (A 0) 8 hd, iC G (A 1) 8 sz, jC G (A 2) 1280 el2, iC G (A 11) 8 (rfI rr (rcQu τ (xs (i + 1)) (xs (i + 2)))), iC G (A 12) 20 kp, iC G (A 13) 137 od, iC G (A 14) 137 ah, iC G (A 15) 5 nu, iC G (A 16) 10 an, iC G (A 17) 10 le, iC G (A 18) 6 (nA o2), iC G (A 19) 6 (nA b2)]))))))))))) rfl k_X7_question (c_X7_question l G m A τ y (xs (i + 1)) (xs (i + 2)) rr (by first | assumption | omega)) ml_L_52 rfl ⟨Nat.le_of_ble_eq_true rfl, Nat.le_of_ble_eq_true rfl⟩ rfl [25, 26, 27, 28, 29, 30, 31, 32, 33, 37] [0, 1, 2, 3, 4, 5, 6, 7, 8, 9, 10, 11, 12, 13, 14, 15, 16, 17, 18, 19, 20, 21, 22, 23, 24, 34, 35, 36, 38, 39, 40, 41, 42, 43, 44, 45] [0, 1, 2, 3, 4, 5, 6, 7, 8, 9, 10, 11, 12, 13, 14, 15, 16, 17, 18, 19, 20, 21, 22, 23, 24, 36, 37, 38, 39, 40, 41, 42, 43, 44, 25, 26, 27, 45, 28, 29, 30, 31, 32, 33, 34, 35] rfl (by decide) rfl (by decide) (by decide) (by decide) (fun _ => rfl) 25 rfl rfl rfl rfl (Nat.le_of_ble_eq_true rfl) ⟨by show _ ≤ 600000; omega, by show _ ≤ 7302250; omega⟩ dL_law_543 (fun r543 _ e543 => ?_)
  subst e543
  refine g_icmp_eq (pc := 546) (tgt := 1543) C dL_law_546 (by decide) (fun _ => ?_) (fun h => absurd (rfl) h)
  refine g_iinc (pc := 1543) (v := nI (i + 6)) (lv' := [(3, .int (nI (i + 6))), (0, .ref bs), (1, .ref (F 0)), (2, .ref m)]) C dL_law_1543 3 rfl (nI_add i 6) (by decide) rfl ?_
  refine g_goto (pc := 1546) (tgt := 18) C dL_law_1546 (by decide) ?_
  refine g_ws (ws' := LW G F m A it lf (if rcQu τ (xs (i + 1)) (xs (i + 2)) = 0 then aQu τ (xs (i + 1)) (xs (i + 2)) else τ) σ sh lr hd sz el f0 s0 p0 lt ν0 kp bc nm kd aa (rfI rr (rcQu τ (xs (i + 1)) (xs (i + 2)))) y el2 od ah nu an le o2 b2) (rfl) ?_
  refine g_sub (lv' := [(0, .ref bs), (1, .ref (F 0)), (2, .ref m), (3, .int (nI (i + 6)))]) [1, 2, 3, 0] rfl ?_
  refine g_widen (k := 46 + (i + 6)) (n := 5000 + 8 * (i + 6)) (by omega) (by omega) ?_
  exact K σ2 it lf (if rcQu τ (xs (i + 1)) (xs (i + 2)) = 0 then aQu τ (xs (i + 1)) (xs (i + 2)) else τ) σ sh lr hd sz el f0 s0 p0 lt ν0 kp bc nm kd aa (rfI rr (rcQu τ (xs (i + 1)) (xs (i + 2)))) y el2 od ah nu an le o2 b2 (hI.twn (lt_qu hT _ _))
set_option maxRecDepth 20000 in
set_option maxHeartbeats 4000000 in
theorem law_group {p9 : Program} {l : Launch} {e9 : Env} {s9 : State} {m9 : MethodId} {a9 : Array Value} {b9 : List Frame} {t9 : Method} {c9 : Code} {Q9 : State → Prop} {G : gT} {A9 : Nat → Prop} {F : Nat → Nat} {m : Nat} {A : Nat → Nat} {bs L : Nat} {xs : Nat → Int32} (C : Cx p9 s9 m9 a9 t9 c9 G A9 true 4 cL_law yL_law ret) (hX : va_X bs L xs s9 s9.heap) (hbl : bs < s9.heap.size) (hbA : ¬ A9 bs) (hL : L ≤ 3072) {i : Nat} (hi : i + 6 ≤ L) (σ2 : tT) (it : Int32) (lf : Int32) (τ : tT) (σ : tT) (sh : Nat → Int32) (lr : Nat → Int32) (hd : Nat → Int32) (sz : Nat → Int32) (el : Nat → Int64) (f0 : Int32) (s0 : Int32) (p0 : Int32) (lt : Nat → Int32) (ν0 : tT) (kp : Nat → Int32) (bc : Nat) (nm : Int32) (kd : Int32) (aa : Int32) (rr : Nat → Int32) (y : Nat → Int32) (el2 : Nat → Int64) (od : Nat → Int32) (ah : Nat → Int32) (nu : Nat → Int32) (an : Nat → Int32) (le : Nat → Int32) (o2 : Nat → Nat) (b2 : Nat → Nat) (hI : LI it lf τ σ σ2 lr hd sz el el2 bc y od) (K : LK p9 l e9 s9 m9 a9 b9 t9 c9 Q9 G A9 F m A bs (i + 6)) : GW p9 l e9 room_1 s9 m9 a9 b9 t9 c9 Q9 G A9 true 4 (46 + i) (5000 + 8 * i) (LW G F m A it lf τ σ sh lr hd sz el f0 s0 p0 lt ν0 kp bc nm kd aa rr y el2 od ah nu an le o2 b2) [(0, .ref bs), (1, .ref (F 0)), (2, .ref m), (3, .int (nI i))] 551 [] := by
  have hT := hI.1.1
  have hT2 := hI.1.2.1
  have hT3 := hI.1.2.2.1
  have hf := hI.1.2.2.2.1
  have hσ := hI.1.2.2.2.2
  have hS := hI.2.1.1
  have hD : ∀ s, s < 8 → isQn (hd s) → ∃ q, q < tQ τ ∧ hd s = nI q := hI.2.1.2.1
  have hE := hI.2.1.2.2
  have h0 := hI.2.2.1
  have hb := hI.2.2.2.1
  have hy0 := hI.2.2.2.2.1
  have hy1 := hI.2.2.2.2.2.1
  have hy2 := hI.2.2.2.2.2.2
  refine g_ws (ws' := [wX (F 0) (F 1) (F 5) it (F 9) (F 12) (F 16) (F 22) (F 24) lf] ++ (wT G (F 1) (F 2) (F 3) (F 4) τ ++ (wT G (F 5) (F 6) (F 7) (F 8) σ ++ (wO G (F 9) (F 10) (F 11) sh lr ++ (wS G (F 12) (F 13) (F 14) (F 15) hd sz el ++ ([wI (F 16) (F 17) (F 18) f0 s0 p0, iC G (F 17) 160 lt] ++ (wT G (F 18) (F 19) (F 20) (F 21) ν0 ++ (wA G (F 22) (F 23) kp (nI bc) nm kd aa ++ ([iC G (F 24) 8 rr] ++ (wN G m A τ y ++ ([iC G (A 0) 8 hd, iC G (A 1) 8 sz, jC G (A 2) 1280 el2, iC G (A 11) 8 rr, iC G (A 12) 20 kp, iC G (A 13) 137 od, iC G (A 14) 137 ah, iC G (A 15) 5 nu, iC G (A 16) 10 an, iC G (A 17) 10 le, iC G (A 18) 6 (nA o2), iC G (A 19) 6 (nA b2)]))))))))))) rfl ?_
  refine g_aload_n (pc := 551) C dL_law_551 1 rfl ?_
  refine g_aload_n (pc := 552) C dL_law_552 0 rfl ?_
  refine g_iload_n (pc := 553) C dL_law_553 3 rfl ?_
  refine g_iconst (pc := 554) (v := 1) C dL_law_554 (by decide) ?_
  refine g_iaddN (pc := 555) (i := i) (j := 1) C dL_law_555 ?_
  refine g_sld (pc := 556) C hX hbl hbA (i + 1) rfl ⟨by omega, by omega⟩ dL_law_556 ?_
  refine g_aload_n (pc := 557) C dL_law_557 0 rfl ?_
  refine g_iload_n (pc := 558) C dL_law_558 3 rfl ?_
  refine g_iconst (pc := 559) (v := 2) C dL_law_559 (by decide) ?_
  refine g_iaddN (pc := 560) (i := i) (j := 2) C dL_law_560 ?_
  refine g_sld (pc := 561) C hX hbl hbA (i + 2) rfl ⟨by omega, by omega⟩ dL_law_561 ?_
  refine g_aload_n (pc := 562) C dL_law_562 0 rfl ?_
  refine g_iload_n (pc := 563) C dL_law_563 3 rfl ?_
  refine g_iconst (pc := 564) (v := 3) C dL_law_564 (by decide) ?_
  refine g_iaddN (pc := 565) (i := i) (j := 3) C dL_law_565 ?_
  refine g_sld (pc := 566) C hX hbl hbA (i + 3) rfl ⟨by omega, by omega⟩ dL_law_566 ?_
  refine g_aload_n (pc := 567) C dL_law_567 0 rfl ?_
  refine g_iload_n (pc := 568) C dL_law_568 3 rfl ?_
  refine g_iconst (pc := 569) (v := 4) C dL_law_569 (by decide) ?_
  refine g_iaddN (pc := 570) (i := i) (j := 4) C dL_law_570 ?_
  refine g_sld (pc := 571) C hX hbl hbA (i + 4) rfl ⟨by omega, by omega⟩ dL_law_571 ?_
  refine g_aload_n (pc := 572) C dL_law_572 0 rfl ?_
  refine g_iload_n (pc := 573) C dL_law_573 3 rfl ?_
  refine g_iconst (pc := 574) (v := 5) C dL_law_574 (by decide) ?_
  refine g_iaddN (pc := 575) (i := i) (j := 5) C dL_law_575 ?_
  refine g_sld (pc := 576) C hX hbl hbA (i + 5) rfl ⟨by omega, by omega⟩ dL_law_576 ?_
  refine g_wrVI (pc := 577) (rest := []) (wr := [oC (F 5) 3 [.ref (F 6), .ref (F 7), .ref (F 8), .int (σ 8 0), .int (σ 8 1), .int (σ 8 2), .int (σ 8 3), .int (σ 8 4), .int (σ 8 5), .int (σ 8 6)], iC G (F 6) 16 (fq σ), iC G (F 7) 64 (σ 2), iC G (F 8) 50 (fg σ), oC (F 9) 1 [.ref (F 10), .ref (F 11)], iC G (F 10) 8 sh, iC G (F 11) 256 lr, oC (F 12) 2 [.ref (F 13), .ref (F 14), .ref (F 15)], iC G (F 13) 8 hd, iC G (F 14) 8 sz, jC G (F 15) 1280 el, wI (F 16) (F 17) (F 18) f0 s0 p0, iC G (F 17) 160 lt, oC (F 18) 3 [.ref (F 19), .ref (F 20), .ref (F 21), .int (ν0 8 0), .int (ν0 8 1), .int (ν0 8 2), .int (ν0 8 3), .int (ν0 8 4), .int (ν0 8 5), .int (ν0 8 6)], iC G (F 19) 16 (fq ν0), iC G (F 20) 64 (ν0 2), iC G (F 21) 50 (fg ν0), oC (F 22) 0 [.ref (F 23), .int (nI bc), .int nm, .int kd, .int aa], iC G (F 23) 20 kp, oC m 6 [.ref (A 0), .ref (A 1), .ref (A 2), .int (τ 8 0), .ref (A 3), .ref (A 4), .ref (A 5), .int (τ 8 1), .ref (A 6), .ref (A 7), .ref (A 8), .ref (A 9), .ref (A 10), .int (τ 8 2), .int (τ 8 3), .int (τ 8 5), .int (τ 8 6), .int (τ 8 4), .int (y 0), .ref (A 11), .int (y 1), .ref (A 12), .int (y 2), .ref (A 13), .ref (A 14), .int (y 3), .int (y 4), .ref (A 15), .ref (A 16), .ref (A 17), .ref (A 18), .ref (A 19), .int (y 5)], iC G (A 3) 8 (τ 0), iC G (A 4) 8 (τ 1), iC G (A 5) 64 (τ 2), iC G (A 6) 10 (τ 3), iC G (A 7) 10 (τ 4), iC G (A 8) 10 (τ 5), iC G (A 9) 10 (τ 6), iC G (A 10) 10 (τ 7), iC G (A 0) 8 hd, iC G (A 1) 8 sz, jC G (A 2) 1280 el2, iC G (A 11) 8 rr, iC G (A 12) 20 kp, iC G (A 13) 137 od, iC G (A 14) 137 ah, iC G (A 15) 5 nu, iC G (A 16) 10 an, iC G (A 17) 10 le, iC G (A 18) 6 (nA o2), iC G (A 19) 6 (nA b2)]) C (fun _ => [wX (F 0) (F 1) (F 5) it (F 9) (F 12) (F 16) (F 22) (F 24) lf] ++ (wT G (F 1) (F 2) (F 3) (F 4) (if rcGr τ (xs (i + 1)) (xs (i + 2)) (xs (i + 3)) (xs (i + 4)) (xs (i + 5)) = 0 then aGr τ (xs (i + 1)) (xs (i + 2)) (xs (i + 3)) (xs (i + 4)) (xs (i + 5)) else τ) ++ (wT G (F 5) (F 6) (F 7) (F 8) σ ++ (wO G (F 9) (F 10) (F 11) sh lr ++ (wS G (F 12) (F 13) (F 14) (F 15) hd sz el ++ ([wI (F 16) (F 17) (F 18) f0 s0 p0, iC G (F 17) 160 lt] ++ (wT G (F 18) (F 19) (F 20) (F 21) ν0 ++ (wA G (F 22) (F 23) kp (nI bc) nm kd aa ++ ([iC G (F 24) 8 (rfI rr (rcGr τ (xs (i + 1)) (xs (i + 2)) (xs (i + 3)) (xs (i + 4)) (xs (i + 5))))] ++ (wN G m A τ y ++ ([iC G (A 0) 8 hd, iC G (A 1) 8 sz, jC G (A 2) 1280 el2, iC G (A 11) 8 rr, iC G (A 12) 20 kp, iC G (A 13) 137 od, iC G (A 14) 137 ah, iC G (A 15) 5 nu, iC G (A 16) 10 an, iC G (A 17) 10 le, iC G (A 18) 6 (nA o2), iC G (A 19) 6 (nA b2)]))))))))))) rfl k_X6_group (c_X6_group l G (F 0) (F 1) (F 5) it (F 9) (F 12) (F 16) (F 22) (F 24) lf (F 2) (F 3) (F 4) τ (xs (i + 1)) (xs (i + 2)) (xs (i + 3)) (xs (i + 4)) (xs (i + 5)) rr (by first | assumption | omega)) ml_L_53 rfl ⟨Nat.le_of_ble_eq_true rfl, Nat.le_of_ble_eq_true rfl⟩ rfl [0, 1, 2, 3, 4, 24] [5, 6, 7, 8, 9, 10, 11, 12, 13, 14, 15, 16, 17, 18, 19, 20, 21, 22, 23, 25, 26, 27, 28, 29, 30, 31, 32, 33, 34, 35, 36, 37, 38, 39, 40, 41, 42, 43, 44, 45] [40, 41, 42, 43, 44, 0, 1, 2, 3, 4, 5, 6, 7, 8, 9, 10, 11, 12, 13, 14, 15, 16, 17, 18, 45, 19, 20, 21, 22, 23, 24, 25, 26, 27, 28, 29, 30, 31, 32, 33, 34, 35, 36, 37, 38, 39] rfl (by decide) rfl (by decide) (by decide) (by decide) (fun _ => rfl) 0 rfl rfl rfl rfl (Nat.le_of_ble_eq_true rfl) ⟨by show _ ≤ 600000; omega, by show _ ≤ 7302250; omega⟩ dL_law_577 (fun r577 _ e577 => ?_)
  subst e577
  refine g_aload_n (pc := 580) C dL_law_580 2 rfl ?_
  refine g_aload_n (pc := 581) C dL_law_581 0 rfl ?_
  refine g_iload_n (pc := 582) C dL_law_582 3 rfl ?_
  refine g_iconst (pc := 583) (v := 1) C dL_law_583 (by decide) ?_
  refine g_iaddN (pc := 584) (i := i) (j := 1) C dL_law_584 ?_
  refine g_sld (pc := 585) C hX hbl hbA (i + 1) rfl ⟨by omega, by omega⟩ dL_law_585 ?_
  refine g_aload_n (pc := 586) C dL_law_586 0 rfl ?_
  refine g_iload_n (pc := 587) C dL_law_587 3 rfl ?_
  refine g_iconst (pc := 588) (v := 2) C dL_law_588 (by decide) ?_
  refine g_iaddN (pc := 589) (i := i) (j := 2) C dL_law_589 ?_
  refine g_sld (pc := 590) C hX hbl hbA (i + 2) rfl ⟨by omega, by omega⟩ dL_law_590 ?_
  refine g_aload_n (pc := 591) C dL_law_591 0 rfl ?_
  refine g_iload_n (pc := 592) C dL_law_592 3 rfl ?_
  refine g_iconst (pc := 593) (v := 3) C dL_law_593 (by decide) ?_
  refine g_iaddN (pc := 594) (i := i) (j := 3) C dL_law_594 ?_
  refine g_sld (pc := 595) C hX hbl hbA (i + 3) rfl ⟨by omega, by omega⟩ dL_law_595 ?_
  refine g_aload_n (pc := 596) C dL_law_596 0 rfl ?_
  refine g_iload_n (pc := 597) C dL_law_597 3 rfl ?_
  refine g_iconst (pc := 598) (v := 4) C dL_law_598 (by decide) ?_
  refine g_iaddN (pc := 599) (i := i) (j := 4) C dL_law_599 ?_
  refine g_sld (pc := 600) C hX hbl hbA (i + 4) rfl ⟨by omega, by omega⟩ dL_law_600 ?_
  refine g_aload_n (pc := 601) C dL_law_601 0 rfl ?_
  refine g_iload_n (pc := 602) C dL_law_602 3 rfl ?_
  refine g_iconst (pc := 603) (v := 5) C dL_law_603 (by decide) ?_
  refine g_iaddN (pc := 604) (i := i) (j := 5) C dL_law_604 ?_
  refine g_sld (pc := 605) C hX hbl hbA (i + 5) rfl ⟨by omega, by omega⟩ dL_law_605 ?_
  refine g_wrVI (pc := 606) (rest := [.int (if rcGr τ (xs (i + 1)) (xs (i + 2)) (xs (i + 3)) (xs (i + 4)) (xs (i + 5)) = 0 then nI (tG τ) else (rcGr τ (xs (i + 1)) (xs (i + 2)) (xs (i + 3)) (xs (i + 4)) (xs (i + 5))))]) (wr := [wX (F 0) (F 1) (F 5) it (F 9) (F 12) (F 16) (F 22) (F 24) lf, oC (F 1) 3 [.ref (F 2), .ref (F 3), .ref (F 4), .int ((if rcGr τ (xs (i + 1)) (xs (i + 2)) (xs (i + 3)) (xs (i + 4)) (xs (i + 5)) = 0 then aGr τ (xs (i + 1)) (xs (i + 2)) (xs (i + 3)) (xs (i + 4)) (xs (i + 5)) else τ) 8 0), .int ((if rcGr τ (xs (i + 1)) (xs (i + 2)) (xs (i + 3)) (xs (i + 4)) (xs (i + 5)) = 0 then aGr τ (xs (i + 1)) (xs (i + 2)) (xs (i + 3)) (xs (i + 4)) (xs (i + 5)) else τ) 8 1), .int ((if rcGr τ (xs (i + 1)) (xs (i + 2)) (xs (i + 3)) (xs (i + 4)) (xs (i + 5)) = 0 then aGr τ (xs (i + 1)) (xs (i + 2)) (xs (i + 3)) (xs (i + 4)) (xs (i + 5)) else τ) 8 2), .int ((if rcGr τ (xs (i + 1)) (xs (i + 2)) (xs (i + 3)) (xs (i + 4)) (xs (i + 5)) = 0 then aGr τ (xs (i + 1)) (xs (i + 2)) (xs (i + 3)) (xs (i + 4)) (xs (i + 5)) else τ) 8 3), .int ((if rcGr τ (xs (i + 1)) (xs (i + 2)) (xs (i + 3)) (xs (i + 4)) (xs (i + 5)) = 0 then aGr τ (xs (i + 1)) (xs (i + 2)) (xs (i + 3)) (xs (i + 4)) (xs (i + 5)) else τ) 8 4), .int ((if rcGr τ (xs (i + 1)) (xs (i + 2)) (xs (i + 3)) (xs (i + 4)) (xs (i + 5)) = 0 then aGr τ (xs (i + 1)) (xs (i + 2)) (xs (i + 3)) (xs (i + 4)) (xs (i + 5)) else τ) 8 5), .int ((if rcGr τ (xs (i + 1)) (xs (i + 2)) (xs (i + 3)) (xs (i + 4)) (xs (i + 5)) = 0 then aGr τ (xs (i + 1)) (xs (i + 2)) (xs (i + 3)) (xs (i + 4)) (xs (i + 5)) else τ) 8 6)], iC G (F 2) 16 (fq (if rcGr τ (xs (i + 1)) (xs (i + 2)) (xs (i + 3)) (xs (i + 4)) (xs (i + 5)) = 0 then aGr τ (xs (i + 1)) (xs (i + 2)) (xs (i + 3)) (xs (i + 4)) (xs (i + 5)) else τ)), iC G (F 3) 64 ((if rcGr τ (xs (i + 1)) (xs (i + 2)) (xs (i + 3)) (xs (i + 4)) (xs (i + 5)) = 0 then aGr τ (xs (i + 1)) (xs (i + 2)) (xs (i + 3)) (xs (i + 4)) (xs (i + 5)) else τ) 2), iC G (F 4) 50 (fg (if rcGr τ (xs (i + 1)) (xs (i + 2)) (xs (i + 3)) (xs (i + 4)) (xs (i + 5)) = 0 then aGr τ (xs (i + 1)) (xs (i + 2)) (xs (i + 3)) (xs (i + 4)) (xs (i + 5)) else τ)), oC (F 5) 3 [.ref (F 6), .ref (F 7), .ref (F 8), .int (σ 8 0), .int (σ 8 1), .int (σ 8 2), .int (σ 8 3), .int (σ 8 4), .int (σ 8 5), .int (σ 8 6)], iC G (F 6) 16 (fq σ), iC G (F 7) 64 (σ 2), iC G (F 8) 50 (fg σ), oC (F 9) 1 [.ref (F 10), .ref (F 11)], iC G (F 10) 8 sh, iC G (F 11) 256 lr, oC (F 12) 2 [.ref (F 13), .ref (F 14), .ref (F 15)], iC G (F 13) 8 hd, iC G (F 14) 8 sz, jC G (F 15) 1280 el, wI (F 16) (F 17) (F 18) f0 s0 p0, iC G (F 17) 160 lt, oC (F 18) 3 [.ref (F 19), .ref (F 20), .ref (F 21), .int (ν0 8 0), .int (ν0 8 1), .int (ν0 8 2), .int (ν0 8 3), .int (ν0 8 4), .int (ν0 8 5), .int (ν0 8 6)], iC G (F 19) 16 (fq ν0), iC G (F 20) 64 (ν0 2), iC G (F 21) 50 (fg ν0), oC (F 22) 0 [.ref (F 23), .int (nI bc), .int nm, .int kd, .int aa], iC G (F 23) 20 kp, iC G (F 24) 8 (rfI rr (rcGr τ (xs (i + 1)) (xs (i + 2)) (xs (i + 3)) (xs (i + 4)) (xs (i + 5)))), iC G (A 0) 8 hd, iC G (A 1) 8 sz, jC G (A 2) 1280 el2, iC G (A 12) 20 kp, iC G (A 13) 137 od, iC G (A 14) 137 ah, iC G (A 15) 5 nu, iC G (A 16) 10 an, iC G (A 17) 10 le, iC G (A 18) 6 (nA o2), iC G (A 19) 6 (nA b2)]) C (fun _ => [wX (F 0) (F 1) (F 5) it (F 9) (F 12) (F 16) (F 22) (F 24) lf] ++ (wT G (F 1) (F 2) (F 3) (F 4) (if rcGr τ (xs (i + 1)) (xs (i + 2)) (xs (i + 3)) (xs (i + 4)) (xs (i + 5)) = 0 then aGr τ (xs (i + 1)) (xs (i + 2)) (xs (i + 3)) (xs (i + 4)) (xs (i + 5)) else τ) ++ (wT G (F 5) (F 6) (F 7) (F 8) σ ++ (wO G (F 9) (F 10) (F 11) sh lr ++ (wS G (F 12) (F 13) (F 14) (F 15) hd sz el ++ ([wI (F 16) (F 17) (F 18) f0 s0 p0, iC G (F 17) 160 lt] ++ (wT G (F 18) (F 19) (F 20) (F 21) ν0 ++ (wA G (F 22) (F 23) kp (nI bc) nm kd aa ++ ([iC G (F 24) 8 (rfI rr (rcGr τ (xs (i + 1)) (xs (i + 2)) (xs (i + 3)) (xs (i + 4)) (xs (i + 5))))] ++ (wN G m A (if rcGr τ (xs (i + 1)) (xs (i + 2)) (xs (i + 3)) (xs (i + 4)) (xs (i + 5)) = 0 then aGr τ (xs (i + 1)) (xs (i + 2)) (xs (i + 3)) (xs (i + 4)) (xs (i + 5)) else τ) y ++ ([iC G (A 0) 8 hd, iC G (A 1) 8 sz, jC G (A 2) 1280 el2, iC G (A 11) 8 (rfI rr (rcGr τ (xs (i + 1)) (xs (i + 2)) (xs (i + 3)) (xs (i + 4)) (xs (i + 5)))), iC G (A 12) 20 kp, iC G (A 13) 137 od, iC G (A 14) 137 ah, iC G (A 15) 5 nu, iC G (A 16) 10 an, iC G (A 17) 10 le, iC G (A 18) 6 (nA o2), iC G (A 19) 6 (nA b2)]))))))))))) rfl k_X7_group (c_X7_group l G m A τ y (xs (i + 1)) (xs (i + 2)) (xs (i + 3)) (xs (i + 4)) (xs (i + 5)) rr (by first | assumption | omega)) ml_L_56 rfl ⟨Nat.le_of_ble_eq_true rfl, Nat.le_of_ble_eq_true rfl⟩ rfl [25, 26, 27, 28, 29, 30, 31, 32, 33, 37] [0, 1, 2, 3, 4, 5, 6, 7, 8, 9, 10, 11, 12, 13, 14, 15, 16, 17, 18, 19, 20, 21, 22, 23, 24, 34, 35, 36, 38, 39, 40, 41, 42, 43, 44, 45] [0, 1, 2, 3, 4, 5, 6, 7, 8, 9, 10, 11, 12, 13, 14, 15, 16, 17, 18, 19, 20, 21, 22, 23, 24, 36, 37, 38, 39, 40, 41, 42, 43, 44, 25, 26, 27, 45, 28, 29, 30, 31, 32, 33, 34, 35] rfl (by decide) rfl (by decide) (by decide) (by decide) (fun _ => rfl) 25 rfl rfl rfl rfl (Nat.le_of_ble_eq_true rfl) ⟨by show _ ≤ 600000; omega, by show _ ≤ 7302250; omega⟩ dL_law_606 (fun r606 _ e606 => ?_)
  subst e606
  refine g_icmp_eq (pc := 609) (tgt := 1543) C dL_law_609 (by decide) (fun _ => ?_) (fun h => absurd (rfl) h)
  refine g_iinc (pc := 1543) (v := nI (i + 6)) (lv' := [(3, .int (nI (i + 6))), (0, .ref bs), (1, .ref (F 0)), (2, .ref m)]) C dL_law_1543 3 rfl (nI_add i 6) (by decide) rfl ?_
  refine g_goto (pc := 1546) (tgt := 18) C dL_law_1546 (by decide) ?_
  refine g_ws (ws' := LW G F m A it lf (if rcGr τ (xs (i + 1)) (xs (i + 2)) (xs (i + 3)) (xs (i + 4)) (xs (i + 5)) = 0 then aGr τ (xs (i + 1)) (xs (i + 2)) (xs (i + 3)) (xs (i + 4)) (xs (i + 5)) else τ) σ sh lr hd sz el f0 s0 p0 lt ν0 kp bc nm kd aa (rfI rr (rcGr τ (xs (i + 1)) (xs (i + 2)) (xs (i + 3)) (xs (i + 4)) (xs (i + 5)))) y el2 od ah nu an le o2 b2) (rfl) ?_
  refine g_sub (lv' := [(0, .ref bs), (1, .ref (F 0)), (2, .ref m), (3, .int (nI (i + 6)))]) [1, 2, 3, 0] rfl ?_
  refine g_widen (k := 46 + (i + 6)) (n := 5000 + 8 * (i + 6)) (by omega) (by omega) ?_
  exact K σ2 it lf (if rcGr τ (xs (i + 1)) (xs (i + 2)) (xs (i + 3)) (xs (i + 4)) (xs (i + 5)) = 0 then aGr τ (xs (i + 1)) (xs (i + 2)) (xs (i + 3)) (xs (i + 4)) (xs (i + 5)) else τ) σ sh lr hd sz el f0 s0 p0 lt ν0 kp bc nm kd aa (rfI rr (rcGr τ (xs (i + 1)) (xs (i + 2)) (xs (i + 3)) (xs (i + 4)) (xs (i + 5)))) y el2 od ah nu an le o2 b2 (hI.twn (lt_gr hT _ _ _ _ _))
set_option maxRecDepth 20000 in
set_option maxHeartbeats 4000000 in
theorem law_questionOf {p9 : Program} {l : Launch} {e9 : Env} {s9 : State} {m9 : MethodId} {a9 : Array Value} {b9 : List Frame} {t9 : Method} {c9 : Code} {Q9 : State → Prop} {G : gT} {A9 : Nat → Prop} {F : Nat → Nat} {m : Nat} {A : Nat → Nat} {bs L : Nat} {xs : Nat → Int32} (C : Cx p9 s9 m9 a9 t9 c9 G A9 true 4 cL_law yL_law ret) (hX : va_X bs L xs s9 s9.heap) (hbl : bs < s9.heap.size) (hbA : ¬ A9 bs) (hL : L ≤ 3072) {i : Nat} (hi : i + 6 ≤ L) (σ2 : tT) (it : Int32) (lf : Int32) (τ : tT) (σ : tT) (sh : Nat → Int32) (lr : Nat → Int32) (hd : Nat → Int32) (sz : Nat → Int32) (el : Nat → Int64) (f0 : Int32) (s0 : Int32) (p0 : Int32) (lt : Nat → Int32) (ν0 : tT) (kp : Nat → Int32) (bc : Nat) (nm : Int32) (kd : Int32) (aa : Int32) (rr : Nat → Int32) (y : Nat → Int32) (el2 : Nat → Int64) (od : Nat → Int32) (ah : Nat → Int32) (nu : Nat → Int32) (an : Nat → Int32) (le : Nat → Int32) (o2 : Nat → Nat) (b2 : Nat → Nat) (hI : LI it lf τ σ σ2 lr hd sz el el2 bc y od) (K : LK p9 l e9 s9 m9 a9 b9 t9 c9 Q9 G A9 F m A bs (i + 6)) : GW p9 l e9 room_1 s9 m9 a9 b9 t9 c9 Q9 G A9 true 4 (46 + i) (5000 + 8 * i) (LW G F m A it lf τ σ sh lr hd sz el f0 s0 p0 lt ν0 kp bc nm kd aa rr y el2 od ah nu an le o2 b2) [(0, .ref bs), (1, .ref (F 0)), (2, .ref m), (3, .int (nI i))] 614 [] := by
  have hT := hI.1.1
  have hT2 := hI.1.2.1
  have hT3 := hI.1.2.2.1
  have hf := hI.1.2.2.2.1
  have hσ := hI.1.2.2.2.2
  have hS := hI.2.1.1
  have hD : ∀ s, s < 8 → isQn (hd s) → ∃ q, q < tQ τ ∧ hd s = nI q := hI.2.1.2.1
  have hE := hI.2.1.2.2
  have h0 := hI.2.2.1
  have hb := hI.2.2.2.1
  have hy0 := hI.2.2.2.2.1
  have hy1 := hI.2.2.2.2.2.1
  have hy2 := hI.2.2.2.2.2.2
  refine g_ws (ws' := [wX (F 0) (F 1) (F 5) it (F 9) (F 12) (F 16) (F 22) (F 24) lf] ++ (wT G (F 1) (F 2) (F 3) (F 4) τ ++ (wT G (F 5) (F 6) (F 7) (F 8) σ ++ (wO G (F 9) (F 10) (F 11) sh lr ++ (wS G (F 12) (F 13) (F 14) (F 15) hd sz el ++ ([wI (F 16) (F 17) (F 18) f0 s0 p0, iC G (F 17) 160 lt] ++ (wT G (F 18) (F 19) (F 20) (F 21) ν0 ++ (wA G (F 22) (F 23) kp (nI bc) nm kd aa ++ ([iC G (F 24) 8 rr] ++ (wN G m A τ y ++ ([iC G (A 0) 8 hd, iC G (A 1) 8 sz, jC G (A 2) 1280 el2, iC G (A 11) 8 rr, iC G (A 12) 20 kp, iC G (A 13) 137 od, iC G (A 14) 137 ah, iC G (A 15) 5 nu, iC G (A 16) 10 an, iC G (A 17) 10 le, iC G (A 18) 6 (nA o2), iC G (A 19) 6 (nA b2)]))))))))))) rfl ?_
  refine g_aload_n (pc := 614) C dL_law_614 1 rfl ?_
  refine g_aload_n (pc := 615) C dL_law_615 0 rfl ?_
  refine g_iload_n (pc := 616) C dL_law_616 3 rfl ?_
  refine g_iconst (pc := 617) (v := 1) C dL_law_617 (by decide) ?_
  refine g_iaddN (pc := 618) (i := i) (j := 1) C dL_law_618 ?_
  refine g_sld (pc := 619) C hX hbl hbA (i + 1) rfl ⟨by omega, by omega⟩ dL_law_619 ?_
  refine g_aload_n (pc := 620) C dL_law_620 0 rfl ?_
  refine g_iload_n (pc := 621) C dL_law_621 3 rfl ?_
  refine g_iconst (pc := 622) (v := 2) C dL_law_622 (by decide) ?_
  refine g_iaddN (pc := 623) (i := i) (j := 2) C dL_law_623 ?_
  refine g_sld (pc := 624) C hX hbl hbA (i + 2) rfl ⟨by omega, by omega⟩ dL_law_624 ?_
  refine g_wrVI (pc := 625) (rest := []) (wr := [oC (F 5) 3 [.ref (F 6), .ref (F 7), .ref (F 8), .int (σ 8 0), .int (σ 8 1), .int (σ 8 2), .int (σ 8 3), .int (σ 8 4), .int (σ 8 5), .int (σ 8 6)], iC G (F 6) 16 (fq σ), iC G (F 7) 64 (σ 2), iC G (F 8) 50 (fg σ), oC (F 9) 1 [.ref (F 10), .ref (F 11)], iC G (F 10) 8 sh, iC G (F 11) 256 lr, oC (F 12) 2 [.ref (F 13), .ref (F 14), .ref (F 15)], iC G (F 13) 8 hd, iC G (F 14) 8 sz, jC G (F 15) 1280 el, wI (F 16) (F 17) (F 18) f0 s0 p0, iC G (F 17) 160 lt, oC (F 18) 3 [.ref (F 19), .ref (F 20), .ref (F 21), .int (ν0 8 0), .int (ν0 8 1), .int (ν0 8 2), .int (ν0 8 3), .int (ν0 8 4), .int (ν0 8 5), .int (ν0 8 6)], iC G (F 19) 16 (fq ν0), iC G (F 20) 64 (ν0 2), iC G (F 21) 50 (fg ν0), oC (F 22) 0 [.ref (F 23), .int (nI bc), .int nm, .int kd, .int aa], iC G (F 23) 20 kp, oC m 6 [.ref (A 0), .ref (A 1), .ref (A 2), .int (τ 8 0), .ref (A 3), .ref (A 4), .ref (A 5), .int (τ 8 1), .ref (A 6), .ref (A 7), .ref (A 8), .ref (A 9), .ref (A 10), .int (τ 8 2), .int (τ 8 3), .int (τ 8 5), .int (τ 8 6), .int (τ 8 4), .int (y 0), .ref (A 11), .int (y 1), .ref (A 12), .int (y 2), .ref (A 13), .ref (A 14), .int (y 3), .int (y 4), .ref (A 15), .ref (A 16), .ref (A 17), .ref (A 18), .ref (A 19), .int (y 5)], iC G (A 3) 8 (τ 0), iC G (A 4) 8 (τ 1), iC G (A 5) 64 (τ 2), iC G (A 6) 10 (τ 3), iC G (A 7) 10 (τ 4), iC G (A 8) 10 (τ 5), iC G (A 9) 10 (τ 6), iC G (A 10) 10 (τ 7), iC G (A 0) 8 hd, iC G (A 1) 8 sz, jC G (A 2) 1280 el2, iC G (A 11) 8 rr, iC G (A 12) 20 kp, iC G (A 13) 137 od, iC G (A 14) 137 ah, iC G (A 15) 5 nu, iC G (A 16) 10 an, iC G (A 17) 10 le, iC G (A 18) 6 (nA o2), iC G (A 19) 6 (nA b2)]) C (fun _ => [wX (F 0) (F 1) (F 5) it (F 9) (F 12) (F 16) (F 22) (F 24) lf] ++ (wT G (F 1) (F 2) (F 3) (F 4) τ ++ (wT G (F 5) (F 6) (F 7) (F 8) σ ++ (wO G (F 9) (F 10) (F 11) sh lr ++ (wS G (F 12) (F 13) (F 14) (F 15) hd sz el ++ ([wI (F 16) (F 17) (F 18) f0 s0 p0, iC G (F 17) 160 lt] ++ (wT G (F 18) (F 19) (F 20) (F 21) ν0 ++ (wA G (F 22) (F 23) kp (nI bc) nm kd aa ++ ([iC G (F 24) 8 (rfI rr (rcQo τ (xs (i + 1)) (xs (i + 2))))] ++ (wN G m A τ y ++ ([iC G (A 0) 8 hd, iC G (A 1) 8 sz, jC G (A 2) 1280 el2, iC G (A 11) 8 rr, iC G (A 12) 20 kp, iC G (A 13) 137 od, iC G (A 14) 137 ah, iC G (A 15) 5 nu, iC G (A 16) 10 an, iC G (A 17) 10 le, iC G (A 18) 6 (nA o2), iC G (A 19) 6 (nA b2)]))))))))))) rfl k_X6_questionOf (c_X6_questionOf l G (F 0) (F 1) (F 5) it (F 9) (F 12) (F 16) (F 22) (F 24) lf (F 2) (F 3) (F 4) τ (xs (i + 1)) (xs (i + 2)) rr (by first | assumption | omega)) ml_L_57 rfl ⟨Nat.le_of_ble_eq_true rfl, Nat.le_of_ble_eq_true rfl⟩ rfl [0, 1, 2, 3, 4, 24] [5, 6, 7, 8, 9, 10, 11, 12, 13, 14, 15, 16, 17, 18, 19, 20, 21, 22, 23, 25, 26, 27, 28, 29, 30, 31, 32, 33, 34, 35, 36, 37, 38, 39, 40, 41, 42, 43, 44, 45] [40, 41, 42, 43, 44, 0, 1, 2, 3, 4, 5, 6, 7, 8, 9, 10, 11, 12, 13, 14, 15, 16, 17, 18, 45, 19, 20, 21, 22, 23, 24, 25, 26, 27, 28, 29, 30, 31, 32, 33, 34, 35, 36, 37, 38, 39] rfl (by decide) rfl (by decide) (by decide) (by decide) (fun _ => rfl) 0 rfl rfl rfl rfl (Nat.le_of_ble_eq_true rfl) ⟨by show _ ≤ 600000; omega, by show _ ≤ 7302250; omega⟩ dL_law_625 (fun r625 _ e625 => ?_)
  subst e625
  refine g_aload_n (pc := 628) C dL_law_628 2 rfl ?_
  refine g_aload_n (pc := 629) C dL_law_629 0 rfl ?_
  refine g_iload_n (pc := 630) C dL_law_630 3 rfl ?_
  refine g_iconst (pc := 631) (v := 1) C dL_law_631 (by decide) ?_
  refine g_iaddN (pc := 632) (i := i) (j := 1) C dL_law_632 ?_
  refine g_sld (pc := 633) C hX hbl hbA (i + 1) rfl ⟨by omega, by omega⟩ dL_law_633 ?_
  refine g_aload_n (pc := 634) C dL_law_634 0 rfl ?_
  refine g_iload_n (pc := 635) C dL_law_635 3 rfl ?_
  refine g_iconst (pc := 636) (v := 2) C dL_law_636 (by decide) ?_
  refine g_iaddN (pc := 637) (i := i) (j := 2) C dL_law_637 ?_
  refine g_sld (pc := 638) C hX hbl hbA (i + 2) rfl ⟨by omega, by omega⟩ dL_law_638 ?_
  refine g_wrVI (pc := 639) (rest := [.int (if rcQo τ (xs (i + 1)) (xs (i + 2)) = 0 then qoV τ (nx (xs (i + 1))) (xs (i + 2)) else -10000 + (rcQo τ (xs (i + 1)) (xs (i + 2))))]) (wr := [wX (F 0) (F 1) (F 5) it (F 9) (F 12) (F 16) (F 22) (F 24) lf, oC (F 1) 3 [.ref (F 2), .ref (F 3), .ref (F 4), .int (τ 8 0), .int (τ 8 1), .int (τ 8 2), .int (τ 8 3), .int (τ 8 4), .int (τ 8 5), .int (τ 8 6)], iC G (F 2) 16 (fq τ), iC G (F 3) 64 (τ 2), iC G (F 4) 50 (fg τ), oC (F 5) 3 [.ref (F 6), .ref (F 7), .ref (F 8), .int (σ 8 0), .int (σ 8 1), .int (σ 8 2), .int (σ 8 3), .int (σ 8 4), .int (σ 8 5), .int (σ 8 6)], iC G (F 6) 16 (fq σ), iC G (F 7) 64 (σ 2), iC G (F 8) 50 (fg σ), oC (F 9) 1 [.ref (F 10), .ref (F 11)], iC G (F 10) 8 sh, iC G (F 11) 256 lr, oC (F 12) 2 [.ref (F 13), .ref (F 14), .ref (F 15)], iC G (F 13) 8 hd, iC G (F 14) 8 sz, jC G (F 15) 1280 el, wI (F 16) (F 17) (F 18) f0 s0 p0, iC G (F 17) 160 lt, oC (F 18) 3 [.ref (F 19), .ref (F 20), .ref (F 21), .int (ν0 8 0), .int (ν0 8 1), .int (ν0 8 2), .int (ν0 8 3), .int (ν0 8 4), .int (ν0 8 5), .int (ν0 8 6)], iC G (F 19) 16 (fq ν0), iC G (F 20) 64 (ν0 2), iC G (F 21) 50 (fg ν0), oC (F 22) 0 [.ref (F 23), .int (nI bc), .int nm, .int kd, .int aa], iC G (F 23) 20 kp, iC G (F 24) 8 (rfI rr (rcQo τ (xs (i + 1)) (xs (i + 2)))), iC G (A 0) 8 hd, iC G (A 1) 8 sz, jC G (A 2) 1280 el2, iC G (A 12) 20 kp, iC G (A 13) 137 od, iC G (A 14) 137 ah, iC G (A 15) 5 nu, iC G (A 16) 10 an, iC G (A 17) 10 le, iC G (A 18) 6 (nA o2), iC G (A 19) 6 (nA b2)]) C (fun _ => [wX (F 0) (F 1) (F 5) it (F 9) (F 12) (F 16) (F 22) (F 24) lf] ++ (wT G (F 1) (F 2) (F 3) (F 4) τ ++ (wT G (F 5) (F 6) (F 7) (F 8) σ ++ (wO G (F 9) (F 10) (F 11) sh lr ++ (wS G (F 12) (F 13) (F 14) (F 15) hd sz el ++ ([wI (F 16) (F 17) (F 18) f0 s0 p0, iC G (F 17) 160 lt] ++ (wT G (F 18) (F 19) (F 20) (F 21) ν0 ++ (wA G (F 22) (F 23) kp (nI bc) nm kd aa ++ ([iC G (F 24) 8 (rfI rr (rcQo τ (xs (i + 1)) (xs (i + 2))))] ++ (wN G m A τ y ++ ([iC G (A 0) 8 hd, iC G (A 1) 8 sz, jC G (A 2) 1280 el2, iC G (A 11) 8 (rfI rr (rcQo τ (xs (i + 1)) (xs (i + 2)))), iC G (A 12) 20 kp, iC G (A 13) 137 od, iC G (A 14) 137 ah, iC G (A 15) 5 nu, iC G (A 16) 10 an, iC G (A 17) 10 le, iC G (A 18) 6 (nA o2), iC G (A 19) 6 (nA b2)]))))))))))) rfl k_X7_questionOf (c_X7_questionOf l G m A τ y (xs (i + 1)) (xs (i + 2)) rr (by first | assumption | omega)) ml_L_60 rfl ⟨Nat.le_of_ble_eq_true rfl, Nat.le_of_ble_eq_true rfl⟩ rfl [25, 26, 27, 28, 29, 30, 31, 32, 33, 37] [0, 1, 2, 3, 4, 5, 6, 7, 8, 9, 10, 11, 12, 13, 14, 15, 16, 17, 18, 19, 20, 21, 22, 23, 24, 34, 35, 36, 38, 39, 40, 41, 42, 43, 44, 45] [0, 1, 2, 3, 4, 5, 6, 7, 8, 9, 10, 11, 12, 13, 14, 15, 16, 17, 18, 19, 20, 21, 22, 23, 24, 36, 37, 38, 39, 40, 41, 42, 43, 44, 25, 26, 27, 45, 28, 29, 30, 31, 32, 33, 34, 35] rfl (by decide) rfl (by decide) (by decide) (by decide) (fun _ => rfl) 25 rfl rfl rfl rfl (Nat.le_of_ble_eq_true rfl) ⟨by show _ ≤ 600000; omega, by show _ ≤ 7302250; omega⟩ dL_law_639 (fun r639 _ e639 => ?_)
  subst e639
  refine g_icmp_eq (pc := 642) (tgt := 1543) C dL_law_642 (by decide) (fun _ => ?_) (fun h => absurd (rfl) h)
  refine g_iinc (pc := 1543) (v := nI (i + 6)) (lv' := [(3, .int (nI (i + 6))), (0, .ref bs), (1, .ref (F 0)), (2, .ref m)]) C dL_law_1543 3 rfl (nI_add i 6) (by decide) rfl ?_
  refine g_goto (pc := 1546) (tgt := 18) C dL_law_1546 (by decide) ?_
  refine g_ws (ws' := LW G F m A it lf τ σ sh lr hd sz el f0 s0 p0 lt ν0 kp bc nm kd aa (rfI rr (rcQo τ (xs (i + 1)) (xs (i + 2)))) y el2 od ah nu an le o2 b2) (rfl) ?_
  refine g_sub (lv' := [(0, .ref bs), (1, .ref (F 0)), (2, .ref m), (3, .int (nI (i + 6)))]) [1, 2, 3, 0] rfl ?_
  refine g_widen (k := 46 + (i + 6)) (n := 5000 + 8 * (i + 6)) (by omega) (by omega) ?_
  exact K σ2 it lf τ σ sh lr hd sz el f0 s0 p0 lt ν0 kp bc nm kd aa (rfI rr (rcQo τ (xs (i + 1)) (xs (i + 2)))) y el2 od ah nu an le o2 b2 (hI)
set_option maxRecDepth 20000 in
set_option maxHeartbeats 4000000 in
theorem law_groupOf {p9 : Program} {l : Launch} {e9 : Env} {s9 : State} {m9 : MethodId} {a9 : Array Value} {b9 : List Frame} {t9 : Method} {c9 : Code} {Q9 : State → Prop} {G : gT} {A9 : Nat → Prop} {F : Nat → Nat} {m : Nat} {A : Nat → Nat} {bs L : Nat} {xs : Nat → Int32} (C : Cx p9 s9 m9 a9 t9 c9 G A9 true 4 cL_law yL_law ret) (hX : va_X bs L xs s9 s9.heap) (hbl : bs < s9.heap.size) (hbA : ¬ A9 bs) (hL : L ≤ 3072) {i : Nat} (hi : i + 6 ≤ L) (σ2 : tT) (it : Int32) (lf : Int32) (τ : tT) (σ : tT) (sh : Nat → Int32) (lr : Nat → Int32) (hd : Nat → Int32) (sz : Nat → Int32) (el : Nat → Int64) (f0 : Int32) (s0 : Int32) (p0 : Int32) (lt : Nat → Int32) (ν0 : tT) (kp : Nat → Int32) (bc : Nat) (nm : Int32) (kd : Int32) (aa : Int32) (rr : Nat → Int32) (y : Nat → Int32) (el2 : Nat → Int64) (od : Nat → Int32) (ah : Nat → Int32) (nu : Nat → Int32) (an : Nat → Int32) (le : Nat → Int32) (o2 : Nat → Nat) (b2 : Nat → Nat) (hI : LI it lf τ σ σ2 lr hd sz el el2 bc y od) (K : LK p9 l e9 s9 m9 a9 b9 t9 c9 Q9 G A9 F m A bs (i + 6)) : GW p9 l e9 room_1 s9 m9 a9 b9 t9 c9 Q9 G A9 true 4 (46 + i) (5000 + 8 * i) (LW G F m A it lf τ σ sh lr hd sz el f0 s0 p0 lt ν0 kp bc nm kd aa rr y el2 od ah nu an le o2 b2) [(0, .ref bs), (1, .ref (F 0)), (2, .ref m), (3, .int (nI i))] 647 [] := by
  have hT := hI.1.1
  have hT2 := hI.1.2.1
  have hT3 := hI.1.2.2.1
  have hf := hI.1.2.2.2.1
  have hσ := hI.1.2.2.2.2
  have hS := hI.2.1.1
  have hD : ∀ s, s < 8 → isQn (hd s) → ∃ q, q < tQ τ ∧ hd s = nI q := hI.2.1.2.1
  have hE := hI.2.1.2.2
  have h0 := hI.2.2.1
  have hb := hI.2.2.2.1
  have hy0 := hI.2.2.2.2.1
  have hy1 := hI.2.2.2.2.2.1
  have hy2 := hI.2.2.2.2.2.2
  refine g_ws (ws' := [wX (F 0) (F 1) (F 5) it (F 9) (F 12) (F 16) (F 22) (F 24) lf] ++ (wT G (F 1) (F 2) (F 3) (F 4) τ ++ (wT G (F 5) (F 6) (F 7) (F 8) σ ++ (wO G (F 9) (F 10) (F 11) sh lr ++ (wS G (F 12) (F 13) (F 14) (F 15) hd sz el ++ ([wI (F 16) (F 17) (F 18) f0 s0 p0, iC G (F 17) 160 lt] ++ (wT G (F 18) (F 19) (F 20) (F 21) ν0 ++ (wA G (F 22) (F 23) kp (nI bc) nm kd aa ++ ([iC G (F 24) 8 rr] ++ (wN G m A τ y ++ ([iC G (A 0) 8 hd, iC G (A 1) 8 sz, jC G (A 2) 1280 el2, iC G (A 11) 8 rr, iC G (A 12) 20 kp, iC G (A 13) 137 od, iC G (A 14) 137 ah, iC G (A 15) 5 nu, iC G (A 16) 10 an, iC G (A 17) 10 le, iC G (A 18) 6 (nA o2), iC G (A 19) 6 (nA b2)]))))))))))) rfl ?_
  refine g_aload_n (pc := 647) C dL_law_647 1 rfl ?_
  refine g_aload_n (pc := 648) C dL_law_648 0 rfl ?_
  refine g_iload_n (pc := 649) C dL_law_649 3 rfl ?_
  refine g_iconst (pc := 650) (v := 1) C dL_law_650 (by decide) ?_
  refine g_iaddN (pc := 651) (i := i) (j := 1) C dL_law_651 ?_
  refine g_sld (pc := 652) C hX hbl hbA (i + 1) rfl ⟨by omega, by omega⟩ dL_law_652 ?_
  refine g_aload_n (pc := 653) C dL_law_653 0 rfl ?_
  refine g_iload_n (pc := 654) C dL_law_654 3 rfl ?_
  refine g_iconst (pc := 655) (v := 2) C dL_law_655 (by decide) ?_
  refine g_iaddN (pc := 656) (i := i) (j := 2) C dL_law_656 ?_
  refine g_sld (pc := 657) C hX hbl hbA (i + 2) rfl ⟨by omega, by omega⟩ dL_law_657 ?_
  refine g_wrVI (pc := 658) (rest := []) (wr := [oC (F 5) 3 [.ref (F 6), .ref (F 7), .ref (F 8), .int (σ 8 0), .int (σ 8 1), .int (σ 8 2), .int (σ 8 3), .int (σ 8 4), .int (σ 8 5), .int (σ 8 6)], iC G (F 6) 16 (fq σ), iC G (F 7) 64 (σ 2), iC G (F 8) 50 (fg σ), oC (F 9) 1 [.ref (F 10), .ref (F 11)], iC G (F 10) 8 sh, iC G (F 11) 256 lr, oC (F 12) 2 [.ref (F 13), .ref (F 14), .ref (F 15)], iC G (F 13) 8 hd, iC G (F 14) 8 sz, jC G (F 15) 1280 el, wI (F 16) (F 17) (F 18) f0 s0 p0, iC G (F 17) 160 lt, oC (F 18) 3 [.ref (F 19), .ref (F 20), .ref (F 21), .int (ν0 8 0), .int (ν0 8 1), .int (ν0 8 2), .int (ν0 8 3), .int (ν0 8 4), .int (ν0 8 5), .int (ν0 8 6)], iC G (F 19) 16 (fq ν0), iC G (F 20) 64 (ν0 2), iC G (F 21) 50 (fg ν0), oC (F 22) 0 [.ref (F 23), .int (nI bc), .int nm, .int kd, .int aa], iC G (F 23) 20 kp, oC m 6 [.ref (A 0), .ref (A 1), .ref (A 2), .int (τ 8 0), .ref (A 3), .ref (A 4), .ref (A 5), .int (τ 8 1), .ref (A 6), .ref (A 7), .ref (A 8), .ref (A 9), .ref (A 10), .int (τ 8 2), .int (τ 8 3), .int (τ 8 5), .int (τ 8 6), .int (τ 8 4), .int (y 0), .ref (A 11), .int (y 1), .ref (A 12), .int (y 2), .ref (A 13), .ref (A 14), .int (y 3), .int (y 4), .ref (A 15), .ref (A 16), .ref (A 17), .ref (A 18), .ref (A 19), .int (y 5)], iC G (A 3) 8 (τ 0), iC G (A 4) 8 (τ 1), iC G (A 5) 64 (τ 2), iC G (A 6) 10 (τ 3), iC G (A 7) 10 (τ 4), iC G (A 8) 10 (τ 5), iC G (A 9) 10 (τ 6), iC G (A 10) 10 (τ 7), iC G (A 0) 8 hd, iC G (A 1) 8 sz, jC G (A 2) 1280 el2, iC G (A 11) 8 rr, iC G (A 12) 20 kp, iC G (A 13) 137 od, iC G (A 14) 137 ah, iC G (A 15) 5 nu, iC G (A 16) 10 an, iC G (A 17) 10 le, iC G (A 18) 6 (nA o2), iC G (A 19) 6 (nA b2)]) C (fun _ => [wX (F 0) (F 1) (F 5) it (F 9) (F 12) (F 16) (F 22) (F 24) lf] ++ (wT G (F 1) (F 2) (F 3) (F 4) τ ++ (wT G (F 5) (F 6) (F 7) (F 8) σ ++ (wO G (F 9) (F 10) (F 11) sh lr ++ (wS G (F 12) (F 13) (F 14) (F 15) hd sz el ++ ([wI (F 16) (F 17) (F 18) f0 s0 p0, iC G (F 17) 160 lt] ++ (wT G (F 18) (F 19) (F 20) (F 21) ν0 ++ (wA G (F 22) (F 23) kp (nI bc) nm kd aa ++ ([iC G (F 24) 8 (rfI rr (rcGo τ (xs (i + 1)) (xs (i + 2))))] ++ (wN G m A τ y ++ ([iC G (A 0) 8 hd, iC G (A 1) 8 sz, jC G (A 2) 1280 el2, iC G (A 11) 8 rr, iC G (A 12) 20 kp, iC G (A 13) 137 od, iC G (A 14) 137 ah, iC G (A 15) 5 nu, iC G (A 16) 10 an, iC G (A 17) 10 le, iC G (A 18) 6 (nA o2), iC G (A 19) 6 (nA b2)]))))))))))) rfl k_X6_groupOf (c_X6_groupOf l G (F 0) (F 1) (F 5) it (F 9) (F 12) (F 16) (F 22) (F 24) lf (F 2) (F 3) (F 4) τ (xs (i + 1)) (xs (i + 2)) rr (by first | assumption | omega)) ml_L_61 rfl ⟨Nat.le_of_ble_eq_true rfl, Nat.le_of_ble_eq_true rfl⟩ rfl [0, 1, 2, 3, 4, 24] [5, 6, 7, 8, 9, 10, 11, 12, 13, 14, 15, 16, 17, 18, 19, 20, 21, 22, 23, 25, 26, 27, 28, 29, 30, 31, 32, 33, 34, 35, 36, 37, 38, 39, 40, 41, 42, 43, 44, 45] [40, 41, 42, 43, 44, 0, 1, 2, 3, 4, 5, 6, 7, 8, 9, 10, 11, 12, 13, 14, 15, 16, 17, 18, 45, 19, 20, 21, 22, 23, 24, 25, 26, 27, 28, 29, 30, 31, 32, 33, 34, 35, 36, 37, 38, 39] rfl (by decide) rfl (by decide) (by decide) (by decide) (fun _ => rfl) 0 rfl rfl rfl rfl (Nat.le_of_ble_eq_true rfl) ⟨by show _ ≤ 600000; omega, by show _ ≤ 7302250; omega⟩ dL_law_658 (fun r658 _ e658 => ?_)
  subst e658
  refine g_aload_n (pc := 661) C dL_law_661 2 rfl ?_
  refine g_aload_n (pc := 662) C dL_law_662 0 rfl ?_
  refine g_iload_n (pc := 663) C dL_law_663 3 rfl ?_
  refine g_iconst (pc := 664) (v := 1) C dL_law_664 (by decide) ?_
  refine g_iaddN (pc := 665) (i := i) (j := 1) C dL_law_665 ?_
  refine g_sld (pc := 666) C hX hbl hbA (i + 1) rfl ⟨by omega, by omega⟩ dL_law_666 ?_
  refine g_aload_n (pc := 667) C dL_law_667 0 rfl ?_
  refine g_iload_n (pc := 668) C dL_law_668 3 rfl ?_
  refine g_iconst (pc := 669) (v := 2) C dL_law_669 (by decide) ?_
  refine g_iaddN (pc := 670) (i := i) (j := 2) C dL_law_670 ?_
  refine g_sld (pc := 671) C hX hbl hbA (i + 2) rfl ⟨by omega, by omega⟩ dL_law_671 ?_
  refine g_wrVI (pc := 672) (rest := [.int (if rcGo τ (xs (i + 1)) (xs (i + 2)) = 0 then goV τ (nx (xs (i + 1))) (xs (i + 2)) else (rcGo τ (xs (i + 1)) (xs (i + 2))))]) (wr := [wX (F 0) (F 1) (F 5) it (F 9) (F 12) (F 16) (F 22) (F 24) lf, oC (F 1) 3 [.ref (F 2), .ref (F 3), .ref (F 4), .int (τ 8 0), .int (τ 8 1), .int (τ 8 2), .int (τ 8 3), .int (τ 8 4), .int (τ 8 5), .int (τ 8 6)], iC G (F 2) 16 (fq τ), iC G (F 3) 64 (τ 2), iC G (F 4) 50 (fg τ), oC (F 5) 3 [.ref (F 6), .ref (F 7), .ref (F 8), .int (σ 8 0), .int (σ 8 1), .int (σ 8 2), .int (σ 8 3), .int (σ 8 4), .int (σ 8 5), .int (σ 8 6)], iC G (F 6) 16 (fq σ), iC G (F 7) 64 (σ 2), iC G (F 8) 50 (fg σ), oC (F 9) 1 [.ref (F 10), .ref (F 11)], iC G (F 10) 8 sh, iC G (F 11) 256 lr, oC (F 12) 2 [.ref (F 13), .ref (F 14), .ref (F 15)], iC G (F 13) 8 hd, iC G (F 14) 8 sz, jC G (F 15) 1280 el, wI (F 16) (F 17) (F 18) f0 s0 p0, iC G (F 17) 160 lt, oC (F 18) 3 [.ref (F 19), .ref (F 20), .ref (F 21), .int (ν0 8 0), .int (ν0 8 1), .int (ν0 8 2), .int (ν0 8 3), .int (ν0 8 4), .int (ν0 8 5), .int (ν0 8 6)], iC G (F 19) 16 (fq ν0), iC G (F 20) 64 (ν0 2), iC G (F 21) 50 (fg ν0), oC (F 22) 0 [.ref (F 23), .int (nI bc), .int nm, .int kd, .int aa], iC G (F 23) 20 kp, iC G (F 24) 8 (rfI rr (rcGo τ (xs (i + 1)) (xs (i + 2)))), iC G (A 0) 8 hd, iC G (A 1) 8 sz, jC G (A 2) 1280 el2, iC G (A 12) 20 kp, iC G (A 13) 137 od, iC G (A 14) 137 ah, iC G (A 15) 5 nu, iC G (A 16) 10 an, iC G (A 17) 10 le, iC G (A 18) 6 (nA o2), iC G (A 19) 6 (nA b2)]) C (fun _ => [wX (F 0) (F 1) (F 5) it (F 9) (F 12) (F 16) (F 22) (F 24) lf] ++ (wT G (F 1) (F 2) (F 3) (F 4) τ ++ (wT G (F 5) (F 6) (F 7) (F 8) σ ++ (wO G (F 9) (F 10) (F 11) sh lr ++ (wS G (F 12) (F 13) (F 14) (F 15) hd sz el ++ ([wI (F 16) (F 17) (F 18) f0 s0 p0, iC G (F 17) 160 lt] ++ (wT G (F 18) (F 19) (F 20) (F 21) ν0 ++ (wA G (F 22) (F 23) kp (nI bc) nm kd aa ++ ([iC G (F 24) 8 (rfI rr (rcGo τ (xs (i + 1)) (xs (i + 2))))] ++ (wN G m A τ y ++ ([iC G (A 0) 8 hd, iC G (A 1) 8 sz, jC G (A 2) 1280 el2, iC G (A 11) 8 (rfI rr (rcGo τ (xs (i + 1)) (xs (i + 2)))), iC G (A 12) 20 kp, iC G (A 13) 137 od, iC G (A 14) 137 ah, iC G (A 15) 5 nu, iC G (A 16) 10 an, iC G (A 17) 10 le, iC G (A 18) 6 (nA o2), iC G (A 19) 6 (nA b2)]))))))))))) rfl k_X7_groupOf (c_X7_groupOf l G m A τ y (xs (i + 1)) (xs (i + 2)) rr (by first | assumption | omega)) ml_L_64 rfl ⟨Nat.le_of_ble_eq_true rfl, Nat.le_of_ble_eq_true rfl⟩ rfl [25, 26, 27, 28, 29, 30, 31, 32, 33, 37] [0, 1, 2, 3, 4, 5, 6, 7, 8, 9, 10, 11, 12, 13, 14, 15, 16, 17, 18, 19, 20, 21, 22, 23, 24, 34, 35, 36, 38, 39, 40, 41, 42, 43, 44, 45] [0, 1, 2, 3, 4, 5, 6, 7, 8, 9, 10, 11, 12, 13, 14, 15, 16, 17, 18, 19, 20, 21, 22, 23, 24, 36, 37, 38, 39, 40, 41, 42, 43, 44, 25, 26, 27, 45, 28, 29, 30, 31, 32, 33, 34, 35] rfl (by decide) rfl (by decide) (by decide) (by decide) (fun _ => rfl) 25 rfl rfl rfl rfl (Nat.le_of_ble_eq_true rfl) ⟨by show _ ≤ 600000; omega, by show _ ≤ 7302250; omega⟩ dL_law_672 (fun r672 _ e672 => ?_)
  subst e672
  refine g_icmp_eq (pc := 675) (tgt := 1543) C dL_law_675 (by decide) (fun _ => ?_) (fun h => absurd (rfl) h)
  refine g_iinc (pc := 1543) (v := nI (i + 6)) (lv' := [(3, .int (nI (i + 6))), (0, .ref bs), (1, .ref (F 0)), (2, .ref m)]) C dL_law_1543 3 rfl (nI_add i 6) (by decide) rfl ?_
  refine g_goto (pc := 1546) (tgt := 18) C dL_law_1546 (by decide) ?_
  refine g_ws (ws' := LW G F m A it lf τ σ sh lr hd sz el f0 s0 p0 lt ν0 kp bc nm kd aa (rfI rr (rcGo τ (xs (i + 1)) (xs (i + 2)))) y el2 od ah nu an le o2 b2) (rfl) ?_
  refine g_sub (lv' := [(0, .ref bs), (1, .ref (F 0)), (2, .ref m), (3, .int (nI (i + 6)))]) [1, 2, 3, 0] rfl ?_
  refine g_widen (k := 46 + (i + 6)) (n := 5000 + 8 * (i + 6)) (by omega) (by omega) ?_
  exact K σ2 it lf τ σ sh lr hd sz el f0 s0 p0 lt ν0 kp bc nm kd aa (rfI rr (rcGo τ (xs (i + 1)) (xs (i + 2)))) y el2 od ah nu an le o2 b2 (hI)
