theorem cp_0 (f g : Nat → Int32) (d : Nat) : va_cpy f g 0 d 0 = g := by funext k; unfold va_cpy; rw [if_neg (by omega)]
theorem cp_s (f g : Nat → Int32) (d n : Nat) : upd (va_cpy f g 0 d n) (d + n) (f n) = va_cpy f g 0 d (n + 1) := by
  funext k; unfold upd va_cpy
  by_cases h : k = d + n
  · subst h; rw [if_pos rfl, if_pos (by omega)]; congr 1; omega
  · rw [if_neg h]
    by_cases h2 : d ≤ k ∧ k < d + n
    · rw [if_pos h2, if_pos (by omega)]
    · rw [if_neg h2, if_neg (by omega)]
theorem cp_s0 (f g : Nat → Int32) (n : Nat) : upd (va_cpy f g 0 0 n) n (f n) = va_cpy f g 0 0 (n + 1) := by
  have := cp_s f g 0 n
  rwa [Nat.zero_add] at this
theorem cp_o {f g : Nat → Int32} {d n k : Nat} {x : Int32} (h : k < d ∨ (d + n ≤ k ∧ d + 10 ≤ k)) : upd (va_cpy f g 0 d n) k x = va_cpy f (upd g k x) 0 d n := by
  funext j; unfold upd va_cpy
  by_cases h2 : d ≤ j ∧ j < d + n
  · rw [if_pos h2, if_pos h2, if_neg (by omega)]
  · rw [if_neg h2, if_neg h2]
/-- a row that holds a town -/
def kR (f : Nat → Int32) (σ : tT) : Prop :=
  (∀ q, q < 8 → f q = σ 0 q ∧ f (8 + q) = σ 1 q) ∧ (∀ i, i < 64 → f (16 + i) = σ 2 i) ∧ (∀ g, g < 10 → f (80 + g) = σ 3 g ∧ f (90 + g) = σ 4 g ∧ f (100 + g) = σ 5 g ∧ f (110 + g) = σ 6 g ∧ f (120 + g) = σ 7 g) ∧
  f 130 = σ 8 0 ∧ f 131 = σ 8 1 ∧ f 132 = σ 8 2 ∧ f 133 = σ 8 3 ∧ f 134 = σ 8 5 ∧ f 135 = σ 8 6 ∧ f 136 = σ 8 4
def kF (τ : tT) (a : Nat → Int32) : Nat → Int32 := upd (upd (upd (upd (upd (upd (upd (va_cpy (τ 7) (va_cpy (τ 6) (va_cpy (τ 5) (va_cpy (τ 4) (va_cpy (τ 3) (va_cpy (τ 2) (va_cpy (τ 1) (va_cpy (τ 0) a 0 0 8) 0 8 8) 0 16 64) 0 80 10) 0 90 10) 0 100 10) 0 110 10) 0 120 10) 130 (τ 8 0)) 131 (τ 8 1)) 132 (τ 8 2)) 133 (τ 8 3)) 134 (τ 8 5)) 135 (τ 8 6)) 136 (τ 8 4)
theorem cp_at {f g : Nat → Int32} {d n k : Nat} (h : k < n) : va_cpy f g 0 d n (d + k) = f k := by
  unfold va_cpy; rw [if_pos (by omega)]; congr 1; omega
theorem cp_no {f g : Nat → Int32} {d n k : Nat} (h : k < d ∨ d + n ≤ k) : va_cpy f g 0 d n k = g k := if_neg (by omega)
theorem up_no {f : Nat → Int32} {k j : Nat} {x : Int32} (h : ¬ j = k) : upd f k x j = f j := if_neg h
theorem kF_ok (τ : tT) (a : Nat → Int32) : kR (kF τ a) τ := by
  refine ⟨fun q hq => ⟨?_, ?_⟩, fun i hi => ?_, fun g hg => ⟨?_, ?_, ?_, ?_, ?_⟩, ?_, ?_, ?_, ?_, ?_, ?_, ?_⟩ <;> unfold kF
  · simp (disch := omega) only [up_no, cp_no]
    have := cp_at (f := τ 0) (g := a) (d := 0) hq
    rwa [Nat.zero_add] at this
  · simp (disch := omega) only [up_no, cp_no, cp_at]
  · simp (disch := omega) only [up_no, cp_no, cp_at]
  · simp (disch := omega) only [up_no, cp_no, cp_at]
  · simp (disch := omega) only [up_no, cp_no, cp_at]
  · simp (disch := omega) only [up_no, cp_no, cp_at]
  · simp (disch := omega) only [up_no, cp_no, cp_at]
  · simp (disch := omega) only [up_no, cp_no, cp_at]
  · simp (disch := omega) only [up_no, upd_at]
  · simp (disch := omega) only [up_no, upd_at]
  · simp (disch := omega) only [up_no, upd_at]
  · simp (disch := omega) only [up_no, upd_at]
  · simp (disch := omega) only [up_no, upd_at]
  · simp (disch := omega) only [up_no, upd_at]
  · simp (disch := omega) only [up_no, upd_at]
set_option maxRecDepth 20000 in
set_option maxHeartbeats 4000000 in
theorem c_X7_keep (l : Launch) (G : gT) (m : Nat) (A : Nat → Nat) (τ : tT) (y : Nat → Int32) (w : Nat) (a : Nat → Int32) : WV l yX7_keep cX7_keep 3 (none) 1 0 0 G [.ref m, .ref w] (wN G m A τ y ++ ([iC G w 137 a])) (S := Unit) (fun _ => True) (fun _ => wN G m A τ y ++ ([iC G w 137 (kF τ a)])) := by
  intro sz9
  refine start_W (by decide) (Nat.le_of_ble_eq_true rfl) (fun p9 e9 s9 m9 a9 b9 t9 c9 C => ?_)
  refine g_lv (lv' := [(0, .ref m), (1, .ref w)]) rfl ?_
  refine g_iconst (pc := 0) (v := 0) C dX7_keep_0 (by decide) ?_
  refine g_istore_n (pc := 1) (lv' := [(2, .int 0), (0, .ref m), (1, .ref w)]) C dX7_keep_1 rfl (by decide) rfl ?_
  have key_2 : ∀ (n2 : Nat) (i : Nat) (hi : i ≤ 8), 8 - i < n2 → GW p9 l e9 (rmh 1 0 0) s9 m9 a9 b9 t9 c9 (MQ b9 (va_Qv (fun (_ : Unit) => True) (BW G (wN G m A τ y ++ ([iC G w 137 a])) sz9 (fun _ => wN G m A τ y ++ ([iC G w 137 (kF τ a)]))) (va_A (wN G m A τ y ++ ([iC G w 137 a])) sz9)) a9 s9 0 0 (va_A (wN G m A τ y ++ ([iC G w 137 a])) sz9)) G (va_A (wN G m A τ y ++ ([iC G w 137 a])) sz9) true 3 0 0 (wN G m A τ y ++ ([iC G w 137 (va_cpy (τ 1) (va_cpy (τ 0) a 0 0 i) 0 8 i)])) [(0, .ref m), (1, .ref w), (2, .int (nI i))] 2 [] := by
    intro n2
    induction n2 with
    | zero => intro i hi hn2; exact absurd hn2 (Nat.not_lt_zero _)
    | succ n2 ih2 =>
      intro i hi hn2
      refine g_iload_n (pc := 2) C dX7_keep_2 2 rfl ?_
      refine g_bipush (pc := 3) (v := 8) C dX7_keep_3 (by decide) ?_
      refine g_icmpN_ge (pc := 5) (i := i) (j := 8) (tgt := 35) C dX7_keep_5 (by decide) ⟨by omega, by omega⟩ (fun h5 => ?_) (fun h5 => ?_)
      · refine g_iconst (pc := 35) (v := 0) C dX7_keep_35 (by decide) ?_
        refine g_istore_n (pc := 36) (lv' := [(2, .int 0), (0, .ref m), (1, .ref w)]) C dX7_keep_36 rfl (by decide) rfl ?_
        have key_37 : ∀ (n37 : Nat) (i : Nat) (hi : i ≤ 64), 64 - i < n37 → GW p9 l e9 (rmh 1 0 0) s9 m9 a9 b9 t9 c9 (MQ b9 (va_Qv (fun (_ : Unit) => True) (BW G (wN G m A τ y ++ ([iC G w 137 a])) sz9 (fun _ => wN G m A τ y ++ ([iC G w 137 (kF τ a)]))) (va_A (wN G m A τ y ++ ([iC G w 137 a])) sz9)) a9 s9 0 0 (va_A (wN G m A τ y ++ ([iC G w 137 a])) sz9)) G (va_A (wN G m A τ y ++ ([iC G w 137 a])) sz9) true 3 0 0 (wN G m A τ y ++ ([iC G w 137 (va_cpy (τ 2) (va_cpy (τ 1) (va_cpy (τ 0) a 0 0 8) 0 8 8) 0 16 i)])) [(0, .ref m), (1, .ref w), (2, .int (nI i))] 37 [] := by
          intro n37
          induction n37 with
          | zero => intro i hi hn37; exact absurd hn37 (Nat.not_lt_zero _)
          | succ n37 ih37 =>
            intro i hi hn37
            refine g_iload_n (pc := 37) C dX7_keep_37 2 rfl ?_
            refine g_bipush (pc := 38) (v := 64) C dX7_keep_38 (by decide) ?_
            refine g_icmpN_ge (pc := 40) (i := i) (j := 64) (tgt := 61) C dX7_keep_40 (by decide) ⟨by omega, by omega⟩ (fun h40 => ?_) (fun h40 => ?_)
            · refine g_iconst (pc := 61) (v := 0) C dX7_keep_61 (by decide) ?_
              refine g_istore_n (pc := 62) (lv' := [(2, .int 0), (0, .ref m), (1, .ref w)]) C dX7_keep_62 rfl (by decide) rfl ?_
              have key_63 : ∀ (n63 : Nat) (i : Nat) (hi : i ≤ 10), 10 - i < n63 → GW p9 l e9 (rmh 1 0 0) s9 m9 a9 b9 t9 c9 (MQ b9 (va_Qv (fun (_ : Unit) => True) (BW G (wN G m A τ y ++ ([iC G w 137 a])) sz9 (fun _ => wN G m A τ y ++ ([iC G w 137 (kF τ a)]))) (va_A (wN G m A τ y ++ ([iC G w 137 a])) sz9)) a9 s9 0 0 (va_A (wN G m A τ y ++ ([iC G w 137 a])) sz9)) G (va_A (wN G m A τ y ++ ([iC G w 137 a])) sz9) true 3 0 0 (wN G m A τ y ++ ([iC G w 137 (va_cpy (τ 7) (va_cpy (τ 6) (va_cpy (τ 5) (va_cpy (τ 4) (va_cpy (τ 3) (va_cpy (τ 2) (va_cpy (τ 1) (va_cpy (τ 0) a 0 0 8) 0 8 8) 0 16 64) 0 80 i) 0 90 i) 0 100 i) 0 110 i) 0 120 i)])) [(0, .ref m), (1, .ref w), (2, .int (nI i))] 63 [] := by
                intro n63
                induction n63 with
                | zero => intro i hi hn63; exact absurd hn63 (Nat.not_lt_zero _)
                | succ n63 ih63 =>
                  intro i hi hn63
                  refine g_iload_n (pc := 63) C dX7_keep_63 2 rfl ?_
                  refine g_bipush (pc := 64) (v := 10) C dX7_keep_64 (by decide) ?_
                  refine g_icmpN_ge (pc := 66) (i := i) (j := 10) (tgt := 135) C dX7_keep_66 (by decide) ⟨by omega, by omega⟩ (fun h66 => ?_) (fun h66 => ?_)
                  · refine g_aload_n (pc := 135) C dX7_keep_135 1 rfl ?_
                    refine g_sipush (pc := 136) (v := 130) C dX7_keep_136 (by decide) ?_
                    refine g_aload_n (pc := 139) C dX7_keep_139 0 rfl ?_
                    refine g_get (pc := 140) (T := TX7) (N := 33) (v := .int (τ 8 0)) C ib_X7 0 rfl rfl 3 (by decide) mf_X7_85 rfl rfl rfl dX7_keep_140 ?_
                    refine g_iast (pc := 143) (ws' := wN G m A τ y ++ ([iC G w 137 (upd (va_cpy (τ 7) (va_cpy (τ 6) (va_cpy (τ 5) (va_cpy (τ 4) (va_cpy (τ 3) (va_cpy (τ 2) (va_cpy (τ 1) (va_cpy (τ 0) a 0 0 8) 0 8 8) 0 16 64) 0 80 i) 0 90 i) 0 100 i) 0 110 i) 0 120 i) 130 (τ 8 0))])) C rfl 9 rfl 130 (rfl) ⟨by omega, by decide⟩ dX7_keep_143 rfl ?_
                    refine g_aload_n (pc := 144) C dX7_keep_144 1 rfl ?_
                    refine g_sipush (pc := 145) (v := 131) C dX7_keep_145 (by decide) ?_
                    refine g_aload_n (pc := 148) C dX7_keep_148 0 rfl ?_
                    refine g_get (pc := 149) (T := TX7) (N := 33) (v := .int (τ 8 1)) C ib_X7 0 rfl rfl 7 (by decide) mf_X7_92 rfl rfl rfl dX7_keep_149 ?_
                    refine g_iast (pc := 152) (ws' := wN G m A τ y ++ ([iC G w 137 (upd (upd (va_cpy (τ 7) (va_cpy (τ 6) (va_cpy (τ 5) (va_cpy (τ 4) (va_cpy (τ 3) (va_cpy (τ 2) (va_cpy (τ 1) (va_cpy (τ 0) a 0 0 8) 0 8 8) 0 16 64) 0 80 i) 0 90 i) 0 100 i) 0 110 i) 0 120 i) 130 (τ 8 0)) 131 (τ 8 1))])) C rfl 9 rfl 131 (rfl) ⟨by omega, by decide⟩ dX7_keep_152 rfl ?_
                    refine g_aload_n (pc := 153) C dX7_keep_153 1 rfl ?_
                    refine g_sipush (pc := 154) (v := 132) C dX7_keep_154 (by decide) ?_
                    refine g_aload_n (pc := 157) C dX7_keep_157 0 rfl ?_
                    refine g_get (pc := 158) (T := TX7) (N := 33) (v := .int (τ 8 2)) C ib_X7 0 rfl rfl 13 (by decide) mf_X7_71 rfl rfl rfl dX7_keep_158 ?_
                    refine g_iast (pc := 161) (ws' := wN G m A τ y ++ ([iC G w 137 (upd (upd (upd (va_cpy (τ 7) (va_cpy (τ 6) (va_cpy (τ 5) (va_cpy (τ 4) (va_cpy (τ 3) (va_cpy (τ 2) (va_cpy (τ 1) (va_cpy (τ 0) a 0 0 8) 0 8 8) 0 16 64) 0 80 i) 0 90 i) 0 100 i) 0 110 i) 0 120 i) 130 (τ 8 0)) 131 (τ 8 1)) 132 (τ 8 2))])) C rfl 9 rfl 132 (rfl) ⟨by omega, by decide⟩ dX7_keep_161 rfl ?_
                    refine g_aload_n (pc := 162) C dX7_keep_162 1 rfl ?_
                    refine g_sipush (pc := 163) (v := 133) C dX7_keep_163 (by decide) ?_
                    refine g_aload_n (pc := 166) C dX7_keep_166 0 rfl ?_
                    refine g_get (pc := 167) (T := TX7) (N := 33) (v := .int (τ 8 3)) C ib_X7 0 rfl rfl 14 (by decide) mf_X7_139 rfl rfl rfl dX7_keep_167 ?_
                    refine g_iast (pc := 170) (ws' := wN G m A τ y ++ ([iC G w 137 (upd (upd (upd (upd (va_cpy (τ 7) (va_cpy (τ 6) (va_cpy (τ 5) (va_cpy (τ 4) (va_cpy (τ 3) (va_cpy (τ 2) (va_cpy (τ 1) (va_cpy (τ 0) a 0 0 8) 0 8 8) 0 16 64) 0 80 i) 0 90 i) 0 100 i) 0 110 i) 0 120 i) 130 (τ 8 0)) 131 (τ 8 1)) 132 (τ 8 2)) 133 (τ 8 3))])) C rfl 9 rfl 133 (rfl) ⟨by omega, by decide⟩ dX7_keep_170 rfl ?_
                    refine g_aload_n (pc := 171) C dX7_keep_171 1 rfl ?_
                    refine g_sipush (pc := 172) (v := 134) C dX7_keep_172 (by decide) ?_
                    refine g_aload_n (pc := 175) C dX7_keep_175 0 rfl ?_
                    refine g_get (pc := 176) (T := TX7) (N := 33) (v := .int (τ 8 5)) C ib_X7 0 rfl rfl 15 (by decide) mf_X7_297 rfl rfl rfl dX7_keep_176 ?_
                    refine g_iast (pc := 179) (ws' := wN G m A τ y ++ ([iC G w 137 (upd (upd (upd (upd (upd (va_cpy (τ 7) (va_cpy (τ 6) (va_cpy (τ 5) (va_cpy (τ 4) (va_cpy (τ 3) (va_cpy (τ 2) (va_cpy (τ 1) (va_cpy (τ 0) a 0 0 8) 0 8 8) 0 16 64) 0 80 i) 0 90 i) 0 100 i) 0 110 i) 0 120 i) 130 (τ 8 0)) 131 (τ 8 1)) 132 (τ 8 2)) 133 (τ 8 3)) 134 (τ 8 5))])) C rfl 9 rfl 134 (rfl) ⟨by omega, by decide⟩ dX7_keep_179 rfl ?_
                    refine g_aload_n (pc := 180) C dX7_keep_180 1 rfl ?_
                    refine g_sipush (pc := 181) (v := 135) C dX7_keep_181 (by decide) ?_
                    refine g_aload_n (pc := 184) C dX7_keep_184 0 rfl ?_
                    refine g_get (pc := 185) (T := TX7) (N := 33) (v := .int (τ 8 6)) C ib_X7 0 rfl rfl 16 (by decide) mf_X7_291 rfl rfl rfl dX7_keep_185 ?_
                    refine g_iast (pc := 188) (ws' := wN G m A τ y ++ ([iC G w 137 (upd (upd (upd (upd (upd (upd (va_cpy (τ 7) (va_cpy (τ 6) (va_cpy (τ 5) (va_cpy (τ 4) (va_cpy (τ 3) (va_cpy (τ 2) (va_cpy (τ 1) (va_cpy (τ 0) a 0 0 8) 0 8 8) 0 16 64) 0 80 i) 0 90 i) 0 100 i) 0 110 i) 0 120 i) 130 (τ 8 0)) 131 (τ 8 1)) 132 (τ 8 2)) 133 (τ 8 3)) 134 (τ 8 5)) 135 (τ 8 6))])) C rfl 9 rfl 135 (rfl) ⟨by omega, by decide⟩ dX7_keep_188 rfl ?_
                    refine g_aload_n (pc := 189) C dX7_keep_189 1 rfl ?_
                    refine g_sipush (pc := 190) (v := 136) C dX7_keep_190 (by decide) ?_
                    refine g_aload_n (pc := 193) C dX7_keep_193 0 rfl ?_
                    refine g_get (pc := 194) (T := TX7) (N := 33) (v := .int (τ 8 4)) C ib_X7 0 rfl rfl 17 (by decide) mf_X7_75 rfl rfl rfl dX7_keep_194 ?_
                    refine g_iast (pc := 197) (ws' := wN G m A τ y ++ ([iC G w 137 (upd (upd (upd (upd (upd (upd (upd (va_cpy (τ 7) (va_cpy (τ 6) (va_cpy (τ 5) (va_cpy (τ 4) (va_cpy (τ 3) (va_cpy (τ 2) (va_cpy (τ 1) (va_cpy (τ 0) a 0 0 8) 0 8 8) 0 16 64) 0 80 i) 0 90 i) 0 100 i) 0 110 i) 0 120 i) 130 (τ 8 0)) 131 (τ 8 1)) 132 (τ 8 2)) 133 (τ 8 3)) 134 (τ 8 5)) 135 (τ 8 6)) 136 (τ 8 4))])) C rfl 9 rfl 136 (rfl) ⟨by omega, by decide⟩ dX7_keep_197 rfl ?_
                    exact g_retVW (pc := 198) C rfl rfl () trivial (by rw [show i = 10 from by omega]; rfl) dX7_keep_198
                  · refine g_aload_n (pc := 69) C dX7_keep_69 1 rfl ?_
                    refine g_bipush (pc := 70) (v := 80) C dX7_keep_70 (by decide) ?_
                    refine g_iload_n (pc := 72) C dX7_keep_72 2 rfl ?_
                    refine g_iaddN (pc := 73) (i := 80) (j := i) C dX7_keep_73 ?_
                    refine g_aload_n (pc := 74) C dX7_keep_74 0 rfl ?_
                    refine g_get (pc := 75) (T := TX7) (N := 33) (v := .ref (A 6)) C ib_X7 0 rfl rfl 8 (by decide) mf_X7_29 rfl rfl rfl dX7_keep_75 ?_
                    refine g_iload_n (pc := 78) C dX7_keep_78 2 rfl ?_
                    refine g_iald (pc := 79) (v := (τ 3) i) C 4 rfl i (rfl) ⟨by omega, by decide⟩ (rfl) dX7_keep_79 ?_
                    refine g_iast (pc := 80) (ws' := wN G m A τ y ++ ([iC G w 137 (upd (va_cpy (τ 7) (va_cpy (τ 6) (va_cpy (τ 5) (va_cpy (τ 4) (va_cpy (τ 3) (va_cpy (τ 2) (va_cpy (τ 1) (va_cpy (τ 0) a 0 0 8) 0 8 8) 0 16 64) 0 80 i) 0 90 i) 0 100 i) 0 110 i) 0 120 i) (80 + i) ((τ 3) i))])) C rfl 9 rfl (80 + i) (rfl) ⟨by omega, by decide⟩ dX7_keep_80 rfl ?_
                    refine g_aload_n (pc := 81) C dX7_keep_81 1 rfl ?_
                    refine g_bipush (pc := 82) (v := 90) C dX7_keep_82 (by decide) ?_
                    refine g_iload_n (pc := 84) C dX7_keep_84 2 rfl ?_
                    refine g_iaddN (pc := 85) (i := 90) (j := i) C dX7_keep_85 ?_
                    refine g_aload_n (pc := 86) C dX7_keep_86 0 rfl ?_
                    refine g_get (pc := 87) (T := TX7) (N := 33) (v := .ref (A 7)) C ib_X7 0 rfl rfl 9 (by decide) mf_X7_32 rfl rfl rfl dX7_keep_87 ?_
                    refine g_iload_n (pc := 90) C dX7_keep_90 2 rfl ?_
                    refine g_iald (pc := 91) (v := (τ 4) i) C 5 rfl i (rfl) ⟨by omega, by decide⟩ (rfl) dX7_keep_91 ?_
                    refine g_iast (pc := 92) (ws' := wN G m A τ y ++ ([iC G w 137 (upd (upd (va_cpy (τ 7) (va_cpy (τ 6) (va_cpy (τ 5) (va_cpy (τ 4) (va_cpy (τ 3) (va_cpy (τ 2) (va_cpy (τ 1) (va_cpy (τ 0) a 0 0 8) 0 8 8) 0 16 64) 0 80 i) 0 90 i) 0 100 i) 0 110 i) 0 120 i) (80 + i) ((τ 3) i)) (90 + i) ((τ 4) i))])) C rfl 9 rfl (90 + i) (rfl) ⟨by omega, by decide⟩ dX7_keep_92 rfl ?_
                    refine g_aload_n (pc := 93) C dX7_keep_93 1 rfl ?_
                    refine g_bipush (pc := 94) (v := 100) C dX7_keep_94 (by decide) ?_
                    refine g_iload_n (pc := 96) C dX7_keep_96 2 rfl ?_
                    refine g_iaddN (pc := 97) (i := 100) (j := i) C dX7_keep_97 ?_
                    refine g_aload_n (pc := 98) C dX7_keep_98 0 rfl ?_
                    refine g_get (pc := 99) (T := TX7) (N := 33) (v := .ref (A 8)) C ib_X7 0 rfl rfl 10 (by decide) mf_X7_35 rfl rfl rfl dX7_keep_99 ?_
                    refine g_iload_n (pc := 102) C dX7_keep_102 2 rfl ?_
                    refine g_iald (pc := 103) (v := (τ 5) i) C 6 rfl i (rfl) ⟨by omega, by decide⟩ (rfl) dX7_keep_103 ?_
                    refine g_iast (pc := 104) (ws' := wN G m A τ y ++ ([iC G w 137 (upd (upd (upd (va_cpy (τ 7) (va_cpy (τ 6) (va_cpy (τ 5) (va_cpy (τ 4) (va_cpy (τ 3) (va_cpy (τ 2) (va_cpy (τ 1) (va_cpy (τ 0) a 0 0 8) 0 8 8) 0 16 64) 0 80 i) 0 90 i) 0 100 i) 0 110 i) 0 120 i) (80 + i) ((τ 3) i)) (90 + i) ((τ 4) i)) (100 + i) ((τ 5) i))])) C rfl 9 rfl (100 + i) (rfl) ⟨by omega, by decide⟩ dX7_keep_104 rfl ?_
                    refine g_aload_n (pc := 105) C dX7_keep_105 1 rfl ?_
                    refine g_bipush (pc := 106) (v := 110) C dX7_keep_106 (by decide) ?_
                    refine g_iload_n (pc := 108) C dX7_keep_108 2 rfl ?_
                    refine g_iaddN (pc := 109) (i := 110) (j := i) C dX7_keep_109 ?_
                    refine g_aload_n (pc := 110) C dX7_keep_110 0 rfl ?_
                    refine g_get (pc := 111) (T := TX7) (N := 33) (v := .ref (A 9)) C ib_X7 0 rfl rfl 11 (by decide) mf_X7_38 rfl rfl rfl dX7_keep_111 ?_
                    refine g_iload_n (pc := 114) C dX7_keep_114 2 rfl ?_
                    refine g_iald (pc := 115) (v := (τ 6) i) C 7 rfl i (rfl) ⟨by omega, by decide⟩ (rfl) dX7_keep_115 ?_
                    refine g_iast (pc := 116) (ws' := wN G m A τ y ++ ([iC G w 137 (upd (upd (upd (upd (va_cpy (τ 7) (va_cpy (τ 6) (va_cpy (τ 5) (va_cpy (τ 4) (va_cpy (τ 3) (va_cpy (τ 2) (va_cpy (τ 1) (va_cpy (τ 0) a 0 0 8) 0 8 8) 0 16 64) 0 80 i) 0 90 i) 0 100 i) 0 110 i) 0 120 i) (80 + i) ((τ 3) i)) (90 + i) ((τ 4) i)) (100 + i) ((τ 5) i)) (110 + i) ((τ 6) i))])) C rfl 9 rfl (110 + i) (rfl) ⟨by omega, by decide⟩ dX7_keep_116 rfl ?_
                    refine g_aload_n (pc := 117) C dX7_keep_117 1 rfl ?_
                    refine g_bipush (pc := 118) (v := 120) C dX7_keep_118 (by decide) ?_
                    refine g_iload_n (pc := 120) C dX7_keep_120 2 rfl ?_
                    refine g_iaddN (pc := 121) (i := 120) (j := i) C dX7_keep_121 ?_
                    refine g_aload_n (pc := 122) C dX7_keep_122 0 rfl ?_
                    refine g_get (pc := 123) (T := TX7) (N := 33) (v := .ref (A 10)) C ib_X7 0 rfl rfl 12 (by decide) mf_X7_41 rfl rfl rfl dX7_keep_123 ?_
                    refine g_iload_n (pc := 126) C dX7_keep_126 2 rfl ?_
                    refine g_iald (pc := 127) (v := (τ 7) i) C 8 rfl i (rfl) ⟨by omega, by decide⟩ (rfl) dX7_keep_127 ?_
                    refine g_iast (pc := 128) (ws' := wN G m A τ y ++ ([iC G w 137 (upd (upd (upd (upd (upd (va_cpy (τ 7) (va_cpy (τ 6) (va_cpy (τ 5) (va_cpy (τ 4) (va_cpy (τ 3) (va_cpy (τ 2) (va_cpy (τ 1) (va_cpy (τ 0) a 0 0 8) 0 8 8) 0 16 64) 0 80 i) 0 90 i) 0 100 i) 0 110 i) 0 120 i) (80 + i) ((τ 3) i)) (90 + i) ((τ 4) i)) (100 + i) ((τ 5) i)) (110 + i) ((τ 6) i)) (120 + i) ((τ 7) i))])) C rfl 9 rfl (120 + i) (rfl) ⟨by omega, by decide⟩ dX7_keep_128 rfl ?_
                    refine g_iinc (pc := 129) (v := nI (i + 1)) (lv' := [(2, .int (nI (i + 1))), (0, .ref m), (1, .ref w)]) C dX7_keep_129 2 rfl (nI_1 i) (by decide) rfl ?_
                    refine g_goto (pc := 132) (tgt := 63) C dX7_keep_132 (by decide) ?_
                    refine g_ws (ws' := wN G m A τ y ++ ([iC G w 137 (va_cpy (τ 7) (va_cpy (τ 6) (va_cpy (τ 5) (va_cpy (τ 4) (va_cpy (τ 3) (va_cpy (τ 2) (va_cpy (τ 1) (va_cpy (τ 0) a 0 0 8) 0 8 8) 0 16 64) 0 80 (i + 1)) 0 90 (i + 1)) 0 100 (i + 1)) 0 110 (i + 1)) 0 120 (i + 1))])) (by simp (disch := omega) only [cp_o, cp_s, cp_s0]) ?_
                    refine g_sub (lv' := [(0, .ref m), (1, .ref w), (2, .int (nI (i + 1)))]) [1, 2, 0] rfl ?_
                    exact ih63 (i + 1) (by first | assumption | omega) (by omega)
              refine g_ws (ws' := wN G m A τ y ++ ([iC G w 137 (va_cpy (τ 7) (va_cpy (τ 6) (va_cpy (τ 5) (va_cpy (τ 4) (va_cpy (τ 3) (va_cpy (τ 2) (va_cpy (τ 1) (va_cpy (τ 0) a 0 0 8) 0 8 8) 0 16 64) 0 80 0) 0 90 0) 0 100 0) 0 110 0) 0 120 0)])) (by rw [cp_0, cp_0, cp_0, cp_0, cp_0, show i = 64 from by omega]) ?_
              refine g_sub (lv' := [(0, .ref m), (1, .ref w), (2, .int (nI 0))]) [1, 2, 0] rfl ?_
              exact key_63 _ 0 (by first | assumption | omega) (Nat.lt_succ_self _)
            · refine g_aload_n (pc := 43) C dX7_keep_43 1 rfl ?_
              refine g_bipush (pc := 44) (v := 16) C dX7_keep_44 (by decide) ?_
              refine g_iload_n (pc := 46) C dX7_keep_46 2 rfl ?_
              refine g_iaddN (pc := 47) (i := 16) (j := i) C dX7_keep_47 ?_
              refine g_aload_n (pc := 48) C dX7_keep_48 0 rfl ?_
              refine g_get (pc := 49) (T := TX7) (N := 33) (v := .ref (A 5)) C ib_X7 0 rfl rfl 6 (by decide) mf_X7_26 rfl rfl rfl dX7_keep_49 ?_
              refine g_iload_n (pc := 52) C dX7_keep_52 2 rfl ?_
              refine g_iald (pc := 53) (v := (τ 2) i) C 3 rfl i (rfl) ⟨by omega, by decide⟩ (rfl) dX7_keep_53 ?_
              refine g_iast (pc := 54) (ws' := wN G m A τ y ++ ([iC G w 137 (upd (va_cpy (τ 2) (va_cpy (τ 1) (va_cpy (τ 0) a 0 0 8) 0 8 8) 0 16 i) (16 + i) ((τ 2) i))])) C rfl 9 rfl (16 + i) (rfl) ⟨by omega, by decide⟩ dX7_keep_54 rfl ?_
              refine g_iinc (pc := 55) (v := nI (i + 1)) (lv' := [(2, .int (nI (i + 1))), (0, .ref m), (1, .ref w)]) C dX7_keep_55 2 rfl (nI_1 i) (by decide) rfl ?_
              refine g_goto (pc := 58) (tgt := 37) C dX7_keep_58 (by decide) ?_
              refine g_ws (ws' := wN G m A τ y ++ ([iC G w 137 (va_cpy (τ 2) (va_cpy (τ 1) (va_cpy (τ 0) a 0 0 8) 0 8 8) 0 16 (i + 1))])) (by rw [cp_s]) ?_
              refine g_sub (lv' := [(0, .ref m), (1, .ref w), (2, .int (nI (i + 1)))]) [1, 2, 0] rfl ?_
              exact ih37 (i + 1) (by first | assumption | omega) (by omega)
        refine g_ws (ws' := wN G m A τ y ++ ([iC G w 137 (va_cpy (τ 2) (va_cpy (τ 1) (va_cpy (τ 0) a 0 0 8) 0 8 8) 0 16 0)])) (by rw [cp_0, show i = 8 from by omega]) ?_
        refine g_sub (lv' := [(0, .ref m), (1, .ref w), (2, .int (nI 0))]) [1, 2, 0] rfl ?_
        exact key_37 _ 0 (by first | assumption | omega) (Nat.lt_succ_self _)
      · refine g_aload_n (pc := 8) C dX7_keep_8 1 rfl ?_
        refine g_iload_n (pc := 9) C dX7_keep_9 2 rfl ?_
        refine g_aload_n (pc := 10) C dX7_keep_10 0 rfl ?_
        refine g_get (pc := 11) (T := TX7) (N := 33) (v := .ref (A 3)) C ib_X7 0 rfl rfl 4 (by decide) mf_X7_20 rfl rfl rfl dX7_keep_11 ?_
        refine g_iload_n (pc := 14) C dX7_keep_14 2 rfl ?_
        refine g_iald (pc := 15) (v := (τ 0) i) C 1 rfl i (rfl) ⟨by omega, by decide⟩ (rfl) dX7_keep_15 ?_
        refine g_iast (pc := 16) (ws' := wN G m A τ y ++ ([iC G w 137 (upd (va_cpy (τ 1) (va_cpy (τ 0) a 0 0 i) 0 8 i) i ((τ 0) i))])) C rfl 9 rfl i (rfl) ⟨by omega, by decide⟩ dX7_keep_16 rfl ?_
        refine g_aload_n (pc := 17) C dX7_keep_17 1 rfl ?_
        refine g_bipush (pc := 18) (v := 8) C dX7_keep_18 (by decide) ?_
        refine g_iload_n (pc := 20) C dX7_keep_20 2 rfl ?_
        refine g_iaddN (pc := 21) (i := 8) (j := i) C dX7_keep_21 ?_
        refine g_aload_n (pc := 22) C dX7_keep_22 0 rfl ?_
        refine g_get (pc := 23) (T := TX7) (N := 33) (v := .ref (A 4)) C ib_X7 0 rfl rfl 5 (by decide) mf_X7_23 rfl rfl rfl dX7_keep_23 ?_
        refine g_iload_n (pc := 26) C dX7_keep_26 2 rfl ?_
        refine g_iald (pc := 27) (v := (τ 1) i) C 2 rfl i (rfl) ⟨by omega, by decide⟩ (rfl) dX7_keep_27 ?_
        refine g_iast (pc := 28) (ws' := wN G m A τ y ++ ([iC G w 137 (upd (upd (va_cpy (τ 1) (va_cpy (τ 0) a 0 0 i) 0 8 i) i ((τ 0) i)) (8 + i) ((τ 1) i))])) C rfl 9 rfl (8 + i) (rfl) ⟨by omega, by decide⟩ dX7_keep_28 rfl ?_
        refine g_iinc (pc := 29) (v := nI (i + 1)) (lv' := [(2, .int (nI (i + 1))), (0, .ref m), (1, .ref w)]) C dX7_keep_29 2 rfl (nI_1 i) (by decide) rfl ?_
        refine g_goto (pc := 32) (tgt := 2) C dX7_keep_32 (by decide) ?_
        refine g_ws (ws' := wN G m A τ y ++ ([iC G w 137 (va_cpy (τ 1) (va_cpy (τ 0) a 0 0 (i + 1)) 0 8 (i + 1))])) (by simp (disch := omega) only [cp_o, cp_s, cp_s0]) ?_
        refine g_sub (lv' := [(0, .ref m), (1, .ref w), (2, .int (nI (i + 1)))]) [1, 2, 0] rfl ?_
        exact ih2 (i + 1) (by first | assumption | omega) (by omega)
  refine g_ws (ws' := wN G m A τ y ++ ([iC G w 137 (va_cpy (τ 1) (va_cpy (τ 0) a 0 0 0) 0 8 0)])) (by rw [cp_0, cp_0]) ?_
  refine g_sub (lv' := [(0, .ref m), (1, .ref w), (2, .int (nI 0))]) [1, 2, 0] rfl ?_
  exact key_2 _ 0 (by first | assumption | omega) (Nat.lt_succ_self _)
set_option maxRecDepth 20000 in
set_option maxHeartbeats 4000000 in
theorem c_X7_again (l : Launch) (G : gT) (m : Nat) (A : Nat → Nat) (τ : tT) (y : Nat → Int32) (w : Nat) (a : Nat → Int32) (σ : tT) (hf : kR a σ) : WV l yX7_again cX7_again 3 (none) 1 0 0 G [.ref m, .ref w] (wN G m A τ y ++ ([iC G w 137 a])) (S := Unit) (fun _ => True) (fun _ => wN G m A σ y ++ ([iC G w 137 a])) := by
  intro sz9
  refine start_W (by decide) (Nat.le_of_ble_eq_true rfl) (fun p9 e9 s9 m9 a9 b9 t9 c9 C => ?_)
  refine g_lv (lv' := [(0, .ref m), (1, .ref w)]) rfl ?_
  refine g_iconst (pc := 0) (v := 0) C dX7_again_0 (by decide) ?_
  refine g_istore_n (pc := 1) (lv' := [(2, .int 0), (0, .ref m), (1, .ref w)]) C dX7_again_1 rfl (by decide) rfl ?_
  have key_2 : ∀ (n2 : Nat) (i : Nat) (hi : i ≤ 8), 8 - i < n2 → GW p9 l e9 (rmh 1 0 0) s9 m9 a9 b9 t9 c9 (MQ b9 (va_Qv (fun (_ : Unit) => True) (BW G (wN G m A τ y ++ ([iC G w 137 a])) sz9 (fun _ => wN G m A σ y ++ ([iC G w 137 a]))) (va_A (wN G m A τ y ++ ([iC G w 137 a])) sz9)) a9 s9 0 0 (va_A (wN G m A τ y ++ ([iC G w 137 a])) sz9)) G (va_A (wN G m A τ y ++ ([iC G w 137 a])) sz9) true 3 0 0 ([oC m 6 [.ref (A 0), .ref (A 1), .ref (A 2), .int (τ 8 0), .ref (A 3), .ref (A 4), .ref (A 5), .int (τ 8 1), .ref (A 6), .ref (A 7), .ref (A 8), .ref (A 9), .ref (A 10), .int (τ 8 2), .int (τ 8 3), .int (τ 8 5), .int (τ 8 6), .int (τ 8 4), .int (y 0), .ref (A 11), .int (y 1), .ref (A 12), .int (y 2), .ref (A 13), .ref (A 14), .int (y 3), .int (y 4), .ref (A 15), .ref (A 16), .ref (A 17), .ref (A 18), .ref (A 19), .int (y 5)], iC G (A 3) 8 (frW a (τ 0) i), iC G (A 4) 8 (frW (fun k9 => a (8 + k9)) (τ 1) i), iC G (A 5) 64 (frW (fun k9 => a (16 + k9)) (τ 2) 0), iC G (A 6) 10 (frW (fun k9 => a (80 + k9)) (τ 3) 0), iC G (A 7) 10 (frW (fun k9 => a (90 + k9)) (τ 4) 0), iC G (A 8) 10 (frW (fun k9 => a (100 + k9)) (τ 5) 0), iC G (A 9) 10 (frW (fun k9 => a (110 + k9)) (τ 6) 0), iC G (A 10) 10 (frW (fun k9 => a (120 + k9)) (τ 7) 0), iC G w 137 a]) [(0, .ref m), (1, .ref w), (2, .int (nI i))] 2 [] := by
    intro n2
    induction n2 with
    | zero => intro i hi hn2; exact absurd hn2 (Nat.not_lt_zero _)
    | succ n2 ih2 =>
      intro i hi hn2
      refine g_iload_n (pc := 2) C dX7_again_2 2 rfl ?_
      refine g_bipush (pc := 3) (v := 8) C dX7_again_3 (by decide) ?_
      refine g_icmpN_ge (pc := 5) (i := i) (j := 8) (tgt := 35) C dX7_again_5 (by decide) ⟨by omega, by omega⟩ (fun h5 => ?_) (fun h5 => ?_)
      · refine g_iconst (pc := 35) (v := 0) C dX7_again_35 (by decide) ?_
        refine g_istore_n (pc := 36) (lv' := [(2, .int 0), (0, .ref m), (1, .ref w)]) C dX7_again_36 rfl (by decide) rfl ?_
        have key_37 : ∀ (n37 : Nat) (i : Nat) (hi : i ≤ 64), 64 - i < n37 → GW p9 l e9 (rmh 1 0 0) s9 m9 a9 b9 t9 c9 (MQ b9 (va_Qv (fun (_ : Unit) => True) (BW G (wN G m A τ y ++ ([iC G w 137 a])) sz9 (fun _ => wN G m A σ y ++ ([iC G w 137 a]))) (va_A (wN G m A τ y ++ ([iC G w 137 a])) sz9)) a9 s9 0 0 (va_A (wN G m A τ y ++ ([iC G w 137 a])) sz9)) G (va_A (wN G m A τ y ++ ([iC G w 137 a])) sz9) true 3 0 0 ([oC m 6 [.ref (A 0), .ref (A 1), .ref (A 2), .int (τ 8 0), .ref (A 3), .ref (A 4), .ref (A 5), .int (τ 8 1), .ref (A 6), .ref (A 7), .ref (A 8), .ref (A 9), .ref (A 10), .int (τ 8 2), .int (τ 8 3), .int (τ 8 5), .int (τ 8 6), .int (τ 8 4), .int (y 0), .ref (A 11), .int (y 1), .ref (A 12), .int (y 2), .ref (A 13), .ref (A 14), .int (y 3), .int (y 4), .ref (A 15), .ref (A 16), .ref (A 17), .ref (A 18), .ref (A 19), .int (y 5)], iC G (A 3) 8 (frW a (τ 0) 8), iC G (A 4) 8 (frW (fun k9 => a (8 + k9)) (τ 1) 8), iC G (A 5) 64 (frW (fun k9 => a (16 + k9)) (τ 2) i), iC G (A 6) 10 (frW (fun k9 => a (80 + k9)) (τ 3) 0), iC G (A 7) 10 (frW (fun k9 => a (90 + k9)) (τ 4) 0), iC G (A 8) 10 (frW (fun k9 => a (100 + k9)) (τ 5) 0), iC G (A 9) 10 (frW (fun k9 => a (110 + k9)) (τ 6) 0), iC G (A 10) 10 (frW (fun k9 => a (120 + k9)) (τ 7) 0), iC G w 137 a]) [(0, .ref m), (1, .ref w), (2, .int (nI i))] 37 [] := by
          intro n37
          induction n37 with
          | zero => intro i hi hn37; exact absurd hn37 (Nat.not_lt_zero _)
          | succ n37 ih37 =>
            intro i hi hn37
            refine g_iload_n (pc := 37) C dX7_again_37 2 rfl ?_
            refine g_bipush (pc := 38) (v := 64) C dX7_again_38 (by decide) ?_
            refine g_icmpN_ge (pc := 40) (i := i) (j := 64) (tgt := 61) C dX7_again_40 (by decide) ⟨by omega, by omega⟩ (fun h40 => ?_) (fun h40 => ?_)
            · refine g_iconst (pc := 61) (v := 0) C dX7_again_61 (by decide) ?_
              refine g_istore_n (pc := 62) (lv' := [(2, .int 0), (0, .ref m), (1, .ref w)]) C dX7_again_62 rfl (by decide) rfl ?_
              have key_63 : ∀ (n63 : Nat) (i : Nat) (hi : i ≤ 10), 10 - i < n63 → GW p9 l e9 (rmh 1 0 0) s9 m9 a9 b9 t9 c9 (MQ b9 (va_Qv (fun (_ : Unit) => True) (BW G (wN G m A τ y ++ ([iC G w 137 a])) sz9 (fun _ => wN G m A σ y ++ ([iC G w 137 a]))) (va_A (wN G m A τ y ++ ([iC G w 137 a])) sz9)) a9 s9 0 0 (va_A (wN G m A τ y ++ ([iC G w 137 a])) sz9)) G (va_A (wN G m A τ y ++ ([iC G w 137 a])) sz9) true 3 0 0 ([oC m 6 [.ref (A 0), .ref (A 1), .ref (A 2), .int (τ 8 0), .ref (A 3), .ref (A 4), .ref (A 5), .int (τ 8 1), .ref (A 6), .ref (A 7), .ref (A 8), .ref (A 9), .ref (A 10), .int (τ 8 2), .int (τ 8 3), .int (τ 8 5), .int (τ 8 6), .int (τ 8 4), .int (y 0), .ref (A 11), .int (y 1), .ref (A 12), .int (y 2), .ref (A 13), .ref (A 14), .int (y 3), .int (y 4), .ref (A 15), .ref (A 16), .ref (A 17), .ref (A 18), .ref (A 19), .int (y 5)], iC G (A 3) 8 (frW a (τ 0) 8), iC G (A 4) 8 (frW (fun k9 => a (8 + k9)) (τ 1) 8), iC G (A 5) 64 (frW (fun k9 => a (16 + k9)) (τ 2) 64), iC G (A 6) 10 (frW (fun k9 => a (80 + k9)) (τ 3) i), iC G (A 7) 10 (frW (fun k9 => a (90 + k9)) (τ 4) i), iC G (A 8) 10 (frW (fun k9 => a (100 + k9)) (τ 5) i), iC G (A 9) 10 (frW (fun k9 => a (110 + k9)) (τ 6) i), iC G (A 10) 10 (frW (fun k9 => a (120 + k9)) (τ 7) i), iC G w 137 a]) [(0, .ref m), (1, .ref w), (2, .int (nI i))] 63 [] := by
                intro n63
                induction n63 with
                | zero => intro i hi hn63; exact absurd hn63 (Nat.not_lt_zero _)
                | succ n63 ih63 =>
                  intro i hi hn63
                  refine g_iload_n (pc := 63) C dX7_again_63 2 rfl ?_
                  refine g_bipush (pc := 64) (v := 10) C dX7_again_64 (by decide) ?_
                  refine g_icmpN_ge (pc := 66) (i := i) (j := 10) (tgt := 135) C dX7_again_66 (by decide) ⟨by omega, by omega⟩ (fun h66 => ?_) (fun h66 => ?_)
                  · refine g_wsI (σ 0) (ws' := [oC m 6 [.ref (A 0), .ref (A 1), .ref (A 2), .int (τ 8 0), .ref (A 3), .ref (A 4), .ref (A 5), .int (τ 8 1), .ref (A 6), .ref (A 7), .ref (A 8), .ref (A 9), .ref (A 10), .int (τ 8 2), .int (τ 8 3), .int (τ 8 5), .int (τ 8 6), .int (τ 8 4), .int (y 0), .ref (A 11), .int (y 1), .ref (A 12), .int (y 2), .ref (A 13), .ref (A 14), .int (y 3), .int (y 4), .ref (A 15), .ref (A 16), .ref (A 17), .ref (A 18), .ref (A 19), .int (y 5)], iC G (A 3) 8 (σ 0), iC G (A 4) 8 (frW (fun k9 => a (8 + k9)) (τ 1) 8), iC G (A 5) 64 (frW (fun k9 => a (16 + k9)) (τ 2) 64), iC G (A 6) 10 (frW (fun k9 => a (80 + k9)) (τ 3) i), iC G (A 7) 10 (frW (fun k9 => a (90 + k9)) (τ 4) i), iC G (A 8) 10 (frW (fun k9 => a (100 + k9)) (τ 5) i), iC G (A 9) 10 (frW (fun k9 => a (110 + k9)) (τ 6) i), iC G (A 10) 10 (frW (fun k9 => a (120 + k9)) (τ 7) i), iC G w 137 a]) 1 rfl (fun j hj => by rw [frW_lt hj]; exact (hf.1 j hj).1) rfl ?_
                    refine g_wsI (σ 1) (ws' := [oC m 6 [.ref (A 0), .ref (A 1), .ref (A 2), .int (τ 8 0), .ref (A 3), .ref (A 4), .ref (A 5), .int (τ 8 1), .ref (A 6), .ref (A 7), .ref (A 8), .ref (A 9), .ref (A 10), .int (τ 8 2), .int (τ 8 3), .int (τ 8 5), .int (τ 8 6), .int (τ 8 4), .int (y 0), .ref (A 11), .int (y 1), .ref (A 12), .int (y 2), .ref (A 13), .ref (A 14), .int (y 3), .int (y 4), .ref (A 15), .ref (A 16), .ref (A 17), .ref (A 18), .ref (A 19), .int (y 5)], iC G (A 3) 8 (σ 0), iC G (A 4) 8 (σ 1), iC G (A 5) 64 (frW (fun k9 => a (16 + k9)) (τ 2) 64), iC G (A 6) 10 (frW (fun k9 => a (80 + k9)) (τ 3) i), iC G (A 7) 10 (frW (fun k9 => a (90 + k9)) (τ 4) i), iC G (A 8) 10 (frW (fun k9 => a (100 + k9)) (τ 5) i), iC G (A 9) 10 (frW (fun k9 => a (110 + k9)) (τ 6) i), iC G (A 10) 10 (frW (fun k9 => a (120 + k9)) (τ 7) i), iC G w 137 a]) 2 rfl (fun j hj => by rw [frW_lt hj]; exact (hf.1 j hj).2) rfl ?_
                    refine g_wsI (σ 2) (ws' := [oC m 6 [.ref (A 0), .ref (A 1), .ref (A 2), .int (τ 8 0), .ref (A 3), .ref (A 4), .ref (A 5), .int (τ 8 1), .ref (A 6), .ref (A 7), .ref (A 8), .ref (A 9), .ref (A 10), .int (τ 8 2), .int (τ 8 3), .int (τ 8 5), .int (τ 8 6), .int (τ 8 4), .int (y 0), .ref (A 11), .int (y 1), .ref (A 12), .int (y 2), .ref (A 13), .ref (A 14), .int (y 3), .int (y 4), .ref (A 15), .ref (A 16), .ref (A 17), .ref (A 18), .ref (A 19), .int (y 5)], iC G (A 3) 8 (σ 0), iC G (A 4) 8 (σ 1), iC G (A 5) 64 (σ 2), iC G (A 6) 10 (frW (fun k9 => a (80 + k9)) (τ 3) i), iC G (A 7) 10 (frW (fun k9 => a (90 + k9)) (τ 4) i), iC G (A 8) 10 (frW (fun k9 => a (100 + k9)) (τ 5) i), iC G (A 9) 10 (frW (fun k9 => a (110 + k9)) (τ 6) i), iC G (A 10) 10 (frW (fun k9 => a (120 + k9)) (τ 7) i), iC G w 137 a]) 3 rfl (fun j hj => by rw [frW_lt hj]; exact hf.2.1 j hj) rfl ?_
                    refine g_wsI (σ 3) (ws' := [oC m 6 [.ref (A 0), .ref (A 1), .ref (A 2), .int (τ 8 0), .ref (A 3), .ref (A 4), .ref (A 5), .int (τ 8 1), .ref (A 6), .ref (A 7), .ref (A 8), .ref (A 9), .ref (A 10), .int (τ 8 2), .int (τ 8 3), .int (τ 8 5), .int (τ 8 6), .int (τ 8 4), .int (y 0), .ref (A 11), .int (y 1), .ref (A 12), .int (y 2), .ref (A 13), .ref (A 14), .int (y 3), .int (y 4), .ref (A 15), .ref (A 16), .ref (A 17), .ref (A 18), .ref (A 19), .int (y 5)], iC G (A 3) 8 (σ 0), iC G (A 4) 8 (σ 1), iC G (A 5) 64 (σ 2), iC G (A 6) 10 (σ 3), iC G (A 7) 10 (frW (fun k9 => a (90 + k9)) (τ 4) i), iC G (A 8) 10 (frW (fun k9 => a (100 + k9)) (τ 5) i), iC G (A 9) 10 (frW (fun k9 => a (110 + k9)) (τ 6) i), iC G (A 10) 10 (frW (fun k9 => a (120 + k9)) (τ 7) i), iC G w 137 a]) 4 rfl (fun j hj => by rw [frW_lt (by omega)]; exact (hf.2.2.1 j hj).1) rfl ?_
                    refine g_wsI (σ 4) (ws' := [oC m 6 [.ref (A 0), .ref (A 1), .ref (A 2), .int (τ 8 0), .ref (A 3), .ref (A 4), .ref (A 5), .int (τ 8 1), .ref (A 6), .ref (A 7), .ref (A 8), .ref (A 9), .ref (A 10), .int (τ 8 2), .int (τ 8 3), .int (τ 8 5), .int (τ 8 6), .int (τ 8 4), .int (y 0), .ref (A 11), .int (y 1), .ref (A 12), .int (y 2), .ref (A 13), .ref (A 14), .int (y 3), .int (y 4), .ref (A 15), .ref (A 16), .ref (A 17), .ref (A 18), .ref (A 19), .int (y 5)], iC G (A 3) 8 (σ 0), iC G (A 4) 8 (σ 1), iC G (A 5) 64 (σ 2), iC G (A 6) 10 (σ 3), iC G (A 7) 10 (σ 4), iC G (A 8) 10 (frW (fun k9 => a (100 + k9)) (τ 5) i), iC G (A 9) 10 (frW (fun k9 => a (110 + k9)) (τ 6) i), iC G (A 10) 10 (frW (fun k9 => a (120 + k9)) (τ 7) i), iC G w 137 a]) 5 rfl (fun j hj => by rw [frW_lt (by omega)]; exact (hf.2.2.1 j hj).2.1) rfl ?_
                    refine g_wsI (σ 5) (ws' := [oC m 6 [.ref (A 0), .ref (A 1), .ref (A 2), .int (τ 8 0), .ref (A 3), .ref (A 4), .ref (A 5), .int (τ 8 1), .ref (A 6), .ref (A 7), .ref (A 8), .ref (A 9), .ref (A 10), .int (τ 8 2), .int (τ 8 3), .int (τ 8 5), .int (τ 8 6), .int (τ 8 4), .int (y 0), .ref (A 11), .int (y 1), .ref (A 12), .int (y 2), .ref (A 13), .ref (A 14), .int (y 3), .int (y 4), .ref (A 15), .ref (A 16), .ref (A 17), .ref (A 18), .ref (A 19), .int (y 5)], iC G (A 3) 8 (σ 0), iC G (A 4) 8 (σ 1), iC G (A 5) 64 (σ 2), iC G (A 6) 10 (σ 3), iC G (A 7) 10 (σ 4), iC G (A 8) 10 (σ 5), iC G (A 9) 10 (frW (fun k9 => a (110 + k9)) (τ 6) i), iC G (A 10) 10 (frW (fun k9 => a (120 + k9)) (τ 7) i), iC G w 137 a]) 6 rfl (fun j hj => by rw [frW_lt (by omega)]; exact (hf.2.2.1 j hj).2.2.1) rfl ?_
                    refine g_wsI (σ 6) (ws' := [oC m 6 [.ref (A 0), .ref (A 1), .ref (A 2), .int (τ 8 0), .ref (A 3), .ref (A 4), .ref (A 5), .int (τ 8 1), .ref (A 6), .ref (A 7), .ref (A 8), .ref (A 9), .ref (A 10), .int (τ 8 2), .int (τ 8 3), .int (τ 8 5), .int (τ 8 6), .int (τ 8 4), .int (y 0), .ref (A 11), .int (y 1), .ref (A 12), .int (y 2), .ref (A 13), .ref (A 14), .int (y 3), .int (y 4), .ref (A 15), .ref (A 16), .ref (A 17), .ref (A 18), .ref (A 19), .int (y 5)], iC G (A 3) 8 (σ 0), iC G (A 4) 8 (σ 1), iC G (A 5) 64 (σ 2), iC G (A 6) 10 (σ 3), iC G (A 7) 10 (σ 4), iC G (A 8) 10 (σ 5), iC G (A 9) 10 (σ 6), iC G (A 10) 10 (frW (fun k9 => a (120 + k9)) (τ 7) i), iC G w 137 a]) 7 rfl (fun j hj => by rw [frW_lt (by omega)]; exact (hf.2.2.1 j hj).2.2.2.1) rfl ?_
                    refine g_wsI (σ 7) (ws' := [oC m 6 [.ref (A 0), .ref (A 1), .ref (A 2), .int (τ 8 0), .ref (A 3), .ref (A 4), .ref (A 5), .int (τ 8 1), .ref (A 6), .ref (A 7), .ref (A 8), .ref (A 9), .ref (A 10), .int (τ 8 2), .int (τ 8 3), .int (τ 8 5), .int (τ 8 6), .int (τ 8 4), .int (y 0), .ref (A 11), .int (y 1), .ref (A 12), .int (y 2), .ref (A 13), .ref (A 14), .int (y 3), .int (y 4), .ref (A 15), .ref (A 16), .ref (A 17), .ref (A 18), .ref (A 19), .int (y 5)], iC G (A 3) 8 (σ 0), iC G (A 4) 8 (σ 1), iC G (A 5) 64 (σ 2), iC G (A 6) 10 (σ 3), iC G (A 7) 10 (σ 4), iC G (A 8) 10 (σ 5), iC G (A 9) 10 (σ 6), iC G (A 10) 10 (σ 7), iC G w 137 a]) 8 rfl (fun j hj => by rw [frW_lt (by omega)]; exact (hf.2.2.1 j hj).2.2.2.2) rfl ?_
                    refine g_aload_n (pc := 135) C dX7_again_135 0 rfl ?_
                    refine g_aload_n (pc := 136) C dX7_again_136 1 rfl ?_
                    refine g_sipush (pc := 137) (v := 130) C dX7_again_137 (by decide) ?_
                    refine g_iald (pc := 140) (v := σ 8 0) C 9 rfl 130 (rfl) ⟨by omega, by decide⟩ (hf.2.2.2.1) dX7_again_140 ?_
                    refine g_put (pc := 141) (T := TX7) (N := 33) (ty := .int) (ws' := [oC m 6 [.ref (A 0), .ref (A 1), .ref (A 2), .int (σ 8 0), .ref (A 3), .ref (A 4), .ref (A 5), .int (τ 8 1), .ref (A 6), .ref (A 7), .ref (A 8), .ref (A 9), .ref (A 10), .int (τ 8 2), .int (τ 8 3), .int (τ 8 5), .int (τ 8 6), .int (τ 8 4), .int (y 0), .ref (A 11), .int (y 1), .ref (A 12), .int (y 2), .ref (A 13), .ref (A 14), .int (y 3), .int (y 4), .ref (A 15), .ref (A 16), .ref (A 17), .ref (A 18), .ref (A 19), .int (y 5)], iC G (A 3) 8 (σ 0), iC G (A 4) 8 (σ 1), iC G (A 5) 64 (σ 2), iC G (A 6) 10 (σ 3), iC G (A 7) 10 (σ 4), iC G (A 8) 10 (σ 5), iC G (A 9) 10 (σ 6), iC G (A 10) 10 (σ 7), iC G w 137 a]) C rfl ib_X7 tyX7 tyX7_ok nmX7 0 rfl rfl 3 (by decide) mf_X7_85 rfl rfl rfl (by decide +kernel) rfl rfl (Nat.le_of_ble_eq_true rfl) dX7_again_141 rfl ?_
                    refine g_aload_n (pc := 144) C dX7_again_144 0 rfl ?_
                    refine g_aload_n (pc := 145) C dX7_again_145 1 rfl ?_
                    refine g_sipush (pc := 146) (v := 131) C dX7_again_146 (by decide) ?_
                    refine g_iald (pc := 149) (v := σ 8 1) C 9 rfl 131 (rfl) ⟨by omega, by decide⟩ (hf.2.2.2.2.1) dX7_again_149 ?_
                    refine g_put (pc := 150) (T := TX7) (N := 33) (ty := .int) (ws' := [oC m 6 [.ref (A 0), .ref (A 1), .ref (A 2), .int (σ 8 0), .ref (A 3), .ref (A 4), .ref (A 5), .int (σ 8 1), .ref (A 6), .ref (A 7), .ref (A 8), .ref (A 9), .ref (A 10), .int (τ 8 2), .int (τ 8 3), .int (τ 8 5), .int (τ 8 6), .int (τ 8 4), .int (y 0), .ref (A 11), .int (y 1), .ref (A 12), .int (y 2), .ref (A 13), .ref (A 14), .int (y 3), .int (y 4), .ref (A 15), .ref (A 16), .ref (A 17), .ref (A 18), .ref (A 19), .int (y 5)], iC G (A 3) 8 (σ 0), iC G (A 4) 8 (σ 1), iC G (A 5) 64 (σ 2), iC G (A 6) 10 (σ 3), iC G (A 7) 10 (σ 4), iC G (A 8) 10 (σ 5), iC G (A 9) 10 (σ 6), iC G (A 10) 10 (σ 7), iC G w 137 a]) C rfl ib_X7 tyX7 tyX7_ok nmX7 0 rfl rfl 7 (by decide) mf_X7_92 rfl rfl rfl (by decide +kernel) rfl rfl (Nat.le_of_ble_eq_true rfl) dX7_again_150 rfl ?_
                    refine g_aload_n (pc := 153) C dX7_again_153 0 rfl ?_
                    refine g_aload_n (pc := 154) C dX7_again_154 1 rfl ?_
                    refine g_sipush (pc := 155) (v := 132) C dX7_again_155 (by decide) ?_
                    refine g_iald (pc := 158) (v := σ 8 2) C 9 rfl 132 (rfl) ⟨by omega, by decide⟩ (hf.2.2.2.2.2.1) dX7_again_158 ?_
                    refine g_put (pc := 159) (T := TX7) (N := 33) (ty := .int) (ws' := [oC m 6 [.ref (A 0), .ref (A 1), .ref (A 2), .int (σ 8 0), .ref (A 3), .ref (A 4), .ref (A 5), .int (σ 8 1), .ref (A 6), .ref (A 7), .ref (A 8), .ref (A 9), .ref (A 10), .int (σ 8 2), .int (τ 8 3), .int (τ 8 5), .int (τ 8 6), .int (τ 8 4), .int (y 0), .ref (A 11), .int (y 1), .ref (A 12), .int (y 2), .ref (A 13), .ref (A 14), .int (y 3), .int (y 4), .ref (A 15), .ref (A 16), .ref (A 17), .ref (A 18), .ref (A 19), .int (y 5)], iC G (A 3) 8 (σ 0), iC G (A 4) 8 (σ 1), iC G (A 5) 64 (σ 2), iC G (A 6) 10 (σ 3), iC G (A 7) 10 (σ 4), iC G (A 8) 10 (σ 5), iC G (A 9) 10 (σ 6), iC G (A 10) 10 (σ 7), iC G w 137 a]) C rfl ib_X7 tyX7 tyX7_ok nmX7 0 rfl rfl 13 (by decide) mf_X7_71 rfl rfl rfl (by decide +kernel) rfl rfl (Nat.le_of_ble_eq_true rfl) dX7_again_159 rfl ?_
                    refine g_aload_n (pc := 162) C dX7_again_162 0 rfl ?_
                    refine g_aload_n (pc := 163) C dX7_again_163 1 rfl ?_
                    refine g_sipush (pc := 164) (v := 133) C dX7_again_164 (by decide) ?_
                    refine g_iald (pc := 167) (v := σ 8 3) C 9 rfl 133 (rfl) ⟨by omega, by decide⟩ (hf.2.2.2.2.2.2.1) dX7_again_167 ?_
                    refine g_put (pc := 168) (T := TX7) (N := 33) (ty := .int) (ws' := [oC m 6 [.ref (A 0), .ref (A 1), .ref (A 2), .int (σ 8 0), .ref (A 3), .ref (A 4), .ref (A 5), .int (σ 8 1), .ref (A 6), .ref (A 7), .ref (A 8), .ref (A 9), .ref (A 10), .int (σ 8 2), .int (σ 8 3), .int (τ 8 5), .int (τ 8 6), .int (τ 8 4), .int (y 0), .ref (A 11), .int (y 1), .ref (A 12), .int (y 2), .ref (A 13), .ref (A 14), .int (y 3), .int (y 4), .ref (A 15), .ref (A 16), .ref (A 17), .ref (A 18), .ref (A 19), .int (y 5)], iC G (A 3) 8 (σ 0), iC G (A 4) 8 (σ 1), iC G (A 5) 64 (σ 2), iC G (A 6) 10 (σ 3), iC G (A 7) 10 (σ 4), iC G (A 8) 10 (σ 5), iC G (A 9) 10 (σ 6), iC G (A 10) 10 (σ 7), iC G w 137 a]) C rfl ib_X7 tyX7 tyX7_ok nmX7 0 rfl rfl 14 (by decide) mf_X7_139 rfl rfl rfl (by decide +kernel) rfl rfl (Nat.le_of_ble_eq_true rfl) dX7_again_168 rfl ?_
                    refine g_aload_n (pc := 171) C dX7_again_171 0 rfl ?_
                    refine g_aload_n (pc := 172) C dX7_again_172 1 rfl ?_
                    refine g_sipush (pc := 173) (v := 134) C dX7_again_173 (by decide) ?_
                    refine g_iald (pc := 176) (v := σ 8 5) C 9 rfl 134 (rfl) ⟨by omega, by decide⟩ (hf.2.2.2.2.2.2.2.1) dX7_again_176 ?_
                    refine g_put (pc := 177) (T := TX7) (N := 33) (ty := .int) (ws' := [oC m 6 [.ref (A 0), .ref (A 1), .ref (A 2), .int (σ 8 0), .ref (A 3), .ref (A 4), .ref (A 5), .int (σ 8 1), .ref (A 6), .ref (A 7), .ref (A 8), .ref (A 9), .ref (A 10), .int (σ 8 2), .int (σ 8 3), .int (σ 8 5), .int (τ 8 6), .int (τ 8 4), .int (y 0), .ref (A 11), .int (y 1), .ref (A 12), .int (y 2), .ref (A 13), .ref (A 14), .int (y 3), .int (y 4), .ref (A 15), .ref (A 16), .ref (A 17), .ref (A 18), .ref (A 19), .int (y 5)], iC G (A 3) 8 (σ 0), iC G (A 4) 8 (σ 1), iC G (A 5) 64 (σ 2), iC G (A 6) 10 (σ 3), iC G (A 7) 10 (σ 4), iC G (A 8) 10 (σ 5), iC G (A 9) 10 (σ 6), iC G (A 10) 10 (σ 7), iC G w 137 a]) C rfl ib_X7 tyX7 tyX7_ok nmX7 0 rfl rfl 15 (by decide) mf_X7_297 rfl rfl rfl (by decide +kernel) rfl rfl (Nat.le_of_ble_eq_true rfl) dX7_again_177 rfl ?_
                    refine g_aload_n (pc := 180) C dX7_again_180 0 rfl ?_
                    refine g_aload_n (pc := 181) C dX7_again_181 1 rfl ?_
                    refine g_sipush (pc := 182) (v := 135) C dX7_again_182 (by decide) ?_
                    refine g_iald (pc := 185) (v := σ 8 6) C 9 rfl 135 (rfl) ⟨by omega, by decide⟩ (hf.2.2.2.2.2.2.2.2.1) dX7_again_185 ?_
                    refine g_put (pc := 186) (T := TX7) (N := 33) (ty := .int) (ws' := [oC m 6 [.ref (A 0), .ref (A 1), .ref (A 2), .int (σ 8 0), .ref (A 3), .ref (A 4), .ref (A 5), .int (σ 8 1), .ref (A 6), .ref (A 7), .ref (A 8), .ref (A 9), .ref (A 10), .int (σ 8 2), .int (σ 8 3), .int (σ 8 5), .int (σ 8 6), .int (τ 8 4), .int (y 0), .ref (A 11), .int (y 1), .ref (A 12), .int (y 2), .ref (A 13), .ref (A 14), .int (y 3), .int (y 4), .ref (A 15), .ref (A 16), .ref (A 17), .ref (A 18), .ref (A 19), .int (y 5)], iC G (A 3) 8 (σ 0), iC G (A 4) 8 (σ 1), iC G (A 5) 64 (σ 2), iC G (A 6) 10 (σ 3), iC G (A 7) 10 (σ 4), iC G (A 8) 10 (σ 5), iC G (A 9) 10 (σ 6), iC G (A 10) 10 (σ 7), iC G w 137 a]) C rfl ib_X7 tyX7 tyX7_ok nmX7 0 rfl rfl 16 (by decide) mf_X7_291 rfl rfl rfl (by decide +kernel) rfl rfl (Nat.le_of_ble_eq_true rfl) dX7_again_186 rfl ?_
                    refine g_aload_n (pc := 189) C dX7_again_189 0 rfl ?_
                    refine g_aload_n (pc := 190) C dX7_again_190 1 rfl ?_
                    refine g_sipush (pc := 191) (v := 136) C dX7_again_191 (by decide) ?_
                    refine g_iald (pc := 194) (v := σ 8 4) C 9 rfl 136 (rfl) ⟨by omega, by decide⟩ (hf.2.2.2.2.2.2.2.2.2) dX7_again_194 ?_
                    refine g_put (pc := 195) (T := TX7) (N := 33) (ty := .int) (ws' := [oC m 6 [.ref (A 0), .ref (A 1), .ref (A 2), .int (σ 8 0), .ref (A 3), .ref (A 4), .ref (A 5), .int (σ 8 1), .ref (A 6), .ref (A 7), .ref (A 8), .ref (A 9), .ref (A 10), .int (σ 8 2), .int (σ 8 3), .int (σ 8 5), .int (σ 8 6), .int (σ 8 4), .int (y 0), .ref (A 11), .int (y 1), .ref (A 12), .int (y 2), .ref (A 13), .ref (A 14), .int (y 3), .int (y 4), .ref (A 15), .ref (A 16), .ref (A 17), .ref (A 18), .ref (A 19), .int (y 5)], iC G (A 3) 8 (σ 0), iC G (A 4) 8 (σ 1), iC G (A 5) 64 (σ 2), iC G (A 6) 10 (σ 3), iC G (A 7) 10 (σ 4), iC G (A 8) 10 (σ 5), iC G (A 9) 10 (σ 6), iC G (A 10) 10 (σ 7), iC G w 137 a]) C rfl ib_X7 tyX7 tyX7_ok nmX7 0 rfl rfl 17 (by decide) mf_X7_75 rfl rfl rfl (by decide +kernel) rfl rfl (Nat.le_of_ble_eq_true rfl) dX7_again_195 rfl ?_
                    exact g_retVW (pc := 198) C rfl rfl () trivial (by rfl) dX7_again_198
                  · refine g_aload_n (pc := 69) C dX7_again_69 0 rfl ?_
                    refine g_get (pc := 70) (T := TX7) (N := 33) (v := .ref (A 6)) C ib_X7 0 rfl rfl 8 (by decide) mf_X7_29 rfl rfl rfl dX7_again_70 ?_
                    refine g_iload_n (pc := 73) C dX7_again_73 2 rfl ?_
                    refine g_aload_n (pc := 74) C dX7_again_74 1 rfl ?_
                    refine g_bipush (pc := 75) (v := 80) C dX7_again_75 (by decide) ?_
                    refine g_iload_n (pc := 77) C dX7_again_77 2 rfl ?_
                    refine g_iaddN (pc := 78) (i := 80) (j := i) C dX7_again_78 ?_
                    refine g_iald (pc := 79) (v := a (80 + i)) C 9 rfl (80 + i) (rfl) ⟨by omega, by decide⟩ (rfl) dX7_again_79 ?_
                    refine g_iast (pc := 80) (ws' := [oC m 6 [.ref (A 0), .ref (A 1), .ref (A 2), .int (τ 8 0), .ref (A 3), .ref (A 4), .ref (A 5), .int (τ 8 1), .ref (A 6), .ref (A 7), .ref (A 8), .ref (A 9), .ref (A 10), .int (τ 8 2), .int (τ 8 3), .int (τ 8 5), .int (τ 8 6), .int (τ 8 4), .int (y 0), .ref (A 11), .int (y 1), .ref (A 12), .int (y 2), .ref (A 13), .ref (A 14), .int (y 3), .int (y 4), .ref (A 15), .ref (A 16), .ref (A 17), .ref (A 18), .ref (A 19), .int (y 5)], iC G (A 3) 8 (frW a (τ 0) 8), iC G (A 4) 8 (frW (fun k9 => a (8 + k9)) (τ 1) 8), iC G (A 5) 64 (frW (fun k9 => a (16 + k9)) (τ 2) 64), iC G (A 6) 10 (upd (frW (fun k9 => a (80 + k9)) (τ 3) i) i (a (80 + i))), iC G (A 7) 10 (frW (fun k9 => a (90 + k9)) (τ 4) i), iC G (A 8) 10 (frW (fun k9 => a (100 + k9)) (τ 5) i), iC G (A 9) 10 (frW (fun k9 => a (110 + k9)) (τ 6) i), iC G (A 10) 10 (frW (fun k9 => a (120 + k9)) (τ 7) i), iC G w 137 a]) C rfl 4 rfl i (rfl) ⟨by omega, by decide⟩ dX7_again_80 rfl ?_
                    refine g_aload_n (pc := 81) C dX7_again_81 0 rfl ?_
                    refine g_get (pc := 82) (T := TX7) (N := 33) (v := .ref (A 7)) C ib_X7 0 rfl rfl 9 (by decide) mf_X7_32 rfl rfl rfl dX7_again_82 ?_
                    refine g_iload_n (pc := 85) C dX7_again_85 2 rfl ?_
                    refine g_aload_n (pc := 86) C dX7_again_86 1 rfl ?_
                    refine g_bipush (pc := 87) (v := 90) C dX7_again_87 (by decide) ?_
                    refine g_iload_n (pc := 89) C dX7_again_89 2 rfl ?_
                    refine g_iaddN (pc := 90) (i := 90) (j := i) C dX7_again_90 ?_
                    refine g_iald (pc := 91) (v := a (90 + i)) C 9 rfl (90 + i) (rfl) ⟨by omega, by decide⟩ (rfl) dX7_again_91 ?_
                    refine g_iast (pc := 92) (ws' := [oC m 6 [.ref (A 0), .ref (A 1), .ref (A 2), .int (τ 8 0), .ref (A 3), .ref (A 4), .ref (A 5), .int (τ 8 1), .ref (A 6), .ref (A 7), .ref (A 8), .ref (A 9), .ref (A 10), .int (τ 8 2), .int (τ 8 3), .int (τ 8 5), .int (τ 8 6), .int (τ 8 4), .int (y 0), .ref (A 11), .int (y 1), .ref (A 12), .int (y 2), .ref (A 13), .ref (A 14), .int (y 3), .int (y 4), .ref (A 15), .ref (A 16), .ref (A 17), .ref (A 18), .ref (A 19), .int (y 5)], iC G (A 3) 8 (frW a (τ 0) 8), iC G (A 4) 8 (frW (fun k9 => a (8 + k9)) (τ 1) 8), iC G (A 5) 64 (frW (fun k9 => a (16 + k9)) (τ 2) 64), iC G (A 6) 10 (upd (frW (fun k9 => a (80 + k9)) (τ 3) i) i (a (80 + i))), iC G (A 7) 10 (upd (frW (fun k9 => a (90 + k9)) (τ 4) i) i (a (90 + i))), iC G (A 8) 10 (frW (fun k9 => a (100 + k9)) (τ 5) i), iC G (A 9) 10 (frW (fun k9 => a (110 + k9)) (τ 6) i), iC G (A 10) 10 (frW (fun k9 => a (120 + k9)) (τ 7) i), iC G w 137 a]) C rfl 5 rfl i (rfl) ⟨by omega, by decide⟩ dX7_again_92 rfl ?_
                    refine g_aload_n (pc := 93) C dX7_again_93 0 rfl ?_
                    refine g_get (pc := 94) (T := TX7) (N := 33) (v := .ref (A 8)) C ib_X7 0 rfl rfl 10 (by decide) mf_X7_35 rfl rfl rfl dX7_again_94 ?_
                    refine g_iload_n (pc := 97) C dX7_again_97 2 rfl ?_
                    refine g_aload_n (pc := 98) C dX7_again_98 1 rfl ?_
                    refine g_bipush (pc := 99) (v := 100) C dX7_again_99 (by decide) ?_
                    refine g_iload_n (pc := 101) C dX7_again_101 2 rfl ?_
                    refine g_iaddN (pc := 102) (i := 100) (j := i) C dX7_again_102 ?_
                    refine g_iald (pc := 103) (v := a (100 + i)) C 9 rfl (100 + i) (rfl) ⟨by omega, by decide⟩ (rfl) dX7_again_103 ?_
                    refine g_iast (pc := 104) (ws' := [oC m 6 [.ref (A 0), .ref (A 1), .ref (A 2), .int (τ 8 0), .ref (A 3), .ref (A 4), .ref (A 5), .int (τ 8 1), .ref (A 6), .ref (A 7), .ref (A 8), .ref (A 9), .ref (A 10), .int (τ 8 2), .int (τ 8 3), .int (τ 8 5), .int (τ 8 6), .int (τ 8 4), .int (y 0), .ref (A 11), .int (y 1), .ref (A 12), .int (y 2), .ref (A 13), .ref (A 14), .int (y 3), .int (y 4), .ref (A 15), .ref (A 16), .ref (A 17), .ref (A 18), .ref (A 19), .int (y 5)], iC G (A 3) 8 (frW a (τ 0) 8), iC G (A 4) 8 (frW (fun k9 => a (8 + k9)) (τ 1) 8), iC G (A 5) 64 (frW (fun k9 => a (16 + k9)) (τ 2) 64), iC G (A 6) 10 (upd (frW (fun k9 => a (80 + k9)) (τ 3) i) i (a (80 + i))), iC G (A 7) 10 (upd (frW (fun k9 => a (90 + k9)) (τ 4) i) i (a (90 + i))), iC G (A 8) 10 (upd (frW (fun k9 => a (100 + k9)) (τ 5) i) i (a (100 + i))), iC G (A 9) 10 (frW (fun k9 => a (110 + k9)) (τ 6) i), iC G (A 10) 10 (frW (fun k9 => a (120 + k9)) (τ 7) i), iC G w 137 a]) C rfl 6 rfl i (rfl) ⟨by omega, by decide⟩ dX7_again_104 rfl ?_
                    refine g_aload_n (pc := 105) C dX7_again_105 0 rfl ?_
                    refine g_get (pc := 106) (T := TX7) (N := 33) (v := .ref (A 9)) C ib_X7 0 rfl rfl 11 (by decide) mf_X7_38 rfl rfl rfl dX7_again_106 ?_
                    refine g_iload_n (pc := 109) C dX7_again_109 2 rfl ?_
                    refine g_aload_n (pc := 110) C dX7_again_110 1 rfl ?_
                    refine g_bipush (pc := 111) (v := 110) C dX7_again_111 (by decide) ?_
                    refine g_iload_n (pc := 113) C dX7_again_113 2 rfl ?_
                    refine g_iaddN (pc := 114) (i := 110) (j := i) C dX7_again_114 ?_
                    refine g_iald (pc := 115) (v := a (110 + i)) C 9 rfl (110 + i) (rfl) ⟨by omega, by decide⟩ (rfl) dX7_again_115 ?_
                    refine g_iast (pc := 116) (ws' := [oC m 6 [.ref (A 0), .ref (A 1), .ref (A 2), .int (τ 8 0), .ref (A 3), .ref (A 4), .ref (A 5), .int (τ 8 1), .ref (A 6), .ref (A 7), .ref (A 8), .ref (A 9), .ref (A 10), .int (τ 8 2), .int (τ 8 3), .int (τ 8 5), .int (τ 8 6), .int (τ 8 4), .int (y 0), .ref (A 11), .int (y 1), .ref (A 12), .int (y 2), .ref (A 13), .ref (A 14), .int (y 3), .int (y 4), .ref (A 15), .ref (A 16), .ref (A 17), .ref (A 18), .ref (A 19), .int (y 5)], iC G (A 3) 8 (frW a (τ 0) 8), iC G (A 4) 8 (frW (fun k9 => a (8 + k9)) (τ 1) 8), iC G (A 5) 64 (frW (fun k9 => a (16 + k9)) (τ 2) 64), iC G (A 6) 10 (upd (frW (fun k9 => a (80 + k9)) (τ 3) i) i (a (80 + i))), iC G (A 7) 10 (upd (frW (fun k9 => a (90 + k9)) (τ 4) i) i (a (90 + i))), iC G (A 8) 10 (upd (frW (fun k9 => a (100 + k9)) (τ 5) i) i (a (100 + i))), iC G (A 9) 10 (upd (frW (fun k9 => a (110 + k9)) (τ 6) i) i (a (110 + i))), iC G (A 10) 10 (frW (fun k9 => a (120 + k9)) (τ 7) i), iC G w 137 a]) C rfl 7 rfl i (rfl) ⟨by omega, by decide⟩ dX7_again_116 rfl ?_
                    refine g_aload_n (pc := 117) C dX7_again_117 0 rfl ?_
                    refine g_get (pc := 118) (T := TX7) (N := 33) (v := .ref (A 10)) C ib_X7 0 rfl rfl 12 (by decide) mf_X7_41 rfl rfl rfl dX7_again_118 ?_
                    refine g_iload_n (pc := 121) C dX7_again_121 2 rfl ?_
                    refine g_aload_n (pc := 122) C dX7_again_122 1 rfl ?_
                    refine g_bipush (pc := 123) (v := 120) C dX7_again_123 (by decide) ?_
                    refine g_iload_n (pc := 125) C dX7_again_125 2 rfl ?_
                    refine g_iaddN (pc := 126) (i := 120) (j := i) C dX7_again_126 ?_
                    refine g_iald (pc := 127) (v := a (120 + i)) C 9 rfl (120 + i) (rfl) ⟨by omega, by decide⟩ (rfl) dX7_again_127 ?_
                    refine g_iast (pc := 128) (ws' := [oC m 6 [.ref (A 0), .ref (A 1), .ref (A 2), .int (τ 8 0), .ref (A 3), .ref (A 4), .ref (A 5), .int (τ 8 1), .ref (A 6), .ref (A 7), .ref (A 8), .ref (A 9), .ref (A 10), .int (τ 8 2), .int (τ 8 3), .int (τ 8 5), .int (τ 8 6), .int (τ 8 4), .int (y 0), .ref (A 11), .int (y 1), .ref (A 12), .int (y 2), .ref (A 13), .ref (A 14), .int (y 3), .int (y 4), .ref (A 15), .ref (A 16), .ref (A 17), .ref (A 18), .ref (A 19), .int (y 5)], iC G (A 3) 8 (frW a (τ 0) 8), iC G (A 4) 8 (frW (fun k9 => a (8 + k9)) (τ 1) 8), iC G (A 5) 64 (frW (fun k9 => a (16 + k9)) (τ 2) 64), iC G (A 6) 10 (upd (frW (fun k9 => a (80 + k9)) (τ 3) i) i (a (80 + i))), iC G (A 7) 10 (upd (frW (fun k9 => a (90 + k9)) (τ 4) i) i (a (90 + i))), iC G (A 8) 10 (upd (frW (fun k9 => a (100 + k9)) (τ 5) i) i (a (100 + i))), iC G (A 9) 10 (upd (frW (fun k9 => a (110 + k9)) (τ 6) i) i (a (110 + i))), iC G (A 10) 10 (upd (frW (fun k9 => a (120 + k9)) (τ 7) i) i (a (120 + i))), iC G w 137 a]) C rfl 8 rfl i (rfl) ⟨by omega, by decide⟩ dX7_again_128 rfl ?_
                    refine g_iinc (pc := 129) (v := nI (i + 1)) (lv' := [(2, .int (nI (i + 1))), (0, .ref m), (1, .ref w)]) C dX7_again_129 2 rfl (nI_1 i) (by decide) rfl ?_
                    refine g_goto (pc := 132) (tgt := 63) C dX7_again_132 (by decide) ?_
                    refine g_ws (ws' := [oC m 6 [.ref (A 0), .ref (A 1), .ref (A 2), .int (τ 8 0), .ref (A 3), .ref (A 4), .ref (A 5), .int (τ 8 1), .ref (A 6), .ref (A 7), .ref (A 8), .ref (A 9), .ref (A 10), .int (τ 8 2), .int (τ 8 3), .int (τ 8 5), .int (τ 8 6), .int (τ 8 4), .int (y 0), .ref (A 11), .int (y 1), .ref (A 12), .int (y 2), .ref (A 13), .ref (A 14), .int (y 3), .int (y 4), .ref (A 15), .ref (A 16), .ref (A 17), .ref (A 18), .ref (A 19), .int (y 5)], iC G (A 3) 8 (frW a (τ 0) 8), iC G (A 4) 8 (frW (fun k9 => a (8 + k9)) (τ 1) 8), iC G (A 5) 64 (frW (fun k9 => a (16 + k9)) (τ 2) 64), iC G (A 6) 10 (frW (fun k9 => a (80 + k9)) (τ 3) (i + 1)), iC G (A 7) 10 (frW (fun k9 => a (90 + k9)) (τ 4) (i + 1)), iC G (A 8) 10 (frW (fun k9 => a (100 + k9)) (τ 5) (i + 1)), iC G (A 9) 10 (frW (fun k9 => a (110 + k9)) (τ 6) (i + 1)), iC G (A 10) 10 (frW (fun k9 => a (120 + k9)) (τ 7) (i + 1)), iC G w 137 a]) (by rw [← frW_s (fun k9 => a (80 + k9)), ← frW_s (fun k9 => a (90 + k9)), ← frW_s (fun k9 => a (100 + k9)), ← frW_s (fun k9 => a (110 + k9)), ← frW_s (fun k9 => a (120 + k9))]) ?_
                    refine g_sub (lv' := [(0, .ref m), (1, .ref w), (2, .int (nI (i + 1)))]) [1, 2, 0] rfl ?_
                    exact ih63 (i + 1) (by first | assumption | omega) (by omega)
              refine g_ws (ws' := [oC m 6 [.ref (A 0), .ref (A 1), .ref (A 2), .int (τ 8 0), .ref (A 3), .ref (A 4), .ref (A 5), .int (τ 8 1), .ref (A 6), .ref (A 7), .ref (A 8), .ref (A 9), .ref (A 10), .int (τ 8 2), .int (τ 8 3), .int (τ 8 5), .int (τ 8 6), .int (τ 8 4), .int (y 0), .ref (A 11), .int (y 1), .ref (A 12), .int (y 2), .ref (A 13), .ref (A 14), .int (y 3), .int (y 4), .ref (A 15), .ref (A 16), .ref (A 17), .ref (A 18), .ref (A 19), .int (y 5)], iC G (A 3) 8 (frW a (τ 0) 8), iC G (A 4) 8 (frW (fun k9 => a (8 + k9)) (τ 1) 8), iC G (A 5) 64 (frW (fun k9 => a (16 + k9)) (τ 2) 64), iC G (A 6) 10 (frW (fun k9 => a (80 + k9)) (τ 3) 0), iC G (A 7) 10 (frW (fun k9 => a (90 + k9)) (τ 4) 0), iC G (A 8) 10 (frW (fun k9 => a (100 + k9)) (τ 5) 0), iC G (A 9) 10 (frW (fun k9 => a (110 + k9)) (τ 6) 0), iC G (A 10) 10 (frW (fun k9 => a (120 + k9)) (τ 7) 0), iC G w 137 a]) (by rw [show i = 64 from by omega]) ?_
              refine g_sub (lv' := [(0, .ref m), (1, .ref w), (2, .int (nI 0))]) [1, 2, 0] rfl ?_
              exact key_63 _ 0 (by first | assumption | omega) (Nat.lt_succ_self _)
            · refine g_aload_n (pc := 43) C dX7_again_43 0 rfl ?_
              refine g_get (pc := 44) (T := TX7) (N := 33) (v := .ref (A 5)) C ib_X7 0 rfl rfl 6 (by decide) mf_X7_26 rfl rfl rfl dX7_again_44 ?_
              refine g_iload_n (pc := 47) C dX7_again_47 2 rfl ?_
              refine g_aload_n (pc := 48) C dX7_again_48 1 rfl ?_
              refine g_bipush (pc := 49) (v := 16) C dX7_again_49 (by decide) ?_
              refine g_iload_n (pc := 51) C dX7_again_51 2 rfl ?_
              refine g_iaddN (pc := 52) (i := 16) (j := i) C dX7_again_52 ?_
              refine g_iald (pc := 53) (v := a (16 + i)) C 9 rfl (16 + i) (rfl) ⟨by omega, by decide⟩ (rfl) dX7_again_53 ?_
              refine g_iast (pc := 54) (ws' := [oC m 6 [.ref (A 0), .ref (A 1), .ref (A 2), .int (τ 8 0), .ref (A 3), .ref (A 4), .ref (A 5), .int (τ 8 1), .ref (A 6), .ref (A 7), .ref (A 8), .ref (A 9), .ref (A 10), .int (τ 8 2), .int (τ 8 3), .int (τ 8 5), .int (τ 8 6), .int (τ 8 4), .int (y 0), .ref (A 11), .int (y 1), .ref (A 12), .int (y 2), .ref (A 13), .ref (A 14), .int (y 3), .int (y 4), .ref (A 15), .ref (A 16), .ref (A 17), .ref (A 18), .ref (A 19), .int (y 5)], iC G (A 3) 8 (frW a (τ 0) 8), iC G (A 4) 8 (frW (fun k9 => a (8 + k9)) (τ 1) 8), iC G (A 5) 64 (upd (frW (fun k9 => a (16 + k9)) (τ 2) i) i (a (16 + i))), iC G (A 6) 10 (frW (fun k9 => a (80 + k9)) (τ 3) 0), iC G (A 7) 10 (frW (fun k9 => a (90 + k9)) (τ 4) 0), iC G (A 8) 10 (frW (fun k9 => a (100 + k9)) (τ 5) 0), iC G (A 9) 10 (frW (fun k9 => a (110 + k9)) (τ 6) 0), iC G (A 10) 10 (frW (fun k9 => a (120 + k9)) (τ 7) 0), iC G w 137 a]) C rfl 3 rfl i (rfl) ⟨by omega, by decide⟩ dX7_again_54 rfl ?_
              refine g_iinc (pc := 55) (v := nI (i + 1)) (lv' := [(2, .int (nI (i + 1))), (0, .ref m), (1, .ref w)]) C dX7_again_55 2 rfl (nI_1 i) (by decide) rfl ?_
              refine g_goto (pc := 58) (tgt := 37) C dX7_again_58 (by decide) ?_
              refine g_ws (ws' := [oC m 6 [.ref (A 0), .ref (A 1), .ref (A 2), .int (τ 8 0), .ref (A 3), .ref (A 4), .ref (A 5), .int (τ 8 1), .ref (A 6), .ref (A 7), .ref (A 8), .ref (A 9), .ref (A 10), .int (τ 8 2), .int (τ 8 3), .int (τ 8 5), .int (τ 8 6), .int (τ 8 4), .int (y 0), .ref (A 11), .int (y 1), .ref (A 12), .int (y 2), .ref (A 13), .ref (A 14), .int (y 3), .int (y 4), .ref (A 15), .ref (A 16), .ref (A 17), .ref (A 18), .ref (A 19), .int (y 5)], iC G (A 3) 8 (frW a (τ 0) 8), iC G (A 4) 8 (frW (fun k9 => a (8 + k9)) (τ 1) 8), iC G (A 5) 64 (frW (fun k9 => a (16 + k9)) (τ 2) (i + 1)), iC G (A 6) 10 (frW (fun k9 => a (80 + k9)) (τ 3) 0), iC G (A 7) 10 (frW (fun k9 => a (90 + k9)) (τ 4) 0), iC G (A 8) 10 (frW (fun k9 => a (100 + k9)) (τ 5) 0), iC G (A 9) 10 (frW (fun k9 => a (110 + k9)) (τ 6) 0), iC G (A 10) 10 (frW (fun k9 => a (120 + k9)) (τ 7) 0), iC G w 137 a]) (by rw [← frW_s (fun k9 => a (16 + k9))]) ?_
              refine g_sub (lv' := [(0, .ref m), (1, .ref w), (2, .int (nI (i + 1)))]) [1, 2, 0] rfl ?_
              exact ih37 (i + 1) (by first | assumption | omega) (by omega)
        refine g_ws (ws' := [oC m 6 [.ref (A 0), .ref (A 1), .ref (A 2), .int (τ 8 0), .ref (A 3), .ref (A 4), .ref (A 5), .int (τ 8 1), .ref (A 6), .ref (A 7), .ref (A 8), .ref (A 9), .ref (A 10), .int (τ 8 2), .int (τ 8 3), .int (τ 8 5), .int (τ 8 6), .int (τ 8 4), .int (y 0), .ref (A 11), .int (y 1), .ref (A 12), .int (y 2), .ref (A 13), .ref (A 14), .int (y 3), .int (y 4), .ref (A 15), .ref (A 16), .ref (A 17), .ref (A 18), .ref (A 19), .int (y 5)], iC G (A 3) 8 (frW a (τ 0) 8), iC G (A 4) 8 (frW (fun k9 => a (8 + k9)) (τ 1) 8), iC G (A 5) 64 (frW (fun k9 => a (16 + k9)) (τ 2) 0), iC G (A 6) 10 (frW (fun k9 => a (80 + k9)) (τ 3) 0), iC G (A 7) 10 (frW (fun k9 => a (90 + k9)) (τ 4) 0), iC G (A 8) 10 (frW (fun k9 => a (100 + k9)) (τ 5) 0), iC G (A 9) 10 (frW (fun k9 => a (110 + k9)) (τ 6) 0), iC G (A 10) 10 (frW (fun k9 => a (120 + k9)) (τ 7) 0), iC G w 137 a]) (by rw [show i = 8 from by omega]) ?_
        refine g_sub (lv' := [(0, .ref m), (1, .ref w), (2, .int (nI 0))]) [1, 2, 0] rfl ?_
        exact key_37 _ 0 (by first | assumption | omega) (Nat.lt_succ_self _)
      · refine g_aload_n (pc := 8) C dX7_again_8 0 rfl ?_
        refine g_get (pc := 9) (T := TX7) (N := 33) (v := .ref (A 3)) C ib_X7 0 rfl rfl 4 (by decide) mf_X7_20 rfl rfl rfl dX7_again_9 ?_
        refine g_iload_n (pc := 12) C dX7_again_12 2 rfl ?_
        refine g_aload_n (pc := 13) C dX7_again_13 1 rfl ?_
        refine g_iload_n (pc := 14) C dX7_again_14 2 rfl ?_
        refine g_iald (pc := 15) (v := a i) C 9 rfl i (rfl) ⟨by omega, by decide⟩ (rfl) dX7_again_15 ?_
        refine g_iast (pc := 16) (ws' := [oC m 6 [.ref (A 0), .ref (A 1), .ref (A 2), .int (τ 8 0), .ref (A 3), .ref (A 4), .ref (A 5), .int (τ 8 1), .ref (A 6), .ref (A 7), .ref (A 8), .ref (A 9), .ref (A 10), .int (τ 8 2), .int (τ 8 3), .int (τ 8 5), .int (τ 8 6), .int (τ 8 4), .int (y 0), .ref (A 11), .int (y 1), .ref (A 12), .int (y 2), .ref (A 13), .ref (A 14), .int (y 3), .int (y 4), .ref (A 15), .ref (A 16), .ref (A 17), .ref (A 18), .ref (A 19), .int (y 5)], iC G (A 3) 8 (upd (frW a (τ 0) i) i (a i)), iC G (A 4) 8 (frW (fun k9 => a (8 + k9)) (τ 1) i), iC G (A 5) 64 (frW (fun k9 => a (16 + k9)) (τ 2) 0), iC G (A 6) 10 (frW (fun k9 => a (80 + k9)) (τ 3) 0), iC G (A 7) 10 (frW (fun k9 => a (90 + k9)) (τ 4) 0), iC G (A 8) 10 (frW (fun k9 => a (100 + k9)) (τ 5) 0), iC G (A 9) 10 (frW (fun k9 => a (110 + k9)) (τ 6) 0), iC G (A 10) 10 (frW (fun k9 => a (120 + k9)) (τ 7) 0), iC G w 137 a]) C rfl 1 rfl i (rfl) ⟨by omega, by decide⟩ dX7_again_16 rfl ?_
        refine g_aload_n (pc := 17) C dX7_again_17 0 rfl ?_
        refine g_get (pc := 18) (T := TX7) (N := 33) (v := .ref (A 4)) C ib_X7 0 rfl rfl 5 (by decide) mf_X7_23 rfl rfl rfl dX7_again_18 ?_
        refine g_iload_n (pc := 21) C dX7_again_21 2 rfl ?_
        refine g_aload_n (pc := 22) C dX7_again_22 1 rfl ?_
        refine g_bipush (pc := 23) (v := 8) C dX7_again_23 (by decide) ?_
        refine g_iload_n (pc := 25) C dX7_again_25 2 rfl ?_
        refine g_iaddN (pc := 26) (i := 8) (j := i) C dX7_again_26 ?_
        refine g_iald (pc := 27) (v := a (8 + i)) C 9 rfl (8 + i) (rfl) ⟨by omega, by decide⟩ (rfl) dX7_again_27 ?_
        refine g_iast (pc := 28) (ws' := [oC m 6 [.ref (A 0), .ref (A 1), .ref (A 2), .int (τ 8 0), .ref (A 3), .ref (A 4), .ref (A 5), .int (τ 8 1), .ref (A 6), .ref (A 7), .ref (A 8), .ref (A 9), .ref (A 10), .int (τ 8 2), .int (τ 8 3), .int (τ 8 5), .int (τ 8 6), .int (τ 8 4), .int (y 0), .ref (A 11), .int (y 1), .ref (A 12), .int (y 2), .ref (A 13), .ref (A 14), .int (y 3), .int (y 4), .ref (A 15), .ref (A 16), .ref (A 17), .ref (A 18), .ref (A 19), .int (y 5)], iC G (A 3) 8 (upd (frW a (τ 0) i) i (a i)), iC G (A 4) 8 (upd (frW (fun k9 => a (8 + k9)) (τ 1) i) i (a (8 + i))), iC G (A 5) 64 (frW (fun k9 => a (16 + k9)) (τ 2) 0), iC G (A 6) 10 (frW (fun k9 => a (80 + k9)) (τ 3) 0), iC G (A 7) 10 (frW (fun k9 => a (90 + k9)) (τ 4) 0), iC G (A 8) 10 (frW (fun k9 => a (100 + k9)) (τ 5) 0), iC G (A 9) 10 (frW (fun k9 => a (110 + k9)) (τ 6) 0), iC G (A 10) 10 (frW (fun k9 => a (120 + k9)) (τ 7) 0), iC G w 137 a]) C rfl 2 rfl i (rfl) ⟨by omega, by decide⟩ dX7_again_28 rfl ?_
        refine g_iinc (pc := 29) (v := nI (i + 1)) (lv' := [(2, .int (nI (i + 1))), (0, .ref m), (1, .ref w)]) C dX7_again_29 2 rfl (nI_1 i) (by decide) rfl ?_
        refine g_goto (pc := 32) (tgt := 2) C dX7_again_32 (by decide) ?_
        refine g_ws (ws' := [oC m 6 [.ref (A 0), .ref (A 1), .ref (A 2), .int (τ 8 0), .ref (A 3), .ref (A 4), .ref (A 5), .int (τ 8 1), .ref (A 6), .ref (A 7), .ref (A 8), .ref (A 9), .ref (A 10), .int (τ 8 2), .int (τ 8 3), .int (τ 8 5), .int (τ 8 6), .int (τ 8 4), .int (y 0), .ref (A 11), .int (y 1), .ref (A 12), .int (y 2), .ref (A 13), .ref (A 14), .int (y 3), .int (y 4), .ref (A 15), .ref (A 16), .ref (A 17), .ref (A 18), .ref (A 19), .int (y 5)], iC G (A 3) 8 (frW a (τ 0) (i + 1)), iC G (A 4) 8 (frW (fun k9 => a (8 + k9)) (τ 1) (i + 1)), iC G (A 5) 64 (frW (fun k9 => a (16 + k9)) (τ 2) 0), iC G (A 6) 10 (frW (fun k9 => a (80 + k9)) (τ 3) 0), iC G (A 7) 10 (frW (fun k9 => a (90 + k9)) (τ 4) 0), iC G (A 8) 10 (frW (fun k9 => a (100 + k9)) (τ 5) 0), iC G (A 9) 10 (frW (fun k9 => a (110 + k9)) (τ 6) 0), iC G (A 10) 10 (frW (fun k9 => a (120 + k9)) (τ 7) 0), iC G w 137 a]) (by rw [← frW_s a, ← frW_s (fun k9 => a (8 + k9))]) ?_
        refine g_sub (lv' := [(0, .ref m), (1, .ref w), (2, .int (nI (i + 1)))]) [1, 2, 0] rfl ?_
        exact ih2 (i + 1) (by first | assumption | omega) (by omega)
  refine g_ws (ws' := [oC m 6 [.ref (A 0), .ref (A 1), .ref (A 2), .int (τ 8 0), .ref (A 3), .ref (A 4), .ref (A 5), .int (τ 8 1), .ref (A 6), .ref (A 7), .ref (A 8), .ref (A 9), .ref (A 10), .int (τ 8 2), .int (τ 8 3), .int (τ 8 5), .int (τ 8 6), .int (τ 8 4), .int (y 0), .ref (A 11), .int (y 1), .ref (A 12), .int (y 2), .ref (A 13), .ref (A 14), .int (y 3), .int (y 4), .ref (A 15), .ref (A 16), .ref (A 17), .ref (A 18), .ref (A 19), .int (y 5)], iC G (A 3) 8 (frW a (τ 0) 0), iC G (A 4) 8 (frW (fun k9 => a (8 + k9)) (τ 1) 0), iC G (A 5) 64 (frW (fun k9 => a (16 + k9)) (τ 2) 0), iC G (A 6) 10 (frW (fun k9 => a (80 + k9)) (τ 3) 0), iC G (A 7) 10 (frW (fun k9 => a (90 + k9)) (τ 4) 0), iC G (A 8) 10 (frW (fun k9 => a (100 + k9)) (τ 5) 0), iC G (A 9) 10 (frW (fun k9 => a (110 + k9)) (τ 6) 0), iC G (A 10) 10 (frW (fun k9 => a (120 + k9)) (τ 7) 0), iC G w 137 a]) (by simp only [frW_0]; rfl) ?_
  refine g_sub (lv' := [(0, .ref m), (1, .ref w), (2, .int (nI 0))]) [1, 2, 0] rfl ?_
  exact key_2 _ 0 (by first | assumption | omega) (Nat.lt_succ_self _)
set_option maxRecDepth 20000 in
set_option maxHeartbeats 4000000 in
theorem c_X7_image (l : Launch) (G : gT) (m : Nat) (A : Nat → Nat) (τ : tT) (y : Nat → Int32) (od : Nat → Int32) (hT : TI τ) : WI l yX7_image cX7_image 1 (some .int) 10 0 0 G [.ref m] (wN G m A τ y ++ ([iC G (A 13) 137 od])) (S := Unit) (fun r _ => r = nI (tQ τ)) (fun _ => wN G m A τ (upd y 2 1) ++ ([iC G (A 13) 137 (kF τ od)])) := by
  intro sz9
  refine start_W (by decide) (Nat.le_of_ble_eq_true rfl) (fun p9 e9 s9 m9 a9 b9 t9 c9 C => ?_)
  refine g_lv (lv' := [(0, .ref m)]) rfl ?_
  refine g_aload_n (pc := 0) C dX7_image_0 0 rfl ?_
  refine g_iconst (pc := 1) (v := 1) C dX7_image_1 (by decide) ?_
  refine g_put (pc := 2) (T := TX7) (N := 33) (ty := .boolean) (ws' := [oC m 6 [.ref (A 0), .ref (A 1), .ref (A 2), .int (τ 8 0), .ref (A 3), .ref (A 4), .ref (A 5), .int (τ 8 1), .ref (A 6), .ref (A 7), .ref (A 8), .ref (A 9), .ref (A 10), .int (τ 8 2), .int (τ 8 3), .int (τ 8 5), .int (τ 8 6), .int (τ 8 4), .int (y 0), .ref (A 11), .int (y 1), .ref (A 12), .int 1, .ref (A 13), .ref (A 14), .int (y 3), .int (y 4), .ref (A 15), .ref (A 16), .ref (A 17), .ref (A 18), .ref (A 19), .int (y 5)], iC G (A 3) 8 (τ 0), iC G (A 4) 8 (τ 1), iC G (A 5) 64 (τ 2), iC G (A 6) 10 (τ 3), iC G (A 7) 10 (τ 4), iC G (A 8) 10 (τ 5), iC G (A 9) 10 (τ 6), iC G (A 10) 10 (τ 7), iC G (A 13) 137 od]) C rfl ib_X7 tyX7 tyX7_ok nmX7 0 rfl rfl 22 (by decide) mf_X7_316 rfl rfl rfl (by decide +kernel) rfl rfl (Nat.le_of_ble_eq_true rfl) dX7_image_2 rfl ?_
  refine g_ws (ws' := wN G m A τ (upd y 2 1) ++ ([iC G (A 13) 137 od])) (by rfl) ?_
  refine g_aload_n (pc := 5) C dX7_image_5 0 rfl ?_
  refine g_aload_n (pc := 6) C dX7_image_6 0 rfl ?_
  refine g_get (pc := 7) (T := TX7) (N := 33) (v := .ref (A 13)) C ib_X7 0 rfl rfl 23 (by decide) mf_X7_50 rfl rfl rfl dX7_image_7 ?_
  refine g_wrVV (pc := 10) (rest := []) (wr := []) C (fun _ => wN G m A τ (upd y 2 1) ++ ([iC G (A 13) 137 (kF τ od)])) rfl k_X7_keep (c_X7_keep l G m A τ (upd y 2 1) (A 13) od) ml_X7_192 rfl ⟨Nat.le_of_ble_eq_true rfl, Nat.le_of_ble_eq_true rfl⟩ rfl [0, 1, 2, 3, 4, 5, 6, 7, 8, 9] [] [0, 1, 2, 3, 4, 5, 6, 7, 8, 9] rfl (by decide) rfl (by decide) (by decide) (by decide) (fun _ => rfl) 0 rfl rfl rfl rfl (Nat.le_of_ble_eq_true rfl) ⟨by decide, by decide⟩ dX7_image_10 (fun _ _ => ?_)
  refine g_aload_n (pc := 13) C dX7_image_13 0 rfl ?_
  refine g_get (pc := 14) (T := TX7) (N := 33) (v := .int (τ 8 0)) C ib_X7 0 rfl rfl 3 (by decide) mf_X7_85 rfl rfl rfl dX7_image_14 ?_
  refine g_top (z := nI (tQ τ)) (hT.q) ?_
  exact g_retIW (pc := 17) C rfl rfl () (rfl) (by rfl) (by rfl) dX7_image_17
theorem drp_go {hd sz : Nat → Int32} (hS : SI hd sz) {f : Nat} (hf : f < 100) {i : Nat} (hi : i < 8) (h1 : ¬ isRw (hd i)) (h2 : ¬ hd i < nI f) : upd (drp hd (nI f) i) i (-1) = drp hd (nI f) (i + 1) := drp_t hd (nI f) i ⟨(isQn_iff (hd_ge hS hi)).mpr ⟨Int32.le_trans (nI_pos' (by omega)) (Int32.not_lt.mp h2), Classical.not_not.mp h1⟩, h2⟩
theorem drp_r {hd : Nat → Int32} (f : Int32) {i : Nat} (h : isRw (hd i)) : drp hd f i = drp hd f (i + 1) := drp_f hd f i (fun z => z.1.2 (Int32.not_lt.mp h))
theorem drp_l {hd : Nat → Int32} {f : Int32} {i : Nat} (h : hd i < f) : drp hd f i = drp hd f (i + 1) := drp_f hd f i (fun z => z.2 h)
set_option maxRecDepth 20000 in
set_option maxHeartbeats 4000000 in
theorem c_X7_restore (l : Launch) (G : gT) (m : Nat) (A : Nat → Nat) (τ : tT) (y : Nat → Int32) (hd : Nat → Int32) (sz : Nat → Int32) (od : Nat → Int32) (σ : tT) (rr : Nat → Int32) (hT : TI σ) (hS : SI hd sz) (hf : kR od σ) : WI l yX7_restore cX7_restore 2 (some .int) 12 0 0 G [.ref m] (wN G m A τ y ++ ([iC G (A 0) 8 hd, iC G (A 13) 137 od, iC G (A 11) 8 rr])) (S := Unit) (fun r _ => r = if rcRe (y 2) = 0 then nI (tQ σ) else (rcRe (y 2))) (fun _ => wN G m A (if rcRe (y 2) = 0 then σ else τ) y ++ ([iC G (A 0) 8 (if rcRe (y 2) = 0 then drp hd (nI (tQ σ)) 8 else hd), iC G (A 13) 137 od, iC G (A 11) 8 (rfI rr (rcRe (y 2)))])) := by
  have hq8 := hT.q8
  intro sz9
  refine start_W (by decide) (Nat.le_of_ble_eq_true rfl) (fun p9 e9 s9 m9 a9 b9 t9 c9 C => ?_)
  refine g_lv (lv' := [(0, .ref m)]) rfl ?_
  refine g_aload_n (pc := 0) C dX7_restore_0 0 rfl ?_
  refine g_get (pc := 1) (T := TX7) (N := 33) (v := .int (y 2)) C ib_X7 0 rfl rfl 22 (by decide) mf_X7_316 rfl rfl rfl dX7_restore_1 ?_
  refine g_if_ne (pc := 4) (tgt := 14) C dX7_restore_4 (by decide) (fun h4 => ?_) (fun h4 => ?_)
  · refine g_aload_n (pc := 14) C dX7_restore_14 0 rfl ?_
    refine g_aload_n (pc := 15) C dX7_restore_15 0 rfl ?_
    refine g_get (pc := 16) (T := TX7) (N := 33) (v := .ref (A 13)) C ib_X7 0 rfl rfl 23 (by decide) mf_X7_50 rfl rfl rfl dX7_restore_16 ?_
    refine g_wrVV (pc := 19) (rest := []) (wr := [iC G (A 0) 8 hd, iC G (A 11) 8 rr]) C (fun _ => wN G m A σ y ++ ([iC G (A 0) 8 hd, iC G (A 13) 137 od, iC G (A 11) 8 rr])) rfl k_X7_again (c_X7_again l G m A τ y (A 13) od σ (by first | assumption | omega | decide)) ml_X7_199 rfl ⟨Nat.le_of_ble_eq_true rfl, Nat.le_of_ble_eq_true rfl⟩ rfl [0, 1, 2, 3, 4, 5, 6, 7, 8, 10] [9, 11] [2, 3, 4, 5, 6, 7, 8, 9, 10, 0, 11, 1] rfl (by decide) rfl (by decide) (by decide) (by decide) (fun _ => rfl) 0 rfl rfl rfl rfl (Nat.le_of_ble_eq_true rfl) ⟨by decide, by decide⟩ dX7_restore_19 (fun _ _ => ?_)
    refine g_iconst (pc := 22) (v := 0) C dX7_restore_22 (by decide) ?_
    refine g_istore_n (pc := 23) (lv' := [(1, .int 0), (0, .ref m)]) C dX7_restore_23 rfl (by decide) rfl ?_
    have key_24 : ∀ (n24 : Nat) (i : Nat) (hi : i ≤ 8), 8 - i < n24 → GW p9 l e9 (rmh 12 0 0) s9 m9 a9 b9 t9 c9 (MQ b9 (va_Qi (fun r (_ : Unit) => r = if rcRe (y 2) = 0 then nI (tQ σ) else (rcRe (y 2))) (BW G (wN G m A τ y ++ ([iC G (A 0) 8 hd, iC G (A 13) 137 od, iC G (A 11) 8 rr])) sz9 (fun _ => wN G m A (if rcRe (y 2) = 0 then σ else τ) y ++ ([iC G (A 0) 8 (if rcRe (y 2) = 0 then drp hd (nI (tQ σ)) 8 else hd), iC G (A 13) 137 od, iC G (A 11) 8 (rfI rr (rcRe (y 2)))]))) (va_A (wN G m A τ y ++ ([iC G (A 0) 8 hd, iC G (A 13) 137 od, iC G (A 11) 8 rr])) sz9)) a9 s9 0 0 (va_A (wN G m A τ y ++ ([iC G (A 0) 8 hd, iC G (A 13) 137 od, iC G (A 11) 8 rr])) sz9)) G (va_A (wN G m A τ y ++ ([iC G (A 0) 8 hd, iC G (A 13) 137 od, iC G (A 11) 8 rr])) sz9) true 2 0 0 (wN G m A σ y ++ ([iC G (A 0) 8 (drp hd (nI (tQ σ)) i), iC G (A 13) 137 od, iC G (A 11) 8 rr])) [(0, .ref m), (1, .int (nI i))] 24 [] := by
      intro n24
      induction n24 with
      | zero => intro i hi hn24; exact absurd hn24 (Nat.not_lt_zero _)
      | succ n24 ih24 =>
        intro i hi hn24
        refine g_iload_n (pc := 24) C dX7_restore_24 1 rfl ?_
        refine g_bipush (pc := 25) (v := 8) C dX7_restore_25 (by decide) ?_
        refine g_icmpN_ge (pc := 27) (i := i) (j := 8) (tgt := 64) C dX7_restore_27 (by decide) ⟨by omega, by omega⟩ (fun h27 => ?_) (fun h27 => ?_)
        · refine g_aload_n (pc := 64) C dX7_restore_64 0 rfl ?_
          refine g_get (pc := 65) (T := TX7) (N := 33) (v := .int (σ 8 0)) C ib_X7 0 rfl rfl 3 (by decide) mf_X7_85 rfl rfl rfl dX7_restore_65 ?_
          refine g_top (z := nI (tQ σ)) (hT.q) ?_
          exact g_retIW (pc := 68) C rfl rfl () (rfl) (by have e9 : rcRe (y 2) = 0 := (by first | (simp [rcRe, *]; done) | (grind [rcRe])); rw [if_pos e9] <;> (rfl)) (by have e9 : rcRe (y 2) = 0 := (by first | (simp [rcRe, *]; done) | (grind [rcRe])); rw [e9, rfI_0] <;> (rw [show i = 8 from by omega] <;> rfl)) dX7_restore_68
        · refine g_aload_n (pc := 30) C dX7_restore_30 0 rfl ?_
          refine g_iload_n (pc := 31) C dX7_restore_31 1 rfl ?_
          refine g_rdVI (pc := 32) (val := bI (isRw ((drp hd (nI (tQ σ)) i) i))) (rest := []) C k_X7_isRow (c_X7_isRow l G m A σ y (drp hd (nI (tQ σ)) i) i (by first | assumption | omega | decide)) ml_X7_95 rfl ⟨Nat.le_of_ble_eq_true rfl, Nat.le_of_ble_eq_true rfl⟩ rfl [0, 1, 2, 3, 4, 5, 6, 7, 8, 9] rfl 0 rfl rfl rfl rfl (Nat.le_of_ble_eq_true rfl) ⟨by decide, by decide⟩ dX7_restore_32 ?_
          refine g_ifb_ne (pc := 35) (tgt := 58) C dX7_restore_35 (by decide) (fun h35 => ?_) (fun h35 => ?_)
          · refine g_iinc (pc := 58) (v := nI (i + 1)) (lv' := [(1, .int (nI (i + 1))), (0, .ref m)]) C dX7_restore_58 1 rfl (nI_1 i) (by decide) rfl ?_
            refine g_goto (pc := 61) (tgt := 24) C dX7_restore_61 (by decide) ?_
            refine g_ws (ws' := wN G m A σ y ++ ([iC G (A 0) 8 (drp hd (nI (tQ σ)) (i + 1)), iC G (A 13) 137 od, iC G (A 11) 8 rr])) (by rw [drp_at] at h35; rw [drp_r _ h35]) ?_
            refine g_sub (lv' := [(0, .ref m), (1, .int (nI (i + 1)))]) [1, 0] rfl ?_
            exact ih24 (i + 1) (by first | assumption | omega | decide) (by omega)
          · refine g_aload_n (pc := 38) C dX7_restore_38 0 rfl ?_
            refine g_get (pc := 39) (T := TX7) (N := 33) (v := .ref (A 0)) C ib_X7 0 rfl rfl 0 (by decide) mf_X7_7 rfl rfl rfl dX7_restore_39 ?_
            refine g_iload_n (pc := 42) C dX7_restore_42 1 rfl ?_
            refine g_iald (pc := 43) (v := (drp hd (nI (tQ σ)) i) i) C 9 rfl i (rfl) ⟨by omega, by decide⟩ (rfl) dX7_restore_43 ?_
            refine g_aload_n (pc := 44) C dX7_restore_44 0 rfl ?_
            refine g_get (pc := 45) (T := TX7) (N := 33) (v := .int (σ 8 0)) C ib_X7 0 rfl rfl 3 (by decide) mf_X7_85 rfl rfl rfl dX7_restore_45 ?_
            refine g_top (z := nI (tQ σ)) (hT.q) ?_
            refine g_icmp_lt (pc := 48) (tgt := 58) C dX7_restore_48 (by decide) (fun h48 => ?_) (fun h48 => ?_)
            · refine g_iinc (pc := 58) (v := nI (i + 1)) (lv' := [(1, .int (nI (i + 1))), (0, .ref m)]) C dX7_restore_58 1 rfl (nI_1 i) (by decide) rfl ?_
              refine g_goto (pc := 61) (tgt := 24) C dX7_restore_61 (by decide) ?_
              refine g_ws (ws' := wN G m A σ y ++ ([iC G (A 0) 8 (drp hd (nI (tQ σ)) (i + 1)), iC G (A 13) 137 od, iC G (A 11) 8 rr])) (by rw [drp_at] at h35 h48; rw [drp_l h48]) ?_
              refine g_sub (lv' := [(0, .ref m), (1, .int (nI (i + 1)))]) [1, 0] rfl ?_
              exact ih24 (i + 1) (by first | assumption | omega | decide) (by omega)
            · refine g_aload_n (pc := 51) C dX7_restore_51 0 rfl ?_
              refine g_get (pc := 52) (T := TX7) (N := 33) (v := .ref (A 0)) C ib_X7 0 rfl rfl 0 (by decide) mf_X7_7 rfl rfl rfl dX7_restore_52 ?_
              refine g_iload_n (pc := 55) C dX7_restore_55 1 rfl ?_
              refine g_iconst (pc := 56) (v := (-1)) C dX7_restore_56 (by decide) ?_
              refine g_iast (pc := 57) (ws' := wN G m A σ y ++ ([iC G (A 0) 8 (upd (drp hd (nI (tQ σ)) i) i (-1)), iC G (A 13) 137 od, iC G (A 11) 8 rr])) C rfl 9 rfl i (rfl) ⟨by omega, by decide⟩ dX7_restore_57 rfl ?_
              refine g_iinc (pc := 58) (v := nI (i + 1)) (lv' := [(1, .int (nI (i + 1))), (0, .ref m)]) C dX7_restore_58 1 rfl (nI_1 i) (by decide) rfl ?_
              refine g_goto (pc := 61) (tgt := 24) C dX7_restore_61 (by decide) ?_
              refine g_ws (ws' := wN G m A σ y ++ ([iC G (A 0) 8 (drp hd (nI (tQ σ)) (i + 1)), iC G (A 13) 137 od, iC G (A 11) 8 rr])) (by rw [drp_at] at h35 h48; rw [drp_go hS (by omega) (by omega) h35 h48]) ?_
              refine g_sub (lv' := [(0, .ref m), (1, .int (nI (i + 1)))]) [1, 0] rfl ?_
              exact ih24 (i + 1) (by first | assumption | omega | decide) (by omega)
    refine g_ws (ws' := wN G m A σ y ++ ([iC G (A 0) 8 (drp hd (nI (tQ σ)) 0), iC G (A 13) 137 od, iC G (A 11) 8 rr])) (by rw [drp_0]) ?_
    refine g_sub (lv' := [(0, .ref m), (1, .int (nI 0))]) [1, 0] rfl ?_
    exact key_24 _ 0 (by first | assumption | omega | decide) (Nat.lt_succ_self _)
  · refine g_aload_n (pc := 7) C dX7_restore_7 0 rfl ?_
    refine g_bipush (pc := 8) (v := (-6)) C dX7_restore_8 (by decide) ?_
    refine g_wrVI (pc := 10) (rest := []) (wr := [iC G (A 0) 8 hd, iC G (A 13) 137 od]) C (fun _ => wN G m A τ y ++ ([iC G (A 0) 8 hd, iC G (A 13) 137 od, iC G (A 11) 8 (rfI rr (-6))])) rfl k_X7_no (c_X7_no l G m A τ y rr (-6) (by first | assumption | omega | decide)) ml_X7_81 rfl ⟨Nat.le_of_ble_eq_true rfl, Nat.le_of_ble_eq_true rfl⟩ rfl [0, 1, 2, 3, 4, 5, 6, 7, 8, 11] [9, 10] [2, 3, 4, 5, 6, 7, 8, 9, 10, 0, 1, 11] rfl (by decide) rfl (by decide) (by decide) (by decide) (fun _ => rfl) 0 rfl rfl rfl rfl (Nat.le_of_ble_eq_true rfl) ⟨by decide, by decide⟩ dX7_restore_10 (fun r10 _ e10 => ?_)
    subst e10
    exact g_retIW (pc := 13) C rfl rfl () (rfl) (by have e9 : rcRe (y 2) = (-6) := (by first | (simp [rcRe, *]; done) | (grind [rcRe])); rw [if_neg (by rw [e9] <;> (first | done | decide)), e9]) (by have e9 : rcRe (y 2) = (-6) := (by first | (simp [rcRe, *]; done) | (grind [rcRe])); rw [e9] <;> (first | done | rfl | (rw [if_neg (by decide)] <;> (first | done | rfl)))) dX7_restore_13
