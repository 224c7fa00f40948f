def ahL (g : Nat → Nat) : Nat → List Nat
  | 0 => []
  | e + 1 => g e :: ahL g e
def shI (τ : tT) (A : List Nat) (q : Nat) : Int32 := mMax 0 (mMin 1000 (share τ q + 10 * brL τ q A))
theorem orB : ∀ t, t < 256 → ∀ x, x < 8 → nI t ||| (1 <<< (nI x &&& 31)) = nI (t ||| 2 ^ x) ∧ t ||| 2 ^ x < 256 ∧ (t.testBit x = false → (memL (t ||| 2 ^ x)).length = (memL t).length + 1) ∧ ∀ p, p < 8 → (t ||| 2 ^ x).testBit p = (t.testBit p || p == x) := by decide +kernel
theorem has_i : ∀ t, t < 256 → ∀ q, q < 8 → (nI t >>> (nI q &&& 31) &&& 1 = 1 ↔ ¬ nI t &&& (1 <<< (nI q &&& 31)) = 0) := by decide +kernel
theorem memL_8 (t : Nat) : (memL t).length ≤ 8 := by unfold memL; exact Nat.le_trans (List.length_filter_le _ _) (by simp)
theorem thr_ok {τ : tT} (hT : TI τ) {el : Nat → Int64} {s : Nat} : ∀ n, (∀ k, k < n → ¬ bad τ el s k) → ∃ t, t < 2 ^ tQ τ ∧ thr el s n = nI t ∧ (memL t).length = n ∧ ∀ q, brL τ q (memL t) = brL τ q (ahL (fun k => nx (tol el s k)) n)
  | 0, _ => ⟨0, Nat.two_pow_pos _, rfl, rfl, fun _ => rfl⟩
  | n + 1, h => by
    obtain ⟨t, h1, h2, h3, h4⟩ := thr_ok hT n (fun k hk => h k (by omega))
    have hq8 := hT.q8
    have h256 := p28 hq8
    have hb := h n (Nat.lt_succ_self n)
    obtain ⟨e, hx⟩ := not_bad hT hb
    have hz : thr el s n &&& (1 <<< (tol el s n &&& 31)) = 0 := Classical.not_not.mp (fun z => hb (Or.inr z))
    rw [h2, e] at hz
    have hbit : t.testBit (nx (tol el s n)) = false := by
      have := (bitP_nI t (by omega) (nx (tol el s n)) (by omega))
      cases hc : t.testBit (nx (tol el s n))
      · rfl
      · exact absurd hz (this.mpr hc)
    obtain ⟨o1, o2, o3, o4⟩ := orB t (by omega) (nx (tol el s n)) (by omega)
    refine ⟨t ||| 2 ^ nx (tol el s n), Nat.or_lt_two_pow h1 (Nat.pow_lt_pow_right (by decide) hx), ?_, by rw [o3 hbit, h3], fun q => ?_⟩
    · show thr el s n ||| (1 <<< (tol el s n &&& 31)) = _
      rw [h2]
      have : (1 : Int32) <<< (tol el s n &&& 31) = 1 <<< (nI (nx (tol el s n)) &&& 31) := by rw [← e]
      rw [this, o1]
    · have hs := sum_at (f := fun p => if t.testBit p = true then τ 2 (p * 8 + q) else 0) (f' := fun p => if (t ||| 2 ^ nx (tol el s n)).testBit p = true then τ 2 (p * 8 + q) else 0) (g := nx (tol el s n)) 8 (by omega) (fun k hk hne => by
        show (if _ then _ else _) = (if _ then _ else _)
        rw [o4 k hk]
        have : (k == nx (tol el s n)) = false := by simp [hne]
        rw [this]; simp)
      have hbit2 : (t ||| 2 ^ nx (tol el s n)).testBit (nx (tol el s n)) = true := by rw [o4 _ (by omega)]; simp
      rw [ahL, brL, ← h4 q, brL_mem, brL_mem, hs]
      simp only [hbit, hbit2]
      grind
theorem srV_L {τ : tT} (hT : TI τ) {el : Nat → Int64} {s i : Nat} (h : ∀ k, k < i → ¬ bad τ el s k) : srV τ el s i = shI τ (ahL (fun k => nx (tol el s k)) i) (nx (tol el s i)) := by
  obtain ⟨t, h1, h2, h3, h4⟩ := thr_ok hT i h
  rw [srV, h2, shB, brS_L hT h1, h4]; rfl
theorem lrN_L {τ : tT} (hT : TI τ) {el : Nat → Int64} {s : Nat} : ∀ n, (∀ k, k < n → ¬ bad τ el s k) → lrN τ el s n = sumN (fun x9 => chL τ (ahL (fun k => nx (tol el s k)) x9) (nx (tol el s x9))) n
  | 0, _ => rfl
  | n + 1, h => by
    rw [lrN, sumN, lrN_L hT n (fun k hk => h k (by omega))]
    have := srV_L hT (i := n) (fun k hk => h k (by omega))
    rw [srV] at this
    rw [this]; rfl
theorem nb_8 {τ : tT} (hT : TI τ) {el : Nat → Int64} {s n : Nat} (h : ∀ k, k < n → ¬ bad τ el s k) : n ≤ 8 := by
  obtain ⟨t, h1, h2, h3, h4⟩ := thr_ok hT n h
  have := memL_8 t
  omega
def rdN (hd sz : Nat → Int32) (s n : Int32) : Int32 := if ¬ rfRows hd s s = 0 then rfRows hd s s else if n < 0 then -4 else if sz (nx s) < n then -5 else if 20 < n then -6 else 0
def rcJu (hd sz : Nat → Int32) (s n : Int32) : Int32 := rcRd hd sz s n (-1)
theorem m1_le {n : Int32} (h : ¬ n < 0) : (-1 : Int32) ≤ -1 ∧ (-1 : Int32) ≤ n - 1 := by
  obtain ⟨k, hk, rfl⟩ := nI_of h
  refine ⟨by decide, ?_⟩
  rw [Int32.le_iff_toInt_le, n1_i, Int32.toInt_sub, nI_toInt hk, show (1 : Int32).toInt = 1 from rfl, Int.bmod_def]
  omega
theorem rcJu_v (hd sz : Nat → Int32) (s n : Int32) : rcJu hd sz s n = rdN hd sz s n := by
  unfold rcJu rcRd rdN
  by_cases h1 : ¬ rfRows hd s s = 0
  · rw [if_pos h1, if_pos h1]
  · rw [if_neg h1, if_neg h1]
    by_cases h2 : n < 0
    · rw [if_pos h2, if_pos h2]
    · rw [if_neg h2, if_neg h2]
      by_cases h3 : sz (nx s) < n
      · rw [if_pos h3, if_pos (Or.inl h3)]
      · rw [if_neg h3, if_neg (fun z => z.elim h3 (fun w => w (m1_le h2)))]
theorem rf_lo (hd : Nat → Int32) (p q : Int32) : -3 ≤ rfRows hd p q ∧ rfRows hd p q ≤ 0 := by
  unfold rfRows
  split
  · decide
  · split
    · decide
    · split
      · split <;> decide
      · decide
theorem rd_neg {hd sz : Nat → Int32} {s n : Int32} (h : ¬ 0 ≤ rdN hd sz s n) : -7 ≤ rdN hd sz s n ∧ rdN hd sz s n ≤ -1 := by
  unfold rdN at h ⊢
  by_cases h1 : ¬ rfRows hd s s = 0
  · rw [if_pos h1] at h ⊢; exact rf_neg h
  · rw [if_neg h1] at h ⊢
    by_cases h2 : n < 0
    · rw [if_pos h2]; decide
    · rw [if_neg h2] at h ⊢
      by_cases h3 : sz (nx s) < n
      · rw [if_pos h3]; decide
      · rw [if_neg h3] at h ⊢
        by_cases h4 : 20 < n
        · rw [if_pos h4]; decide
        · rw [if_neg h4] at h; exact absurd (by decide) h
theorem rd_0 {hd sz : Nat → Int32} {s n : Int32} (h : 0 ≤ rdN hd sz s n) : rdN hd sz s n = 0 := by
  unfold rdN at h ⊢
  by_cases h1 : ¬ rfRows hd s s = 0
  · rw [if_pos h1] at h; exact absurd (rf_0 h) h1
  · rw [if_neg h1] at h ⊢
    by_cases h2 : n < 0
    · rw [if_pos h2] at h; exact absurd h (by decide)
    · rw [if_neg h2] at h ⊢
      by_cases h3 : sz (nx s) < n
      · rw [if_pos h3] at h; exact absurd h (by decide)
      · rw [if_neg h3] at h ⊢
        by_cases h4 : 20 < n
        · rw [if_pos h4] at h; exact absurd h (by decide)
        · rw [if_neg h4]
theorem rd_ne {hd sz : Nat → Int32} {s n : Int32} (h : ¬ 0 ≤ rdN hd sz s n) : ¬ rdN hd sz s n = 0 := fun e => h (by rw [e]; decide)
theorem rd_v (hd sz : Nat → Int32) (s n i : Int32) : rcRd hd sz s n i = if ¬ 0 ≤ rdN hd sz s n ∧ ¬ rdN hd sz s n ≤ -5 then rdN hd sz s n else if rdN hd sz s n = -5 ∨ ¬ (-1 ≤ i ∧ i ≤ n - 1) then -5 else if rdN hd sz s n < 0 then -6 else 0 := by
  have hl := rf_lo hd s s
  unfold rcRd rdN
  by_cases h1 : ¬ rfRows hd s s = 0
  · rw [if_pos h1, if_pos h1, if_pos ⟨fun z => h1 (rf_0 z), fun z => absurd (Int32.le_trans hl.1 z) (by decide)⟩]
  · rw [if_neg h1, if_neg h1]
    by_cases h2 : n < 0
    · rw [if_pos h2, if_pos h2]; rfl
    · rw [if_neg h2, if_neg h2]
      by_cases h3 : sz (nx s) < n
      · rw [if_pos h3, if_pos (Or.inl h3)]; rfl
      · rw [if_neg h3]
        by_cases h5 : ¬ (-1 ≤ i ∧ i ≤ n - 1)
        · rw [if_pos (Or.inr h5)]
          by_cases h4 : 20 < n
          · rw [if_pos h4, if_neg (fun z => absurd z.2 (by decide)), if_pos (Or.inr h5)]
          · rw [if_neg h4, if_neg (fun z => absurd z.1 (by decide)), if_pos (Or.inr h5)]
        · rw [if_neg (fun z => z.elim h3 h5)]
          by_cases h4 : 20 < n
          · rw [if_pos h4, if_neg (fun z => absurd z.2 (by decide)), if_neg (fun z => z.elim (fun y => absurd y (by decide)) h5), if_pos (by decide)]
          · rw [if_neg h4, if_neg (fun z => absurd z.1 (by decide)), if_neg (fun z => z.elim (fun y => absurd y (by decide)) h5), if_neg (by decide)]
def toF (el : Nat → Int64) (s k : Nat) : Nat → Int32 := fun e => if e < k then tol el s e else 0
theorem toF_0 (el : Nat → Int64) (s : Nat) : toF el s 0 = fun _ => 0 := by funext e; exact if_neg (by omega)
theorem toF_s (el : Nat → Int64) (s k : Nat) : upd (toF el s k) k (tol el s k) = toF el s (k + 1) := by
  funext e; unfold upd toF
  by_cases h : e = k
  · subst h; rw [if_pos rfl, if_pos (by omega)]
  · rw [if_neg h]; by_cases h2 : e < k
    · rw [if_pos h2, if_pos (by omega)]
    · rw [if_neg h2, if_neg (by omega)]
section GWD
variable {p : Program} {l : Launch} {e : Env} {R : Room} {s : State} {m : MethodId} {args : Array Value} {below : List Frame} {meth : Method} {c : Code} {Q : State → Prop} {G : gT} {A : Nat → Prop} {w : Bool} {nL cells slots : Nat} {ws : va_W} {lv : List (Nat × Value)} {pc : Nat} {st : List Value}
theorem g_drop {ws' : va_W} {x : Nat × va_E} (h : ws = ws' ++ [x]) (k : GW p l e R s m args below meth c Q G A w nL cells slots ws' lv pc st) : GW p l e R s m args below meth c Q G A w nL cells slots ws lv pc st := by
  subst h
  have key : ∀ (i : Nat) (q : Nat × va_E), ws'[i]? = some q → (ws' ++ [x])[i]? = some q := fun i q hq => by
    rw [List.getElem?_append_left (List.getElem?_eq_some_iff.mp hq).1]; exact hq
  exact fun H L ls hI hl => k H L ls ⟨fun i q hq => hI.1 i q (key i q hq), hI.2.1, fun hw => ⟨fun i j a b ha hb => (hI.2.2 hw).1 i j a b (key i a ha) (key j b hb), fun i q hq => (hI.2.2 hw).2 i q (key i q hq)⟩⟩ hl
end GWD
set_option maxRecDepth 20000 in
set_option maxHeartbeats 4000000 in
theorem c_X7_told (l : Launch) (G : gT) (m : Nat) (A : Nat → Nat) (τ : tT) (y : Nat → Int32) (el : Nat → Int64) (s : Nat) (i : Nat) (hs : s < 8) (hi : i < 160) : RI l yX7_told cX7_told 3 (some .int) 0 G [.ref m, .int (nI s), .int (nI i)] (wN G m A τ y ++ ([jC G (A 2) 1280 el])) (tol el s i) := by
  refine start_R (by decide) (Nat.le_of_ble_eq_true rfl) (fun p9 e9 s9 m9 a9 b9 t9 c9 C => ?_)
  refine g_lv (lv' := [(0, .ref m), (1, .int (nI s)), (2, .int (nI i))]) rfl ?_
  refine g_aload_n (pc := 0) C dX7_told_0 0 rfl ?_
  refine g_get (pc := 1) (T := TX7) (N := 33) (v := .ref (A 2)) C ib_X7 0 rfl rfl 2 (by decide) mf_X7_16 rfl rfl rfl dX7_told_1 ?_
  refine g_sipush (pc := 4) (v := 160) C dX7_told_4 (by decide) ?_
  refine g_iload_n (pc := 7) C dX7_told_7 1 rfl ?_
  refine g_imulN (pc := 8) (i := 160) (j := s) C dX7_told_8 ?_
  refine g_iload_n (pc := 9) C dX7_told_9 2 rfl ?_
  refine g_iaddN (pc := 10) (i := 160 * s) (j := i) C dX7_told_10 ?_
  refine g_lald (pc := 11) (v := el ((160 * s) + i)) C 9 rfl ((160 * s) + i) (rfl) ⟨by omega, by decide⟩ (rfl) dX7_told_11 ?_
  refine g_l2i (pc := 12) (v := (el ((160 * s) + i)).toInt32) C dX7_told_12 rfl ?_
  exact g_retIR (pc := 13) C (rfl) (by unfold tol; rw [Nat.mul_comm s 160]) dX7_told_13
set_option maxRecDepth 20000 in
set_option maxHeartbeats 4000000 in
theorem c_X7_shareIn (l : Launch) (G : gT) (m : Nat) (A : Nat → Nat) (τ : tT) (y : Nat → Int32) (w : Nat) (n9 : Nat) (fw : Nat → Int32) (g9 : Nat → Nat) (i : Nat) (hT : TI τ) (hn9 : n9 ≤ 8) (hi9 : i < n9) (hf : ∀ z, z ≤ i → fw z = nI (g9 z) ∧ g9 z < 8) : RI l yX7_shareIn cX7_shareIn 5 (some .int) 5 G [.ref m, .ref w, .int (nI i)] (wN G m A τ y ++ ([iC G w n9 fw])) (shI τ (ahL g9 i) (g9 i)) := by
  have hgi := hf i (Nat.le_refl i)
  have hgi2 := hgi.2
  refine start_R (by decide) (Nat.le_of_ble_eq_true rfl) (fun p9 e9 s9 m9 a9 b9 t9 c9 C => ?_)
  refine g_lv (lv' := [(0, .ref m), (1, .ref w), (2, .int (nI i))]) rfl ?_
  refine g_iconst (pc := 0) (v := 0) C dX7_shareIn_0 (by decide) ?_
  refine g_istore_n (pc := 1) (lv' := [(3, .int 0), (0, .ref m), (1, .ref w), (2, .int (nI i))]) C dX7_shareIn_1 rfl (by decide) rfl ?_
  refine g_iconst (pc := 2) (v := 0) C dX7_shareIn_2 (by decide) ?_
  refine g_istore (pc := 3) (lv' := [(4, .int 0), (3, .int 0), (0, .ref m), (1, .ref w), (2, .int (nI i))]) C dX7_shareIn_3 (by decide) rfl ?_
  have key_5 : ∀ (n5 : Nat) (j : Nat) (hj : j ≤ i), i - j < n5 → GW p9 l e9 (rmh 5 0 0) s9 m9 a9 b9 t9 c9 (MQ b9 (QcI (shI τ (ahL g9 i) (g9 i))) a9 s9 0 0 NoA) G NoA false 5 0 0 (wN G m A τ y ++ ([iC G w n9 fw])) [(0, .ref m), (1, .ref w), (2, .int (nI i)), (3, .int (brL τ (g9 i) (ahL g9 j))), (4, .int (nI j))] 5 [] := by
    intro n5
    induction n5 with
    | zero => intro j hj hn5; exact absurd hn5 (Nat.not_lt_zero _)
    | succ n5 ih5 =>
      intro j hj hn5
      refine g_iload (pc := 5) C dX7_shareIn_5 4 rfl ?_
      refine g_iload_n (pc := 7) C dX7_shareIn_7 2 rfl ?_
      refine g_icmpN_ge (pc := 8) (i := j) (j := i) (tgt := 36) C dX7_shareIn_8 (by decide) ⟨by omega, by omega⟩ (fun h8 => ?_) (fun h8 => ?_)
      · refine g_iconst (pc := 36) (v := 0) C dX7_shareIn_36 (by decide) ?_
        refine g_sipush (pc := 37) (v := 1000) C dX7_shareIn_37 (by decide) ?_
        refine g_aload_n (pc := 40) C dX7_shareIn_40 0 rfl ?_
        refine g_aload_n (pc := 41) C dX7_shareIn_41 1 rfl ?_
        refine g_iload_n (pc := 42) C dX7_shareIn_42 2 rfl ?_
        refine g_iald (pc := 43) (v := nI (g9 i)) C 9 rfl i (rfl) ⟨by omega, by omega⟩ (hgi.1) dX7_shareIn_43 ?_
        refine g_rdVI (pc := 44) (val := share τ (g9 i)) (rest := [.int 1000, .int 0]) C k_X7_shareOf (c_X7_shareOf l G m A τ y (g9 i) (by first | assumption | omega) (by first | assumption | omega)) ml_X7_112 rfl ⟨Nat.le_of_ble_eq_true rfl, Nat.le_of_ble_eq_true rfl⟩ rfl [0, 1, 2, 3, 4, 5, 6, 7, 8] rfl 0 rfl rfl rfl rfl (Nat.le_of_ble_eq_true rfl) ⟨by decide, by decide⟩ dX7_shareIn_44 ?_
        refine g_bipush (pc := 47) (v := 10) C dX7_shareIn_47 (by decide) ?_
        refine g_iload_n (pc := 49) C dX7_shareIn_49 3 rfl ?_
        refine g_imul (pc := 50) C dX7_shareIn_50 ?_
        refine g_iadd (pc := 51) C dX7_shareIn_51 ?_
        refine g_mmin (pc := 52) (v := mMin 1000 ((share τ (g9 i)) + (10 * (brL τ (g9 i) (ahL g9 j))))) C ml_X7_202 rfl ⟨Nat.le_of_ble_eq_true rfl, Nat.le_of_ble_eq_true rfl⟩ ⟨by decide, by decide⟩ rfl dX7_shareIn_52 ?_
        refine g_mmax (pc := 55) (v := mMax 0 (mMin 1000 ((share τ (g9 i)) + (10 * (brL τ (g9 i) (ahL g9 j)))))) C ml_X7_235 rfl ⟨Nat.le_of_ble_eq_true rfl, Nat.le_of_ble_eq_true rfl⟩ ⟨by decide, by decide⟩ rfl dX7_shareIn_55 ?_
        exact g_retIR (pc := 58) C (rfl) (by rw [show j = i from by omega]; rfl) dX7_shareIn_58
      · have hgj := hf j (by omega)
        have hgj2 := hgj.2
        refine g_iload_n (pc := 11) C dX7_shareIn_11 3 rfl ?_
        refine g_aload_n (pc := 12) C dX7_shareIn_12 0 rfl ?_
        refine g_get (pc := 13) (T := TX7) (N := 33) (v := .ref (A 5)) C ib_X7 0 rfl rfl 6 (by decide) mf_X7_26 rfl rfl rfl dX7_shareIn_13 ?_
        refine g_bipush (pc := 16) (v := 8) C dX7_shareIn_16 (by decide) ?_
        refine g_aload_n (pc := 18) C dX7_shareIn_18 1 rfl ?_
        refine g_iload (pc := 19) C dX7_shareIn_19 4 rfl ?_
        refine g_iald (pc := 21) (v := nI (g9 j)) C 9 rfl j (rfl) ⟨by omega, by omega⟩ (hgj.1) dX7_shareIn_21 ?_
        refine g_imulN (pc := 22) (i := 8) (j := g9 j) C dX7_shareIn_22 ?_
        refine g_aload_n (pc := 23) C dX7_shareIn_23 1 rfl ?_
        refine g_iload_n (pc := 24) C dX7_shareIn_24 2 rfl ?_
        refine g_iald (pc := 25) (v := nI (g9 i)) C 9 rfl i (rfl) ⟨by omega, by omega⟩ (hgi.1) dX7_shareIn_25 ?_
        refine g_iaddN (pc := 26) (i := 8 * (g9 j)) (j := g9 i) C dX7_shareIn_26 ?_
        refine g_iald (pc := 27) (v := (τ 2) ((8 * (g9 j)) + (g9 i))) C 3 rfl ((8 * (g9 j)) + (g9 i)) (rfl) ⟨by omega, by decide⟩ (rfl) dX7_shareIn_27 ?_
        refine g_iadd (pc := 28) C dX7_shareIn_28 ?_
        refine g_istore_n (pc := 29) (lv' := [(3, .int ((brL τ (g9 i) (ahL g9 j)) + ((τ 2) ((8 * (g9 j)) + (g9 i))))), (0, .ref m), (1, .ref w), (2, .int (nI i)), (4, .int (nI j))]) C dX7_shareIn_29 rfl (by decide) rfl ?_
        refine g_iinc (pc := 30) (v := nI (j + 1)) (lv' := [(4, .int (nI (j + 1))), (3, .int ((brL τ (g9 i) (ahL g9 j)) + ((τ 2) ((8 * (g9 j)) + (g9 i))))), (0, .ref m), (1, .ref w), (2, .int (nI i))]) C dX7_shareIn_30 4 rfl (nI_1 j) (by decide) rfl ?_
        refine g_goto (pc := 33) (tgt := 5) C dX7_shareIn_33 (by decide) ?_
        refine g_sub (lv' := [(0, .ref m), (1, .ref w), (2, .int (nI i)), (3, .int ((brL τ (g9 i) (ahL g9 j)) + ((τ 2) ((8 * (g9 j)) + (g9 i))))), (4, .int (nI (j + 1)))]) [2, 3, 4, 1, 0] rfl ?_
        refine g_lv (lv' := [(0, .ref m), (1, .ref w), (2, .int (nI i)), (3, .int (brL τ (g9 i) (ahL g9 (j + 1)))), (4, .int (nI (j + 1)))]) (by rw [Nat.mul_comm 8 (g9 j)]; rfl) ?_
        exact ih5 (j + 1) (by first | assumption | omega) (by omega)
  refine g_sub (lv' := [(0, .ref m), (1, .ref w), (2, .int (nI i)), (3, .int (brL τ (g9 i) (ahL g9 0))), (4, .int (nI 0))]) [2, 3, 4, 1, 0] rfl ?_
  exact key_5 _ 0 (by first | assumption | omega) (Nat.lt_succ_self _)
set_option maxRecDepth 20000 in
set_option maxHeartbeats 4000000 in
theorem c_X7_leansOf (l : Launch) (G : gT) (m : Nat) (A : Nat → Nat) (τ : tT) (y : Nat → Int32) (w : Nat) (n9 : Nat) (fw : Nat → Int32) (g9 : Nat → Nat) (i : Nat) (hT : TI τ) (hn9 : n9 ≤ 8) (hi9 : i ≤ n9) (hf : ∀ z, z < i → fw z = nI (g9 z) ∧ g9 z < 8) : RI l yX7_leansOf cX7_leansOf 5 (some .int) 6 G [.ref m, .ref w, .int (nI i)] (wN G m A τ y ++ ([iC G w n9 fw])) (sumN (fun x9 => chL τ (ahL g9 x9) (g9 x9)) i) := by
  refine start_R (by decide) (Nat.le_of_ble_eq_true rfl) (fun p9 e9 s9 m9 a9 b9 t9 c9 C => ?_)
  refine g_lv (lv' := [(0, .ref m), (1, .ref w), (2, .int (nI i))]) rfl ?_
  refine g_iconst (pc := 0) (v := 0) C dX7_leansOf_0 (by decide) ?_
  refine g_istore_n (pc := 1) (lv' := [(3, .int 0), (0, .ref m), (1, .ref w), (2, .int (nI i))]) C dX7_leansOf_1 rfl (by decide) rfl ?_
  refine g_iconst (pc := 2) (v := 0) C dX7_leansOf_2 (by decide) ?_
  refine g_istore (pc := 3) (lv' := [(4, .int 0), (3, .int 0), (0, .ref m), (1, .ref w), (2, .int (nI i))]) C dX7_leansOf_3 (by decide) rfl ?_
  have key_5 : ∀ (n5 : Nat) (j : Nat) (hj : j ≤ i), i - j < n5 → GW p9 l e9 (rmh 6 0 0) s9 m9 a9 b9 t9 c9 (MQ b9 (QcI (sumN (fun x9 => chL τ (ahL g9 x9) (g9 x9)) i)) a9 s9 0 0 NoA) G NoA false 5 0 0 (wN G m A τ y ++ ([iC G w n9 fw])) [(0, .ref m), (1, .ref w), (2, .int (nI i)), (3, .int (sumN (fun x9 => chL τ (ahL g9 x9) (g9 x9)) j)), (4, .int (nI j))] 5 [] := by
    intro n5
    induction n5 with
    | zero => intro j hj hn5; exact absurd hn5 (Nat.not_lt_zero _)
    | succ n5 ih5 =>
      intro j hj hn5
      refine g_iload (pc := 5) C dX7_leansOf_5 4 rfl ?_
      refine g_iload_n (pc := 7) C dX7_leansOf_7 2 rfl ?_
      refine g_icmpN_ge (pc := 8) (i := j) (j := i) (tgt := 39) C dX7_leansOf_8 (by decide) ⟨by omega, by omega⟩ (fun h8 => ?_) (fun h8 => ?_)
      · refine g_iload_n (pc := 39) C dX7_leansOf_39 3 rfl ?_
        exact g_retIR (pc := 40) C (rfl) (by rw [show j = i from by omega]) dX7_leansOf_40
      · have hgj := hf j (by omega)
        have hgj2 := hgj.2
        refine g_iload_n (pc := 11) C dX7_leansOf_11 3 rfl ?_
        refine g_aload_n (pc := 12) C dX7_leansOf_12 0 rfl ?_
        refine g_aload_n (pc := 13) C dX7_leansOf_13 1 rfl ?_
        refine g_iload (pc := 14) C dX7_leansOf_14 4 rfl ?_
        refine g_rdVI (pc := 16) (val := shI τ (ahL g9 j) (g9 j)) (rest := [.int (sumN (fun x9 => chL τ (ahL g9 x9) (g9 x9)) j)]) C k_X7_shareIn (c_X7_shareIn l G m A τ y w n9 fw g9 j (by first | assumption | omega) (by first | assumption | omega) (by first | assumption | omega) (fun z hz => hf z (by omega))) ml_X7_238 rfl ⟨Nat.le_of_ble_eq_true rfl, Nat.le_of_ble_eq_true rfl⟩ rfl [0, 1, 2, 3, 4, 5, 6, 7, 8, 9] rfl 0 rfl rfl rfl rfl (Nat.le_of_ble_eq_true rfl) ⟨by decide, by decide⟩ dX7_leansOf_16 ?_
        refine g_aload_n (pc := 19) C dX7_leansOf_19 0 rfl ?_
        refine g_aload_n (pc := 20) C dX7_leansOf_20 1 rfl ?_
        refine g_iload (pc := 21) C dX7_leansOf_21 4 rfl ?_
        refine g_iald (pc := 23) (v := nI (g9 j)) C 9 rfl j (rfl) ⟨by omega, by omega⟩ (hgj.1) dX7_leansOf_23 ?_
        refine g_rdVI (pc := 24) (val := share τ (g9 j)) (rest := [.int (shI τ (ahL g9 j) (g9 j)), .int (sumN (fun x9 => chL τ (ahL g9 x9) (g9 x9)) j)]) C k_X7_shareOf (c_X7_shareOf l G m A τ y (g9 j) (by first | assumption | omega) (by first | assumption | omega)) ml_X7_112 rfl ⟨Nat.le_of_ble_eq_true rfl, Nat.le_of_ble_eq_true rfl⟩ rfl [0, 1, 2, 3, 4, 5, 6, 7, 8] rfl 0 rfl rfl rfl rfl (Nat.le_of_ble_eq_true rfl) ⟨by decide, by decide⟩ dX7_leansOf_24 ?_
        refine g_isub (pc := 27) C dX7_leansOf_27 ?_
        refine g_mabs (pc := 28) (v := mAbs ((shI τ (ahL g9 j) (g9 j)) - (share τ (g9 j)))) C ml_X7_242 rfl ⟨Nat.le_of_ble_eq_true rfl, Nat.le_of_ble_eq_true rfl⟩ ⟨by decide, by decide⟩ rfl dX7_leansOf_28 ?_
        refine g_iadd (pc := 31) C dX7_leansOf_31 ?_
        refine g_istore_n (pc := 32) (lv' := [(3, .int ((sumN (fun x9 => chL τ (ahL g9 x9) (g9 x9)) j) + (mAbs ((shI τ (ahL g9 j) (g9 j)) - (share τ (g9 j)))))), (0, .ref m), (1, .ref w), (2, .int (nI i)), (4, .int (nI j))]) C dX7_leansOf_32 rfl (by decide) rfl ?_
        refine g_iinc (pc := 33) (v := nI (j + 1)) (lv' := [(4, .int (nI (j + 1))), (3, .int ((sumN (fun x9 => chL τ (ahL g9 x9) (g9 x9)) j) + (mAbs ((shI τ (ahL g9 j) (g9 j)) - (share τ (g9 j)))))), (0, .ref m), (1, .ref w), (2, .int (nI i))]) C dX7_leansOf_33 4 rfl (nI_1 j) (by decide) rfl ?_
        refine g_goto (pc := 36) (tgt := 5) C dX7_leansOf_36 (by decide) ?_
        refine g_sub (lv' := [(0, .ref m), (1, .ref w), (2, .int (nI i)), (3, .int (sumN (fun x9 => chL τ (ahL g9 x9) (g9 x9)) (j + 1))), (4, .int (nI (j + 1)))]) [2, 3, 4, 1, 0] rfl ?_
        exact ih5 (j + 1) (by first | assumption | omega) (by omega)
  refine g_sub (lv' := [(0, .ref m), (1, .ref w), (2, .int (nI i)), (3, .int (sumN (fun x9 => chL τ (ahL g9 x9) (g9 x9)) 0)), (4, .int (nI 0))]) [2, 3, 4, 1, 0] rfl ?_
  exact key_5 _ 0 (by first | assumption | omega) (Nat.lt_succ_self _)
set_option maxRecDepth 20000 in
set_option maxHeartbeats 4000000 in
theorem c_X7_noRound (l : Launch) (G : gT) (m : Nat) (A : Nat → Nat) (τ : tT) (y : Nat → Int32) (hd : Nat → Int32) (sz : Nat → Int32) (s : Int32) (n : Int32) (hS : SI hd sz) : RI l yX7_noRound cX7_noRound 4 (some .int) 2 G [.ref m, .int s, .int n] (wN G m A τ y ++ ([iC G (A 0) 8 hd, iC G (A 1) 8 sz])) (rdN hd sz s n) := by
  refine start_R (by decide) (Nat.le_of_ble_eq_true rfl) (fun p9 e9 s9 m9 a9 b9 t9 c9 C => ?_)
  refine g_lv (lv' := [(0, .ref m), (1, .int s), (2, .int n)]) rfl ?_
  refine g_aload_n (pc := 0) C dX7_noRound_0 0 rfl ?_
  refine g_iload_n (pc := 1) C dX7_noRound_1 1 rfl ?_
  refine g_rdVI (pc := 2) (val := rfRows hd s s) (rest := []) C k_X7_noRow (c_X7_noRow l G m A τ y hd sz s (by first | assumption | omega)) ml_X7_99 rfl ⟨Nat.le_of_ble_eq_true rfl, Nat.le_of_ble_eq_true rfl⟩ rfl [0, 1, 2, 3, 4, 5, 6, 7, 8, 9] rfl 0 rfl rfl rfl rfl (Nat.le_of_ble_eq_true rfl) ⟨by decide, by decide⟩ dX7_noRound_2 ?_
  refine g_istore_n (pc := 5) (lv' := [(3, .int (rfRows hd s s)), (0, .ref m), (1, .int s), (2, .int n)]) C dX7_noRound_5 rfl (by decide) rfl ?_
  refine g_iload_n (pc := 6) C dX7_noRound_6 0 rfl ?_
  refine g_if_ge (pc := 7) (tgt := 12) C dX7_noRound_7 (by decide) (fun h7 => ?_) (fun h7 => ?_)
  · have hrf9 := rf_0 h7
    obtain ⟨s8, hs8, rfl⟩ := in8_nI (rf_in hrf9).1
    have es8 : nx (nI s8) = s8 := nx_nI (by omega)
    refine g_iload_n (pc := 12) C dX7_noRound_12 3 rfl ?_
    refine g_if_ge (pc := 13) (tgt := 19) C dX7_noRound_13 (by decide) (fun h13 => ?_) (fun h13 => ?_)
    · refine g_iload_n (pc := 19) C dX7_noRound_19 3 rfl ?_
      refine g_aload_n (pc := 20) C dX7_noRound_20 1 rfl ?_
      refine g_get (pc := 21) (T := TX7) (N := 33) (v := .ref (A 1)) C ib_X7 0 rfl rfl 1 (by decide) mf_X7_13 rfl rfl rfl dX7_noRound_21 ?_
      refine g_iload_n (pc := 24) C dX7_noRound_24 2 rfl ?_
      refine g_iald (pc := 25) (v := sz s8) C 10 rfl s8 (rfl) ⟨by omega, by decide⟩ (rfl) dX7_noRound_25 ?_
      refine g_icmp_le (pc := 26) (tgt := 32) C dX7_noRound_26 (by decide) (fun h26 => ?_) (fun h26 => ?_)
      · refine g_iload_n (pc := 32) C dX7_noRound_32 3 rfl ?_
        refine g_bipush (pc := 33) (v := 20) C dX7_noRound_33 (by decide) ?_
        refine g_icmp_le (pc := 35) (tgt := 43) C dX7_noRound_35 (by decide) (fun h35 => ?_) (fun h35 => ?_)
        · refine g_iconst (pc := 43) (v := 0) C dX7_noRound_43 (by decide) ?_
          exact g_retIR (pc := 44) C (rfl) (by first | (simp [rdN, *]; done) | (grind [rdN])) dX7_noRound_44
        · refine g_bipush (pc := 38) (v := (-6)) C dX7_noRound_38 (by decide) ?_
          refine g_goto (pc := 40) (tgt := 44) C dX7_noRound_40 (by decide) ?_
          exact g_retIR (pc := 44) C (rfl) (by first | (simp [rdN, *]; done) | (grind [rdN])) dX7_noRound_44
      · refine g_bipush (pc := 29) (v := (-5)) C dX7_noRound_29 (by decide) ?_
        exact g_retIR (pc := 31) C (rfl) (by first | (simp [rdN, *]; done) | (grind [rdN])) dX7_noRound_31
    · refine g_bipush (pc := 16) (v := (-4)) C dX7_noRound_16 (by decide) ?_
      exact g_retIR (pc := 18) C (rfl) (by first | (simp [rdN, *]; done) | (grind [rdN])) dX7_noRound_18
  · refine g_iload_n (pc := 10) C dX7_noRound_10 0 rfl ?_
    exact g_retIR (pc := 11) C (rfl) (by rw [rdN, if_pos (rf_ne h7)]) dX7_noRound_11
set_option maxRecDepth 20000 in
set_option maxHeartbeats 4000000 in
theorem c_X7_wrong (l : Launch) (G : gT) (m : Nat) (A : Nat → Nat) (τ : tT) (y : Nat → Int32) (el : Nat → Int64) (s : Nat) (n : Nat) (hT : TI τ) (hs : s < 8) (hn : n ≤ 20) : RI l yX7_wrong cX7_wrong 5 (some .int) 4 G [.ref m, .int (nI s), .int (nI n)] (wN G m A τ y ++ ([jC G (A 2) 1280 el])) (wrF τ el s n 0) := by
  have hg10 := hT.g10
  have hq8 := hT.q8
  refine start_R (by decide) (Nat.le_of_ble_eq_true rfl) (fun p9 e9 s9 m9 a9 b9 t9 c9 C => ?_)
  refine g_lv (lv' := [(0, .ref m), (1, .int (nI s)), (2, .int (nI n))]) rfl ?_
  refine g_iconst (pc := 0) (v := 0) C dX7_wrong_0 (by decide) ?_
  refine g_istore_n (pc := 1) (lv' := [(3, .int 0), (0, .ref m), (1, .int (nI s)), (2, .int (nI n))]) C dX7_wrong_1 rfl (by decide) rfl ?_
  refine g_iconst (pc := 2) (v := 0) C dX7_wrong_2 (by decide) ?_
  refine g_istore (pc := 3) (lv' := [(4, .int 0), (3, .int 0), (0, .ref m), (1, .int (nI s)), (2, .int (nI n))]) C dX7_wrong_3 (by decide) rfl ?_
  have key_5 : ∀ (n5 : Nat) (i : Nat) (w : Nat) (hw : w + i = n) (hv : wrF τ el s n 0 = wrF τ el s w i) (hnb : ∀ k, k < i → ¬ bad τ el s k), w < n5 → GW p9 l e9 (rmh 4 0 0) s9 m9 a9 b9 t9 c9 (MQ b9 (QcI (wrF τ el s n 0)) a9 s9 0 0 NoA) G NoA false 5 0 0 (wN G m A τ y ++ ([jC G (A 2) 1280 el])) [(0, .ref m), (1, .int (nI s)), (2, .int (nI n)), (3, .int (thr el s i)), (4, .int (nI i))] 5 [] := by
    intro n5
    induction n5 with
    | zero => intro i w hw hv hnb hn5; exact absurd hn5 (Nat.not_lt_zero _)
    | succ n5 ih5 =>
      intro i w hw hv hnb hn5
      refine g_iload (pc := 5) C dX7_wrong_5 4 rfl ?_
      refine g_iload_n (pc := 7) C dX7_wrong_7 2 rfl ?_
      refine g_icmpN_ge (pc := 8) (i := i) (j := n) (tgt := 60) C dX7_wrong_8 (by decide) ⟨by omega, by omega⟩ (fun h8 => ?_) (fun h8 => ?_)
      · refine g_iconst (pc := 60) (v := (-1)) C dX7_wrong_60 (by decide) ?_
        exact g_retIR (pc := 61) C (rfl) (by rw [hv, show w = 0 from by omega]; rfl) dX7_wrong_61
      · refine g_aload_n (pc := 11) C dX7_wrong_11 0 rfl ?_
        refine g_aload_n (pc := 12) C dX7_wrong_12 0 rfl ?_
        refine g_iload_n (pc := 13) C dX7_wrong_13 1 rfl ?_
        refine g_iload (pc := 14) C dX7_wrong_14 4 rfl ?_
        refine g_rdVI (pc := 16) (val := tol el s i) (rest := [.ref m]) C k_X7_told (c_X7_told l G m A τ y el s i (by first | assumption | omega) (by first | assumption | omega)) ml_X7_281 rfl ⟨Nat.le_of_ble_eq_true rfl, Nat.le_of_ble_eq_true rfl⟩ rfl [0, 1, 2, 3, 4, 5, 6, 7, 8, 9] rfl 0 rfl rfl rfl rfl (Nat.le_of_ble_eq_true rfl) ⟨by decide, by decide⟩ dX7_wrong_16 ?_
        refine g_rdVI (pc := 19) (val := bI (0 ≤ (tol el s i) ∧ (tol el s i) ≤ nI (tQ τ) - 1)) (rest := []) C k_X7_isQuestion (c_X7_isQuestion l G m A τ y (tol el s i) (by first | assumption | omega)) ml_X7_102 rfl ⟨Nat.le_of_ble_eq_true rfl, Nat.le_of_ble_eq_true rfl⟩ rfl [0, 1, 2, 3, 4, 5, 6, 7, 8] rfl 0 rfl rfl rfl rfl (Nat.le_of_ble_eq_true rfl) ⟨by decide, by decide⟩ dX7_wrong_19 ?_
        refine g_ifb_eq (pc := 22) (tgt := 39) C dX7_wrong_22 (by decide) (fun h22 => ?_) (fun h22 => ?_)
        · refine g_iload (pc := 39) C dX7_wrong_39 4 rfl ?_
          exact g_retIR (pc := 41) C (rfl) (by rw [hv, show w = (w - 1) + 1 from by omega, wrF]; exact (if_pos (show bad τ el s i from Or.inl h22)).symm) dX7_wrong_41
        · obtain ⟨t9, ht9, et9, -, -⟩ := thr_ok hT i hnb
          obtain ⟨q9, hq9, eq9⟩ := isQ_nI hT h22
          have hp28 := p28 hT.q8
          have hb9 : (thr el s i >>> (tol el s i &&& 31) &&& 1 = 1) ↔ ¬ thr el s i &&& (1 <<< (tol el s i &&& 31)) = 0 := by rw [et9, eq9]; exact has_i t9 (by omega) q9 (by omega)
          refine g_iload_n (pc := 25) C dX7_wrong_25 3 rfl ?_
          refine g_aload_n (pc := 26) C dX7_wrong_26 0 rfl ?_
          refine g_iload_n (pc := 27) C dX7_wrong_27 1 rfl ?_
          refine g_iload (pc := 28) C dX7_wrong_28 4 rfl ?_
          refine g_rdVI (pc := 30) (val := tol el s i) (rest := [.int (thr el s i)]) C k_X7_told (c_X7_told l G m A τ y el s i (by first | assumption | omega) (by first | assumption | omega)) ml_X7_281 rfl ⟨Nat.le_of_ble_eq_true rfl, Nat.le_of_ble_eq_true rfl⟩ rfl [0, 1, 2, 3, 4, 5, 6, 7, 8, 9] rfl 0 rfl rfl rfl rfl (Nat.le_of_ble_eq_true rfl) ⟨by decide, by decide⟩ dX7_wrong_30 ?_
          refine g_rdSI (pc := 33) (val := bI ((thr el s i) >>> ((tol el s i) &&& 31) &&& 1 = 1)) (rest := []) C k_X7_has (c_X7_has l G (thr el s i) (tol el s i)) ml_X7_257 rfl ⟨Nat.le_of_ble_eq_true rfl, Nat.le_of_ble_eq_true rfl⟩ rfl [] rfl rfl (Nat.le_of_ble_eq_true rfl) ⟨by decide, by decide⟩ dX7_wrong_33 ?_
          refine g_ifb_eq (pc := 36) (tgt := 42) C dX7_wrong_36 (by decide) (fun h36 => ?_) (fun h36 => ?_)
          · have hnb9 : ¬ bad τ el s i := fun z => z.elim (fun y => y h22) (fun y => h36 (hb9.mpr y))
            refine g_iload_n (pc := 42) C dX7_wrong_42 3 rfl ?_
            refine g_iconst (pc := 43) (v := 1) C dX7_wrong_43 (by decide) ?_
            refine g_aload_n (pc := 44) C dX7_wrong_44 0 rfl ?_
            refine g_iload_n (pc := 45) C dX7_wrong_45 1 rfl ?_
            refine g_iload (pc := 46) C dX7_wrong_46 4 rfl ?_
            refine g_rdVI (pc := 48) (val := tol el s i) (rest := [.int 1, .int (thr el s i)]) C k_X7_told (c_X7_told l G m A τ y el s i (by first | assumption | omega) (by first | assumption | omega)) ml_X7_281 rfl ⟨Nat.le_of_ble_eq_true rfl, Nat.le_of_ble_eq_true rfl⟩ rfl [0, 1, 2, 3, 4, 5, 6, 7, 8, 9] rfl 0 rfl rfl rfl rfl (Nat.le_of_ble_eq_true rfl) ⟨by decide, by decide⟩ dX7_wrong_48 ?_
            refine g_ishl (pc := 51) C dX7_wrong_51 ?_
            refine g_ior (pc := 52) C dX7_wrong_52 ?_
            refine g_istore_n (pc := 53) (lv' := [(3, .int ((thr el s i) ||| (1 <<< ((tol el s i) &&& 31)))), (0, .ref m), (1, .int (nI s)), (2, .int (nI n)), (4, .int (nI i))]) C dX7_wrong_53 rfl (by decide) rfl ?_
            refine g_iinc (pc := 54) (v := nI (i + 1)) (lv' := [(4, .int (nI (i + 1))), (3, .int ((thr el s i) ||| (1 <<< ((tol el s i) &&& 31)))), (0, .ref m), (1, .int (nI s)), (2, .int (nI n))]) C dX7_wrong_54 4 rfl (nI_1 i) (by decide) rfl ?_
            refine g_goto (pc := 57) (tgt := 5) C dX7_wrong_57 (by decide) ?_
            refine g_sub (lv' := [(0, .ref m), (1, .int (nI s)), (2, .int (nI n)), (3, .int (thr el s (i + 1))), (4, .int (nI (i + 1)))]) [2, 3, 4, 1, 0] rfl ?_
            exact ih5 (i + 1) (w - 1) (by omega) (by rw [hv, show w = (w - 1) + 1 from by omega, wrF, if_neg hnb9]; rfl) (fun k hk => if hki : k = i then (by rw [hki]; exact hnb9) else hnb k (by omega)) (by omega)
          · refine g_iload (pc := 39) C dX7_wrong_39 4 rfl ?_
            exact g_retIR (pc := 41) C (rfl) (by rw [hv, show w = (w - 1) + 1 from by omega, wrF]; exact (if_pos (show bad τ el s i from Or.inr (hb9.mp h36))).symm) dX7_wrong_41
  refine g_sub (lv' := [(0, .ref m), (1, .int (nI s)), (2, .int (nI n)), (3, .int (thr el s 0)), (4, .int (nI 0))]) [2, 3, 4, 1, 0] rfl ?_
  exact key_5 _ 0 n (by omega) rfl (fun k hk => absurd hk (Nat.not_lt_zero _)) (Nat.lt_succ_self _)
set_option maxRecDepth 20000 in
set_option maxHeartbeats 4000000 in
theorem c_X7_judge (l : Launch) (G : gT) (m : Nat) (A : Nat → Nat) (τ : tT) (y : Nat → Int32) (hd : Nat → Int32) (sz : Nat → Int32) (el : Nat → Int64) (s : Int32) (n : Int32) (rr : Nat → Int32) (hT : TI τ) (hS : SI hd sz) : WI l yX7_judge cX7_judge 4 (some .int) 12 0 0 G [.ref m, .int s, .int n] (wN G m A τ y ++ ([iC G (A 0) 8 hd, iC G (A 1) 8 sz, jC G (A 2) 1280 el, iC G (A 11) 8 rr])) (S := Unit) (fun r _ => r = if rcJu hd sz s n = 0 then wrF τ el (nx s) (nx n) 0 else -10 + (rcJu hd sz s n)) (fun _ => wN G m A τ y ++ ([iC G (A 0) 8 hd, iC G (A 1) 8 sz, jC G (A 2) 1280 el, iC G (A 11) 8 (rfI rr (rcJu hd sz s n))])) := by
  have hg10 := hT.g10
  have hq8 := hT.q8
  intro sz9
  refine start_W (by decide) (Nat.le_of_ble_eq_true rfl) (fun p9 e9 s9 m9 a9 b9 t9 c9 C => ?_)
  refine g_lv (lv' := [(0, .ref m), (1, .int s), (2, .int n)]) rfl ?_
  refine g_aload_n (pc := 0) C dX7_judge_0 0 rfl ?_
  refine g_iload_n (pc := 1) C dX7_judge_1 1 rfl ?_
  refine g_iload_n (pc := 2) C dX7_judge_2 2 rfl ?_
  refine g_rdVI (pc := 3) (val := rdN hd sz s n) (rest := []) C k_X7_noRound (c_X7_noRound l G m A τ y hd sz s n (by first | assumption | omega | decide)) ml_X7_284 rfl ⟨Nat.le_of_ble_eq_true rfl, Nat.le_of_ble_eq_true rfl⟩ rfl [0, 1, 2, 3, 4, 5, 6, 7, 8, 9, 10] rfl 0 rfl rfl rfl rfl (Nat.le_of_ble_eq_true rfl) ⟨by decide, by decide⟩ dX7_judge_3 ?_
  have hj9 := rcJu_v hd sz s n
  refine g_istore_n (pc := 6) (lv' := [(3, .int (rdN hd sz s n)), (0, .ref m), (1, .int s), (2, .int n)]) C dX7_judge_6 rfl (by decide) rfl ?_
  refine g_iload_n (pc := 7) C dX7_judge_7 0 rfl ?_
  refine g_if_ge (pc := 8) (tgt := 19) C dX7_judge_8 (by decide) (fun h8 => ?_) (fun h8 => ?_)
  · have hx9 : rcJu hd sz s n = 0 := hj9.trans (rd_0 h8)
    obtain ⟨s8, n8, rfl, hs8, rfl, hn8, hn20, hi9, hrf9⟩ := rcRd_0 hS (hx9)
    have es8 : nx (nI s8) = s8 := nx_nI (by omega)
    have en8 : nx (nI n8) = n8 := nx_nI (by omega)
    refine g_aload_n (pc := 19) C dX7_judge_19 1 rfl ?_
    refine g_iload_n (pc := 20) C dX7_judge_20 2 rfl ?_
    refine g_iload_n (pc := 21) C dX7_judge_21 3 rfl ?_
    refine g_rdVI (pc := 22) (val := wrF τ el s8 n8 0) (rest := []) C k_X7_wrong (c_X7_wrong l G m A τ y el s8 n8 (by first | assumption | omega | decide) (by first | assumption | omega | decide) (by first | assumption | omega | decide)) ml_X7_287 rfl ⟨Nat.le_of_ble_eq_true rfl, Nat.le_of_ble_eq_true rfl⟩ rfl [0, 1, 2, 3, 4, 5, 6, 7, 8, 11] rfl 0 rfl rfl rfl rfl (Nat.le_of_ble_eq_true rfl) ⟨by decide, by decide⟩ dX7_judge_22 ?_
    exact g_retIW (pc := 25) C rfl rfl () (rfl) (by have e9 : rcJu hd sz (nI s8) (nI n8) = 0 := (by first | (simp [rcJu, *]; done) | (grind [rcJu])); rw [if_pos e9] <;> (rw [es8, en8])) (by have e9 : rcJu hd sz (nI s8) (nI n8) = 0 := (by first | (simp [rcJu, *]; done) | (grind [rcJu])); rw [e9, rfI_0] <;> (rfl)) dX7_judge_25
  · have hne9 := rd_ne h8
    refine g_aload_n (pc := 11) C dX7_judge_11 1 rfl ?_
    refine g_iload_n (pc := 12) C dX7_judge_12 0 rfl ?_
    refine g_wrVI (pc := 13) (rest := []) (wr := [iC G (A 0) 8 hd, iC G (A 1) 8 sz, jC G (A 2) 1280 el]) C (fun _ => wN G m A τ y ++ ([iC G (A 0) 8 hd, iC G (A 1) 8 sz, jC G (A 2) 1280 el, iC G (A 11) 8 (rfI rr (rdN hd sz s n))])) rfl k_X7_no10 (c_X7_no10 l G m A τ y rr (rdN hd sz s n) (rd_neg h8)) ml_X7_266 rfl ⟨Nat.le_of_ble_eq_true rfl, Nat.le_of_ble_eq_true rfl⟩ rfl [0, 1, 2, 3, 4, 5, 6, 7, 8, 12] [9, 10, 11] [3, 4, 5, 6, 7, 8, 9, 10, 11, 0, 1, 2, 12] rfl (by decide) rfl (by decide) (by decide) (by decide) (fun _ => rfl) 0 rfl rfl rfl rfl (Nat.le_of_ble_eq_true rfl) ⟨by decide, by decide⟩ dX7_judge_13 (fun r13 _ e13 => ?_)
    subst e13
    refine g_goto (pc := 16) (tgt := 25) C dX7_judge_16 (by decide) ?_
    exact g_retIW (pc := 25) C rfl rfl () (rfl) (by have e9 : rcJu hd sz s n = (rdN hd sz s n) := (by first | (simp [rcJu, *]; done) | (grind [rcJu])); rw [if_neg (by rw [e9] <;> (first | done | assumption)), e9]) (by have e9 : rcJu hd sz s n = (rdN hd sz s n) := (by first | (simp [rcJu, *]; done) | (grind [rcJu])); rw [e9] <;> (first | done | rfl | (rw [if_neg (by assumption)] <;> (first | done | rfl)))) dX7_judge_25
set_option maxRecDepth 20000 in
set_option maxHeartbeats 4000000 in
theorem c_X7_round (l : Launch) (G : gT) (m : Nat) (A : Nat → Nat) (τ : tT) (y : Nat → Int32) (hd : Nat → Int32) (sz : Nat → Int32) (el : Nat → Int64) (s : Int32) (n : Int32) (i : Int32) (rr : Nat → Int32) (hT : TI τ) (hS : SI hd sz) : WI l yX7_round cX7_round 7 (some .int) 12 1 8 G [.ref m, .int s, .int n, .int i] (wN G m A τ y ++ ([iC G (A 0) 8 hd, iC G (A 1) 8 sz, jC G (A 2) 1280 el, iC G (A 11) 8 rr])) (S := Unit) (fun r _ => r = if rcRo τ hd sz el s n i = 0 then roV τ el s n i else (rcRo τ hd sz el s n i)) (fun _ => wN G m A τ y ++ ([iC G (A 0) 8 hd, iC G (A 1) 8 sz, jC G (A 2) 1280 el, iC G (A 11) 8 (rfI rr (rcRo τ hd sz el s n i))])) := by
  have hg10 := hT.g10
  have hq8 := hT.q8
  intro sz9
  refine start_W (by decide) (Nat.le_of_ble_eq_true rfl) (fun p9 e9 s9 m9 a9 b9 t9 c9 C => ?_)
  refine g_lv (lv' := [(0, .ref m), (1, .int s), (2, .int n), (3, .int i)]) rfl ?_
  refine g_aload_n (pc := 0) C dX7_round_0 0 rfl ?_
  refine g_iload_n (pc := 1) C dX7_round_1 1 rfl ?_
  refine g_iload_n (pc := 2) C dX7_round_2 2 rfl ?_
  refine g_rdVI (pc := 3) (val := rdN hd sz s n) (rest := []) C k_X7_noRound (c_X7_noRound l G m A τ y hd sz s n (by first | assumption | omega | decide)) ml_X7_284 rfl ⟨Nat.le_of_ble_eq_true rfl, Nat.le_of_ble_eq_true rfl⟩ rfl [0, 1, 2, 3, 4, 5, 6, 7, 8, 9, 10] rfl 0 rfl rfl rfl rfl (Nat.le_of_ble_eq_true rfl) ⟨by decide, by decide⟩ dX7_round_3 ?_
  refine g_istore (pc := 6) (lv' := [(4, .int (rdN hd sz s n)), (0, .ref m), (1, .int s), (2, .int n), (3, .int i)]) C dX7_round_6 (by decide) rfl ?_
  have hv9 := rd_v hd sz s n i
  refine g_iload (pc := 8) C dX7_round_8 0 rfl ?_
  refine g_if_ge (pc := 10) (tgt := 27) C dX7_round_10 (by decide) (fun h10 => ?_) (fun h10 => ?_)
  · refine g_iload (pc := 27) C dX7_round_27 0 rfl ?_
    refine g_bipush (pc := 29) (v := (-5)) C dX7_round_29 (by decide) ?_
    refine g_icmp_eq (pc := 31) (tgt := 45) C dX7_round_31 (by decide) (fun h31 => ?_) (fun h31 => ?_)
    · have hx9 : rcRd hd sz s n i = -5 := by rw [hv9]; grind
      refine g_aload_n (pc := 45) C dX7_round_45 1 rfl ?_
      refine g_bipush (pc := 46) (v := (-5)) C dX7_round_46 (by decide) ?_
      refine g_wrVI (pc := 48) (rest := []) (wr := [iC G (A 0) 8 hd, iC G (A 1) 8 sz, jC G (A 2) 1280 el]) C (fun _ => wN G m A τ y ++ ([iC G (A 0) 8 hd, iC G (A 1) 8 sz, jC G (A 2) 1280 el, iC G (A 11) 8 (rfI rr (-5))])) rfl k_X7_no (c_X7_no l G m A τ y rr (-5) (by first | assumption | omega | decide)) ml_X7_81 rfl ⟨Nat.le_of_ble_eq_true rfl, Nat.le_of_ble_eq_true rfl⟩ rfl [0, 1, 2, 3, 4, 5, 6, 7, 8, 12] [9, 10, 11] [3, 4, 5, 6, 7, 8, 9, 10, 11, 0, 1, 2, 12] rfl (by decide) rfl (by decide) (by decide) (by decide) (fun _ => rfl) 0 rfl rfl rfl rfl (Nat.le_of_ble_eq_true rfl) ⟨by decide, by decide⟩ dX7_round_48 (fun r48 _ e48 => ?_)
      subst e48
      refine g_widen (k := 1) (n := 8) (by omega) (by omega) ?_
      exact g_retIW (pc := 51) C rfl rfl () (rfl) (by have e9 : rcRo τ hd sz el s n i = (-5) := (by first | (simp [rcRo, *]; done) | (grind [rcRo])); rw [if_neg (by rw [e9] <;> (first | done | decide)), e9]) (by have e9 : rcRo τ hd sz el s n i = (-5) := (by first | (simp [rcRo, *]; done) | (grind [rcRo])); rw [e9] <;> (first | done | rfl | (rw [if_neg (by decide)] <;> (first | done | rfl)))) dX7_round_51
    · refine g_iload_n (pc := 34) C dX7_round_34 4 rfl ?_
      refine g_iconst (pc := 35) (v := (-1)) C dX7_round_35 (by decide) ?_
      refine g_iload_n (pc := 36) C dX7_round_36 3 rfl ?_
      refine g_iconst (pc := 37) (v := 1) C dX7_round_37 (by decide) ?_
      refine g_isub (pc := 38) C dX7_round_38 ?_
      refine g_rdSI (pc := 39) (val := bI ((-1) ≤ i ∧ i ≤ (n - 1))) (rest := []) C k_X7_within (c_X7_within l G i (-1) (n - 1)) ml_X7_88 rfl ⟨Nat.le_of_ble_eq_true rfl, Nat.le_of_ble_eq_true rfl⟩ rfl [] rfl rfl (Nat.le_of_ble_eq_true rfl) ⟨by decide, by decide⟩ dX7_round_39 ?_
      refine g_ifb_ne (pc := 42) (tgt := 52) C dX7_round_42 (by decide) (fun h42 => ?_) (fun h42 => ?_)
      · refine g_iload (pc := 52) C dX7_round_52 0 rfl ?_
        refine g_if_lt (pc := 54) (tgt := 67) C dX7_round_54 (by decide) (fun h54 => ?_) (fun h54 => ?_)
        · have hx9 : rcRd hd sz s n i = -6 := by rw [hv9]; grind
          refine g_aload_n (pc := 67) C dX7_round_67 1 rfl ?_
          refine g_bipush (pc := 68) (v := (-6)) C dX7_round_68 (by decide) ?_
          refine g_wrVI (pc := 70) (rest := []) (wr := [iC G (A 0) 8 hd, iC G (A 1) 8 sz, jC G (A 2) 1280 el]) C (fun _ => wN G m A τ y ++ ([iC G (A 0) 8 hd, iC G (A 1) 8 sz, jC G (A 2) 1280 el, iC G (A 11) 8 (rfI rr (-6))])) rfl k_X7_no (c_X7_no l G m A τ y rr (-6) (by first | assumption | omega | decide)) ml_X7_81 rfl ⟨Nat.le_of_ble_eq_true rfl, Nat.le_of_ble_eq_true rfl⟩ rfl [0, 1, 2, 3, 4, 5, 6, 7, 8, 12] [9, 10, 11] [3, 4, 5, 6, 7, 8, 9, 10, 11, 0, 1, 2, 12] rfl (by decide) rfl (by decide) (by decide) (by decide) (fun _ => rfl) 0 rfl rfl rfl rfl (Nat.le_of_ble_eq_true rfl) ⟨by decide, by decide⟩ dX7_round_70 (fun r70 _ e70 => ?_)
          subst e70
          refine g_widen (k := 1) (n := 8) (by omega) (by omega) ?_
          exact g_retIW (pc := 73) C rfl rfl () (rfl) (by have e9 : rcRo τ hd sz el s n i = (-6) := (by first | (simp [rcRo, *]; done) | (grind [rcRo])); rw [if_neg (by rw [e9] <;> (first | done | decide)), e9]) (by have e9 : rcRo τ hd sz el s n i = (-6) := (by first | (simp [rcRo, *]; done) | (grind [rcRo])); rw [e9] <;> (first | done | rfl | (rw [if_neg (by decide)] <;> (first | done | rfl)))) dX7_round_73
        · have hx9 : rcRd hd sz s n i = 0 := by rw [hv9]; grind
          obtain ⟨s8, n8, rfl, hs8, rfl, hn8, hn20, hi9, hrf9⟩ := rcRd_0 hS (hx9)
          have es8 : nx (nI s8) = s8 := nx_nI (by omega)
          have en8 : nx (nI n8) = n8 := nx_nI (by omega)
          refine g_aload_n (pc := 57) C dX7_round_57 1 rfl ?_
          refine g_iload_n (pc := 58) C dX7_round_58 2 rfl ?_
          refine g_iload_n (pc := 59) C dX7_round_59 3 rfl ?_
          refine g_rdVI (pc := 60) (val := wrF τ el s8 n8 0) (rest := []) C k_X7_wrong (c_X7_wrong l G m A τ y el s8 n8 (by first | assumption | omega | decide) (by first | assumption | omega | decide) (by first | assumption | omega | decide)) ml_X7_287 rfl ⟨Nat.le_of_ble_eq_true rfl, Nat.le_of_ble_eq_true rfl⟩ rfl [0, 1, 2, 3, 4, 5, 6, 7, 8, 11] rfl 0 rfl rfl rfl rfl (Nat.le_of_ble_eq_true rfl) ⟨by decide, by decide⟩ dX7_round_60 ?_
          refine g_iconst (pc := 63) (v := (-1)) C dX7_round_63 (by decide) ?_
          refine g_icmp_eq (pc := 64) (tgt := 74) C dX7_round_64 (by decide) (fun h64 => ?_) (fun h64 => ?_)
          · have hnb : ∀ k, k < n8 → ¬ bad τ el s8 k := fun k hk => wrF_all n8 0 (by omega) h64 k (Nat.zero_le k) (by omega)
            have hn88 := nb_8 hT hnb
            refine g_bipush (pc := 74) (v := 8) C dX7_round_74 (by decide) ?_
            refine g_newaI (pc := 76) C rfl 8 rfl (by decide) ⟨by decide, by decide⟩ dX7_round_76 (fun q76 => ?_)
            refine g_ws (ws' := wN G m A τ y ++ ([iC G (A 0) 8 hd, iC G (A 1) 8 sz, jC G (A 2) 1280 el, iC G (A 11) 8 rr, iC G q76 8 (fun _ => 0)])) rfl ?_
            refine g_widen (k := 1) (n := 8) (by decide) (by decide) ?_
            refine g_astore (pc := 78) (lv' := [(5, .ref q76), (4, .int (rdN hd sz (nI s8) (nI n8))), (0, .ref m), (1, .int (nI s8)), (2, .int (nI n8)), (3, .int i)]) C dX7_round_78 (by decide) rfl ?_
            refine g_iconst (pc := 80) (v := 0) C dX7_round_80 (by decide) ?_
            refine g_istore (pc := 81) (lv' := [(6, .int 0), (5, .ref q76), (4, .int (rdN hd sz (nI s8) (nI n8))), (0, .ref m), (1, .int (nI s8)), (2, .int (nI n8)), (3, .int i)]) C dX7_round_81 (by decide) rfl ?_
            have key_83 : ∀ (n83 : Nat) (j : Nat) (hj : j ≤ n8), n8 - j < n83 → GW p9 l e9 (rmh 12 1 8) s9 m9 a9 b9 t9 c9 (MQ b9 (va_Qi (fun r (_ : Unit) => r = if rcRo τ hd sz el (nI s8) (nI n8) i = 0 then roV τ el (nI s8) (nI n8) i else (rcRo τ hd sz el (nI s8) (nI n8) i)) (BW G (wN G m A τ y ++ ([iC G (A 0) 8 hd, iC G (A 1) 8 sz, jC G (A 2) 1280 el, iC G (A 11) 8 rr])) sz9 (fun _ => wN G m A τ y ++ ([iC G (A 0) 8 hd, iC G (A 1) 8 sz, jC G (A 2) 1280 el, iC G (A 11) 8 (rfI rr (rcRo τ hd sz el (nI s8) (nI n8) i))]))) (va_A (wN G m A τ y ++ ([iC G (A 0) 8 hd, iC G (A 1) 8 sz, jC G (A 2) 1280 el, iC G (A 11) 8 rr])) sz9)) a9 s9 1 8 (va_A (wN G m A τ y ++ ([iC G (A 0) 8 hd, iC G (A 1) 8 sz, jC G (A 2) 1280 el, iC G (A 11) 8 rr])) sz9)) G (va_A (wN G m A τ y ++ ([iC G (A 0) 8 hd, iC G (A 1) 8 sz, jC G (A 2) 1280 el, iC G (A 11) 8 rr])) sz9) true 7 1 8 (wN G m A τ y ++ ([iC G (A 0) 8 hd, iC G (A 1) 8 sz, jC G (A 2) 1280 el, iC G (A 11) 8 rr, iC G q76 8 (toF el s8 j)])) [(0, .ref m), (1, .int (nI s8)), (2, .int (nI n8)), (3, .int i), (5, .ref q76), (6, .int (nI j))] 83 [] := by
              intro n83
              induction n83 with
              | zero => intro j hj hn83; exact absurd hn83 (Nat.not_lt_zero _)
              | succ n83 ih83 =>
                intro j hj hn83
                refine g_iload (pc := 83) C dX7_round_83 5 rfl ?_
                refine g_iload_n (pc := 85) C dX7_round_85 2 rfl ?_
                refine g_icmpN_ge (pc := 86) (i := j) (j := n8) (tgt := 107) C dX7_round_86 (by decide) ⟨by omega, by omega⟩ (fun h86 => ?_) (fun h86 => ?_)
                · refine g_iload_n (pc := 107) C dX7_round_107 3 rfl ?_
                  refine g_iconst (pc := 108) (v := (-1)) C dX7_round_108 (by decide) ?_
                  refine g_icmp_ne (pc := 109) (tgt := 122) C dX7_round_109 (by decide) (fun h109 => ?_) (fun h109 => ?_)
                  · obtain ⟨i8, hi8, rfl⟩ := hi9.resolve_left h109
                    have ei8 : nx (nI i8) = i8 := nx_nI (by omega)
                    refine g_aload_n (pc := 122) C dX7_round_122 0 rfl ?_
                    refine g_aload (pc := 123) C dX7_round_123 4 rfl ?_
                    refine g_iload_n (pc := 125) C dX7_round_125 3 rfl ?_
                    refine g_rdVI (pc := 126) (val := shI τ (ahL (fun k => nx (tol el s8 k)) i8) ((fun k => nx (tol el s8 k)) i8)) (rest := []) C k_X7_shareIn (c_X7_shareIn l G m A τ y q76 8 (toF el s8 j) (fun k => nx (tol el s8 k)) i8 (by first | assumption | omega | decide) (by first | assumption | omega | decide) (by first | assumption | omega | decide) (fun z hz => ⟨(if_pos (by omega)).trans (not_bad hT (hnb z (by omega))).1, Nat.lt_of_lt_of_le (not_bad hT (hnb z (by omega))).2 hq8⟩)) ml_X7_238 rfl ⟨Nat.le_of_ble_eq_true rfl, Nat.le_of_ble_eq_true rfl⟩ rfl [0, 1, 2, 3, 4, 5, 6, 7, 8, 13] rfl 0 rfl rfl rfl rfl (Nat.le_of_ble_eq_true rfl) ⟨by decide, by decide⟩ dX7_round_126 ?_
                    refine g_drop (ws' := wN G m A τ y ++ ([iC G (A 0) 8 hd, iC G (A 1) 8 sz, jC G (A 2) 1280 el, iC G (A 11) 8 rr])) rfl ?_
                    exact g_retIW (pc := 129) C rfl rfl () (rfl) (by have e9 : rcRo τ hd sz el (nI s8) (nI n8) (nI i8) = 0 := (by first | (simp [rcRo, *]; done) | (grind [rcRo])); rw [if_pos e9] <;> (rw [roV, if_neg h109, es8, ei8, srV_L hT (fun k hk => hnb k (by omega))])) (by have e9 : rcRo τ hd sz el (nI s8) (nI n8) (nI i8) = 0 := (by first | (simp [rcRo, *]; done) | (grind [rcRo])); rw [e9, rfI_0] <;> (rfl)) dX7_round_129
                  · refine g_aload_n (pc := 112) C dX7_round_112 0 rfl ?_
                    refine g_aload (pc := 113) C dX7_round_113 4 rfl ?_
                    refine g_iload_n (pc := 115) C dX7_round_115 2 rfl ?_
                    refine g_rdVI (pc := 116) (val := sumN (fun x9 => chL τ (ahL (fun k => nx (tol el s8 k)) x9) ((fun k => nx (tol el s8 k)) x9)) n8) (rest := []) C k_X7_leansOf (c_X7_leansOf l G m A τ y q76 8 (toF el s8 j) (fun k => nx (tol el s8 k)) n8 (by first | assumption | omega | decide) (by first | assumption | omega | decide) (by first | assumption | omega | decide) (fun z hz => ⟨(if_pos (by omega)).trans (not_bad hT (hnb z (by omega))).1, Nat.lt_of_lt_of_le (not_bad hT (hnb z (by omega))).2 hq8⟩)) ml_X7_260 rfl ⟨Nat.le_of_ble_eq_true rfl, Nat.le_of_ble_eq_true rfl⟩ rfl [0, 1, 2, 3, 4, 5, 6, 7, 8, 13] rfl 0 rfl rfl rfl rfl (Nat.le_of_ble_eq_true rfl) ⟨by decide, by decide⟩ dX7_round_116 ?_
                    refine g_goto (pc := 119) (tgt := 129) C dX7_round_119 (by decide) ?_
                    refine g_drop (ws' := wN G m A τ y ++ ([iC G (A 0) 8 hd, iC G (A 1) 8 sz, jC G (A 2) 1280 el, iC G (A 11) 8 rr])) rfl ?_
                    exact g_retIW (pc := 129) C rfl rfl () (rfl) (by have e9 : rcRo τ hd sz el (nI s8) (nI n8) i = 0 := (by first | (simp [rcRo, *]; done) | (grind [rcRo])); rw [if_pos e9] <;> (rw [roV, if_pos h109, es8, en8, lrN_L hT n8 hnb])) (by have e9 : rcRo τ hd sz el (nI s8) (nI n8) i = 0 := (by first | (simp [rcRo, *]; done) | (grind [rcRo])); rw [e9, rfI_0] <;> (rfl)) dX7_round_129
                · refine g_aload (pc := 89) C dX7_round_89 4 rfl ?_
                  refine g_iload (pc := 91) C dX7_round_91 5 rfl ?_
                  refine g_aload_n (pc := 93) C dX7_round_93 0 rfl ?_
                  refine g_iload_n (pc := 94) C dX7_round_94 1 rfl ?_
                  refine g_iload (pc := 95) C dX7_round_95 5 rfl ?_
                  refine g_rdVI (pc := 97) (val := tol el s8 j) (rest := [.int (nI j), .ref q76]) C k_X7_told (c_X7_told l G m A τ y el s8 j (by first | assumption | omega | decide) (by first | assumption | omega | decide)) ml_X7_281 rfl ⟨Nat.le_of_ble_eq_true rfl, Nat.le_of_ble_eq_true rfl⟩ rfl [0, 1, 2, 3, 4, 5, 6, 7, 8, 11] rfl 0 rfl rfl rfl rfl (Nat.le_of_ble_eq_true rfl) ⟨by decide, by decide⟩ dX7_round_97 ?_
                  refine g_iast (pc := 100) (ws' := wN G m A τ y ++ ([iC G (A 0) 8 hd, iC G (A 1) 8 sz, jC G (A 2) 1280 el, iC G (A 11) 8 rr, iC G q76 8 (upd (toF el s8 j) j (tol el s8 j))])) C rfl 13 rfl j (rfl) ⟨by omega, by decide⟩ dX7_round_100 rfl ?_
                  refine g_iinc (pc := 101) (v := nI (j + 1)) (lv' := [(6, .int (nI (j + 1))), (0, .ref m), (1, .int (nI s8)), (2, .int (nI n8)), (3, .int i), (5, .ref q76)]) C dX7_round_101 5 rfl (nI_1 j) (by decide) rfl ?_
                  refine g_goto (pc := 104) (tgt := 83) C dX7_round_104 (by decide) ?_
                  refine g_ws (ws' := wN G m A τ y ++ ([iC G (A 0) 8 hd, iC G (A 1) 8 sz, jC G (A 2) 1280 el, iC G (A 11) 8 rr, iC G q76 8 (toF el s8 (j + 1))])) (by rw [← toF_s]) ?_
                  refine g_sub (lv' := [(0, .ref m), (1, .int (nI s8)), (2, .int (nI n8)), (3, .int i), (5, .ref q76), (6, .int (nI (j + 1)))]) [1, 2, 3, 4, 5, 0] rfl ?_
                  exact ih83 (j + 1) (by first | assumption | omega | decide) (by omega)
            refine g_ws (ws' := wN G m A τ y ++ ([iC G (A 0) 8 hd, iC G (A 1) 8 sz, jC G (A 2) 1280 el, iC G (A 11) 8 rr, iC G q76 8 (toF el s8 0)])) (by rw [toF_0]) ?_
            refine g_sub (lv' := [(0, .ref m), (1, .int (nI s8)), (2, .int (nI n8)), (3, .int i), (5, .ref q76), (6, .int (nI 0))]) [3, 4, 5, 6, 1, 0] rfl ?_
            exact key_83 _ 0 (by first | assumption | omega | decide) (Nat.lt_succ_self _)
          · refine g_aload_n (pc := 67) C dX7_round_67 1 rfl ?_
            refine g_bipush (pc := 68) (v := (-6)) C dX7_round_68 (by decide) ?_
            refine g_wrVI (pc := 70) (rest := []) (wr := [iC G (A 0) 8 hd, iC G (A 1) 8 sz, jC G (A 2) 1280 el]) C (fun _ => wN G m A τ y ++ ([iC G (A 0) 8 hd, iC G (A 1) 8 sz, jC G (A 2) 1280 el, iC G (A 11) 8 (rfI rr (-6))])) rfl k_X7_no (c_X7_no l G m A τ y rr (-6) (by first | assumption | omega | decide)) ml_X7_81 rfl ⟨Nat.le_of_ble_eq_true rfl, Nat.le_of_ble_eq_true rfl⟩ rfl [0, 1, 2, 3, 4, 5, 6, 7, 8, 12] [9, 10, 11] [3, 4, 5, 6, 7, 8, 9, 10, 11, 0, 1, 2, 12] rfl (by decide) rfl (by decide) (by decide) (by decide) (fun _ => rfl) 0 rfl rfl rfl rfl (Nat.le_of_ble_eq_true rfl) ⟨by decide, by decide⟩ dX7_round_70 (fun r70 _ e70 => ?_)
            subst e70
            refine g_widen (k := 1) (n := 8) (by omega) (by omega) ?_
            exact g_retIW (pc := 73) C rfl rfl () (rfl) (by have e9 : rcRo τ hd sz el (nI s8) (nI n8) i = (-6) := (by first | (simp [rcRo, *]; done) | (grind [rcRo])); rw [if_neg (by rw [e9] <;> (first | done | decide)), e9]) (by have e9 : rcRo τ hd sz el (nI s8) (nI n8) i = (-6) := (by first | (simp [rcRo, *]; done) | (grind [rcRo])); rw [e9] <;> (first | done | rfl | (rw [if_neg (by decide)] <;> (first | done | rfl)))) dX7_round_73
      · have hx9 : rcRd hd sz s n i = -5 := by rw [hv9]; grind
        refine g_aload_n (pc := 45) C dX7_round_45 1 rfl ?_
        refine g_bipush (pc := 46) (v := (-5)) C dX7_round_46 (by decide) ?_
        refine g_wrVI (pc := 48) (rest := []) (wr := [iC G (A 0) 8 hd, iC G (A 1) 8 sz, jC G (A 2) 1280 el]) C (fun _ => wN G m A τ y ++ ([iC G (A 0) 8 hd, iC G (A 1) 8 sz, jC G (A 2) 1280 el, iC G (A 11) 8 (rfI rr (-5))])) rfl k_X7_no (c_X7_no l G m A τ y rr (-5) (by first | assumption | omega | decide)) ml_X7_81 rfl ⟨Nat.le_of_ble_eq_true rfl, Nat.le_of_ble_eq_true rfl⟩ rfl [0, 1, 2, 3, 4, 5, 6, 7, 8, 12] [9, 10, 11] [3, 4, 5, 6, 7, 8, 9, 10, 11, 0, 1, 2, 12] rfl (by decide) rfl (by decide) (by decide) (by decide) (fun _ => rfl) 0 rfl rfl rfl rfl (Nat.le_of_ble_eq_true rfl) ⟨by decide, by decide⟩ dX7_round_48 (fun r48 _ e48 => ?_)
        subst e48
        refine g_widen (k := 1) (n := 8) (by omega) (by omega) ?_
        exact g_retIW (pc := 51) C rfl rfl () (rfl) (by have e9 : rcRo τ hd sz el s n i = (-5) := (by first | (simp [rcRo, *]; done) | (grind [rcRo])); rw [if_neg (by rw [e9] <;> (first | done | decide)), e9]) (by have e9 : rcRo τ hd sz el s n i = (-5) := (by first | (simp [rcRo, *]; done) | (grind [rcRo])); rw [e9] <;> (first | done | rfl | (rw [if_neg (by decide)] <;> (first | done | rfl)))) dX7_round_51
  · refine g_iload (pc := 13) C dX7_round_13 0 rfl ?_
    refine g_bipush (pc := 15) (v := (-5)) C dX7_round_15 (by decide) ?_
    refine g_icmp_le (pc := 17) (tgt := 27) C dX7_round_17 (by decide) (fun h17 => ?_) (fun h17 => ?_)
    · refine g_iload (pc := 27) C dX7_round_27 0 rfl ?_
      refine g_bipush (pc := 29) (v := (-5)) C dX7_round_29 (by decide) ?_
      refine g_icmp_eq (pc := 31) (tgt := 45) C dX7_round_31 (by decide) (fun h31 => ?_) (fun h31 => ?_)
      · have hx9 : rcRd hd sz s n i = -5 := by rw [hv9]; grind
        refine g_aload_n (pc := 45) C dX7_round_45 1 rfl ?_
        refine g_bipush (pc := 46) (v := (-5)) C dX7_round_46 (by decide) ?_
        refine g_wrVI (pc := 48) (rest := []) (wr := [iC G (A 0) 8 hd, iC G (A 1) 8 sz, jC G (A 2) 1280 el]) C (fun _ => wN G m A τ y ++ ([iC G (A 0) 8 hd, iC G (A 1) 8 sz, jC G (A 2) 1280 el, iC G (A 11) 8 (rfI rr (-5))])) rfl k_X7_no (c_X7_no l G m A τ y rr (-5) (by first | assumption | omega | decide)) ml_X7_81 rfl ⟨Nat.le_of_ble_eq_true rfl, Nat.le_of_ble_eq_true rfl⟩ rfl [0, 1, 2, 3, 4, 5, 6, 7, 8, 12] [9, 10, 11] [3, 4, 5, 6, 7, 8, 9, 10, 11, 0, 1, 2, 12] rfl (by decide) rfl (by decide) (by decide) (by decide) (fun _ => rfl) 0 rfl rfl rfl rfl (Nat.le_of_ble_eq_true rfl) ⟨by decide, by decide⟩ dX7_round_48 (fun r48 _ e48 => ?_)
        subst e48
        refine g_widen (k := 1) (n := 8) (by omega) (by omega) ?_
        exact g_retIW (pc := 51) C rfl rfl () (rfl) (by have e9 : rcRo τ hd sz el s n i = (-5) := (by first | (simp [rcRo, *]; done) | (grind [rcRo])); rw [if_neg (by rw [e9] <;> (first | done | decide)), e9]) (by have e9 : rcRo τ hd sz el s n i = (-5) := (by first | (simp [rcRo, *]; done) | (grind [rcRo])); rw [e9] <;> (first | done | rfl | (rw [if_neg (by decide)] <;> (first | done | rfl)))) dX7_round_51
      · refine g_iload_n (pc := 34) C dX7_round_34 4 rfl ?_
        refine g_iconst (pc := 35) (v := (-1)) C dX7_round_35 (by decide) ?_
        refine g_iload_n (pc := 36) C dX7_round_36 3 rfl ?_
        refine g_iconst (pc := 37) (v := 1) C dX7_round_37 (by decide) ?_
        refine g_isub (pc := 38) C dX7_round_38 ?_
        refine g_rdSI (pc := 39) (val := bI ((-1) ≤ i ∧ i ≤ (n - 1))) (rest := []) C k_X7_within (c_X7_within l G i (-1) (n - 1)) ml_X7_88 rfl ⟨Nat.le_of_ble_eq_true rfl, Nat.le_of_ble_eq_true rfl⟩ rfl [] rfl rfl (Nat.le_of_ble_eq_true rfl) ⟨by decide, by decide⟩ dX7_round_39 ?_
        refine g_ifb_ne (pc := 42) (tgt := 52) C dX7_round_42 (by decide) (fun h42 => ?_) (fun h42 => ?_)
        · refine g_iload (pc := 52) C dX7_round_52 0 rfl ?_
          refine g_if_lt (pc := 54) (tgt := 67) C dX7_round_54 (by decide) (fun h54 => ?_) (fun h54 => ?_)
          · have hx9 : rcRd hd sz s n i = -6 := by rw [hv9]; grind
            refine g_aload_n (pc := 67) C dX7_round_67 1 rfl ?_
            refine g_bipush (pc := 68) (v := (-6)) C dX7_round_68 (by decide) ?_
            refine g_wrVI (pc := 70) (rest := []) (wr := [iC G (A 0) 8 hd, iC G (A 1) 8 sz, jC G (A 2) 1280 el]) C (fun _ => wN G m A τ y ++ ([iC G (A 0) 8 hd, iC G (A 1) 8 sz, jC G (A 2) 1280 el, iC G (A 11) 8 (rfI rr (-6))])) rfl k_X7_no (c_X7_no l G m A τ y rr (-6) (by first | assumption | omega | decide)) ml_X7_81 rfl ⟨Nat.le_of_ble_eq_true rfl, Nat.le_of_ble_eq_true rfl⟩ rfl [0, 1, 2, 3, 4, 5, 6, 7, 8, 12] [9, 10, 11] [3, 4, 5, 6, 7, 8, 9, 10, 11, 0, 1, 2, 12] rfl (by decide) rfl (by decide) (by decide) (by decide) (fun _ => rfl) 0 rfl rfl rfl rfl (Nat.le_of_ble_eq_true rfl) ⟨by decide, by decide⟩ dX7_round_70 (fun r70 _ e70 => ?_)
            subst e70
            refine g_widen (k := 1) (n := 8) (by omega) (by omega) ?_
            exact g_retIW (pc := 73) C rfl rfl () (rfl) (by have e9 : rcRo τ hd sz el s n i = (-6) := (by first | (simp [rcRo, *]; done) | (grind [rcRo])); rw [if_neg (by rw [e9] <;> (first | done | decide)), e9]) (by have e9 : rcRo τ hd sz el s n i = (-6) := (by first | (simp [rcRo, *]; done) | (grind [rcRo])); rw [e9] <;> (first | done | rfl | (rw [if_neg (by decide)] <;> (first | done | rfl)))) dX7_round_73
          · exact absurd (Int32.not_lt.mp h54) h10
        · have hx9 : rcRd hd sz s n i = -5 := by rw [hv9]; grind
          refine g_aload_n (pc := 45) C dX7_round_45 1 rfl ?_
          refine g_bipush (pc := 46) (v := (-5)) C dX7_round_46 (by decide) ?_
          refine g_wrVI (pc := 48) (rest := []) (wr := [iC G (A 0) 8 hd, iC G (A 1) 8 sz, jC G (A 2) 1280 el]) C (fun _ => wN G m A τ y ++ ([iC G (A 0) 8 hd, iC G (A 1) 8 sz, jC G (A 2) 1280 el, iC G (A 11) 8 (rfI rr (-5))])) rfl k_X7_no (c_X7_no l G m A τ y rr (-5) (by first | assumption | omega | decide)) ml_X7_81 rfl ⟨Nat.le_of_ble_eq_true rfl, Nat.le_of_ble_eq_true rfl⟩ rfl [0, 1, 2, 3, 4, 5, 6, 7, 8, 12] [9, 10, 11] [3, 4, 5, 6, 7, 8, 9, 10, 11, 0, 1, 2, 12] rfl (by decide) rfl (by decide) (by decide) (by decide) (fun _ => rfl) 0 rfl rfl rfl rfl (Nat.le_of_ble_eq_true rfl) ⟨by decide, by decide⟩ dX7_round_48 (fun r48 _ e48 => ?_)
          subst e48
          refine g_widen (k := 1) (n := 8) (by omega) (by omega) ?_
          exact g_retIW (pc := 51) C rfl rfl () (rfl) (by have e9 : rcRo τ hd sz el s n i = (-5) := (by first | (simp [rcRo, *]; done) | (grind [rcRo])); rw [if_neg (by rw [e9] <;> (first | done | decide)), e9]) (by have e9 : rcRo τ hd sz el s n i = (-5) := (by first | (simp [rcRo, *]; done) | (grind [rcRo])); rw [e9] <;> (first | done | rfl | (rw [if_neg (by decide)] <;> (first | done | rfl)))) dX7_round_51
    · have hx9 : rcRd hd sz s n i = rdN hd sz s n := by rw [hv9]; grind
      have hne9 := rd_ne h10
      refine g_aload_n (pc := 20) C dX7_round_20 1 rfl ?_
      refine g_iload (pc := 21) C dX7_round_21 0 rfl ?_
      refine g_wrVI (pc := 23) (rest := []) (wr := [iC G (A 0) 8 hd, iC G (A 1) 8 sz, jC G (A 2) 1280 el]) C (fun _ => wN G m A τ y ++ ([iC G (A 0) 8 hd, iC G (A 1) 8 sz, jC G (A 2) 1280 el, iC G (A 11) 8 (rfI rr (rdN hd sz s n))])) rfl k_X7_no (c_X7_no l G m A τ y rr (rdN hd sz s n) (rd_neg h10)) ml_X7_81 rfl ⟨Nat.le_of_ble_eq_true rfl, Nat.le_of_ble_eq_true rfl⟩ rfl [0, 1, 2, 3, 4, 5, 6, 7, 8, 12] [9, 10, 11] [3, 4, 5, 6, 7, 8, 9, 10, 11, 0, 1, 2, 12] rfl (by decide) rfl (by decide) (by decide) (by decide) (fun _ => rfl) 0 rfl rfl rfl rfl (Nat.le_of_ble_eq_true rfl) ⟨by decide, by decide⟩ dX7_round_23 (fun r23 _ e23 => ?_)
      subst e23
      refine g_widen (k := 1) (n := 8) (by omega) (by omega) ?_
      exact g_retIW (pc := 26) C rfl rfl () (rfl) (by have e9 : rcRo τ hd sz el s n i = (rdN hd sz s n) := (by first | (simp [rcRo, *]; done) | (grind [rcRo])); rw [if_neg (by rw [e9] <;> (first | done | assumption)), e9]) (by have e9 : rcRo τ hd sz el s n i = (rdN hd sz s n) := (by first | (simp [rcRo, *]; done) | (grind [rcRo])); rw [e9] <;> (first | done | rfl | (rw [if_neg (by assumption)] <;> (first | done | rfl)))) dX7_round_26
