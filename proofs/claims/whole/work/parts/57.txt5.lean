/-! reading, told by the place alone -/
def aO (z : Nat × Int32) : Int32 := if z.2 = -1 then nI z.1 else z.2
theorem aO_t {z : Nat × Int32} (h : z.2 = -1) : aO z = nI z.1 := if_pos h
theorem aO_f {z : Nat × Int32} (h : ¬ z.2 = -1) : aO z = z.2 := if_neg h
theorem ft_st {z : Nat × Int32} {x : Int32} (h : ¬ z.2 = -1) : ftS z x = z := by unfold ftS; rw [if_neg h]
theorem ft_go {z : Nat × Int32} {x : Int32} (h : z.2 = -1) : ftS z x = (z.1, x) := by unfold ftS; rw [if_pos h]
theorem rl_st {lt : Nat → Int32} {n : Nat} {c : Int32} {z : Nat × Int32} (h : ¬ z.2 = -1) : rlS lt n c z = z := by unfold rlS; rw [if_neg (fun q => h q.2), ft_st h]
theorem rw_st {lt : Nat → Int32} {n w : Nat} {z : Nat × Int32} (h : ¬ z.2 = -1) : ∀ k, rwS lt n w z k = z
  | 0 => rfl
  | k + 1 => by rw [rwS, rw_st h k, rl_st h]
theorem rw_from {lt : Nat → Int32} {n w : Nat} {z : Nat × Int32} {k : Nat} (h : ¬ (rwS lt n w z k).2 = -1) : ∀ m, rwS lt n w z (k + m) = rwS lt n w z k
  | 0 => rfl
  | m + 1 => by
    show rlS lt n (kwc w (k + m)) (rwS lt n w z (k + m)) = _
    rw [rw_from h m, rl_st h]
theorem rw_fr {lt : Nat → Int32} {n w : Nat} {z : Nat × Int32} {k m : Nat} (h : ¬ (rwS lt n w z k).2 = -1) (hk : k ≤ m) : rwS lt n w z m = rwS lt n w z k := by
  have := rw_from h (m - k)
  rwa [show k + (m - k) = m from by omega] at this
theorem rl_yes {lt : Nat → Int32} {n : Nat} {c : Int32} {z : Nat × Int32} (h2 : z.2 = -1) (h : ltr lt n z.1 = c) : rlS lt n c z = (z.1 + 1, -1) := if_pos ⟨h, h2⟩
theorem rl_no {lt : Nat → Int32} {n : Nat} {c : Int32} {z : Nat × Int32} (h2 : z.2 = -1) (h : ¬ ltr lt n z.1 = c) : rlS lt n c z = (z.1, nI z.1) := by
  unfold rlS; rw [if_neg (fun q => h q.1), ft_go h2]
theorem no_m1 {p : Nat} (h : p ≤ 160) : ¬ nI p = -1 := tw_n (by omega)
theorem nu_sp {lt : Nat → Int32} {n : Nat} (lo hi : Int32) {z : Nat × Int32} (h : ¬ (rlS lt n 32 z).2 = -1) : nuS lt n lo hi z = rlS lt n 32 z := by
  have e : dgZ lt n (rlS lt n 32 z) = ((rlS lt n 32 z).1, 0) := if_neg h
  have e2 : nuA lt n z = rlS lt n 32 z := by
    unfold nuA; rw [e]
    show (if (rlS lt n 32 z).1 = (rlS lt n 32 z).1 then ftS ((rlS lt n 32 z).1, (rlS lt n 32 z).2) _ else _) = _
    rw [if_pos rfl]; exact ft_st h
  unfold nuS
  rw [e2, ft_st h]
  split <;> rfl
theorem nu_st {lt : Nat → Int32} {n : Nat} (lo hi : Int32) {z : Nat × Int32} (h : ¬ z.2 = -1) : nuS lt n lo hi z = z := by
  have e := rl_st (lt := lt) (n := n) (c := 32) h
  rw [nu_sp lo hi (by rw [e]; exact h), e]
def nuB (lt : Nat → Int32) (n : Nat) (z : Nat × Int32) (i : Nat) (nb : Nat → Int32) : Nat → Int32 := if (rlS lt n 32 z).2 = -1 ∧ ¬ (dgZ lt n (rlS lt n 32 z)).1 = (rlS lt n 32 z).1 then upd nb i (nuV lt n z) else nb
theorem nuB_sp {lt : Nat → Int32} {n : Nat} {z : Nat × Int32} (i : Nat) (nb : Nat → Int32) (h : ¬ (rlS lt n 32 z).2 = -1) : nuB lt n z i nb = nb := if_neg (fun q => h q.1)
theorem nuB_st {lt : Nat → Int32} {n : Nat} {z : Nat × Int32} (i : Nat) (nb : Nat → Int32) (h : ¬ z.2 = -1) : nuB lt n z i nb = nb := nuB_sp i nb (by rw [rl_st h]; exact h)
theorem nu_dg {lt : Nat → Int32} {n : Nat} {z : Nat × Int32} {p : Nat} {v : Int32} (h1 : (rlS lt n 32 z).2 = -1) (hd : dgS lt n 3 (rlS lt n 32 z).1 0 = (p, v)) : nuV lt n z = v ∧ (∀ lo hi, nuS lt n lo hi z = if p = (rlS lt n 32 z).1 then (p, nI p) else if lo ≤ v ∧ v ≤ hi then (p, -1) else (p, nI (rlS lt n 32 z).1)) ∧ ∀ i nb, nuB lt n z i nb = if p = (rlS lt n 32 z).1 then nb else upd nb i v := by
  have e : dgZ lt n (rlS lt n 32 z) = (p, v) := by unfold dgZ; rw [if_pos h1, hd]
  have eV : nuV lt n z = v := by unfold nuV; rw [e]
  refine ⟨eV, fun lo hi => ?_, fun i nb => ?_⟩
  · have eA : nuA lt n z = if p = (rlS lt n 32 z).1 then (p, nI p) else (p, -1) := by
      unfold nuA; rw [e, h1]; rfl
    unfold nuS
    rw [eV, eA]
    by_cases hp : p = (rlS lt n 32 z).1
    · rw [if_pos hp, if_pos hp]
      split
      · rfl
      · unfold ftS; split <;> simp_all
    · rw [if_neg hp, if_neg hp]
      split
      · rfl
      · exact ft_go rfl
  · unfold nuB
    rw [eV, e]
    by_cases hp : p = (rlS lt n 32 z).1
    · rw [if_pos hp, if_neg (fun q => q.2 hp)]
    · rw [if_neg hp, if_pos ⟨h1, hp⟩]
theorem nuB_ok {lt : Nat → Int32} {n : Nat} {lo hi : Int32} {z : Nat × Int32} (i : Nat) (nb : Nat → Int32) (hn : n < 2 ^ 31) (hz : z.1 ≤ n) (h : (nuS lt n lo hi z).2 = -1) : nuB lt n z i nb = upd nb i (nuV lt n z) := by
  have h1 := rlS_le (lt := lt) sp_ne hz
  have h2 := dgZ_le (lt := lt) h1
  by_cases hs : (rlS lt n 32 z).2 = -1
  · obtain ⟨eV, eS, eB⟩ := nu_dg (lt := lt) (n := n) (z := z) (p := (dgS lt n 3 (rlS lt n 32 z).1 0).1) (v := (dgS lt n 3 (rlS lt n 32 z).1 0).2) hs rfl
    rw [eB, eV]
    by_cases hp : (dgS lt n 3 (rlS lt n 32 z).1 0).1 = (rlS lt n 32 z).1
    · rw [eS, if_pos hp] at h
      exact absurd h (tw_n (by rw [hp]; omega))
    · rw [if_neg hp]
  · rw [nu_sp lo hi hs] at h; exact absurd h hs
theorem be_st {lt : Nat → Int32} {n : Nat} {ν : tT} {z : Nat × Int32} (h : ¬ z.2 = -1) : ∀ k, beS lt n ν z k = z
  | 0 => rfl
  | 1 => nu_st _ _ h
  | 2 => by rw [beS, nu_st _ _ h, nu_st _ _ h]
  | 3 => by rw [beS, nu_st _ _ h, nu_st _ _ h, ft_st h]; split <;> rfl
  | k + 4 => by rw [beS, be_st h (k + 3), nu_st _ _ h]
theorem be_2 (lt : Nat → Int32) (n : Nat) (ν : tT) (z : Nat × Int32) : beS lt n ν z 2 = nuS lt n 0 (nI (tQ ν) - 1) (beS lt n ν z 1) := rfl
theorem be_4 (lt : Nat → Int32) (n : Nat) (ν : tT) (z : Nat × Int32) : beS lt n ν z 4 = nuS lt n 0 9 (beS lt n ν z 3) := rfl
theorem be_4of1 {lt : Nat → Int32} {n : Nat} {ν : tT} {z : Nat × Int32} (h : ¬ (beS lt n ν z 1).2 = -1) : beS lt n ν z 3 = beS lt n ν z 1 ∧ beS lt n ν z 4 = beS lt n ν z 1 := by
  have e2 : beS lt n ν z 2 = beS lt n ν z 1 := by rw [be_2, nu_st _ _ h]
  have e3 : beS lt n ν z 3 = beS lt n ν z 1 := by rw [beS_3, e2, ft_st h]; split <;> rfl
  exact ⟨e3, by rw [be_4, e3, nu_st _ _ h]⟩
theorem be_4of2 {lt : Nat → Int32} {n : Nat} {ν : tT} {z : Nat × Int32} (h : ¬ (beS lt n ν z 2).2 = -1) : beS lt n ν z 3 = beS lt n ν z 2 ∧ beS lt n ν z 4 = beS lt n ν z 2 := by
  have e3 : beS lt n ν z 3 = beS lt n ν z 2 := by rw [beS_3, ft_st h]; split <;> rfl
  exact ⟨e3, by rw [be_4, e3, nu_st _ _ h]⟩
/-- the rows of numbers that two tells -/
def twB (lt : Nat → Int32) (n : Nat) (ν : tT) (z : Nat × Int32) (nb : Nat → Int32) : Nat → Int32 := nuB lt n (beS lt n ν z 3) 2 (nuB lt n (beS lt n ν z 1) 1 (nuB lt n z 0 nb))
theorem gr_st {lt : Nat → Int32} {n : Nat} {ν : tT} {z : Nat × Int32} {k : Nat} (h : ¬ (grS lt n ν z k).2 = -1) : ∀ m, grS lt n ν z (k + m) = grS lt n ν z k
  | 0 => rfl
  | m + 1 => by
    have ih := gr_st h m
    have key : ∀ j, ∃ lo hi, grS lt n ν z (j + 1) = nuS lt n lo hi (grS lt n ν z j) := fun j => match j with
      | 0 => ⟨_, _, rfl⟩
      | 1 => ⟨_, _, rfl⟩
      | j + 2 => ⟨_, _, rfl⟩
    obtain ⟨lo, hi, e⟩ := key (k + m)
    show grS lt n ν z (k + m + 1) = _
    rw [e, ih, nu_st _ _ h]
theorem qu_st {lt : Nat → Int32} {n : Nat} {ν : tT} {z : Nat × Int32} {k : Nat} (h : ¬ (quS lt n ν z k).2 = -1) : ∀ m, quS lt n ν z (k + m) = quS lt n ν z k
  | 0 => rfl
  | m + 1 => by
    have ih := qu_st h m
    have key : ∀ j, ∃ lo hi, quS lt n ν z (j + 1) = nuS lt n lo hi (quS lt n ν z j) := fun j => match j with
      | 0 => ⟨_, _, rfl⟩
      | j + 1 => ⟨_, _, rfl⟩
    obtain ⟨lo, hi, e⟩ := key (k + m)
    show quS lt n ν z (k + m + 1) = _
    rw [e, ih, nu_st _ _ h]
theorem grS_0 {lt : Nat → Int32} {n : Nat} {ν : tT} {z : Nat × Int32} : grS lt n ν z 0 = if tG ν < 10 then rwS lt n 0 z (kwn 0) else ftS (rwS lt n 0 z (kwn 0)) (nI z.1) := rfl
theorem quS_0 {lt : Nat → Int32} {n : Nat} {ν : tT} {z : Nat × Int32} : quS lt n ν z 0 = if tQ ν < 8 then rwS lt n 1 z (kwn 1) else ftS (rwS lt n 1 z (kwn 1)) (nI z.1) := rfl
theorem it_st {lt : Nat → Int32} {n : Nat} {ν : tT} {z : Nat × Int32} (h : ¬ z.2 = -1) : itS lt n ν z = z := by
  have g0 : grS lt n ν z 0 = z := by rw [grS_0, rw_st h, ft_st h]; split <;> rfl
  have q0 : quS lt n ν z 0 = z := by rw [quS_0, rw_st h, ft_st h]; split <;> rfl
  have g5 : grS lt n ν z 5 = z := by
    have := gr_st (k := 0) (by rw [g0]; exact h) 5 (lt := lt) (n := n) (ν := ν)
    rw [Nat.zero_add] at this; rw [this, g0]
  have q2 : quS lt n ν z 2 = z := by
    have := qu_st (k := 0) (by rw [q0]; exact h) 2 (lt := lt) (n := n) (ν := ν)
    rw [Nat.zero_add] at this; rw [this, q0]
  unfold itS
  rw [g5, q2, rw_st h, rw_st h, rw_st h, rw_st h, be_st h, nu_st _ _ h, nu_st _ _ h, ft_st h]
  split
  · rfl
  · split
    · rfl
    · split
      · rfl
      · split
        · rfl
        · split
          · rfl
          · split <;> rfl
/-! places go on -/
theorem ft_ge (z : Nat × Int32) (x : Int32) : z.1 ≤ (ftS z x).1 := Nat.le_refl _
theorem rl_ge (lt : Nat → Int32) (n : Nat) (c : Int32) (z : Nat × Int32) : z.1 ≤ (rlS lt n c z).1 := by
  unfold rlS; split
  · exact Nat.le_succ _
  · exact Nat.le_refl _
theorem rw_ge (lt : Nat → Int32) (n w : Nat) (z : Nat × Int32) : ∀ k, z.1 ≤ (rwS lt n w z k).1
  | 0 => Nat.le_refl _
  | k + 1 => Nat.le_trans (rw_ge lt n w z k) (rl_ge _ _ _ _)
theorem dg_ge (lt : Nat → Int32) (n : Nat) : ∀ k p v, p ≤ (dgS lt n k p v).1
  | 0, p, v => Nat.le_refl _
  | k + 1, p, v => by
    rw [dgS]; split
    · exact Nat.le_trans (Nat.le_succ p) (dg_ge lt n k _ _)
    · exact Nat.le_refl _
theorem nu_ge (lt : Nat → Int32) (n : Nat) (lo hi : Int32) (z : Nat × Int32) : z.1 ≤ (nuS lt n lo hi z).1 := by
  have h1 := rl_ge lt n 32 z
  have h2 : (rlS lt n 32 z).1 ≤ (dgZ lt n (rlS lt n 32 z)).1 := by
    unfold dgZ; split
    · exact dg_ge lt n 3 _ _
    · exact Nat.le_refl _
  have h3 : (nuS lt n lo hi z).1 = (dgZ lt n (rlS lt n 32 z)).1 := by
    unfold nuS; split
    · exact nuA_1 lt n z
    · exact nuA_1 lt n z
  omega
theorem gr_ge (lt : Nat → Int32) (n : Nat) (ν : tT) (z : Nat × Int32) : ∀ k, z.1 ≤ (grS lt n ν z k).1
  | 0 => by rw [grS_0]; split <;> exact rw_ge _ _ _ _ _
  | 1 => Nat.le_trans (gr_ge lt n ν z 0) (nu_ge _ _ _ _ _)
  | 2 => Nat.le_trans (gr_ge lt n ν z 1) (nu_ge _ _ _ _ _)
  | k + 3 => Nat.le_trans (gr_ge lt n ν z (k + 2)) (nu_ge _ _ _ _ _)
theorem qu_ge (lt : Nat → Int32) (n : Nat) (ν : tT) (z : Nat × Int32) : ∀ k, z.1 ≤ (quS lt n ν z k).1
  | 0 => by rw [quS_0]; split <;> exact rw_ge _ _ _ _ _
  | 1 => Nat.le_trans (qu_ge lt n ν z 0) (nu_ge _ _ _ _ _)
  | k + 2 => Nat.le_trans (qu_ge lt n ν z (k + 1)) (nu_ge _ _ _ _ _)
theorem be_ge (lt : Nat → Int32) (n : Nat) (ν : tT) (z : Nat × Int32) : ∀ k, z.1 ≤ (beS lt n ν z k).1
  | 0 => Nat.le_refl _
  | 1 => nu_ge _ _ _ _ _
  | 2 => Nat.le_trans (be_ge lt n ν z 1) (nu_ge _ _ _ _ _)
  | 3 => by
    have := be_ge lt n ν z 2
    rw [beS_3]; split <;> exact this
  | k + 4 => Nat.le_trans (be_ge lt n ν z (k + 3)) (nu_ge _ _ _ _ _)
theorem it_ge (lt : Nat → Int32) (n : Nat) (ν : tT) (z : Nat × Int32) : z.1 ≤ (itS lt n ν z).1 := by
  unfold itS
  split
  · exact gr_ge _ _ _ _ _
  · split
    · exact qu_ge _ _ _ _ _
    · split
      · exact Nat.le_trans (rw_ge _ _ _ _ _) (be_ge _ _ _ _ _)
      · split
        · exact Nat.le_trans (rw_ge _ _ _ _ _) (be_ge _ _ _ _ _)
        · split
          · exact Nat.le_trans (rw_ge _ _ _ _ _) (nu_ge _ _ _ _ _)
          · split
            · exact Nat.le_trans (rw_ge _ _ _ _ _) (nu_ge _ _ _ _ _)
            · exact Nat.le_refl _
/-- what the place is for the other program behind an item -/
def itR (lt : Nat → Int32) (n : Nat) (ν : tT) (z : Nat × Int32) : tT := if (itS lt n ν z).2 = -1 then itT lt n ν z else ν
