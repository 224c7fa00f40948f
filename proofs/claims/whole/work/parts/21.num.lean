/-! numbers of people stay small -/
theorem nI_mul (a b : Nat) : nI a * nI b = nI (a * b) := (Int32.ofNat_mul a b).symm
theorem frac {m g : Nat} (hm : m ≤ 999) (hg : g ≤ 10) : nI m * nI g / 10 = nI (m * g / 10) ∧ m * g / 10 ≤ m := by
  have h1 : m * g ≤ m * 10 := Nat.mul_le_mul_left m hg
  refine ⟨?_, by omega⟩
  rw [nI_mul]
  exact pk_div (a := m * g) (d := 10) (by omega) (by decide) (by decide)
theorem ifr {P : Prop} [Decidable P] {n : Nat} {x z : Int32} (h1 : P → ∃ m, m ≤ n ∧ x = nI m) (h2 : ¬ P → ∃ m, m ≤ n ∧ z = nI m) : ∃ m, m ≤ n ∧ (if P then x else z) = nI m := by
  by_cases h : P
  · rw [if_pos h]; exact h1 h
  · rw [if_neg h]; exact h2 h
theorem hlf {n : Nat} (h : n < 2 ^ 31) : nI n / 2 = nI (n / 2) := pk_div (a := n) (d := 2) h (by decide) (by decide)
theorem sPl_nI (v : Int32) {n : Nat} (h : n < 2 ^ 31) : ∃ m, m ≤ n ∧ sPl v (nI n) = nI m := by
  unfold sPl
  exact ifr (fun _ => ⟨n, Nat.le_refl _, rfl⟩) (fun _ => ifr (fun _ => ⟨0, Nat.zero_le _, rfl⟩) (fun _ => ⟨n / 2, Nat.div_le_self _ _, hlf h⟩))
theorem sTu_nI (v : Int32) {n : Nat} (h : n < 2 ^ 31) : ∃ m, m ≤ n ∧ sTu v (nI n) = nI m := by
  unfold sTu
  exact ifr (fun _ => ⟨n, Nat.le_refl _, rfl⟩) (fun _ => ifr (fun _ => ⟨0, Nat.zero_le _, rfl⟩) (fun _ => ⟨n / 2, Nat.div_le_self _ _, hlf h⟩))
theorem sLd_nI {g a : Nat} (hg : g ≤ 10) (ha : a ≤ 9) : ∃ m, m ≤ 10 ∧ sLd (nI g) (nI a) = nI m := by
  unfold sLd
  rw [nI_add]
  exact ifr (fun h => ⟨g + a, (nI_leI (b := 10) (by omega) (by decide)).mp h, rfl⟩) (fun _ => ⟨10, Nat.le_refl _, rfl⟩)
theorem sYes_nI (k v : Int32) {a g n : Nat} (ha : a ≤ 9) (hg : g ≤ 10) (hn : n ≤ 999) : ∃ m, m ≤ n ∧ sYes k (nI a) v (nI g) (nI n) = nI m := by
  obtain ⟨p, hp, ep⟩ := sPl_nI v (n := n) (by omega)
  obtain ⟨u, hu, eu⟩ := sTu_nI v (n := n) (by omega)
  obtain ⟨w, hw, ew⟩ := sLd_nI hg ha
  have ea : (10 : Int32) - nI a = nI (10 - a) := pk_sub (a := 10) (b := a) (by omega)
  have eh : nI n / 2 = nI (n / 2) := hlf (by omega)
  unfold sYes
  rw [ep, eu, ew, ea, eh, pk_sub hp]
  refine ifr (fun _ => ?_) (fun _ => ifr (fun _ => ⟨u, hu, rfl⟩) (fun _ => ifr (fun _ => ?_) (fun _ => ifr (fun _ => ?_) (fun _ => ifr (fun _ => ?_) (fun _ => ifr (fun _ => ?_) (fun _ => ⟨p, hp, rfl⟩))))))
  · obtain ⟨e, h⟩ := frac (m := n - p) (g := g) (by omega) hg
    exact ⟨p + (n - p) * g / 10, by omega, by rw [e, nI_add]⟩
  · obtain ⟨e, h⟩ := frac (m := n - p) (g := w) (by omega) hw
    exact ⟨p + (n - p) * w / 10, by omega, by rw [e, nI_add]⟩
  · obtain ⟨e, h⟩ := frac (m := p) (g := 10 - a) (by omega) (by omega)
    exact ⟨_, Nat.le_trans h hp, e⟩
  · obtain ⟨e, h⟩ := frac (m := u) (g := 10 - a) (by omega) (by omega)
    exact ⟨_, Nat.le_trans h hu, e⟩
  · obtain ⟨e, h⟩ := frac (m := n / 2) (g := 10 - a) (by omega) (by omega)
    exact ⟨_, by omega, e⟩
theorem yQ_nI {τ : tT} (hT : TI τ) {q : Nat} (hq : q < 8) (v : Int32) {g n : Nat} (hg : g ≤ 10) (hn : n ≤ 999) : ∃ m, m ≤ n ∧ yQ τ q v (nI g) (nI n) = nI m := by
  have h1 := rng_nI (hT.2.2.1 q hq).2
  unfold yQ
  rw [h1.1]
  exact sYes_nI _ _ (by have := h1.2; omega) hg hn
theorem TI.gl {τ : tT} (hT : TI τ) {g : Nat} (hg : g < tG τ) : ∃ m, m ≤ 10 ∧ τ 5 g = nI m := by
  have h1 := rng_nI (hT.2.2.2.2.1 g hg).2.2.1
  exact ⟨_, by have := h1.2; omega, h1.1⟩
theorem yG_nI {τ : tT} (hT : TI τ) {q : Nat} (hq : q < 8) {g n : Nat} (hg : g < tG τ) (hn : n ≤ 999) : ∃ m, m ≤ n ∧ yG τ q g (nI n) = nI m := by
  obtain ⟨w, hw, e⟩ := hT.gl hg
  unfold yG
  rw [e]
  exact yQ_nI hT hq _ hw hn
theorem yQ_0 {τ : tT} (hT : TI τ) {q : Nat} (hq : q < 8) (v : Int32) {g : Nat} (hg : g < tG τ) : yQ τ q v (τ 5 g) 0 = 0 := by
  obtain ⟨w, hw, e⟩ := hT.gl hg
  obtain ⟨m, hm, e2⟩ := yQ_nI hT hq v hw (n := 0) (by decide)
  rw [e]
  have hm0 : m = 0 := by omega
  subst hm0; exact e2
theorem all_nI {τ : tT} (hT : TI τ) {q : Nat} (hq : q < 8) : ∀ G, G ≤ tG τ → ∃ s c, s ≤ c ∧ c ≤ 999 * G ∧ sumN (fun g => yG τ q g (τ 3 g)) G = nI s ∧ sumN (τ 3) G = nI c
  | 0, _ => ⟨0, 0, Nat.le_refl _, Nat.le_refl _, rfl, rfl⟩
  | G + 1, h => by
    obtain ⟨s, c, h1, h2, e1, e2⟩ := all_nI hT hq G (by omega)
    obtain ⟨ec, hc, _⟩ := hT.c (g := G) (by omega)
    obtain ⟨m, hm, em⟩ := yG_nI hT hq (g := G) (by omega) hc
    refine ⟨s + m, c + tC τ G, by omega, by omega, ?_, ?_⟩
    · rw [sumN, e1, ec, em, nI_add]
    · rw [sumN, e2, ec, nI_add]
theorem sTh_nI {s c : Nat} (h : s ≤ c) (hc : c ≤ 99990) : ∃ m, m ≤ 1000 ∧ sTh (nI s) (nI c) = nI m := by
  unfold sTh
  refine ifr (fun _ => ⟨0, by decide, rfl⟩) (fun h0 => ?_)
  have hc0 : 0 < c := Nat.pos_of_ne_zero (fun q => h0 (by rw [q]; rfl))
  refine ⟨1000 * s / c, ?_, ?_⟩
  · have : 1000 * s ≤ 1000 * c := Nat.mul_le_mul_left _ h
    have h2 : 1000 * s / c ≤ 1000 * c / c := Nat.div_le_div_right this
    rwa [Nat.mul_div_cancel _ hc0] at h2
  · have e : (1000 : Int32) * nI s = nI (1000 * s) := nI_mul 1000 s
    rw [e]
    exact pk_div (by omega) hc0 (by omega)
theorem share_nI {τ : tT} (hT : TI τ) {q : Nat} (hq : q < 8) : ∃ m, m ≤ 1000 ∧ share τ q = nI m := by
  obtain ⟨s, c, h1, h2, e1, e2⟩ := all_nI hT hq (tG τ) (Nat.le_refl _)
  unfold share allN ppl
  rw [e1, e2]
  have := hT.g10
  exact sTh_nI h1 (by omega)
theorem hold_nI {τ : tT} (hT : TI τ) : ∃ m, m ≤ 1000 ∧ hold τ = nI m := by
  have key : ∀ G, G ≤ tG τ → ∃ s c, s ≤ c ∧ c ≤ 999 * G ∧ sumN (fun g => if τ 4 g = 0 then τ 3 g else 0) G = nI s ∧ sumN (τ 3) G = nI c := by
    intro G
    induction G with
    | zero => intro _; exact ⟨0, 0, Nat.le_refl _, Nat.le_refl _, rfl, rfl⟩
    | succ G ih =>
      intro h
      obtain ⟨s, c, h1, h2, e1, e2⟩ := ih (by omega)
      obtain ⟨ec, hc, _⟩ := hT.c (g := G) (by omega)
      obtain ⟨m, hm, em⟩ := ifr (P := τ 4 G = 0) (n := tC τ G) (x := τ 3 G) (z := 0) (fun _ => ⟨tC τ G, Nat.le_refl _, ec⟩) (fun _ => ⟨0, Nat.zero_le _, rfl⟩)
      refine ⟨s + m, c + tC τ G, by omega, by omega, ?_, ?_⟩
      · rw [sumN, e1, em, nI_add]
      · rw [sumN, e2, ec, nI_add]
  obtain ⟨s, c, h1, h2, e1, e2⟩ := key (tG τ) (Nat.le_refl _)
  unfold hold holdN ppl
  rw [e1, e2]
  have := hT.g10
  exact sTh_nI h1 (by omega)
/-- how far two numbers lie apart -/
theorem abs_nI {a b M : Nat} (ha : a ≤ M) (hb : b ≤ M) (hM : M < 2 ^ 30) : ∃ m, m ≤ M ∧ mAbs (nI a - nI b) = nI m := by
  unfold mAbs
  by_cases h : b ≤ a
  · rw [pk_sub h, if_pos (nI_pos' (by omega))]
    exact ⟨a - b, by omega, rfl⟩
  · have e : (nI a - nI b).toInt = (a : Int) - b := pk_sub_toInt (by omega) (by omega)
    have e2 : (0 : Int32) - (nI a - nI b) = nI (b - a) := by
      apply Int32.toInt_inj.mp
      rw [nI_toInt (by omega), Int32.toInt_sub, e, show (0 : Int32).toInt = 0 from rfl, Int.bmod_def]
      omega
    rw [if_neg (fun q => by have := Int32.le_iff_toInt_le.mp q; rw [e, show (0 : Int32).toInt = 0 from rfl] at this; omega), e2]
    exact ⟨b - a, by omega, rfl⟩
theorem mm_nI (z : Int32) : ∃ m, m ≤ 1000 ∧ mMax 0 (mMin 1000 z) = nI m := by
  have h1 : rng (mMax 0 (mMin 1000 z)) 0 1000 := by
    unfold rng mMax mMin
    have e0 : (0 : Int32).toInt = 0 := rfl
    have e1 : (1000 : Int32).toInt = 1000 := rfl
    split <;> split <;> simp_all only [Int32.lt_iff_toInt_lt] <;> omega
  have h2 := rng_nI h1
  exact ⟨_, by have := h2.2; omega, h2.1⟩
theorem shB_nI (τ : tT) (q : Nat) (x s : Int32) : ∃ m, m ≤ 1000 ∧ shB τ q x s = nI m := mm_nI _
/-! the finest number of tries -/
theorem sum_0 {f : Nat → Int32} : ∀ n, (∀ k, k < n → f k = 0) → sumN f n = 0
  | 0, _ => rfl
  | n + 1, h => by rw [sumN, sum_0 n (fun k hk => h k (Nat.lt_succ_of_lt hk)), h n (Nat.lt_succ_self n)]; rfl
theorem off_0 {τ : tT} (hT : TI τ) {q : Nat} (hq : q < 8) : ∃ m, m ≤ 1000 ∧ mAbs (off τ q 0) = nI m := by
  obtain ⟨s, hs, e⟩ := share_nI hT hq
  have h1 : shA τ q 0 0 = 0 := by
    unfold shA
    have : anB τ 0 0 = 0 := sum_0 _ (fun k _ => Int32.sub_self _)
    rw [this, sTh, if_pos rfl]
  unfold off
  rw [h1, e]
  exact abs_nI (a := 0) (M := 1000) (by decide) hs (by decide)
def fiL (τ : tT) (q : Nat) (c : Int32) (i : Nat) : Int32 := if i = 0 then 1000000 else mAbs (off τ q (fiN τ q c (i - 1)))
def fiB (τ : tT) (q : Nat) (c : Int32) (i : Nat) : Nat := fiN τ q c (i - 1)
theorem fi_take {τ : tT} (hT : TI τ) {q : Nat} (hq : q < 8) {c : Int32} {i : Nat} (h1 : cost τ i ≤ c) (h2 : mAbs (off τ q i) < fiL τ q c i) : fiL τ q c (i + 1) = mAbs (off τ q i) ∧ fiB τ q c (i + 1) = i := by
  have e : fiN τ q c i = i := by
    cases i with
    | zero => rfl
    | succ t => rw [fiL, if_neg (by omega)] at h2; rw [fiN, if_pos ⟨h1, h2⟩]
  constructor
  · rw [fiL, if_neg (by omega), show i + 1 - 1 = i from rfl, e]
  · exact e
theorem fi_skip {τ : tT} (hT : TI τ) {q : Nat} (hq : q < 8) {c : Int32} (hc : 0 ≤ c) {i : Nat} (h : ¬ (cost τ i ≤ c ∧ mAbs (off τ q i) < fiL τ q c i)) : fiL τ q c (i + 1) = fiL τ q c i ∧ fiB τ q c (i + 1) = fiB τ q c i := by
  cases i with
  | zero =>
    refine absurd ⟨?_, ?_⟩ h
    · have : cost τ 0 = 0 := by unfold cost; rw [sumN]; exact Int32.mul_zero
      rw [this]; exact hc
    · obtain ⟨m, hm, e⟩ := off_0 hT hq
      rw [e, fiL, if_pos rfl]
      exact (nI_ltI (b := 1000000) (by omega) (by decide)).mpr (by omega)
  | succ t =>
    rw [fiL, if_neg (by omega), show t + 1 - 1 = t from rfl] at h
    have e : fiN τ q c (t + 1) = fiN τ q c t := by rw [fiN, if_neg h]
    unfold fiL fiB
    rw [if_neg (by omega), if_neg (by omega), show t + 1 + 1 - 1 = t + 1 from rfl, show t + 1 - 1 = t from rfl, e]
    exact ⟨rfl, rfl⟩
theorem fiN_le (τ : tT) (q : Nat) (c : Int32) : ∀ n, fiN τ q c n ≤ n
  | 0 => Nat.le_refl _
  | n + 1 => by
    have := fiN_le τ q c n
    rw [fiN]; split <;> omega
/-! moving people -/
def mvP (τ : tT) : Nat → Nat
  | 0 => 0
  | g + 1 => if τ 4 g = 2 then mvP τ g + tC τ g else mvP τ g
def mvG (τ : tT) (g n : Nat) : Nat := if τ 4 g = 2 then min (n - mvP τ g) (tC τ g) else 0
def mvT (τ : tT) (q n g : Nat) : Int32 := yG τ q g (nI (tC τ g - mvG τ g n)) + yQ τ q 0 (τ 5 g) (nI (mvG τ g n))
def mvS (τ : tT) (q n : Nat) : Int32 := sumN (mvT τ q n) (tG τ)
def mvF (τ : tT) (q : Nat) (v : Int32) : Nat → Nat → Int32
  | 0, _ => -1
  | m + 1, n => if v ≤ sTh (mvS τ q n) (ppl τ) then nI n else mvF τ q v m (n + 1)
theorem mvP_mono (τ : tT) {g : Nat} : ∀ d, mvP τ g ≤ mvP τ (g + d)
  | 0 => Nat.le_refl _
  | d + 1 => by
    have := mvP_mono τ (g := g) d
    show mvP τ g ≤ mvP τ (g + d + 1)
    rw [mvP]; split <;> omega
theorem mvP_le (τ : tT) {g h : Nat} (e : g ≤ h) : mvP τ g ≤ mvP τ h := by
  have := mvP_mono τ (g := g) (h - g)
  rwa [show g + (h - g) = h from by omega] at this
theorem mvP_s (τ : tT) {g : Nat} (h : τ 4 g = 2) : mvP τ (g + 1) = mvP τ g + tC τ g := by rw [mvP, if_pos h]
theorem mvP_n (τ : tT) {g : Nat} (h : ¬ τ 4 g = 2) : mvP τ (g + 1) = mvP τ g := by rw [mvP, if_neg h]
theorem mvG_lo (τ : tT) {g h n : Nat} (e : h < g) (hn : mvP τ g ≤ n) : mvG τ h n = if τ 4 h = 2 then tC τ h else 0 := by
  unfold mvG
  by_cases h2 : τ 4 h = 2
  · rw [if_pos h2, if_pos h2]
    have h3 := mvP_le τ (show h + 1 ≤ g from e)
    rw [mvP_s τ h2] at h3
    omega
  · rw [if_neg h2, if_neg h2]
theorem mvG_hi (τ : tT) {g h n : Nat} (e : g ≤ h) (hn : n ≤ mvP τ g) : mvG τ h n = 0 := by
  unfold mvG
  split
  · have := mvP_le τ e
    omega
  · rfl
theorem sum_at {f f' : Nat → Int32} {g : Nat} : ∀ n, g < n → (∀ k, k < n → k ≠ g → f' k = f k) → sumN f' n = sumN f n - f g + f' g
  | 0, h, _ => absurd h (Nat.not_lt_zero _)
  | n + 1, h, hk => by
    rw [sumN, sumN]
    by_cases e : g = n
    · subst e
      rw [sumN_congr (f := f') (g := f) g (fun k hk2 => hk k (by omega) (by omega)), Int32.add_sub_cancel]
    · rw [sum_at n (by omega) (fun k hk2 => hk k (by omega)), hk n (Nat.lt_succ_self n) (fun q => e q.symm)]
      grind
theorem mv_step {τ : tT} (hT : TI τ) {q : Nat} (hq : q < 8) {g n : Nat} (hg : g < tG τ) (hv : τ 4 g = 2) (hn : n ≤ tC τ g) : mvS τ q (mvP τ g) - yG τ q g (nI (tC τ g)) + yQ τ q 0 (τ 5 g) (nI n) + yG τ q g (nI (tC τ g - n)) = mvS τ q (mvP τ g + n) := by
  have e0 : mvG τ g (mvP τ g) = 0 := mvG_hi τ (Nat.le_refl _) (Nat.le_refl _)
  have e1 : mvG τ g (mvP τ g + n) = n := by unfold mvG; rw [if_pos hv]; omega
  have h := sum_at (f := mvT τ q (mvP τ g)) (f' := mvT τ q (mvP τ g + n)) (g := g) (tG τ) hg (fun k hk hne => by
    unfold mvT
    have e : mvG τ k (mvP τ g + n) = mvG τ k (mvP τ g) := by
      by_cases hlt : k < g
      · rw [mvG_lo τ hlt (Nat.le_add_right _ _), mvG_lo τ hlt (Nat.le_refl _)]
      · have hgt : g + 1 ≤ k := by omega
        rw [mvG_hi τ hgt (by rw [mvP_s τ hv]; omega), mvG_hi τ (show g ≤ k by omega) (Nat.le_refl _)]
    rw [e])
  unfold mvS
  rw [h]
  unfold mvT
  rw [e0, e1, show tC τ g - 0 = tC τ g from rfl, show nI 0 = 0 from rfl, yQ_0 hT hq 0 hg]
  grind
theorem mv_0 {τ : tT} (hT : TI τ) {q : Nat} (hq : q < 8) : mvS τ q 0 = allN τ q := by
  unfold mvS allN
  refine sumN_congr _ (fun g hg => ?_)
  have e0 : mvG τ g 0 = 0 := mvG_hi τ (Nat.zero_le g) (Nat.le_refl _)
  unfold mvT
  rw [e0, show nI 0 = 0 from rfl, yQ_0 hT hq 0 hg, show tC τ g - 0 = tC τ g from rfl, ← (hT.c hg).1, Int32.add_zero]
theorem mvF_go {τ : tT} {q : Nat} {v : Int32} {m n : Nat} (h : ¬ v ≤ sTh (mvS τ q n) (ppl τ)) (hm : 0 < m) : mvF τ q v m n = mvF τ q v (m - 1) (n + 1) := by
  cases m with
  | zero => omega
  | succ m => rw [mvF, if_neg h]; rfl
theorem mvF_at {τ : tT} {q : Nat} {v : Int32} {m n : Nat} (h : v ≤ sTh (mvS τ q n) (ppl τ)) (hm : 0 < m) : mvF τ q v m n = nI n := by
  cases m with
  | zero => omega
  | succ m => rw [mvF, if_pos h]
