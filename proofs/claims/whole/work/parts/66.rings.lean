/-! RINGS: ways from chore to chore -/
def anB (q : Nat → Bool) : Nat → Bool
  | 0 => false
  | i + 1 => anB q i || q i
theorem anB_iff {q : Nat → Bool} : ∀ {n : Nat}, anB q n = true ↔ ∃ i, i < n ∧ q i = true
  | 0 => ⟨fun h => by simp [anB] at h, fun ⟨i, h, _⟩ => by omega⟩
  | n + 1 => by
    rw [anB, Bool.or_eq_true, anB_iff (n := n)]
    constructor
    · rintro (⟨i, h1, h2⟩ | h)
      · exact ⟨i, by omega, h2⟩
      · exact ⟨n, by omega, h⟩
    · rintro ⟨i, h1, h2⟩
      by_cases e : i = n
      · subst e; exact Or.inr h2
      · exact Or.inl ⟨i, by omega, h2⟩
/-- a way of k gifts from c to f, between only above f -/
def Wf (n : Nat) (e : Nat → Nat → Bool) (f : Nat) : Nat → Nat → Prop
  | 0, _ => False
  | 1, c => e c f = true
  | k + 2, c => ∃ d, f < d ∧ d < n ∧ Wf n e f (k + 1) d ∧ e c d = true
def cnB (n : Nat) (e : Nat → Nat → Bool) (f : Nat) : Nat → Nat → Bool
  | 0, c => decide (c = f)
  | k + 1, c => decide (f ≤ c) && anB (fun d => decide (f ≤ d) && cnB n e f k d && (decide (f < d) || decide (k = 0)) && e c d) n
def Wk (n : Nat) (e : Nat → Nat → Bool) : Nat → Nat → Nat → Prop
  | 0, a, b => a = b
  | k + 1, a, b => ∃ d, d < n ∧ e a d = true ∧ Wk n e k d b
section
variable {n : Nat} {e : Nat → Nat → Bool}
theorem cn_iff {f : Nat} (hf : f < n) : ∀ {k c : Nat}, f ≤ c → (cnB n e f (k + 1) c = true ↔ Wf n e f (k + 1) c)
  | 0, c, hc => by
    rw [cnB, Bool.and_eq_true, anB_iff]
    constructor
    · rintro ⟨_, d, d1, d2⟩
      simp only [cnB, Bool.and_eq_true, decide_eq_true_eq] at d2
      obtain ⟨⟨⟨_, d3⟩, _⟩, d4⟩ := d2
      subst d3
      exact d4
    · intro h
      refine ⟨by simpa using hc, f, hf, ?_⟩
      simp only [cnB, Bool.and_eq_true, decide_eq_true_eq, Bool.or_eq_true]
      exact ⟨⟨⟨Nat.le_refl _, trivial⟩, Or.inr trivial⟩, h⟩
  | k + 1, c, hc => by
    rw [cnB, Bool.and_eq_true, anB_iff]
    constructor
    · rintro ⟨_, d, d1, d2⟩
      simp only [Bool.and_eq_true, decide_eq_true_eq, Bool.or_eq_true] at d2
      obtain ⟨⟨⟨d3, d4⟩, d5⟩, d6⟩ := d2
      have d7 : f < d := by
        rcases d5 with w | w
        · exact w
        · omega
      exact ⟨d, d7, d1, (cn_iff hf d3).mp d4, d6⟩
    · rintro ⟨d, d1, d2, d3, d4⟩
      refine ⟨by simpa using hc, d, d2, ?_⟩
      simp only [Bool.and_eq_true, decide_eq_true_eq, Bool.or_eq_true]
      exact ⟨⟨⟨by omega, (cn_iff hf (by omega)).mpr d3⟩, Or.inl d1⟩, d4⟩
theorem Wf_pos {f k c : Nat} (h : Wf n e f k c) : 0 < k := by
  match k, h with
  | 0, h => exact absurd h id
  | k + 1, _ => omega
theorem Wf_cons {f k c d : Nat} (h1 : f < d) (h2 : d < n) (h3 : e c d = true) (h : Wf n e f k d) : Wf n e f (k + 1) c := by
  match k, h with
  | 0, h => exact absurd h id
  | k + 1, h => exact ⟨d, h1, h2, h, h3⟩
theorem Wk_cat : ∀ {j k a b c : Nat}, Wk n e j a b → Wk n e k b c → Wk n e (j + k) a c
  | 0, k, a, b, c, h1, h2 => by
    have : a = b := h1
    subst this
    rw [Nat.zero_add]
    exact h2
  | j + 1, k, a, b, c, ⟨d, d1, d2, d3⟩, h2 => by
    have := Wk_cat d3 h2
    rw [show j + 1 + k = (j + k) + 1 by omega]
    exact ⟨d, d1, d2, this⟩
theorem Wk_one {a b : Nat} (hb : b < n) (h : e a b = true) : Wk n e 1 a b := ⟨b, hb, h, rfl⟩
theorem Wf_Wk {f : Nat} (hf : f < n) : ∀ {k c : Nat}, Wf n e f k c → Wk n e k c f
  | 0, _, h => absurd h id
  | 1, _, h => Wk_one hf h
  | _ + 2, _, ⟨d, _, d2, d3, d4⟩ => ⟨d, d2, d4, Wf_Wk hf d3⟩
theorem Wk_split {f : Nat} : ∀ {k a : Nat}, Wk n e (k + 1) a f → Wf n e f (k + 1) a ∨ ∃ d j, d ≤ f ∧ d < n ∧ 0 < j ∧ j < k + 1 ∧ Wk n e j a d ∧ Wk n e (k + 1 - j) d f
  | 0, a, ⟨d, d1, d2, d3⟩ => by
    have : d = f := d3
    subst this
    exact Or.inl d2
  | k + 1, a, ⟨d, d1, d2, d3⟩ => by
    by_cases q : d ≤ f
    · exact Or.inr ⟨d, 1, q, d1, by omega, by omega, Wk_one d1 d2, d3⟩
    · rcases Wk_split d3 with h | ⟨d', j, x1, x2, x3, x4, x5, x6⟩
      · exact Or.inl ⟨d, by omega, d1, h, d2⟩
      · refine Or.inr ⟨d', j + 1, x1, x2, by omega, by omega, ⟨d, d1, d2, x5⟩, ?_⟩
        rw [show k + 1 + 1 - (j + 1) = k + 1 - j by omega]
        exact x6
theorem Wk_closed : ∀ (s L a : Nat), L + a = s → a < n → Wk n e (L + 1) a a → ∃ f k, f < n ∧ k ≤ L + 1 ∧ Wf n e f k f := by
  intro s
  induction s using Nat.strongRecOn with
  | ind s ih =>
  intro L a hs ha h
  rcases Wk_split h with h1 | ⟨d, j, x1, x2, x3, x4, x5, x6⟩
  · exact ⟨a, L + 1, ha, Nat.le_refl _, h1⟩
  · by_cases q : d = a
    · subst q
      obtain ⟨f, k, y1, y2, y3⟩ := ih (j - 1 + d) (by omega) (j - 1) d rfl ha (by rw [show j - 1 + 1 = j by omega]; exact x5)
      exact ⟨f, k, y1, by omega, y3⟩
    · have hc := Wk_cat x6 x5
      rw [show L + 1 - j + j = L + 1 by omega] at hc
      exact ih (L + d) (by omega) L d rfl x2 hc
/-- no ring is shorter -/
def rMin (n : Nat) (e : Nat → Nat → Bool) (m : Nat) : Prop := ∀ f k, f < n → Wf n e f k f → m ≤ k
theorem rMin_Wk {m L a : Nat} (hm : rMin n e m) (ha : a < n) (h0 : 0 < L) (h : Wk n e L a a) : m ≤ L := by
  obtain ⟨f, k, x1, x2, x3⟩ := Wk_closed _ (L - 1) a rfl ha (by rw [show L - 1 + 1 = L by omega]; exact h)
  have := hm f k x1 x3
  omega
/-- the ring, chore by chore -/
def rgN (n : Nat) (e : Nat → Nat → Bool) (f m : Nat) : Nat → Nat
  | 0 => f
  | i + 1 => fa_first (fun c => decide (f < c) && e (rgN n e f m i) c && cnB n e f (m - (i + 1)) c) n
theorem rg_ok {f m : Nat} (hf : f < n) (h : Wf n e f m f) : ∀ i, i < m → Wf n e f (m - i) (rgN n e f m i) ∧ rgN n e f m i < n ∧ f ≤ rgN n e f m i ∧ ∀ j, i = j + 1 → f < rgN n e f m i ∧ e (rgN n e f m j) (rgN n e f m i) = true
  | 0, _ => ⟨h, hf, Nat.le_refl _, fun j hj => by omega⟩
  | i + 1, hi => by
    obtain ⟨a1, a2, a3, a4⟩ := rg_ok hf h i (by omega)
    have hex : ∃ d, f < d ∧ d < n ∧ Wf n e f (m - (i + 1)) d ∧ e (rgN n e f m i) d = true := by
      obtain ⟨k, hk⟩ : ∃ k, m - i = k + 2 := ⟨m - i - 2, by omega⟩
      rw [hk] at a1
      obtain ⟨d, d1, d2, d3, d4⟩ := a1
      exact ⟨d, d1, d2, by rw [show m - (i + 1) = k + 1 by omega]; exact d3, d4⟩
    obtain ⟨d, d1, d2, d3, d4⟩ := hex
    have hp : ∃ k, m - (i + 1) = k + 1 := ⟨m - (i + 1) - 1, by omega⟩
    have hlt : rgN n e f m (i + 1) < n := by
      rw [rgN]
      refine fst_some d2 ?_
      obtain ⟨k, hk⟩ := hp
      rw [hk] at d3 ⊢
      simp [d1, d4, (cn_iff hf (by omega)).mpr d3]
    have hy := fa_first_yes (fun c => decide (f < c) && e (rgN n e f m i) c && cnB n e f (m - (i + 1)) c) n (by rw [rgN] at hlt; exact hlt)
    have e0 : fa_first (fun c => decide (f < c) && e (rgN n e f m i) c && cnB n e f (m - (i + 1)) c) n = rgN n e f m (i + 1) := by rw [rgN]
    rw [e0] at hy
    simp only [Bool.and_eq_true, decide_eq_true_eq] at hy
    obtain ⟨⟨y1, y2⟩, y3⟩ := hy
    refine ⟨?_, hlt, by omega, fun j hj => ?_⟩
    · obtain ⟨k, hk⟩ := hp
      rw [hk] at y3 ⊢
      exact (cn_iff hf (by omega)).mp y3
    · have : j = i := by omega
      subst this
      exact ⟨y1, y2⟩
theorem rg_Wk {f m : Nat} (hf : f < n) (h : Wf n e f m f) : ∀ (d i : Nat), i + d < m → Wk n e d (rgN n e f m i) (rgN n e f m (i + d))
  | 0, i, _ => rfl
  | d + 1, i, hi => by
    have h1 := rg_Wk hf h d (i + 1) (by omega)
    have h2 := (rg_ok hf h (i + 1) (by omega))
    refine ⟨rgN n e f m (i + 1), h2.2.1, (h2.2.2.2 i rfl).2, ?_⟩
    rw [show i + (d + 1) = i + 1 + d by omega]
    exact h1
/-- what the way before it and a way behind it make -/
theorem rg_back {f m c k : Nat} (hf : f < n) (h : Wf n e f m f) : ∀ i, i < m → f < c → c < n → e (rgN n e f m i) c = true → Wf n e f k c → Wf n e f (k + i + 1) f
  | 0, _, h1, h2, h3, h4 => Wf_cons h1 h2 h3 h4
  | i + 1, hi, h1, h2, h3, h4 => by
    have a := rg_ok hf h (i + 1) hi
    have := rg_back (c := rgN n e f m (i + 1)) (k := k + 1) hf h i (by omega) (a.2.2.2 i rfl).1 a.2.1 (a.2.2.2 i rfl).2 (Wf_cons h1 h2 h3 h4)
    rw [show k + (i + 1) + 1 = k + 1 + i + 1 by omega]
    exact this
/-- the shortest ring meets nobody twice -/
theorem rg_inj {f m : Nat} {w : Nat → Nat} {v : Nat → Nat → Nat} (hf : f < n) (h : Wf n e f m f) (hm : rMin n e m) (hS : ∀ a x y, a < n → x < n → y < n → e a x = true → (∃ z, z < n ∧ e z y = true) → w x = w y → v (w x) x ≤ v (w y) y → e a y = true) : ∀ i j, i < j → j < m → ¬ w (rgN n e f m i) = w (rgN n e f m j) := by
  intro i j hij hj hw
  have ai_ := rg_ok hf h i (by omega)
  have aj := rg_ok hf h j hj
  have al_ := rg_ok hf h (m - 1) (by omega)
  have hlast : e (rgN n e f m (m - 1)) f = true := by
    have := al_.1
    rw [show m - (m - 1) = 1 by omega] at this
    exact this
  have hj1 := rg_ok hf h (j - 1) (by omega)
  have ej := (aj.2.2.2 (j - 1) (by omega)).2
  have hinx : ∃ z, z < n ∧ e z (rgN n e f m i) = true := by
    by_cases q : i = 0
    · subst q
      exact ⟨_, al_.2.1, hlast⟩
    · exact ⟨_, (rg_ok hf h (i - 1) (by omega)).2.1, (ai_.2.2.2 (i - 1) (by omega)).2⟩
  rcases Nat.le_total (v (w (rgN n e f m j)) (rgN n e f m j)) (v (w (rgN n e f m i)) (rgN n e f m i)) with q | q
  · have ed := hS (rgN n e f m (j - 1)) (rgN n e f m j) (rgN n e f m i) hj1.2.1 aj.2.1 ai_.2.1 ej hinx hw.symm q
    have w1 := rg_Wk hf h (j - 1 - i) i (by omega)
    rw [show i + (j - 1 - i) = j - 1 by omega] at w1
    have := rMin_Wk hm ai_.2.1 (by omega) (Wk_cat w1 (Wk_one ai_.2.1 ed))
    omega
  · have iny : ∃ z, z < n ∧ e z (rgN n e f m j) = true := ⟨_, hj1.2.1, ej⟩
    by_cases q0 : i = 0
    · subst q0
      have ed := hS (rgN n e f m (m - 1)) f (rgN n e f m j) al_.2.1 hf aj.2.1 hlast iny hw q
      have w1 := rg_Wk hf h (m - 1 - j) j (by omega)
      rw [show j + (m - 1 - j) = m - 1 by omega] at w1
      have := rMin_Wk hm aj.2.1 (by omega) (Wk_cat w1 (Wk_one aj.2.1 ed))
      omega
    · have a1 := rg_ok hf h (i - 1) (by omega)
      have ed := hS (rgN n e f m (i - 1)) (rgN n e f m i) (rgN n e f m j) a1.2.1 ai_.2.1 aj.2.1 (ai_.2.2.2 (i - 1) (by omega)).2 iny hw q
      have w1 := Wf_Wk hf aj.1
      have w2 := rg_Wk hf h (i - 1) 0 (by omega)
      rw [show 0 + (i - 1) = i - 1 by omega] at w2
      have := rMin_Wk hm aj.2.1 (by omega) (Wk_cat w1 (Wk_cat w2 (Wk_one aj.2.1 ed)))
      omega
theorem php : ∀ {K P : Nat} {g : Nat → Nat}, (∀ i, i < K → g i < P) → (∀ i j, i < j → j < K → ¬ g i = g j) → K ≤ P
  | 0, _, _, _, _ => Nat.zero_le _
  | K + 1, P, g, h1, h2 => by
    have hk := h1 K (by omega)
    have := php (K := K) (P := P - 1) (g := fun i => if g K < g i then g i - 1 else g i) (fun i hi => by
      have a := h1 i (by omega)
      have c := h2 i K hi (by omega)
      show (if g K < g i then g i - 1 else g i) < P - 1
      split <;> omega) (fun i j hij hj => by
      have a := h2 i j hij (by omega)
      have c := h2 i K (by omega) (by omega)
      have d := h2 j K (by omega) (by omega)
      show ¬ (if g K < g i then g i - 1 else g i) = (if g K < g j then g j - 1 else g j)
      split <;> split <;> omega)
    omega
/-- the fewest gifts to f, as they are counted; 0 where no way is -/
def GS (n : Nat) (e : Nat → Nat → Bool) (f : Nat) (g : Nat → Nat) : Prop := ∀ c, f < c → c < n → g c ≤ 24 ∧ (g c = 0 → ∀ k, ¬ Wf n e f k c) ∧ (¬ g c = 0 → Wf n e f (g c) c ∧ ∀ k, Wf n e f k c → g c ≤ k)
/-- the counted gifts and the ways say the same on a shortest ring -/
theorem rg_same {f m i c : Nat} {g : Nat → Nat} (hf : f < n) (h : Wf n e f m f) (hm : rMin n e m) (hG : GS n e f g) (hi : i + 1 < m) (hc : f < c) (hcn : c < n) (he : e (rgN n e f m i) c = true) : (g c = m - (i + 1)) ↔ cnB n e f (m - (i + 1)) c = true := by
  obtain ⟨g1, g2, g3⟩ := hG c hc hcn
  obtain ⟨k, hk⟩ : ∃ k, m - (i + 1) = k + 1 := ⟨m - (i + 1) - 1, by omega⟩
  rw [hk, cn_iff hf (by omega)]
  constructor
  · intro q
    have := (g3 (by omega)).1
    rw [q] at this
    exact this
  · intro q
    have n0 : ¬ g c = 0 := fun w => g2 w _ q
    obtain ⟨w1, w2⟩ := g3 n0
    have l1 := w2 _ q
    have l2 := hm f _ hf (rg_back hf h i (by omega) hc hcn he w1)
    omega
/-- how long the shortest ring from f on is -/
def RL (n : Nat) (e : Nat → Nat → Bool) (f r : Nat) : Prop := (r = 0 ∧ ∀ k, ¬ Wf n e f k f) ∨ (2 ≤ r ∧ r ≤ 25 ∧ Wf n e f r f ∧ ∀ k, Wf n e f k f → r ≤ k)
theorem RL_of {f r : Nat} {g : Nat → Nat} (hee : e f f = false) (hG : GS n e f g) (h : (r = 0 ∧ ∀ c, f < c → c < n → ¬ g c = 0 → e f c = false) ∨ ((∃ c, f < c ∧ c < n ∧ ¬ g c = 0 ∧ e f c = true ∧ r = g c + 1) ∧ ∀ c, f < c → c < n → ¬ g c = 0 → e f c = true → r ≤ g c + 1)) : RL n e f r := by
  have key : ∀ k, Wf n e f k f → ∃ c, f < c ∧ c < n ∧ ¬ g c = 0 ∧ e f c = true ∧ g c + 1 ≤ k := by
    intro k hk
    match k, hk with
    | 0, hk => exact absurd hk id
    | 1, hk =>
      have : e f f = true := hk
      rw [hee] at this
      cases this
    | k + 2, ⟨d, d1, d2, d3, d4⟩ =>
      obtain ⟨g1, g2, g3⟩ := hG d d1 d2
      have n0 : ¬ g d = 0 := fun w => g2 w _ d3
      exact ⟨d, d1, d2, n0, d4, by have := (g3 n0).2 _ d3; omega⟩
  rcases h with ⟨h1, h2⟩ | ⟨⟨c, c1, c2, c3, c4, c5⟩, h2⟩
  · refine Or.inl ⟨h1, fun k hk => ?_⟩
    obtain ⟨c, x1, x2, x3, x4, x5⟩ := key k hk
    rw [h2 c x1 x2 x3] at x4
    cases x4
  · obtain ⟨g1, g2, g3⟩ := hG c c1 c2
    refine Or.inr ⟨by omega, by omega, ?_, fun k hk => ?_⟩
    · rw [c5]
      exact Wf_cons c1 c2 c4 (g3 c3).1
    · obtain ⟨c', x1, x2, x3, x4, x5⟩ := key k hk
      have := h2 c' x1 x2 x3 x4
      omega
/-- the swap's ring: from f on, m long; or none -/
def SW (n : Nat) (e : Nat → Nat → Bool) (f m i : Nat) : Prop := f < i ∧ 2 ≤ m ∧ m ≤ 25 ∧ Wf n e f m f ∧ (∀ f' k, f' < i → Wf n e f' k f' → m ≤ k) ∧ ∀ f' k, f' < f → Wf n e f' k f' → m < k
end
