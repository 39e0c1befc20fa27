/-! PRICES: ways from room to room -/
def Pth (n : Nat) (c : Nat → Nat → Int) : Nat → Nat → Nat → Int → Prop
  | 0, x, y, z => x = y ∧ z = 0
  | m + 1, x, y, z => ∃ d z', d < n ∧ Pth n c m d y z' ∧ z = c x d + z'
def Wa (c : Nat → Nat → Int) (a : Nat → Nat) (m : Nat) : Int := fb_si (fun t => c (a t) (a (t + 1))) m
section
variable {n : Nat} {c : Nat → Nat → Int}
theorem Pth_cat : ∀ {j k x y w : Nat} {z z2 : Int}, Pth n c j x y z → Pth n c k y w z2 → Pth n c (j + k) x w (z + z2)
  | 0, k, x, y, w, z, z2, ⟨h1, h2⟩, h => by
    subst h1; subst h2
    rw [Nat.zero_add, Int.zero_add]
    exact h
  | j + 1, k, x, y, w, z, z2, ⟨d, z', h1, h2, h3⟩, h => by
    rw [show j + 1 + k = (j + k) + 1 by omega]
    exact ⟨d, z' + z2, h1, Pth_cat h2 h, by omega⟩
theorem Pth_one {x y : Nat} (hy : y < n) : Pth n c 1 x y (c x y) := ⟨y, 0, hy, ⟨rfl, rfl⟩, by omega⟩
theorem Wa_s {a : Nat → Nat} {m : Nat} : Wa c a (m + 1) = c (a 0) (a 1) + Wa c (fun t => a (t + 1)) m := by
  unfold Wa
  have := fb_si_split (fun t => c (a t) (a (t + 1))) 1 m
  rw [show 1 + m = m + 1 by omega] at this
  rw [this]
  have e1 : fb_si (fun t => c (a t) (a (t + 1))) 1 = c (a 0) (a 1) := by
    rw [fb_si_succ]
    exact Int.zero_add _
  rw [e1]
  congr 1
  apply fb_si_cong
  intro k _
  show c (a (1 + k)) (a (1 + k + 1)) = c (a (k + 1)) (a (k + 1 + 1))
  rw [Nat.add_comm 1 k]
theorem Pth_fun : ∀ {m x y : Nat} {z : Int}, x < n → Pth n c m x y z → ∃ a : Nat → Nat, a 0 = x ∧ a m = y ∧ (∀ t, t ≤ m → a t < n) ∧ z = Wa c a m
  | 0, x, y, z, hx, ⟨h1, h2⟩ => ⟨fun _ => x, rfl, h1, fun _ _ => hx, h2⟩
  | m + 1, x, y, z, hx, ⟨d, z', h1, h2, h3⟩ => by
    obtain ⟨a, a1, a2, a3, a4⟩ := Pth_fun h1 h2
    refine ⟨fun t => match t with | 0 => x | t + 1 => a t, rfl, a2, fun t ht => ?_, ?_⟩
    · match t, ht with
      | 0, _ => exact hx
      | t + 1, ht => exact a3 t (by omega)
    · rw [Wa_s, h3, a4]
      show c x d + _ = c x (a 0) + _
      rw [a1]
theorem fun_Pth : ∀ {m : Nat} {a : Nat → Nat}, (∀ t, t ≤ m → a t < n) → Pth n c m (a 0) (a m) (Wa c a m)
  | 0, a, _ => ⟨rfl, rfl⟩
  | m + 1, a, h => by
    have ih := fun_Pth (m := m) (a := fun t => a (t + 1)) (fun t ht => h (t + 1) (by omega))
    exact ⟨a 1, _, h 1 (by omega), ih, Wa_s⟩
/-- a way in three parts -/
theorem cut {m i j : Nat} {a : Nat → Nat} (h : ∀ t, t ≤ m → a t < n) (hi : i ≤ j) (hj : j ≤ m) : ∃ z1 z2 z3, Pth n c i (a 0) (a i) z1 ∧ Pth n c (j - i) (a i) (a j) z2 ∧ Pth n c (m - j) (a j) (a m) z3 ∧ Wa c a m = z1 + z2 + z3 := by
  refine ⟨Wa c a i, Wa c (fun t => a (i + t)) (j - i), Wa c (fun t => a (j + t)) (m - j), fun_Pth (fun t ht => h t (by omega)), ?_, ?_, ?_⟩
  · have := fun_Pth (n := n) (c := c) (m := j - i) (a := fun t => a (i + t)) (fun t ht => h (i + t) (by omega))
    simp only [Nat.add_zero] at this
    rw [show i + (j - i) = j by omega] at this
    exact this
  · have := fun_Pth (n := n) (c := c) (m := m - j) (a := fun t => a (j + t)) (fun t ht => h (j + t) (by omega))
    simp only [Nat.add_zero] at this
    rw [show j + (m - j) = m by omega] at this
    exact this
  · unfold Wa
    have e1 := fb_si_split (fun t => c (a t) (a (t + 1))) j (m - j)
    have e2 := fb_si_split (fun t => c (a t) (a (t + 1))) i (j - i)
    rw [show j + (m - j) = m by omega] at e1
    rw [show i + (j - i) = j by omega] at e2
    rw [e1, e2]
    rfl
/-- no ring of unlike rooms costs less than nothing -/
def NoC (n : Nat) (c : Nat → Nat → Int) : Prop := ∀ m a, 0 < m → (∀ t, t < m → a t < n) → a m = a 0 → (∀ i j, i < j → j < m → ¬ a i = a j) → 0 ≤ Wa c a m
theorem Pth_nn (hc : NoC n c) : ∀ {m x : Nat} {z : Int}, x < n → Pth n c m x x z → 0 ≤ z := by
  intro m
  induction m using Nat.strongRecOn with
  | ind m ih =>
  intro x z hx h
  obtain ⟨a, a1, a2, a3, a4⟩ := Pth_fun hx h
  by_cases h0 : m = 0
  · subst h0
    obtain ⟨_, h2⟩ := h
    omega
  by_cases q : ∃ i j, i < j ∧ j < m ∧ a i = a j
  · obtain ⟨i, j, i1, i2, i3⟩ := q
    obtain ⟨z1, z2, z3, p1, p2, p3, p4⟩ := cut (c := c) a3 (by omega : i ≤ j) (by omega : j ≤ m)
    rw [← i3] at p2 p3
    have b1 := ih (j - i) (by omega) (a3 i (by omega)) p2
    rw [a1] at p1
    rw [a2] at p3
    have b2 := ih (i + (m - j)) (by omega) hx (Pth_cat p1 p3)
    omega
  · rw [a4]
    exact hc m a (by omega) (fun t ht => a3 t (by omega)) (by rw [a1, a2]) (fun i j h1 h2 h3 => q ⟨i, j, h1, h2, h3⟩)
theorem Pth_short (hc : NoC n c) : ∀ {m x y : Nat} {z : Int}, x < n → Pth n c m x y z → ∃ m' z', m' < n ∧ z' ≤ z ∧ Pth n c m' x y z' := by
  intro m
  induction m using Nat.strongRecOn with
  | ind m ih =>
  intro x y z hx h
  by_cases q : m < n
  · exact ⟨m, z, q, Int.le_refl _, h⟩
  obtain ⟨a, a1, a2, a3, a4⟩ := Pth_fun hx h
  by_cases w : ∃ i j, i < j ∧ j < m + 1 ∧ a i = a j
  · obtain ⟨i, j, i1, i2, i3⟩ := w
    obtain ⟨z1, z2, z3, p1, p2, p3, p4⟩ := cut (c := c) a3 (by omega : i ≤ j) (by omega : j ≤ m)
    rw [← i3] at p2 p3
    have b1 := Pth_nn hc (a3 i (by omega)) p2
    rw [a1] at p1
    rw [a2] at p3
    obtain ⟨m', z', x1, x2, x3⟩ := ih (i + (m - j)) (by omega) hx (Pth_cat p1 p3)
    exact ⟨m', z', x1, by omega, x3⟩
  · exfalso
    have := php (K := m + 1) (P := n) (g := a) (fun i hi => a3 i (by omega)) (fun i j h1 h2 h3 => w ⟨i, j, h1, h2, h3⟩)
    omega
/-- the cheapest way to room 0 -/
def isD (n : Nat) (c : Nat → Nat → Int) (x : Nat) (z : Int) : Prop := (∃ m, Pth n c m x 0 z) ∧ ∀ m z', Pth n c m x 0 z' → z ≤ z'
theorem isD_one {x : Nat} {z w : Int} (h1 : isD n c x z) (h2 : isD n c x w) : z = w := by
  obtain ⟨⟨m, a⟩, b⟩ := h1
  obtain ⟨⟨m', a'⟩, b'⟩ := h2
  have := b m' w a'
  have := b' m z a
  omega
end
/-! unlike rooms for all: none is worth more than the best -/
section
variable {n : Nat} {V : Nat → Nat → Nat} {T r A : Nat → Nat}
theorem Ms_bit {x : Nat} : ∀ {k : Nat}, (MsR A k).testBit x = true ↔ ∃ p, p < k ∧ A p = x
  | 0 => by
    show (0 : Nat).testBit x = true ↔ _
    simp
  | k + 1 => by
    show (MsR A k ||| 2 ^ A k).testBit x = true ↔ _
    rw [Nat.testBit_or, Bool.or_eq_true, Ms_bit (k := k), tb2, decide_eq_true_eq]
    constructor
    · rintro (⟨p, p1, p2⟩ | h)
      · exact ⟨p, by omega, p2⟩
      · exact ⟨k, by omega, h⟩
    · rintro ⟨p, p1, p2⟩
      by_cases e : p = k
      · subst e; exact Or.inr p2
      · exact Or.inl ⟨p, by omega, p2⟩
theorem Ms_no {p : Nat} (hi : ∀ i j, i < j → j < n → ¬ A i = A j) (hp : p < n) : (MsR A p).testBit (A p) = false := by
  cases q : (MsR A p).testBit (A p)
  · rfl
  · obtain ⟨k, k1, k2⟩ := Ms_bit.mp q
    exact absurd k2 (hi k p k1 hp)
theorem inj_vl (hn : n ≤ 10) (h1 : 1 ≤ n) (hA : ∀ p, p < n → A p < n) (hi : ∀ i j, i < j → j < n → ¬ A i = A j) : ∀ {d : Nat}, d ≤ n → vl n d (MsR A (n - d)) (cdR n A d)
  | 0, _ => by
    unfold vl
    have : MsR A (n - 0) ||| mskR n 0 (cdR n A 0) = MsR A (n - 0) := by show _ ||| 0 = _; simp
    rw [this]
    rfl
  | d + 1, hd => by
    have ih := inj_vl hn h1 hA hi (by omega : d ≤ n)
    obtain ⟨c1, c2⟩ := cd_div h1 hA (by omega : d < n)
    have eM : MsR A (n - d) = MsR A (n - (d + 1)) ||| 2 ^ A (n - (d + 1)) := by
      rw [show n - d = n - (d + 1) + 1 by omega]
      rfl
    rw [vl_s hn h1 (cd_lt h1 hA hd), c1, c2, ← eM]
    exact ⟨Ms_no hi (by omega), ih⟩
theorem inj_sum (h1 : 1 ≤ n) (hA : ∀ p, p < n → A p < n) : ∀ {d : Nat}, d ≤ n → (sumR n V d (cdR n A d) : Int) + fb_si (fun p => (V p (A p) : Int)) (n - d) = fb_si (fun p => (V p (A p) : Int)) n
  | 0, _ => by
    show (0 : Int) + fb_si _ (n - 0) = _
    rw [Nat.sub_zero, Int.zero_add]
  | d + 1, hd => by
    have ih := inj_sum h1 hA (by omega : d ≤ n)
    obtain ⟨c1, c2⟩ := cd_div h1 hA (by omega : d < n)
    have e : sumR n V (d + 1) (cdR n A (d + 1)) = sumR n V d (cdR n A d) + V (n - (d + 1)) (A (n - (d + 1))) := by
      show sumR n V d (cdR n A (d + 1) % n ^ d) + V (n - (d + 1)) (cdR n A (d + 1) / n ^ d) = _
      rw [c1, c2]
    rw [← ih, e, show n - d = n - (d + 1) + 1 by omega, fb_si_succ]
    omega
theorem path_inj (hP : PathR n V T r) : ∀ i j, i < j → j < n → ¬ r i = r j := fun i j hij hj e => by
  have h := (hP j hj).2.1
  have : (MsR r j).testBit (r j) = true := Ms_bit.mpr ⟨i, hij, e⟩
  rw [this] at h
  cases h
theorem path_sur (hn : n ≤ 10) (hP : PathR n V T r) {x : Nat} (hx : x < n) : ∃ p, p < n ∧ r p = x := by
  obtain ⟨a1, a2⟩ := Ms_ok hn hP n (Nat.le_refl _)
  have e := (cB_full hn a1).mp a2
  apply Ms_bit.mp
  rw [e, Nat.testBit_two_pow_sub_one]
  simp [hx]
theorem path_max (hn : n ≤ 10) (h1 : 1 ≤ n) (hT : TabR n V T) (hP : PathR n V T r) (hA : ∀ p, p < n → A p < n) (hi : ∀ i j, i < j → j < n → ¬ A i = A j) : fb_si (fun p => (V p (A p) : Int)) n ≤ fb_si (fun p => (V p (r p) : Int)) n := by
  have hr : ∀ p, p < n → r p < n := fun p hp => (hP p hp).1
  have v := inj_vl hn h1 hA hi (Nat.le_refl n)
  rw [Nat.sub_self] at v
  have hle := let_le hn h1 hT (Nat.le_refl n) (Nat.two_pow_pos n) (by rw [Nat.sub_self]; decide) (cd_lt h1 hA (Nat.le_refl n)) v
  obtain ⟨_, b2, _⟩ := let_best hn h1 hT hP (Nat.le_refl n)
  rw [Nat.sub_self] at b2
  have s1 := inj_sum (V := V) h1 hA (Nat.le_refl n)
  have s2 := inj_sum (V := V) h1 hr (Nat.le_refl n)
  rw [Nat.sub_self] at s1 s2
  have e0 : ∀ f : Nat → Int, fb_si f 0 = 0 := fun f => rfl
  rw [e0] at s1 s2
  have em : MsR r 0 = 0 := rfl
  rw [em] at b2
  have : MsR A 0 = 0 := rfl
  omega
/-- whose a room is -/
def prO (n : Nat) (r : Nat → Nat) (x : Nat) : Nat := fa_first (fun p => decide (r p = x)) n
theorem pr_ok (hn : n ≤ 10) (hP : PathR n V T r) {x : Nat} (hx : x < n) : prO n r x < n ∧ r (prO n r x) = x := by
  obtain ⟨p, p1, p2⟩ := path_sur hn hP hx
  have h : prO n r x < n := fst_some p1 (by simp [p2])
  have := fa_first_yes (fun p => decide (r p = x)) n h
  simp only [decide_eq_true_eq] at this
  exact ⟨h, this⟩
theorem pr_r (hn : n ≤ 10) (hP : PathR n V T r) {p : Nat} (hp : p < n) : prO n r (r p) = p := by
  obtain ⟨h1, h2⟩ := pr_ok hn hP (hP p hp).1
  have hi := path_inj hP
  by_cases e : prO n r (r p) < p
  · exact absurd h2 (hi _ p e hp)
  · by_cases e2 : p < prO n r (r p)
    · exact absurd h2.symm (hi p _ e2 h1)
    · omega
/-- what the owner of x loses from x to y -/
def cst (n : Nat) (V : Nat → Nat → Nat) (r : Nat → Nat) (x y : Nat) : Int := (V (prO n r x) x : Int) - V (prO n r x) y
def AjR (n : Nat) (r a : Nat → Nat) : Nat → Nat → Nat
  | 0 => r
  | j + 1 => upN (AjR n r a j) (prO n r (a j)) (a (j + 1))
theorem no_neg (hn : n ≤ 10) (h1 : 1 ≤ n) (hT : TabR n V T) (hP : PathR n V T r) : NoC n (cst n V r) := by
  intro m a m0 han ham hinj
  have hr : ∀ p, p < n → r p < n := fun p hp => (hP p hp).1
  have han' : ∀ t, t ≤ m → a t < n := fun t ht => by
    by_cases e : t = m
    · subst e; rw [ham]; exact han 0 m0
    · exact han t (by omega)
  have pinj : ∀ i j, i < m → j < m → prO n r (a i) = prO n r (a j) → i = j := fun i j hi hj e => by
    have e2 : a i = a j := by rw [← (pr_ok hn hP (han i hi)).2, e, (pr_ok hn hP (han j hj)).2]
    by_cases q : i < j
    · exact absurd e2 (hinj i j q hj)
    · by_cases q2 : j < i
      · exact absurd e2.symm (hinj j i q2 hi)
      · omega
  have val : ∀ j, j ≤ m → (∀ i, i < j → AjR n r a j (prO n r (a i)) = a (i + 1)) ∧ ∀ p, (∀ i, i < j → ¬ p = prO n r (a i)) → AjR n r a j p = r p := by
    intro j
    induction j with
    | zero => exact fun _ => ⟨fun i hi => by omega, fun p _ => rfl⟩
    | succ j ih =>
      intro hj
      obtain ⟨v1, v2⟩ := ih (by omega)
      refine ⟨fun i hi => ?_, fun p hp => ?_⟩
      · show upN (AjR n r a j) (prO n r (a j)) (a (j + 1)) (prO n r (a i)) = _
        by_cases e : i = j
        · subst e; rw [upN_s]
        · rw [upN_o (fun w => e (pinj i j (by omega) (by omega) w))]
          exact v1 i (by omega)
      · show upN (AjR n r a j) (prO n r (a j)) (a (j + 1)) p = _
        rw [upN_o (hp j (by omega))]
        exact v2 p (fun i hi => hp i (by omega))
  have sum : ∀ j, j ≤ m → fb_si (fun p => (V p (AjR n r a j p) : Int)) n = fb_si (fun p => (V p (r p) : Int)) n - Wa (cst n V r) a j := by
    intro j
    induction j with
    | zero =>
      intro _
      show fb_si (fun p => (V p (r p) : Int)) n = fb_si (fun p => (V p (r p) : Int)) n - 0
      omega
    | succ j ih =>
      intro hj
      obtain ⟨v1, v2⟩ := val j (by omega)
      have hp := (pr_ok hn hP (han j (by omega)))
      have e : fb_si (fun p => (V p (AjR n r a (j + 1) p) : Int)) n = fb_si (fun p => if p = prO n r (a j) then (V (prO n r (a j)) (a (j + 1)) : Int) else (V p (AjR n r a j p) : Int)) n := fb_si_cong (fun p _ => by
        show (V p (upN (AjR n r a j) (prO n r (a j)) (a (j + 1)) p) : Int) = _
        by_cases w : p = prO n r (a j)
        · subst w; rw [upN_s, if_pos rfl]
        · rw [upN_o w, if_neg w])
      rw [e, fb_si_upd (fun p => (V p (AjR n r a j p) : Int)) _ hp.1, ih (by omega)]
      have e2 : AjR n r a j (prO n r (a j)) = a j := by
        rw [v2 _ (fun i hi w => by have := pinj j i (by omega) (by omega) w; omega), hp.2]
      rw [e2]
      unfold Wa
      rw [fb_si_succ]
      show _ = _ - (_ + ((V (prO n r (a j)) (a j) : Int) - V (prO n r (a j)) (a (j + 1))))
      omega
  obtain ⟨v1, v2⟩ := val m (Nat.le_refl _)
  have hA : ∀ p, p < n → AjR n r a m p < n := fun p hp => by
    by_cases w : ∃ i, i < m ∧ p = prO n r (a i)
    · obtain ⟨i, i1, i2⟩ := w
      rw [i2, v1 i i1]
      exact han' (i + 1) (by omega)
    · rw [v2 p (fun i hi e => w ⟨i, hi, e⟩)]
      exact hr p hp
  have a1inj : ∀ i j, i < m → j < m → a (i + 1) = a (j + 1) → i = j := by
    have key : ∀ i j, i < j → j < m → ¬ a (i + 1) = a (j + 1) := fun i j hij hj e => by
      by_cases q : j + 1 = m
      · rw [q, ham] at e
        exact hinj 0 (i + 1) (by omega) (by omega) e.symm
      · exact hinj (i + 1) (j + 1) (by omega) (by omega) e
    intro i j hi hj e
    by_cases q : i < j
    · exact absurd e (key i j q hj)
    · by_cases q2 : j < i
      · exact absurd e.symm (key j i q2 hi)
      · omega
  have inn : ∀ i, i < m → ∃ k, k < m ∧ a (i + 1) = a k := fun i hi => by
    by_cases q : i + 1 = m
    · exact ⟨0, m0, by rw [q, ham]⟩
    · exact ⟨i + 1, by omega, rfl⟩
  have mixed : ∀ p q i, p < n → q < n → i < m → p = prO n r (a i) → (∀ k, k < m → ¬ q = prO n r (a k)) → ¬ a (i + 1) = r q := fun p q i hp hq hi e hno w => by
    obtain ⟨k, k1, k2⟩ := inn i hi
    rw [k2] at w
    apply hno k k1
    rw [w, pr_r hn hP hq]
  have hi : ∀ p q, p < q → q < n → ¬ AjR n r a m p = AjR n r a m q := fun p q hpq hq e => by
    by_cases w1 : ∃ i, i < m ∧ p = prO n r (a i)
    · obtain ⟨i, i1, i2⟩ := w1
      by_cases w2 : ∃ j, j < m ∧ q = prO n r (a j)
      · obtain ⟨j, j1, j2⟩ := w2
        rw [i2, j2, v1 i i1, v1 j j1] at e
        have := a1inj i j i1 j1 e
        rw [this] at i2
        omega
      · have hno : ∀ k, k < m → ¬ q = prO n r (a k) := fun k hk z => w2 ⟨k, hk, z⟩
        rw [v2 q hno] at e
        have e' := e
        rw [i2, v1 i i1] at e'
        exact mixed p q i (by omega) hq i1 i2 hno e'
    · have hno1 : ∀ k, k < m → ¬ p = prO n r (a k) := fun k hk z => w1 ⟨k, hk, z⟩
      rw [v2 p hno1] at e
      by_cases w2 : ∃ j, j < m ∧ q = prO n r (a j)
      · obtain ⟨j, j1, j2⟩ := w2
        have e' := e
        rw [j2, v1 j j1] at e'
        exact mixed q p j hq (by omega) j1 j2 hno1 e'.symm
      · rw [v2 q (fun k hk z => w2 ⟨k, hk, z⟩)] at e
        exact path_inj hP p q hpq hq e
  have := path_max hn h1 hT hP hA hi
  have := sum m (Nat.le_refl _)
  omega
end
