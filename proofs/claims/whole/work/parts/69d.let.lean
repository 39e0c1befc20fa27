/-! THE BEST LETTING: codes, sums and sets -/
def sumR (n : Nat) (V : Nat → Nat → Nat) : Nat → Nat → Nat
  | 0, _ => 0
  | d + 1, y => sumR n V d (y % n ^ d) + V (n - (d + 1)) (y / n ^ d)
def mskR (n : Nat) : Nat → Nat → Nat
  | 0, _ => 0
  | d + 1, y => mskR n d (y % n ^ d) ||| 2 ^ (y / n ^ d)
/-- the first best one of those not in M -/
def BestR (w : Nat → Nat) (M n b : Nat) : Prop := b < n ∧ M.testBit b = false ∧ (∀ r, r < n → M.testBit r = false → w r ≤ w b) ∧ ∀ r, r < b → M.testBit r = false → w r < w b
def TabR (n : Nat) (V : Nat → Nat → Nat) (T : Nat → Nat) : Prop := T (2 ^ n - 1) = 0 ∧ ∀ M, M < 2 ^ n - 1 → ∃ b, BestR (fun r => V (cB M 10) r + T (M ||| 2 ^ r)) M n b ∧ T M = V (cB M 10) b + T (M ||| 2 ^ b)
def MsR (r : Nat → Nat) : Nat → Nat
  | 0 => 0
  | p + 1 => MsR r p ||| 2 ^ r p
def PathR (n : Nat) (V : Nat → Nat → Nat) (T r : Nat → Nat) : Prop := ∀ p, p < n → BestR (fun x => V p x + T (MsR r p ||| 2 ^ x)) (MsR r p) n (r p)
def cdR (n : Nat) (r : Nat → Nat) : Nat → Nat
  | 0 => 0
  | d + 1 => r (n - (d + 1)) * n ^ d + cdR n r d
theorem cB_two : ∀ p, p < 10 → cB (2 ^ p) 10 = 1 := by decide
theorem or_new {M p : Nat} (h : M.testBit p = false) : M ||| 2 ^ p = M ^^^ 2 ^ p := m_ext (fun q => by
  rw [Nat.testBit_or, Nat.testBit_xor, tb2]
  by_cases e : p = q
  · subst e; simp [h]
  · simp [e])
theorem or_old {M p : Nat} (h : M.testBit p = true) : M ||| 2 ^ p = M := m_ext (fun q => by
  rw [Nat.testBit_or, tb2]
  by_cases e : p = q
  · subst e; simp [h]
  · simp [e])
theorem cB_new {M p : Nat} (hp : p < 10) (h : M.testBit p = false) : cB (M ||| 2 ^ p) 10 = cB M 10 + 1 := by
  have hs : subM M (M ||| 2 ^ p) := fun q hq => by rw [Nat.testBit_or, hq]; rfl
  have := cB_add hs
  have e : (M ||| 2 ^ p) ^^^ M = 2 ^ p := m_ext (fun q => by
    rw [Nat.testBit_xor, Nat.testBit_or, tb2]
    by_cases e : p = q
    · subst e; simp [h]
    · simp [e])
  rw [e, cB_two p hp] at this
  exact this
theorem cB_or {M p : Nat} (hp : p < 10) : cB (M ||| 2 ^ p) 10 ≤ cB M 10 + 1 := by
  cases h : M.testBit p
  · rw [cB_new hp h]; exact Nat.le_refl _
  · rw [or_old h]; omega
theorem or_lt {n M p : Nat} (hM : M < 2 ^ n) (hp : p < n) : M ||| 2 ^ p < 2 ^ n := Nat.or_lt_two_pow hM (Nat.pow_lt_pow_right (by decide) hp)
theorem cB_full {n M : Nat} (hn : n ≤ 10) (hM : M < 2 ^ n) : cB M 10 = n ↔ M = 2 ^ n - 1 := by
  have hsp : cB M 10 = cB M n := by
    have := fb_ct_split (fun i => M.testBit i) n (10 - n)
    rw [show n + (10 - n) = 10 by omega] at this
    unfold cB
    rw [this]
    have z : fb_ct (fun k => M.testBit (n + k)) (10 - n) = 0 := fb_ct_zero.mpr (fun k _ => Nat.testBit_lt_two_pow (Nat.lt_of_lt_of_le hM (Nat.pow_le_pow_right (n := 2) (by decide) (by omega))))
    rw [z, Nat.add_zero]
  rw [hsp]
  unfold cB
  rw [fb_ct_all]
  constructor
  · intro h
    apply m_ext
    intro p
    rw [Nat.testBit_two_pow_sub_one]
    by_cases e : p < n
    · rw [h p e]; simp [e]
    · rw [Nat.testBit_lt_two_pow (Nat.lt_of_lt_of_le hM (Nat.pow_le_pow_right (n := 2) (by decide) (by omega)))]
      simp [e]
  · intro h k hk
    rw [h, Nat.testBit_two_pow_sub_one]
    simp [hk]
section
variable {n : Nat} {V : Nat → Nat → Nat} {T r : Nat → Nat}
theorem dg_lt {d y : Nat} (hy : y < n ^ (d + 1)) : y / n ^ d < n := by
  apply Nat.div_lt_of_lt_mul
  rw [Nat.mul_comm, ← Nat.pow_succ']
  rw [Nat.pow_succ'] at hy ⊢
  exact hy
theorem pw_pos (hn : 1 ≤ n) (d : Nat) : 0 < n ^ d := Nat.pow_pos (by omega)
theorem cB_msk (hn : n ≤ 10) (h1 : 1 ≤ n) : ∀ {d y M : Nat}, y < n ^ d → cB (M ||| mskR n d y) 10 ≤ cB M 10 + d
  | 0, y, M, _ => by
    have : M ||| mskR n 0 y = M := by show M ||| 0 = M; simp
    rw [this]
    omega
  | d + 1, y, M, hy => by
    have h := dg_lt hy
    have ih := cB_msk hn h1 (d := d) (y := y % n ^ d) (M := M ||| 2 ^ (y / n ^ d)) (Nat.mod_lt _ (pw_pos h1 d))
    have e : M ||| mskR n (d + 1) y = (M ||| 2 ^ (y / n ^ d)) ||| mskR n d (y % n ^ d) := by
      show M ||| (mskR n d (y % n ^ d) ||| 2 ^ (y / n ^ d)) = _
      rw [Nat.or_assoc, Nat.or_comm (mskR n d _)]
    have := cB_or (M := M) (by omega : y / n ^ d < 10)
    rw [e]
    omega
/-- a code of unlike rooms, none of M -/
def vl (n d M y : Nat) : Prop := cB (M ||| mskR n d y) 10 = cB M 10 + d
theorem vl_s (hn : n ≤ 10) (h1 : 1 ≤ n) {d M y : Nat} (hy : y < n ^ (d + 1)) : vl n (d + 1) M y ↔ (M.testBit (y / n ^ d) = false ∧ vl n d (M ||| 2 ^ (y / n ^ d)) (y % n ^ d)) := by
  have h := dg_lt hy
  have e : M ||| mskR n (d + 1) y = (M ||| 2 ^ (y / n ^ d)) ||| mskR n d (y % n ^ d) := by
    show M ||| (mskR n d (y % n ^ d) ||| 2 ^ (y / n ^ d)) = _
    rw [Nat.or_assoc, Nat.or_comm (mskR n d _)]
  unfold vl
  rw [e]
  have ih := cB_msk hn h1 (d := d) (y := y % n ^ d) (M := M ||| 2 ^ (y / n ^ d)) (Nat.mod_lt _ (pw_pos h1 d))
  cases q : M.testBit (y / n ^ d)
  · rw [cB_new (by omega) q] at ih ⊢
    simp only [true_and]
    omega
  · rw [or_old q] at ih ⊢
    constructor
    · intro w; omega
    · intro w; exact absurd w.1 (by decide)
theorem vl_full (hn : n ≤ 10) (h1 : 1 ≤ n) {y : Nat} (hy : y < n ^ n) (hm : mskR n n y < 2 ^ n) : vl n n 0 y ↔ mskR n n y = 2 ^ n - 1 := by
  unfold vl
  have : 0 ||| mskR n n y = mskR n n y := by simp
  rw [this, show cB 0 10 = 0 by decide, Nat.zero_add]
  exact cB_full hn hm
theorem msk_lt2 (h1 : 1 ≤ n) : ∀ {d y : Nat}, y < n ^ d → mskR n d y < 2 ^ n
  | 0, _, _ => Nat.two_pow_pos _
  | d + 1, y, hy => or_lt (msk_lt2 h1 (Nat.mod_lt _ (pw_pos h1 d))) (dg_lt hy)
/-- no letting is worth more than the table says -/
theorem let_le (hn : n ≤ 10) (h1 : 1 ≤ n) (hT : TabR n V T) : ∀ {d M y : Nat}, d ≤ n → M < 2 ^ n → cB M 10 = n - d → y < n ^ d → vl n d M y → sumR n V d y ≤ T M
  | 0, _, _, _, _, _, _, _ => Nat.zero_le _
  | d + 1, M, y, hd, hM, hc, hy, hv => by
    obtain ⟨v1, v2⟩ := (vl_s hn h1 hy).mp hv
    have h := dg_lt hy
    have hne : ¬ M = 2 ^ n - 1 := fun e => by
      have := (cB_full hn hM).mpr e
      omega
    obtain ⟨b, ⟨b1, b2, b3, b4⟩, b5⟩ := hT.2 M (by omega)
    have ih := let_le hn h1 hT (by omega : d ≤ n) (or_lt hM h) (by rw [cB_new (by omega) v1]; omega) (Nat.mod_lt y (pw_pos h1 d)) v2
    have := b3 _ h v1
    rw [hc] at this b5
    show sumR n V d (y % n ^ d) + V (n - (d + 1)) (y / n ^ d) ≤ T M
    simp only at this
    omega
theorem cd_lt (h1 : 1 ≤ n) (hr : ∀ p, p < n → r p < n) : ∀ {d : Nat}, d ≤ n → cdR n r d < n ^ d
  | 0, _ => by show 0 < 1; decide
  | d + 1, hd => by
    have ih := cd_lt h1 hr (by omega : d ≤ n)
    have h := hr (n - (d + 1)) (by omega)
    show r (n - (d + 1)) * n ^ d + cdR n r d < n ^ (d + 1)
    have := Nat.mul_le_mul_right (n ^ d) (by omega : r (n - (d + 1)) + 1 ≤ n)
    rw [Nat.succ_mul] at this
    rw [Nat.pow_succ, Nat.mul_comm (n ^ d) n]
    omega
theorem cd_div (h1 : 1 ≤ n) (hr : ∀ p, p < n → r p < n) {d : Nat} (hd : d < n) : cdR n r (d + 1) / n ^ d = r (n - (d + 1)) ∧ cdR n r (d + 1) % n ^ d = cdR n r d := by
  have h := cd_lt h1 hr (by omega : d ≤ n)
  have hp := pw_pos h1 d
  show (r (n - (d + 1)) * n ^ d + cdR n r d) / n ^ d = _ ∧ (r (n - (d + 1)) * n ^ d + cdR n r d) % n ^ d = _
  rw [Nat.mul_comm]
  constructor
  · rw [Nat.mul_add_div hp, Nat.div_eq_of_lt h, Nat.add_zero]
  · rw [Nat.mul_add_mod, Nat.mod_eq_of_lt h]
theorem Ms_ok (hn : n ≤ 10) (hP : PathR n V T r) : ∀ p, p ≤ n → MsR r p < 2 ^ n ∧ cB (MsR r p) 10 = p
  | 0, _ => ⟨Nat.two_pow_pos _, by show cB 0 10 = 0; decide⟩
  | p + 1, hp => by
    obtain ⟨a1, a2⟩ := Ms_ok hn hP p (by omega)
    have h := hP p (by omega)
    refine ⟨or_lt a1 h.1, ?_⟩
    show cB (MsR r p ||| 2 ^ r p) 10 = p + 1
    have := h.1
    rw [cB_new (by omega) h.2.1, a2]
/-- what the class takes is the first of the best -/
theorem let_best (hn : n ≤ 10) (h1 : 1 ≤ n) (hT : TabR n V T) (hP : PathR n V T r) : ∀ {d : Nat}, d ≤ n → vl n d (MsR r (n - d)) (cdR n r d) ∧ sumR n V d (cdR n r d) = T (MsR r (n - d)) ∧ ∀ y, y < n ^ d → vl n d (MsR r (n - d)) y → T (MsR r (n - d)) ≤ sumR n V d y → cdR n r d ≤ y
  | 0, _ => by
    refine ⟨?_, ?_, fun y _ _ _ => Nat.zero_le _⟩
    · unfold vl
      have : MsR r (n - 0) ||| mskR n 0 (cdR n r 0) = MsR r (n - 0) := by show _ ||| 0 = _; simp
      rw [this]
      rfl
    · rw [Nat.sub_zero]
      obtain ⟨a1, a2⟩ := Ms_ok hn hP n (Nat.le_refl _)
      rw [(cB_full hn a1).mp a2, hT.1]
      rfl
  | d + 1, hd => by
    have hr : ∀ p, p < n → r p < n := fun p hp => (hP p hp).1
    obtain ⟨i1, i2, i3⟩ := let_best hn h1 hT hP (by omega : d ≤ n)
    obtain ⟨c1, c2⟩ := cd_div h1 hr (by omega : d < n)
    have hlt := cd_lt h1 hr hd
    have hb := hP (n - (d + 1)) (by omega)
    obtain ⟨m1, m2⟩ := Ms_ok hn hP (n - (d + 1)) (by omega)
    have eM : MsR r (n - d) = MsR r (n - (d + 1)) ||| 2 ^ r (n - (d + 1)) := by
      rw [show n - d = n - (d + 1) + 1 by omega]
      rfl
    rw [eM] at i1 i2 i3
    have hne : ¬ MsR r (n - (d + 1)) = 2 ^ n - 1 := fun e => by
      have := (cB_full hn m1).mpr e
      omega
    obtain ⟨b', hb', b5⟩ := hT.2 _ (by omega : MsR r (n - (d + 1)) < 2 ^ n - 1)
    rw [m2] at hb' b5
    have hTM : T (MsR r (n - (d + 1))) = V (n - (d + 1)) (r (n - (d + 1))) + T (MsR r (n - (d + 1)) ||| 2 ^ r (n - (d + 1))) := by
      have x1 := hb.2.2.1 b' hb'.1 hb'.2.1
      have x2 := hb'.2.2.1 _ hb.1 hb.2.1
      simp only at x1 x2
      omega
    refine ⟨?_, ?_, fun y hy hv hs => ?_⟩
    · rw [vl_s hn h1 hlt, c1, c2]
      exact ⟨hb.2.1, i1⟩
    · show sumR n V d (cdR n r (d + 1) % n ^ d) + V (n - (d + 1)) (cdR n r (d + 1) / n ^ d) = _
      rw [c1, c2, i2, hTM]
      omega
    · obtain ⟨v1, v2⟩ := (vl_s hn h1 hy).mp hv
      have h := dg_lt hy
      have hle := let_le hn h1 hT (by omega : d ≤ n) (or_lt m1 h) (by rw [cB_new (by omega) v1]; omega) (Nat.mod_lt y (pw_pos h1 d)) v2
      have hs' : T (MsR r (n - (d + 1))) ≤ sumR n V d (y % n ^ d) + V (n - (d + 1)) (y / n ^ d) := hs
      have hdm := Nat.div_add_mod y (n ^ d)
      show r (n - (d + 1)) * n ^ d + cdR n r d ≤ y
      by_cases q : y / n ^ d < r (n - (d + 1))
      · have := hb.2.2.2 _ q v1
        simp only at this
        omega
      · by_cases q2 : y / n ^ d = r (n - (d + 1))
        · rw [q2] at v2 hs' hdm
          have := i3 _ (Nat.mod_lt y (pw_pos h1 d)) v2 (by omega)
          rw [Nat.mul_comm] at hdm
          omega
        · have hmul := Nat.mul_le_mul_right (n ^ d) (by omega : r (n - (d + 1)) + 1 ≤ y / n ^ d)
          rw [Nat.succ_mul] at hmul
          have hdl := Nat.div_mul_le_self y (n ^ d)
          have := cd_lt h1 hr (by omega : d ≤ n)
          clear hdm
          omega
/-- the reference's code -/
def LetB (n : Nat) (V : Nat → Nat → Nat) (y0 : Nat) : Prop := y0 < n ^ n ∧ vl n n 0 y0 ∧ ∀ y, y < n ^ n → vl n n 0 y → sumR n V n y ≤ sumR n V n y0 ∧ (sumR n V n y = sumR n V n y0 → y0 ≤ y)
theorem let_one (hn : n ≤ 10) (h1 : 1 ≤ n) (hT : TabR n V T) (hP : PathR n V T r) {y0 : Nat} (hB : LetB n V y0) : y0 = cdR n r n := by
  have hr : ∀ p, p < n → r p < n := fun p hp => (hP p hp).1
  obtain ⟨a1, a2, a3⟩ := let_best hn h1 hT hP (Nat.le_refl n)
  have e0 : MsR r (n - n) = 0 := by rw [Nat.sub_self]; rfl
  rw [e0] at a1 a2 a3
  obtain ⟨b1, b2, b3⟩ := hB
  have hlt := cd_lt h1 hr (Nat.le_refl n)
  have hle := let_le hn h1 hT (Nat.le_refl n) (Nat.two_pow_pos n) (by rw [Nat.sub_self]; decide) b1 b2
  obtain ⟨c1, c2⟩ := b3 _ hlt a1
  have := a3 _ b1 b2 (by omega)
  have := c2 (by omega)
  omega
/-- a code's digit -/
theorem cd_dg (h1 : 1 ≤ n) (hr : ∀ p, p < n → r p < n) {p : Nat} (hp : p < n) : cdR n r n / n ^ (n - 1 - p) % n = r p := by
  have hmod : ∀ k d, k + d ≤ n → cdR n r (k + d) % n ^ k = cdR n r k := by
    intro k d
    induction d with
    | zero => intro h; rw [Nat.add_zero]; exact Nat.mod_eq_of_lt (cd_lt h1 hr (by omega))
    | succ d ih =>
      intro h
      have ih2 := ih (by omega)
      obtain ⟨_, c2⟩ := cd_div h1 hr (by omega : k + d < n)
      have := Nat.mod_mod_of_dvd (cdR n r (k + d + 1)) (Nat.pow_dvd_pow n (by omega : k ≤ k + d))
      rw [c2, ih2] at this
      exact this.symm
  have h2 := hmod (n - p) p (by omega)
  rw [show n - p + p = n by omega] at h2
  have e1 : n ^ (n - p) = n ^ (n - 1 - p) * n := by
    rw [← Nat.pow_succ]
    congr 1
    omega
  rw [← Nat.mod_mul_right_div_self, ← e1, h2]
  obtain ⟨c1, _⟩ := cd_div h1 hr (by omega : n - 1 - p < n)
  rw [show n - 1 - p + 1 = n - p by omega] at c1
  rw [c1]
  congr 1
  omega
end
