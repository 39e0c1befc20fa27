/-! HEAPS: what holds of them -/
theorem xorT (M T : Nat) (p : Nat) : (M ^^^ T).testBit p = (M.testBit p ^^ T.testBit p) := Nat.testBit_xor M T p
theorem sub_x {T M p : Nat} (h : subM T M) : (M ^^^ T).testBit p = (M.testBit p && !T.testBit p) := by
  rw [xorT]
  have := h p
  cases hT : T.testBit p
  · simp
  · rw [this hT]; simp
theorem sub_xs {T M : Nat} (h : subM T M) : subM (M ^^^ T) M := fun p hp => by
  rw [sub_x h] at hp
  simp at hp
  exact hp.1
theorem sub_r (M : Nat) : subM M M := fun _ h => h
theorem sub_t {A B C : Nat} (h : subM A B) (h2 : subM B C) : subM A C := fun p hp => h2 p (h p hp)
theorem sub_0 (M : Nat) : subM 0 M := fun p hp => by simp at hp
theorem tb2 (p q : Nat) : (2 ^ p).testBit q = decide (p = q) := Nat.testBit_two_pow
theorem sub_b {M p : Nat} (h : M.testBit p = true) : subM (2 ^ p) M := fun q hq => by
  rw [tb2] at hq
  simp at hq
  subst hq
  exact h
theorem x_b {M p q : Nat} (h : M.testBit p = true) : (M ^^^ 2 ^ p).testBit q = (M.testBit q && decide (¬ p = q)) := by
  rw [sub_x (sub_b h), tb2]
  by_cases e : p = q <;> simp [e]
theorem sub_le {T M : Nat} (h : subM T M) : T ≤ M := by
  have e : T &&& M = T := by
    apply Nat.eq_of_testBit_eq
    intro i
    rw [Nat.testBit_and]
    cases hT : T.testBit i
    · rfl
    · rw [h i hT]; rfl
  have := Nat.and_le_right (n := T) (m := M)
  omega
theorem m_ext {A B : Nat} (h : ∀ p, A.testBit p = B.testBit p) : A = B := Nat.eq_of_testBit_eq h
theorem x_x {M T : Nat} (h : subM T M) : M ^^^ (M ^^^ T) = T := m_ext (fun p => by
  rw [sub_x (sub_xs h), sub_x h]
  have := h p
  cases hM : M.testBit p <;> cases hT : T.testBit p <;> simp_all)
theorem bit10 {M p : Nat} (hM : M < 1024) (h : M.testBit p = true) : p < 10 := by
  by_cases q : p < 10
  · exact q
  · exfalso
    have : M < 2 ^ p := Nat.lt_of_lt_of_le hM (Nat.pow_le_pow_right (n := 2) (by decide) (by omega : 10 ≤ p))
    rw [Nat.testBit_lt_two_pow this] at h
    cases h
theorem ne_bit {M : Nat} (h : ¬ M = 0) : ∃ p, M.testBit p = true := by
  apply Classical.byContradiction
  intro q
  apply h
  apply m_ext
  intro p
  rw [Nat.zero_testBit]
  cases hp : M.testBit p
  · rfl
  · exact absurd ⟨p, hp⟩ q
theorem bit_ne {M p : Nat} (h : M.testBit p = true) : ¬ M = 0 := fun e => by rw [e] at h; simp at h
theorem ne_sub {T M : Nat} (h : subM T M) (hne : ¬ T = M) : ∃ p, M.testBit p = true ∧ T.testBit p = false := by
  apply Classical.byContradiction
  intro q
  apply hne
  apply m_ext
  intro p
  cases hM : M.testBit p
  · cases hT : T.testBit p
    · rfl
    · rw [h p hT] at hM; cases hM
  · cases hT : T.testBit p
    · exact absurd ⟨p, hM, hT⟩ q
    · rfl
theorem lt_sub {T M : Nat} (h : subM T M) (hne : ¬ T = M) : T < M := by have := sub_le h; omega
theorem sB_add {b : Nat → Int} {T M : Nat} (h : subM T M) : sB b M = sB b T + sB b (M ^^^ T) := by
  unfold sB
  rw [← fb_si_add]
  apply fb_si_cong
  intro p hp
  rw [sub_x h]
  have := h p
  cases hM : M.testBit p <;> cases hT : T.testBit p <;> simp_all
theorem sB_0 {b : Nat → Int} : sB b 0 = 0 := by
  unfold sB
  have : fb_si (fun p => if (0 : Nat).testBit p then b p else 0) 10 = fb_si (fun _ => 0) 10 := fb_si_cong (fun p _ => by simp)
  rw [this]
  decide
section
variable {b : Nat → Int}
theorem HB_mono : ∀ {k T M : Nat}, subM T M → HB b k T → HB b k M
  | 0, _, _, _, _ => trivial
  | _ + 1, _, _, h, ⟨T', p, h1, h2⟩ => ⟨T', p, sub_t h1 h, h2⟩
theorem HB_anti : ∀ {k M : Nat}, HB b (k + 1) M → HB b k M
  | 0, _, _ => trivial
  | k + 1, _, ⟨T, p, h1, h2, h3, h4⟩ => ⟨T, p, h1, h2, h3, HB_anti (k := k) h4⟩
theorem HB_le {j k M : Nat} (h : j ≤ k) (hk : HB b k M) : HB b j M := by
  induction k with
  | zero =>
    have : j = 0 := by omega
    subst this
    exact hk
  | succ k ih =>
    by_cases e : j = k + 1
    · subst e; exact hk
    · exact ih (by omega) (HB_anti hk)
theorem HB_z {k M : Nat} (hz : sB b M = 0) : HB b (k + 1) M ↔ ∃ p, M.testBit p = true ∧ HB b k (M ^^^ 2 ^ p) := by
  constructor
  · rintro ⟨T, p, h1, h2, h3, h4⟩
    refine ⟨p, h1 p h3, HB_mono (fun q hq => ?_) h4⟩
    rw [x_b h3] at hq
    rw [x_b (h1 p h3)]
    simp at hq ⊢
    exact ⟨h1 q hq.1, hq.2⟩
  · rintro ⟨p, h1, h2⟩
    exact ⟨M, p, sub_r M, hz, h1, h2⟩
theorem HB_n {k M : Nat} (hz : ¬ sB b M = 0) : HB b (k + 1) M ↔ ∃ p, M.testBit p = true ∧ HB b (k + 1) (M ^^^ 2 ^ p) := by
  constructor
  · rintro ⟨T, p, h1, h2, h3, h4⟩
    have hne : ¬ T = M := fun e => hz (e ▸ h2)
    obtain ⟨q, q1, q2⟩ := ne_sub h1 hne
    refine ⟨q, q1, T, p, fun r hr => ?_, h2, h3, h4⟩
    rw [x_b q1]
    simp
    refine ⟨h1 r hr, fun e => ?_⟩
    subst e
    rw [q2] at hr
    cases hr
  · rintro ⟨p, h1, h2⟩
    exact HB_mono (sub_xs (sub_b h1)) h2
/-- a heap more -/
theorem HB_more {k M R : Nat} (hz : sB b M = 0) (hR : subM R M) (h0 : ¬ R = 0) (h : HB b k (M ^^^ R)) : HB b (k + 1) M := by
  obtain ⟨p, hp⟩ := ne_bit h0
  refine (HB_z hz).mpr ⟨p, hR p hp, HB_mono (fun q hq => ?_) h⟩
  rw [sub_x hR] at hq
  rw [x_b (hR p hp)]
  simp at hq ⊢
  refine ⟨hq.1, fun e => ?_⟩
  subst e
  rw [hp] at hq
  cases hq.2
def isH (b : Nat → Int) (M v : Nat) : Prop := ∀ k, k ≤ v ↔ HB b k M
theorem isH_one {M v w : Nat} (h : isH b M v) (h2 : isH b M w) : v = w := by
  have a := (h v).mp (Nat.le_refl v)
  have c := (h2 w).mp (Nat.le_refl w)
  have := (h2 v).mpr a
  have := (h w).mpr c
  omega
theorem isH_0 : isH b 0 0 := fun k => by
  constructor
  · intro h
    have : k = 0 := by omega
    subst this
    trivial
  · intro h
    match k, h with
    | 0, _ => exact Nat.le_refl 0
    | k + 1, ⟨T, p, h1, h2, h3, h4⟩ =>
      have := h1 p h3
      simp at this
/-- the most heaps, one person less at a time -/
theorem isH_step {M mx : Nat} {v : Nat → Nat} (h0 : ¬ M = 0) (hv : ∀ p, M.testBit p = true → isH b (M ^^^ 2 ^ p) (v p)) (h1 : ∀ p, M.testBit p = true → v p ≤ mx) (h2 : ∃ p, M.testBit p = true ∧ v p = mx) : isH b M (mx + (if sB b M = 0 then 1 else 0)) := by
  intro k
  obtain ⟨p, p1, p2⟩ := h2
  match k with
  | 0 => exact ⟨fun _ => trivial, fun _ => Nat.zero_le _⟩
  | k + 1 =>
    by_cases hz : sB b M = 0
    · rw [if_pos hz, HB_z hz]
      constructor
      · intro q
        exact ⟨p, p1, (hv p p1 k).mp (by omega)⟩
      · rintro ⟨q, q1, q2⟩
        have := (hv q q1 k).mpr q2
        have := h1 q q1
        omega
    · rw [if_neg hz, HB_n hz]
      constructor
      · intro q
        exact ⟨p, p1, (hv p p1 (k + 1)).mp (by omega)⟩
      · rintro ⟨q, q1, q2⟩
        have := (hv q q1 (k + 1)).mpr q2
        have := h1 q q1
        omega
/-- the most heaps, the heap of the lowest first -/
theorem HB_own {lo : Nat} : ∀ {k M : Nat}, sB b M = 0 → M.testBit lo = true → (∀ q, q < lo → M.testBit q = false) → HB b (k + 1) M → ∃ own, subM own M ∧ own.testBit lo = true ∧ sB b own = 0 ∧ HB b k (M ^^^ own) := by
  intro k M
  induction M using Nat.strongRecOn generalizing k with
  | ind M ih =>
  intro hz hl hlo h
  match k, h with
  | 0, _ => exact ⟨M, sub_r M, hl, hz, trivial⟩
  | k + 1, h =>
    obtain ⟨q, q1, q2⟩ := (HB_z hz).mp h
    obtain ⟨T, p, h1, h2, h3, h4⟩ := q2
    have hTM : subM T M := sub_t h1 (sub_xs (sub_b q1))
    have hqT : T.testBit q = false := by
      cases e : T.testBit q
      · rfl
      · have := h1 q e
        rw [x_b q1] at this
        simp at this
    have hne : ¬ T = M := fun e => by rw [e, q1] at hqT; cases hqT
    have hT : HB b (k + 1) T := ⟨T, p, sub_r T, h2, h3, h4⟩
    have hRz : sB b (M ^^^ T) = 0 := by
      have := sB_add (b := b) hTM
      rw [hz, h2] at this
      omega
    cases e : T.testBit lo
    · refine ⟨M ^^^ T, sub_xs hTM, ?_, hRz, ?_⟩
      · rw [sub_x hTM, hl, e]; rfl
      · rw [x_x hTM]; exact hT
    · obtain ⟨own, o1, o2, o3, o4⟩ := ih T (lt_sub hTM hne) (k := k) h2 e (fun r hr => by
        cases e2 : T.testBit r
        · rfl
        · have := hlo r hr
          rw [hTM r e2] at this
          cases this) hT
      have hoM : subM own M := sub_t o1 hTM
      refine ⟨own, hoM, o2, o3, ?_⟩
      have hMz : sB b (M ^^^ own) = 0 := by
        have := sB_add (b := b) hoM
        rw [hz, o3] at this
        omega
      have hRM : subM (M ^^^ T) (M ^^^ own) := fun r hr => by
        rw [sub_x hTM] at hr
        rw [sub_x hoM]
        simp at hr ⊢
        refine ⟨hr.1, ?_⟩
        cases e2 : own.testBit r
        · rfl
        · rw [o1 r e2] at hr; cases hr.2
      have hR0 : ¬ M ^^^ T = 0 := bit_ne (p := q) (by rw [sub_x hTM, q1, hqT]; rfl)
      refine HB_more hMz hRM hR0 ?_
      have : (M ^^^ own) ^^^ (M ^^^ T) = T ^^^ own := m_ext (fun r => by
        rw [sub_x hRM, sub_x hoM, sub_x hTM, sub_x o1]
        have a1 := hTM r
        have a2 := o1 r
        cases c1 : M.testBit r <;> cases c2 : T.testBit r <;> cases c3 : own.testBit r <;> simp_all)
      rw [this]
      exact o4
end
