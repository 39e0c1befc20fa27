/-! THE PLAN: one, and how long it is -/
section
variable {b : Nat → Int}
theorem z_x {T M : Nat} (h : subM T M) (hM : sB b M = 0) (hT : sB b T = 0) : sB b (M ^^^ T) = 0 := by
  have := sB_add (b := b) h
  omega
theorem okH_0 {left heap : Nat} (h : okH b left heap) : ¬ heap = 0 := bit_ne h.2.1
theorem okH_min {left heap v : Nat} (hv : isH b left v) (hz : sB b left = 0) (hn : ∀ p, left.testBit p = true → ¬ b p = 0) (h : okH b left heap) : mnH b heap := by
  obtain ⟨h1, h2, h3, h4⟩ := h
  refine ⟨h3, fun p hp => hn p (h1 p hp), fun Z z1 z2 z3 => ?_⟩
  apply Classical.byContradiction
  intro hne
  have w1 : subM (heap ^^^ Z) heap := sub_xs z1
  have w2 : ¬ heap ^^^ Z = 0 := by
    obtain ⟨p, p1, p2⟩ := ne_sub z1 hne
    exact bit_ne (p := p) (by rw [sub_x z1, p1, p2]; rfl)
  have w3 : sB b (heap ^^^ Z) = 0 := z_x z1 h3 z3
  have w4 : subM (heap ^^^ Z) left := sub_t w1 h1
  have n1 : sB b (left ^^^ (heap ^^^ Z)) = 0 := z_x w4 hz w3
  have n2 : subM Z (left ^^^ (heap ^^^ Z)) := fun p hp => by
    rw [sub_x w4, sub_x z1, h1 p (z1 p hp), hp]
    simp
  have n3 : (left ^^^ (heap ^^^ Z)) ^^^ Z = left ^^^ heap := m_ext (fun p => by
    rw [sub_x n2, sub_x w4, sub_x z1, sub_x h1]
    have a1 := h1 p
    have a2 := z1 p
    cases c1 : left.testBit p <;> cases c2 : heap.testBit p <;> cases c3 : Z.testBit p <;> simp_all)
  have l1 : HB b 1 left := HB_more hz h1 (bit_ne h2) trivial
  have v1 := (hv 1).mpr l1
  have k0 : HB b (v - 1 + 1) left := (hv _).mp (by omega)
  have k1 := h4 (v - 1) k0
  have k2 : HB b (v - 1 + 1) (left ^^^ (heap ^^^ Z)) := HB_more n1 n2 z2 (by rw [n3]; exact k1)
  have k3 : HB b (v - 1 + 1 + 1) left := HB_more hz w4 w2 k2
  have := (hv _).mpr k3
  omega
theorem okH_isH {left heap v : Nat} (hv : isH b left v) (hz : sB b left = 0) (h : okH b left heap) : 1 ≤ v ∧ isH b (left ^^^ heap) (v - 1) := by
  obtain ⟨h1, h2, h3, h4⟩ := h
  have l1 : HB b 1 left := HB_more hz h1 (bit_ne h2) trivial
  have v1 := (hv 1).mpr l1
  refine ⟨v1, fun k => ⟨fun q => h4 k ((hv (k + 1)).mp (by omega)), fun q => ?_⟩⟩
  have := (hv (k + 1)).mpr (HB_more hz h1 (bit_ne h2) q)
  omega
theorem FH_one {left h1 h2 : Nat} (a : FH b left h1) (c : FH b left h2) : h1 = h2 := by
  by_cases e : h1 < h2
  · exact absurd a.1 (c.2 h1 e)
  · by_cases e2 : h2 < h1
    · exact absurd c.1 (a.2 h2 e2)
    · omega
theorem lo_ok {M : Nat} (hM : M < 1024) (h0 : ¬ M = 0) : loB M < 10 ∧ M.testBit (loB M) = true ∧ ∀ q, q < loB M → M.testBit q = false := by
  have h := (tz_ok M hM h0).2
  exact ⟨h, fa_first_yes _ _ h, fun q hq => fa_first_no (fun i => M.testBit i) 10 q hq⟩
theorem okH_ex {left v : Nat} (hM : left < 1024) (h0 : ¬ left = 0) (hv : isH b left v) (hz : sB b left = 0) : ∃ heap, okH b left heap := by
  obtain ⟨l1, l2, l3⟩ := lo_ok hM h0
  have q1 : HB b 1 left := HB_more hz (sub_r left) h0 trivial
  have v1 := (hv 1).mpr q1
  obtain ⟨own, o1, o2, o3, o4⟩ := HB_own hz l2 l3 ((hv (v - 1 + 1)).mp (by omega))
  refine ⟨own, o1, o2, o3, fun k hk => ?_⟩
  have := (hv (k + 1)).mpr hk
  exact HB_le (by omega) o4
theorem PlanR_one : ∀ {f f' left : Nat} {L L' : List (Nat × Nat × Int)}, PlanR b f left L → PlanR b f' left L' → L = L'
  | 0, f', left, L, L', ⟨h1, h2⟩, h' => by
    subst h1
    match f', h' with
    | 0, ⟨_, h3⟩ => rw [h2, h3]
    | f' + 1, Or.inl ⟨_, h3⟩ => rw [h2, h3]
    | f' + 1, Or.inr ⟨h3, _⟩ => exact absurd rfl h3
  | f + 1, f', left, L, L', Or.inl ⟨h1, h2⟩, h' => by
    subst h1
    match f', h' with
    | 0, ⟨_, h3⟩ => rw [h2, h3]
    | f' + 1, Or.inl ⟨_, h3⟩ => rw [h2, h3]
    | f' + 1, Or.inr ⟨h3, _⟩ => exact absurd rfl h3
  | f + 1, f', left, L, L', Or.inr ⟨h0, heap, L1, h1, h2, h3⟩, h' => by
    match f', h' with
    | 0, ⟨h4, _⟩ => exact absurd h4 h0
    | f' + 1, Or.inl ⟨h4, _⟩ => exact absurd h4 h0
    | f' + 1, Or.inr ⟨_, heap', L2, h4, h5, h6⟩ =>
      have e := FH_one h1 h4
      subst e
      rw [h3, h6, PlanR_one h2 h5]
theorem cB_add {T M : Nat} (h : subM T M) : cB M 10 = cB T 10 + cB (M ^^^ T) 10 := by
  unfold cB
  rw [← fb_ct_or]
  · apply fb_ct_cong
    intro k hk
    rw [sub_x h]
    have := h k
    cases c1 : M.testBit k <;> cases c2 : T.testBit k <;> simp_all
  · rintro k hk ⟨a, c⟩
    rw [sub_x h, a] at c
    simp at c
theorem nz_all {M : Nat} (hn : ∀ p, M.testBit p = true → ¬ b p = 0) : nzC M b = cB M 10 := by
  unfold nzC cB
  apply fb_ct_cong
  intro k hk
  cases e : M.testBit k
  · rfl
  · simp [hn k e]
theorem grd_len {heap : Nat} (hM : heap < 1024) (hm : mnH b heap) : (grd 10 heap b).length = cB heap 10 - 1 := by
  obtain ⟨B, hB⟩ : ∃ B : Int, ∀ p, p < 10 → -B ≤ b p ∧ b p ≤ B := by
    have : ∀ n : Nat, ∃ B : Int, 0 ≤ B ∧ ∀ p, p < n → -B ≤ b p ∧ b p ≤ B := by
      intro n
      induction n with
      | zero => exact ⟨0, by omega, fun p hp => by omega⟩
      | succ n ih =>
        obtain ⟨B, h0, h⟩ := ih
        refine ⟨B + (if b n < 0 then -(b n) else b n), by split <;> omega, fun p hp => ?_⟩
        by_cases e : p = n
        · subst e; split <;> omega
        · have := h p (by omega)
          split <;> omega
    obtain ⟨B, _, h⟩ := this 10
    exact ⟨B, h⟩
  have := gd_len hM hm 10 b (gd_0 hm.1 hB) (by have := cB_lt (s := heap) (n := 10); rw [nz_all hm.2.1]; omega)
  rw [this, nz_all hm.2.1]
theorem plan_len : ∀ {f left v : Nat} {L : List (Nat × Nat × Int)}, left < 1024 → sB b left = 0 → (∀ p, left.testBit p = true → ¬ b p = 0) → isH b left v → PlanR b f left L → L.length + v = cB left 10
  | 0, left, v, L, hM, hz, hn, hv, ⟨h1, h2⟩ => by
    subst h1; subst h2
    rw [isH_one hv isH_0]
    decide
  | f + 1, left, v, L, hM, hz, hn, hv, Or.inl ⟨h1, h2⟩ => by
    subst h1; subst h2
    rw [isH_one hv isH_0]
    decide
  | f + 1, left, v, L, hM, hz, hn, hv, Or.inr ⟨h0, heap, L1, h1, h2, h3⟩ => by
    obtain ⟨v1, hv2⟩ := okH_isH hv hz h1.1
    have hs := h1.1.1
    have hz2 := z_x hs hz h1.1.2.2.1
    have hh : heap < 1024 := by have := sub_le hs; omega
    have hl := sub_le (sub_xs hs)
    have ih := plan_len (by omega) hz2 (fun p hp => hn p (sub_xs hs p hp)) hv2 h2
    have hg := grd_len hh (okH_min hv hz hn h1.1)
    have hc := cB_add hs
    have hp := cB_pos (okH_0 h1.1) hh
    rw [h3, List.length_append, hg]
    omega
theorem hv_ex (b : Nat → Int) : ∃ hv : Nat → Nat, ∀ M, M < 1024 → isH b M (hv M) := by
  have h : ∀ M, M < 1024 → ∃ v, isH b M v := by
    intro M
    induction M using Nat.strongRecOn with
    | ind M ih =>
    intro hM
    by_cases h0 : M = 0
    · subst h0; exact ⟨0, isH_0⟩
    · have hp : ∀ p, M.testBit p = true → ∃ v, isH b (M ^^^ 2 ^ p) v := fun p hp => by
        have h1 := sub_xs (sub_b hp)
        have hne : ¬ M ^^^ 2 ^ p = M := fun e => by
          have := x_b (q := p) hp
          rw [e, hp] at this
          simp at this
        have h2 := lt_sub h1 hne
        exact ih _ h2 (by omega)
      let v : Nat → Nat := fun p => if h : M.testBit p = true then Classical.choose (hp p h) else 0
      have hv : ∀ p, M.testBit p = true → isH b (M ^^^ 2 ^ p) (v p) := fun p h => by
        show isH b (M ^^^ 2 ^ p) (if h : M.testBit p = true then Classical.choose (hp p h) else 0)
        rw [dif_pos h]
        exact Classical.choose_spec (hp p h)
      obtain ⟨i, i1, i2, _⟩ := fb_best (fun p => if M.testBit p then (v p : Int) else -1) (n := 10) (by decide)
      obtain ⟨p0, hp0⟩ := ne_bit h0
      have hi : M.testBit i = true := by
        cases e : M.testBit i
        · have := i2 p0 (bit10 hM hp0)
          simp [hp0, e] at this
          omega
        · rfl
      refine ⟨_, isH_step (mx := v i) h0 hv (fun p hp => ?_) ⟨i, hi, rfl⟩⟩
      have := i2 p (bit10 hM hp)
      simp [hp, hi] at this
      omega
  exact ⟨fun M => if hM : M < 1024 then Classical.choose (h M hM) else 0, fun M hM => by
    show isH b M (if hM : M < 1024 then Classical.choose (h M hM) else 0)
    rw [dif_pos hM]
    exact Classical.choose_spec (h M hM)⟩
end
