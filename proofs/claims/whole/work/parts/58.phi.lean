/-! PLACES of those who owe, and sets of them -/
section
variable {b : Nat → Int}
def nzT (b : Nat → Int) (n : Nat) : Nat := fb_ct (fun p => decide (¬ b p = 0)) n
def eN (b : Nat → Int) (i : Nat) : Nat := fa_first (fun p => decide (¬ b p = 0) && decide (nzT b p = i)) 10
theorem nzT_le : nzT b 10 ≤ 10 := fb_ct_le _ _
theorem eN_ok {i : Nat} (h : i < nzT b 10) : eN b i < 10 ∧ ¬ b (eN b i) = 0 ∧ nzT b (eN b i) = i := by
  obtain ⟨p, p1, p2, p3⟩ := fb_ct_kth h
  have h1 : eN b i < 10 := fst_some p1 (by rw [p2, show nzT b p = i from p3]; simp)
  have h2 := fa_first_yes (fun p => decide (¬ b p = 0) && decide (nzT b p = i)) 10 h1
  simp only [Bool.and_eq_true, decide_eq_true_eq] at h2
  exact ⟨h1, h2⟩
theorem nzT_lt {p : Nat} (hp : p < 10) (h : ¬ b p = 0) : nzT b p < nzT b 10 := by
  have h1 := fb_ct_mono (fun p => decide (¬ b p = 0)) (m := p + 1) (n := 10) (by omega)
  rw [fb_ct_succ] at h1
  simp [h] at h1
  unfold nzT
  simp
  omega
theorem eN_of {p : Nat} (hp : p < 10) (h : ¬ b p = 0) : eN b (nzT b p) = p := by
  obtain ⟨a1, a2, a3⟩ := eN_ok (nzT_lt hp h)
  exact fb_ct_kth_one (p := fun p => decide (¬ b p = 0)) (by simp [a2]) (by simp [h]) a3
theorem eN_mono {i j : Nat} (hij : i < j) (hj : j < nzT b 10) : eN b i < eN b j := by
  obtain ⟨a1, a2, a3⟩ := eN_ok (b := b) (i := i) (by omega)
  obtain ⟨c1, c2, c3⟩ := eN_ok hj
  apply Classical.byContradiction
  intro q
  have := fb_ct_mono (fun p => decide (¬ b p = 0)) (m := eN b j) (n := eN b i) (by omega)
  unfold nzT at a3 c3
  omega
theorem msk_lt (q : Nat → Bool) (n : Nat) : mskOf q n < 2 ^ n := by
  apply Nat.lt_pow_two_of_testBit
  intro i hi
  rw [msk_bit]
  have : ¬ i < n := by omega
  simp [this]
/-- the people of a set of places -/
def phi (b : Nat → Int) (S : Nat) : Nat := mskOf (fun p => decide (¬ b p = 0) && S.testBit (nzT b p)) 10
theorem ph_lt {S : Nat} : phi b S < 1024 := msk_lt _ 10
theorem ph_bit {S p : Nat} : (phi b S).testBit p = (decide (p < 10) && (decide (¬ b p = 0) && S.testBit (nzT b p))) := msk_bit _ p 10
theorem ph_bit2 {S p : Nat} (hp : p < 10) (h : ¬ b p = 0) : (phi b S).testBit p = S.testBit (nzT b p) := by
  rw [ph_bit]
  simp [hp, h]
theorem ph_e {S i : Nat} (hi : i < nzT b 10) : (phi b S).testBit (eN b i) = S.testBit i := by
  obtain ⟨a1, a2, a3⟩ := eN_ok hi
  rw [ph_bit2 a1 a2, a3]
theorem ph_xor {A B : Nat} : phi b (A ^^^ B) = phi b A ^^^ phi b B := m_ext (fun p => by
  rw [ph_bit, xorT, xorT, ph_bit, ph_bit]
  cases decide (p < 10) <;> cases decide (¬ b p = 0) <;> simp)
theorem ph_two {i : Nat} (hi : i < nzT b 10) : phi b (2 ^ i) = 2 ^ eN b i := m_ext (fun p => by
  obtain ⟨a1, a2, a3⟩ := eN_ok hi
  rw [ph_bit, tb2, tb2]
  by_cases e : eN b i = p
  · subst e; simp [a1, a2, a3]
  · by_cases q : p < 10 ∧ ¬ b p = 0
    · have : ¬ i = nzT b p := fun w => e (by rw [w]; exact eN_of q.1 q.2)
      simp [e, this]
    · have q' : p < 10 → b p = 0 := fun w => Classical.not_not.mp (fun z => q ⟨w, z⟩)
      by_cases w : p < 10
      · simp [e, q' w]
      · simp [e, w])
theorem ph_0 : phi b 0 = 0 := m_ext (fun p => by rw [ph_bit]; simp)
theorem pl_lt {S i : Nat} (hS : S < 2 ^ nzT b 10) (h : S.testBit i = true) : i < nzT b 10 := by
  apply Classical.byContradiction
  intro q
  have : S < 2 ^ i := Nat.lt_of_lt_of_le hS (Nat.pow_le_pow_right (n := 2) (by decide) (by omega))
  rw [Nat.testBit_lt_two_pow this] at h
  cases h
theorem ph_sub {A B : Nat} (hA : A < 2 ^ nzT b 10) : subM (phi b A) (phi b B) ↔ subM A B := by
  constructor
  · intro h i hi
    have hi2 := pl_lt hA hi
    have := h (eN b i) (by rw [ph_e hi2]; exact hi)
    rw [ph_e hi2] at this
    exact this
  · intro h p hp
    rw [ph_bit] at hp ⊢
    simp at hp ⊢
    exact ⟨hp.1, hp.2.1, h _ hp.2.2⟩
theorem ph_inj {A B : Nat} (hA : A < 2 ^ nzT b 10) (hB : B < 2 ^ nzT b 10) (h : phi b A = phi b B) : A = B := m_ext (fun i => by
  cases e : A.testBit i
  · cases e2 : B.testBit i
    · rfl
    · have := ph_e (b := b) (S := B) (pl_lt hB e2)
      rw [← h, ph_e (pl_lt hB e2), e, e2] at this
      exact this
  · have := ph_e (b := b) (S := A) (pl_lt hA e)
    rw [h, ph_e (pl_lt hA e), e] at this
    exact this.symm)
theorem ph_ne {A : Nat} (hA : A < 2 ^ nzT b 10) (h : ¬ A = 0) : ¬ phi b A = 0 := fun e => h (ph_inj hA (Nat.two_pow_pos _) (by rw [e, ph_0]))
/-- the places of a set of people -/
def psi (b : Nat → Int) (M : Nat) : Nat := mskOf (fun i => M.testBit (eN b i)) (nzT b 10)
theorem ps_lt {M : Nat} : psi b M < 2 ^ nzT b 10 := msk_lt _ _
theorem ph_ps {M : Nat} (hM : M < 1024) (h : ∀ p, M.testBit p = true → ¬ b p = 0) : phi b (psi b M) = M := m_ext (fun p => by
  rw [ph_bit]
  unfold psi
  rw [msk_bit]
  cases e : M.testBit p
  · by_cases q : p < 10 ∧ ¬ b p = 0
    · simp [q, eN_of q.1 q.2, e]
    · have q' : p < 10 → b p = 0 := fun w => Classical.not_not.mp (fun z => q ⟨w, z⟩)
      by_cases w : p < 10
      · simp [q' w]
      · simp [w]
  · have h1 := bit10 hM e
    have h2 := h p e
    simp [h1, h2, eN_of h1 h2, e, nzT_lt h1 h2])
theorem lt_of_bit {n m i : Nat} (hn : n.testBit i = false) (hm : m.testBit i = true) (h : ∀ j, i < j → n.testBit j = m.testBit j) : n < m := by
  have e : n >>> (i + 1) = m >>> (i + 1) := m_ext (fun j => by
    rw [Nat.testBit_shiftRight, Nat.testBit_shiftRight]
    exact h _ (by omega))
  rw [Nat.shiftRight_eq_div_pow, Nat.shiftRight_eq_div_pow] at e
  rw [Nat.testBit_eq_decide_div_mod_eq] at hn hm
  simp at hn hm
  have e1 : n / 2 ^ (i + 1) = n / 2 ^ i / 2 := by rw [Nat.pow_succ, Nat.div_div_eq_div_mul]
  have e2 : m / 2 ^ (i + 1) = m / 2 ^ i / 2 := by rw [Nat.pow_succ, Nat.div_div_eq_div_mul]
  have e3 : n / 2 ^ i < m / 2 ^ i := by omega
  apply Classical.byContradiction
  intro q
  have := Nat.div_le_div_right (c := 2 ^ i) (by omega : m ≤ n)
  omega
/-- the order of sets is kept -/
theorem ph_mono {A B : Nat} (hA : A < 2 ^ nzT b 10) (hB : B < 2 ^ nzT b 10) (h : A < B) : phi b A < phi b B := by
  have hne : ∃ i, i < nzT b 10 ∧ ¬ A.testBit i = B.testBit i := by
    apply Classical.byContradiction
    intro q
    have : A = B := m_ext (fun i => by
      by_cases hi : i < nzT b 10
      · apply Classical.byContradiction
        intro w
        exact q ⟨i, hi, w⟩
      · have h1 : A < 2 ^ i := Nat.lt_of_lt_of_le hA (Nat.pow_le_pow_right (n := 2) (by decide) (by omega))
        have h2 : B < 2 ^ i := Nat.lt_of_lt_of_le hB (Nat.pow_le_pow_right (n := 2) (by decide) (by omega))
        rw [Nat.testBit_lt_two_pow h1, Nat.testBit_lt_two_pow h2])
    omega
  obtain ⟨i, i1, i2, i3⟩ := fb_last hne
  have i4 : ∀ j, i < j → A.testBit j = B.testBit j := fun j hj => by
    by_cases hjo : j < nzT b 10
    · exact Classical.not_not.mp (i3 j hj hjo)
    · have h1 : A < 2 ^ j := Nat.lt_of_lt_of_le hA (Nat.pow_le_pow_right (n := 2) (by decide) (by omega))
      have h2 : B < 2 ^ j := Nat.lt_of_lt_of_le hB (Nat.pow_le_pow_right (n := 2) (by decide) (by omega))
      rw [Nat.testBit_lt_two_pow h1, Nat.testBit_lt_two_pow h2]
  cases eA : A.testBit i
  · cases eB : B.testBit i
    · rw [eA, eB] at i2; exact absurd rfl i2
    · refine lt_of_bit (i := eN b i) (by rw [ph_e i1]; exact eA) (by rw [ph_e i1]; exact eB) (fun p hp => ?_)
      rw [ph_bit, ph_bit]
      by_cases q : p < 10 ∧ ¬ b p = 0
      · have : i < nzT b p := by
          apply Classical.byContradiction
          intro w
          have hle : nzT b p ≤ i := by omega
          by_cases e : nzT b p = i
          · have := eN_of q.1 q.2
            rw [e] at this
            omega
          · have := eN_mono (b := b) (i := nzT b p) (j := i) (by omega) i1
            rw [eN_of q.1 q.2] at this
            omega
        simp [i4 _ this]
      · have q' : p < 10 → b p = 0 := fun w => Classical.not_not.mp (fun z => q ⟨w, z⟩)
        by_cases w : p < 10
        · simp [q' w]
        · simp [w]
  · cases eB : B.testBit i
    · exfalso
      have := lt_of_bit (i := i) eB eA (fun j hj => (i4 j hj).symm)
      omega
    · rw [eA, eB] at i2; exact absurd rfl i2
/-- a set's sum, by places -/
theorem ph_sum {S : Nat} : ∀ n, n ≤ 10 → fb_si (fun p => if (decide (¬ b p = 0) && S.testBit (nzT b p)) then b p else 0) n = fb_si (fun i => if S.testBit i then b (eN b i) else 0) (nzT b n)
  | 0, _ => rfl
  | n + 1, h => by
    rw [fb_si_succ, ph_sum n (by omega)]
    have e : nzT b (n + 1) = nzT b n + (if decide (¬ b n = 0) then 1 else 0) := rfl
    rw [e]
    by_cases q : b n = 0
    · simp [q]
    · have : eN b (nzT b n) = n := eN_of (by omega) q
      simp only [q, not_false_eq_true, decide_true, if_true, Bool.true_and]
      rw [fb_si_succ, this]
theorem sB_phi {S : Nat} : sB b (phi b S) = fb_si (fun i => if S.testBit i then b (eN b i) else 0) (nzT b 10) := by
  rw [← ph_sum 10 (by omega)]
  unfold sB
  apply fb_si_cong
  intro p hp
  rw [ph_bit]
  simp [hp]
theorem ph_all : isAll b (phi b (2 ^ nzT b 10 - 1)) := by
  refine ⟨ph_lt, fun p hp => ?_⟩
  rw [ph_bit, Nat.testBit_two_pow_sub_one]
  by_cases q : b p = 0
  · simp [q]
  · simp [q, hp, nzT_lt hp q]
theorem isAll_one {M N : Nat} (h1 : isAll b M) (h2 : isAll b N) : M = N := m_ext (fun p => by
  by_cases hp : p < 10
  · rw [h1.2 p hp, h2.2 p hp]
  · cases e : M.testBit p
    · cases e2 : N.testBit p
      · rfl
      · exact absurd (bit10 h2.1 e2) hp
    · exact absurd (bit10 h1.1 e) hp)
theorem lo_phi {L : Nat} (hL : L < 2 ^ nzT b 10) (h0 : ¬ L = 0) : loB (phi b L) = eN b (loB L) ∧ loB L < nzT b 10 ∧ L.testBit (loB L) = true := by
  have h10 : 2 ^ nzT b 10 ≤ 1024 := Nat.pow_le_pow_right (n := 2) (by decide) nzT_le
  obtain ⟨l1, l2, l3⟩ := lo_ok (by omega : L < 1024) h0
  have l4 := pl_lt hL l2
  obtain ⟨a1, a2, a3⟩ := eN_ok l4
  refine ⟨fst_eq a1 (by rw [ph_e l4]; exact l2) (fun p hp => ?_), l4, l2⟩
  rw [ph_bit]
  by_cases q : p < 10 ∧ ¬ b p = 0
  · have : nzT b p < loB L := by
      apply Classical.byContradiction
      intro w
      by_cases e : nzT b p = loB L
      · have := eN_of q.1 q.2
        rw [e] at this
        omega
      · have := eN_mono (b := b) (i := loB L) (j := nzT b p) (by omega) (nzT_lt q.1 q.2)
        rw [eN_of q.1 q.2] at this
        omega
    simp [l3 _ this]
  · have q' : p < 10 → b p = 0 := fun w => Classical.not_not.mp (fun z => q ⟨w, z⟩)
    by_cases w : p < 10
    · simp [q' w]
    · simp [w]
/-- a place set that the class takes for a heap -/
theorem okH_phi {hv : Nat → Nat} {L S : Nat} (hhv : ∀ M, M < 1024 → isH b M (hv M)) (hL : L < 2 ^ nzT b 10) (h0 : ¬ L = 0) (hS : S < 2 ^ nzT b 10) (hz : sB b (phi b L) = 0) : okH b (phi b L) (phi b S) ↔ (subM S L ∧ S.testBit (loB L) = true ∧ hv (phi b (L ^^^ S)) + 1 = hv (phi b L) ∧ sB b (phi b S) = 0) := by
  obtain ⟨l1, l2, l3⟩ := lo_phi hL h0
  constructor
  · intro h
    have hi := okH_isH (hhv _ ph_lt) hz h
    obtain ⟨h1, h2, h3, h4⟩ := h
    refine ⟨(ph_sub hS).mp h1, ?_, ?_, h3⟩
    · rw [l1, ph_e l2] at h2
      exact h2
    · have := isH_one hi.2 (by rw [← ph_xor]; exact hhv _ ph_lt)
      have := hi.1
      omega
  · rintro ⟨h1, h2, h3, h4⟩
    refine ⟨(ph_sub hS).mpr h1, by rw [l1, ph_e l2]; exact h2, h4, fun k hk => ?_⟩
    have := (hhv (phi b L) ph_lt (k + 1)).mpr hk
    rw [← ph_xor]
    exact (hhv (phi b (L ^^^ S)) ph_lt k).mp (by omega)
end
