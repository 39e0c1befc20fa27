/-! THE PAYMENTS within a heap -/
def mskOf (q : Nat → Bool) : Nat → Nat
  | 0 => 0
  | n + 1 => mskOf q n ||| (if q n then 2 ^ n else 0)
theorem msk_bit (q : Nat → Bool) (p : Nat) : ∀ n, (mskOf q n).testBit p = (decide (p < n) && q p)
  | 0 => by simp [mskOf]
  | n + 1 => by
    rw [mskOf, Nat.testBit_or, msk_bit q p n]
    by_cases e : p = n
    · subst e
      cases h : q p
      · simp
      · simp [tb2]
    · have e2 : (p < n + 1) = (p < n) := by apply propext; omega
      cases h : q n
      · simp [e2]
      · simp only [if_true, tb2, e2]
        have : ¬ n = p := fun w => e w.symm
        simp [this]
theorem fst_eq {q : Nat → Bool} {n i : Nat} (hi : i < n) (h : q i = true) (h2 : ∀ k, k < i → q k = false) : fa_first q n = i := by
  have a := fa_first_le q n
  by_cases e : fa_first q n < i
  · have := fa_first_yes q n (by omega)
    rw [h2 _ e] at this
    cases this
  · by_cases e2 : i < fa_first q n
    · have := fa_first_no q n i e2
      rw [h] at this
      cases this
    · omega
theorem fst_none {q : Nat → Bool} {n : Nat} (h : ∀ k, k < n → q k = false) : ¬ fa_first q n < n := fun e => by
  have := fa_first_yes q n e
  rw [h _ e] at this
  cases this
theorem fst_some {q : Nat → Bool} {n k : Nat} (hk : k < n) (h : q k = true) : fa_first q n < n := by
  apply Classical.byContradiction
  intro e
  have := fa_first_no q n k (by have := fa_first_le q n; omega)
  rw [h] at this
  cases this
theorem si_nn {f : Nat → Int} : ∀ {n : Nat}, (∀ k, k < n → 0 ≤ f k) → 0 ≤ fb_si f n ∧ (fb_si f n = 0 → ∀ k, k < n → f k = 0)
  | 0, _ => ⟨by simp [fb_si], fun _ k hk => by omega⟩
  | n + 1, h => by
    obtain ⟨a, c⟩ := si_nn (n := n) (fun k hk => h k (by omega))
    have := h n (by omega)
    rw [fb_si_succ]
    refine ⟨by omega, fun e k hk => ?_⟩
    by_cases q : k = n
    · subst q; omega
    · exact c (by omega) k (by omega)
theorem sB_cong {b c : Nat → Int} {T : Nat} (h : ∀ p, T.testBit p = true → b p = c p) : sB b T = sB c T := by
  unfold sB
  apply fb_si_cong
  intro p hp
  cases e : T.testBit p
  · simp
  · simp [h p e]
/-- how many of a set have something open -/
def nzC (M : Nat) (o : Nat → Int) : Nat := fb_ct (fun p => M.testBit p && decide (¬ o p = 0)) 10
/-- what holds while a heap is paid: M the heap, b what was open before -/
def Gd (b : Nat → Int) (M : Nat) (B : Int) (o : Nat → Int) : Prop := sB o M = 0 ∧ (∀ p, M.testBit p = true → ¬ o p = b p → ¬ o p = 0 → p = fsN M o ∨ p = fsP M o) ∧ (∀ p q, M.testBit p = true → M.testBit q = true → ¬ o p = b p → ¬ o p = 0 → ¬ o q = b q → ¬ o q = 0 → p = q) ∧ (∀ p, p < 10 → -B ≤ o p ∧ o p ≤ B) ∧ (∀ p, M.testBit p = false → o p = b p)
/-- a heap that holds no smaller one, nobody in it with 0 -/
def mnH (b : Nat → Int) (M : Nat) : Prop := sB b M = 0 ∧ (∀ p, M.testBit p = true → ¬ b p = 0) ∧ ∀ Z, subM Z M → ¬ Z = 0 → sB b Z = 0 → Z = M
def nxO (M : Nat) (o : Nat → Int) : Nat → Int := mvO o (fsN M o) (fsP M o) (mnI (-(o (fsN M o))) (o (fsP M o)))
theorem mnI_p {x y : Int} (hx : 0 < x) (hy : 0 < y) : 0 < mnI x y ∧ mnI x y ≤ x ∧ mnI x y ≤ y ∧ (mnI x y = x ∨ mnI x y = y) := by
  unfold mnI
  split <;> omega
theorem gd_0 {b : Nat → Int} {M : Nat} {B : Int} (h : sB b M = 0) (hB : ∀ p, p < 10 → -B ≤ b p ∧ b p ≤ B) : Gd b M B b := ⟨h, fun p _ q => absurd rfl q, fun p q _ _ w => absurd rfl w, hB, fun _ _ => rfl⟩
theorem gd_next {b o : Nat → Int} {M : Nat} {B : Int} (hM : M < 1024) (hm : mnH b M) (h : Gd b M B o) : ((∀ p, M.testBit p = true → o p = 0) ∧ ¬ fsN M o < 10 ∧ ¬ fsP M o < 10) ∨ (fsN M o < 10 ∧ fsP M o < 10 ∧ M.testBit (fsN M o) = true ∧ o (fsN M o) < 0 ∧ M.testBit (fsP M o) = true ∧ 0 < o (fsP M o) ∧ ¬ fsN M o = fsP M o ∧ Gd b M B (nxO M o) ∧ ((nzC M (nxO M o) + 1 = nzC M o ∧ 0 < nzC M (nxO M o)) ∨ (nzC M (nxO M o) = 0 ∧ nzC M o = 2))) := by
  obtain ⟨h1, h2, h3, h4, h5⟩ := h
  obtain ⟨m1, m2, m3⟩ := hm
  by_cases hz : ∀ p, M.testBit p = true → o p = 0
  · left
    refine ⟨hz, fst_none (fun k hk => ?_), fst_none (fun k hk => ?_)⟩
    · cases e : M.testBit k
      · rfl
      · rw [hz k e]; rfl
    · cases e : M.testBit k
      · rfl
      · rw [hz k e]; rfl
  right
  obtain ⟨p0, hp0, hne⟩ : ∃ p, M.testBit p = true ∧ ¬ o p = 0 := by
    apply Classical.byContradiction
    intro q
    apply hz
    intro p hp
    apply Classical.byContradiction
    intro w
    exact q ⟨p, hp, w⟩
  have hN : fsN M o < 10 := by
    apply Classical.byContradiction
    intro q
    have hn : ∀ k, k < 10 → 0 ≤ (if M.testBit k then o k else 0) := fun k hk => by
      cases e : M.testBit k
      · simp
      · simp
        have := fa_first_no (fun p => M.testBit p && decide (o p < 0)) 10 k (by unfold fsN at q; have := fa_first_le (fun p => M.testBit p && decide (o p < 0)) 10; omega)
        simp [e] at this
        omega
    have := (si_nn hn).2 h1 p0 (bit10 hM hp0)
    rw [hp0] at this
    exact hne (by simpa using this)
  have hP : fsP M o < 10 := by
    apply Classical.byContradiction
    intro q
    have hn : ∀ k, k < 10 → 0 ≤ -1 * (if M.testBit k then o k else 0) := fun k hk => by
      cases e : M.testBit k
      · simp
      · simp
        have := fa_first_no (fun p => M.testBit p && decide (0 < o p)) 10 k (by unfold fsP at q; have := fa_first_le (fun p => M.testBit p && decide (0 < o p)) 10; omega)
        simp [e] at this
        omega
    have h1' : fb_si (fun k => -1 * (if M.testBit k then o k else 0)) 10 = 0 := by
      rw [fb_si_mul]
      have : fb_si (fun k => if M.testBit k then o k else 0) 10 = 0 := h1
      rw [this]
      rfl
    have := (si_nn hn).2 h1' p0 (bit10 hM hp0)
    rw [hp0] at this
    simp at this
    exact hne this
  have yN := fa_first_yes (fun p => M.testBit p && decide (o p < 0)) 10 hN
  have yP := fa_first_yes (fun p => M.testBit p && decide (0 < o p)) 10 hP
  have nN := fa_first_no (fun p => M.testBit p && decide (o p < 0)) 10
  have nP := fa_first_no (fun p => M.testBit p && decide (0 < o p)) 10
  have eN : fa_first (fun p => M.testBit p && decide (o p < 0)) 10 = fsN M o := rfl
  have eP : fa_first (fun p => M.testBit p && decide (0 < o p)) 10 = fsP M o := rfl
  rw [eN] at yN nN
  rw [eP] at yP nP
  generalize hi : fsN M o = i at *
  generalize hj : fsP M o = j at *
  simp only [Bool.and_eq_true, decide_eq_true_eq] at yN yP
  have hij : ¬ i = j := fun e => by rw [e] at yN; omega
  have hnx : nxO M o = mvO o i j (mnI (-(o i)) (o j)) := by unfold nxO; rw [hi, hj]
  obtain ⟨a1, a2, a3, a4⟩ := mnI_p (x := -(o i)) (y := o j) (by omega) yP.2
  rw [hnx]
  generalize hmm : mnI (-(o i)) (o j) = m at *
  have oi : mvO o i j m i = o i + m := by unfold mvO; rw [if_pos rfl]
  have oj : mvO o i j m j = o j - m := by unfold mvO; rw [if_neg (fun e => hij e.symm), if_pos rfl]
  have ok : ∀ p, ¬ p = i → ¬ p = j → mvO o i j m p = o p := fun p q1 q2 => by unfold mvO; rw [if_neg q1, if_neg q2]
  generalize hoo : mvO o i j m = o' at *
  have g1 : sB o' M = 0 := by
    have e1 : sB o' M = fb_si (fun p => if p = j then o j - m else (if p = i then o i + m else (if M.testBit p then o p else 0))) 10 := by
      unfold sB
      apply fb_si_cong
      intro p hp
      by_cases q1 : p = j
      · subst q1; simp [yP.1, oj]
      · by_cases q2 : p = i
        · subst q2; simp [yN.1, oi, q1]
        · rw [if_neg q1, if_neg q2, ok p q2 q1]
    rw [e1, fb_si_upd _ _ hP, fb_si_upd _ _ hN]
    have e2 : fb_si (fun p => if M.testBit p then o p else 0) 10 = 0 := h1
    have hji : ¬ j = i := fun e => hij e.symm
    rw [e2]
    simp only [hji, if_false, yN.1, yP.1, if_true]
    omega
  have part : ∀ p, M.testBit p = true → ¬ o' p = b p → ¬ o' p = 0 → (p = i ∧ ¬ o' i = 0) ∨ (p = j ∧ ¬ o' j = 0) := by
    intro p q1 q2 q3
    by_cases e1 : p = i
    · subst e1; exact Or.inl ⟨rfl, q3⟩
    · by_cases e2 : p = j
      · subst e2; exact Or.inr ⟨rfl, q3⟩
      · rw [ok p e1 e2] at q2 q3
        rcases h2 p q1 q2 q3 with w | w
        · exact absurd w e1
        · exact absurd w e2
  have g2 : ∀ p, M.testBit p = true → ¬ o' p = b p → ¬ o' p = 0 → p = fsN M o' ∨ p = fsP M o' := by
    intro p q1 q2 q3
    rcases part p q1 q2 q3 with ⟨e, w⟩ | ⟨e, w⟩
    · left
      subst e
      symm
      refine fst_eq hN (by simp [yN.1]; omega) (fun k hk => ?_)
      cases e : M.testBit k
      · rfl
      · have := nN k hk
        by_cases e3 : k = j
        · subst e3; simp [oj]; omega
        · rw [ok k (by omega) e3]; simpa [e] using this
    · right
      subst e
      symm
      refine fst_eq hP (by simp [yP.1]; omega) (fun k hk => ?_)
      cases e : M.testBit k
      · rfl
      · have := nP k hk
        by_cases e3 : k = i
        · subst e3; simp [oi]; omega
        · rw [ok k e3 (by omega)]; simpa [e] using this
  have g3 : ∀ p q, M.testBit p = true → M.testBit q = true → ¬ o' p = b p → ¬ o' p = 0 → ¬ o' q = b q → ¬ o' q = 0 → p = q := by
    intro p q c1 c2 c3 c4 c5 c6
    rcases part p c1 c3 c4 with ⟨e, w⟩ | ⟨e, w⟩ <;> rcases part q c2 c5 c6 with ⟨e', w'⟩ | ⟨e', w'⟩
    · rw [e, e']
    · exfalso; rw [oi] at w; rw [oj] at w'; omega
    · exfalso; rw [oj] at w; rw [oi] at w'; omega
    · rw [e, e']
  have g4 : ∀ p, p < 10 → -B ≤ o' p ∧ o' p ≤ B := by
    intro p hp
    have := h4 p hp
    by_cases e1 : p = i
    · subst e1; rw [oi]; omega
    · by_cases e2 : p = j
      · subst e2; rw [oj]; omega
      · rw [ok p e1 e2]; exact this
  have g5 : ∀ p, M.testBit p = false → o' p = b p := by
    intro p hp
    rw [ok p (fun e => by rw [e, yN.1] at hp; cases hp) (fun e => by rw [e, yP.1] at hp; cases hp)]
    exact h5 p hp
  have cnt : nzC M o' + 2 = nzC M o + (if o' i = 0 then 0 else 1) + (if o' j = 0 then 0 else 1) := by
    have e1 : nzC M o' = fb_ct (fun p => if p = j then decide (¬ o' j = 0) else (if p = i then decide (¬ o' i = 0) else (M.testBit p && decide (¬ o p = 0)))) 10 := by
      unfold nzC
      apply fb_ct_cong
      intro p hp
      by_cases q1 : p = j
      · subst q1; simp [yP.1]
      · by_cases q2 : p = i
        · subst q2; simp [yN.1, q1]
        · rw [if_neg q1, if_neg q2, ok p q2 q1]
    have u1 := fb_ct_upd (fun p => if p = i then decide (¬ o' i = 0) else (M.testBit p && decide (¬ o p = 0))) (decide (¬ o' j = 0)) hP
    have u2 := fb_ct_upd (fun p => M.testBit p && decide (¬ o p = 0)) (decide (¬ o' i = 0)) hN
    have v1 : (if j = i then decide (¬ o' i = 0) else (M.testBit j && decide (¬ o j = 0))) = true := by
      rw [if_neg (fun e => hij e.symm)]
      simp [yP.1]
      omega
    have v2 : (M.testBit i && decide (¬ o i = 0)) = true := by
      simp [yN.1]
      omega
    rw [v1] at u1
    rw [v2] at u2
    rw [e1]
    unfold nzC
    by_cases c1 : o' i = 0 <;> by_cases c2 : o' j = 0 <;> simp [c1, c2] at u1 u2 ⊢ <;> omega
  refine ⟨hN, hP, yN.1, yN.2, yP.1, yP.2, hij, ⟨g1, g2, g3, g4, g5⟩, ?_⟩
  by_cases c1 : o' i = 0
  · by_cases c2 : o' j = 0
    · right
      have hD : subM (mskOf (fun p => M.testBit p && decide (¬ o' p = b p)) 10) M := fun p hp => by
        rw [msk_bit] at hp
        simp at hp
        exact hp.2.1
      have hDb : ∀ p, (mskOf (fun p => M.testBit p && decide (¬ o' p = b p)) 10).testBit p = (M.testBit p && decide (¬ o' p = b p)) := fun p => by
        rw [msk_bit]
        cases e : M.testBit p
        · simp
        · simp [bit10 hM e]
      generalize hDD : mskOf (fun p => M.testBit p && decide (¬ o' p = b p)) 10 = D at *
      have hz' : ∀ p, D.testBit p = true → o' p = 0 := by
        intro p hp
        rw [hDb] at hp
        simp at hp
        apply Classical.byContradiction
        intro w
        rcases part p hp.1 hp.2 w with ⟨_, q⟩ | ⟨_, q⟩
        · exact q c1
        · exact q c2
      have hDz : sB b D = 0 := by
        have s1 := sB_add (b := b) hD
        have s2 := sB_add (b := o') hD
        have s3 : sB o' D = 0 := by
          rw [sB_cong (c := fun _ => 0) hz']
          unfold sB
          have : fb_si (fun p => if D.testBit p then (0 : Int) else 0) 10 = fb_si (fun _ => 0) 10 := fb_si_cong (fun p _ => by simp)
          rw [this]
          decide
        have s4 : sB b (M ^^^ D) = sB o' (M ^^^ D) := sB_cong (fun p hp => by
          rw [sub_x hD, hDb] at hp
          simp at hp
          rcases hp.2 with w | w
          · rw [hp.1] at w; cases w
          · exact w.symm)
        rw [m1] at s1
        rw [g1, s3] at s2
        omega
      have hD0 : ¬ D = 0 := bit_ne (p := i) (by rw [hDb, yN.1, c1]; simp; exact fun w => m2 i yN.1 w.symm)
      have hDM := m3 D hD hD0 hDz
      have hn0 : nzC M o' = 0 := by
        unfold nzC
        rw [fb_ct_zero]
        intro k hk
        cases e : M.testBit k
        · rfl
        · have := hz' k (by rw [hDM]; exact e)
          simp [this]
      refine ⟨hn0, ?_⟩
      rw [if_pos c1, if_pos c2] at cnt
      omega
    · left
      rw [if_pos c1, if_neg c2] at cnt
      refine ⟨by omega, ?_⟩
      exact fb_ct_pos.mpr ⟨j, hP, by simp [yP.1, c2]⟩
  · left
    have c2 : o' j = 0 := by rw [oi] at c1; rw [oj]; omega
    rw [if_neg c1, if_pos c2] at cnt
    refine ⟨by omega, ?_⟩
    exact fb_ct_pos.mpr ⟨i, hN, by simp [yN.1, c1]⟩
theorem nz_0 {M : Nat} {o : Nat → Int} (hM : M < 1024) : nzC M o = 0 ↔ ∀ p, M.testBit p = true → o p = 0 := by
  unfold nzC
  rw [fb_ct_zero]
  constructor
  · intro h p hp
    have := h p (bit10 hM hp)
    simp [hp] at this
    exact this
  · intro h p _
    cases e : M.testBit p
    · rfl
    · simp [h p e]
/-- a heap takes one payment less than it has people -/
theorem gd_len {b : Nat → Int} {M : Nat} {B : Int} (hM : M < 1024) (hm : mnH b M) : ∀ (f : Nat) (o : Nat → Int), Gd b M B o → nzC M o ≤ f + 1 → (grd f M o).length = nzC M o - 1
  | 0, o, h, hf => by
    rw [grd]
    show 0 = _
    omega
  | f + 1, o, h, hf => by
    rw [grd]
    rcases gd_next hM hm h with ⟨a1, a2, a3⟩ | ⟨a1, a2, _, _, _, _, _, a8, a9⟩
    · rw [if_neg (fun q => a2 q.1), (nz_0 hM).mpr a1]
      rfl
    · rw [if_pos ⟨a1, a2⟩, List.length_cons]
      have ih := gd_len hM hm f (nxO M o) a8 (by omega)
      unfold nxO at ih a9
      rw [ih]
      omega
theorem grd_cong {M : Nat} : ∀ {f : Nat} {o o' : Nat → Int}, M < 1024 → (∀ p, M.testBit p = true → o p = o' p) → grd f M o = grd f M o'
  | 0, _, _, _, _ => rfl
  | f + 1, o, o', hM, h => by
    have e1 : fsN M o = fsN M o' := by
      have : (fun p => M.testBit p && decide (o p < 0)) = (fun p => M.testBit p && decide (o' p < 0)) := funext fun p => by
        cases e : M.testBit p
        · rfl
        · rw [h p e]
      unfold fsN
      rw [this]
    have e2 : fsP M o = fsP M o' := by
      have : (fun p => M.testBit p && decide (0 < o p)) = (fun p => M.testBit p && decide (0 < o' p)) := funext fun p => by
        cases e : M.testBit p
        · rfl
        · rw [h p e]
      unfold fsP
      rw [this]
    have yN : fsN M o' < 10 → M.testBit (fsN M o') = true := fun q => by
      have := fa_first_yes (fun p => M.testBit p && decide (o' p < 0)) 10 q
      simp only [Bool.and_eq_true] at this
      exact this.1
    have yP : fsP M o' < 10 → M.testBit (fsP M o') = true := fun q => by
      have := fa_first_yes (fun p => M.testBit p && decide (0 < o' p)) 10 q
      simp only [Bool.and_eq_true] at this
      exact this.1
    rw [grd, grd, e1, e2]
    clear e1 e2
    generalize fsN M o' = i at *
    generalize fsP M o' = j at *
    by_cases q : i < 10 ∧ j < 10
    · have h1 : o i = o' i := h _ (yN q.1)
      have h2 : o j = o' j := h _ (yP q.2)
      rw [if_pos q, if_pos q, h1, h2]
      refine congrArg _ (grd_cong hM ?_)
      intro p hp
      unfold mvO
      rw [h p hp]
    · rw [if_neg q, if_neg q]
