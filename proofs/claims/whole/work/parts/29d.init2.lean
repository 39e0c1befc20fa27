/-! THE CONSTRUCTORS: chores, the house, the reference -/
section
variable {σ : xSt} {Q : Option Value → xSt → Prop}
def T0 (R : Nat → Nat → Int32) : xSt := [.inr (0, [.ref 27, .ref 38, .ref 39, .ref 40, .ref 41, .int 0]), gF 10 28, .inl (0, 24, .inl (R 0)), .inl (0, 24, .inl (R 1)), .inl (0, 24, .inl (R 2)), .inl (0, 24, .inl (R 3)), .inl (0, 24, .inl (R 4)), .inl (0, 24, .inl (R 5)), .inl (0, 24, .inl (R 6)), .inl (0, 24, .inl (R 7)), .inl (0, 24, .inl (R 8)), .inl (0, 24, .inl (R 9)), a0 24, a0 24, a0 24, a0 24]
theorem T0_get {R : Nat → Nat → Int32} (h : σ.length = 26) : ∀ p, p < 10 → xAi (σ ++ T0 R) (28 + p) = some (24, R p)
  | 0, _ => xAi_at h (by decide) (by decide) rfl
  | 1, _ => xAi_at h (by decide) (by decide) rfl
  | 2, _ => xAi_at h (by decide) (by decide) rfl
  | 3, _ => xAi_at h (by decide) (by decide) rfl
  | 4, _ => xAi_at h (by decide) (by decide) rfl
  | 5, _ => xAi_at h (by decide) (by decide) rfl
  | 6, _ => xAi_at h (by decide) (by decide) rfl
  | 7, _ => xAi_at h (by decide) (by decide) rfl
  | 8, _ => xAi_at h (by decide) (by decide) rfl
  | 9, _ => xAi_at h (by decide) (by decide) rfl
  | p + 10, hp => by omega
theorem T0_set {R : Nat → Nat → Int32} {f : Nat → Int32} (h : σ.length = 26) : ∀ p, p < 10 → (σ ++ T0 R).set (28 + p) (.inl (0, 24, .inl f)) = σ ++ T0 (va_up R p f)
  | 0, _ => by rw [set_at h (by decide)]; rfl
  | 1, _ => by rw [set_at h (by decide)]; rfl
  | 2, _ => by rw [set_at h (by decide)]; rfl
  | 3, _ => by rw [set_at h (by decide)]; rfl
  | 4, _ => by rw [set_at h (by decide)]; rfl
  | 5, _ => by rw [set_at h (by decide)]; rfl
  | 6, _ => by rw [set_at h (by decide)]; rfl
  | 7, _ => by rw [set_at h (by decide)]; rfl
  | 8, _ => by rw [set_at h (by decide)]; rfl
  | 9, _ => by rw [set_at h (by decide)]; rfl
  | p + 10, hp => by omega
def tnF (i : Nat) : Nat → Int32 := fun k => if k < i then 10 else 0
theorem tnF_0 : tnF 0 = fun _ => 0 := by funext k; unfold tnF; rw [if_neg (by omega)]
theorem tnF_s {i : Nat} : upd (tnF i) i 10 = tnF (i + 1) := by
  funext k
  unfold upd tnF
  by_cases h : k = i
  · subst h; simp
  · by_cases h2 : k < i
    · have : k < i + 1 := by omega
      simp [h, h2, this]
    · have : ¬ k < i + 1 := by omega
      simp only [h, h2, this, if_false]
def tnR (p : Nat) : Nat → Nat → Int32 := fun j => if j < p then tnF 24 else fun _ => 0
def R0 : Nat → Nat → Int32 := tnR 10
theorem tnR_s {p : Nat} : va_up (tnR p) p (tnF 24) = tnR (p + 1) := by
  funext j
  unfold va_up tnR
  by_cases h : j = p
  · subst h; simp
  · by_cases h2 : j < p
    · have : j < p + 1 := by omega
      simp [h, h2, this]
    · have : ¬ j < p + 1 := by omega
      simp only [h, h2, this, if_false]
theorem i0_in {R : Nat → Nat → Int32} {p : Nat} (h : σ.length = 26) (hp : p < 10) : ∀ (d i : Nat), i + d = 24 → G none 0 63 [.ref 26, .int (nI p), .int (nI i)] [] (σ ++ T0 (va_up R p (tnF i))) 15 346 Q = G none 0 85 [.ref 26, .int (nI p), .int (nI 24)] [] (σ ++ T0 (va_up R p (tnF 24))) 15 346 Q := by
  intro d
  induction d with
  | zero =>
    intro i hi
    have e : i = 24 := by omega
    subst e
    rw [g0_63]
    have : (24 : Int32) ≤ nI 24 := by decide
    simp only [g0_64, g0_66, this, if_true]
  | succ d ih =>
    intro i hi
    have i1 : i < 2 ^ 31 := by omega
    have p1 : p < 2 ^ 31 := by omega
    have h4 : ¬ (24 : Int32) ≤ nI i := by
      intro q
      have := (nI_leI (a := 24) (by decide) i1).mp q
      omega
    have h5 : vp_in (nI i) 24 := vp_in_nI (by omega) (by decide)
    have h6 : vp_in (nI p) 10 := vp_in_nI hp (by decide)
    have e0 : xAq (σ ++ T0 (va_up R p (tnF i))) 27 = some (10, fun j => if j < 10 then some (28 + j) else none) := by
      unfold xAq
      rw [xCe_at h (by decide) (by decide)]
      rfl
    have e1 := T0_get (R := va_up R p (tnF i)) h p hp
    rw [va_up_self] at e1
    have e2 := T0_set (R := va_up R p (tnF i)) (f := upd (tnF i) i 10) h p hp
    rw [tnF_s, bx_uu] at e2
    have e9 : ¬ 28 + p = scP := by rw [scP_v]; omega
    rw [g0_63]
    simp only [g0_64, g0_66, h4, if_false, g0_69]
    rw [show σ ++ T0 (va_up R p (tnF i)) = σ ++ .inr (0, [.ref 27, .ref 38, .ref 39, .ref 40, .ref 41, .int 0]) :: (T0 (va_up R p (tnF i))).tail from rfl]
    rw [g0_70 (v := .ref 27) rfl h (by decide)]
    rw [show σ ++ .inr (0, [.ref 27, .ref 38, .ref 39, .ref 40, .ref 41, .int 0]) :: (T0 (va_up R p (tnF i))).tail = σ ++ T0 (va_up R p (tnF i)) from rfl]
    simp only [g0_73, g0_74, e0, GV_s, nI_clamp p1, hp, if_true, e9, not_false_eq_true, h6, true_and, g0_75, g0_76, g0_78, e1, h5, nI_clamp i1, tnF_s, e2, g0_79, g0_82, nI_1]
    exact ih (i + 1) (by omega)
theorem i0_out (h : σ.length = 26) : ∀ (d p : Nat) (l2 : Value), p + d = 10 → G none 0 55 [.ref 26, .int (nI p), l2] [] (σ ++ T0 (tnR p)) 15 346 Q = Q none (σ ++ T0 R0) := by
  intro d
  induction d with
  | zero =>
    intro p l2 hi
    have e : p = 10 := by omega
    subst e
    rw [g0_55]
    have : (10 : Int32) ≤ nI 10 := by decide
    simp only [g0_56, g0_58, this, if_true, g0_91]
    rfl
  | succ d ih =>
    intro p l2 hi
    have p1 : p < 2 ^ 31 := by omega
    have h4 : ¬ (10 : Int32) ≤ nI p := by
      intro q
      have := (nI_leI (a := 10) (by decide) p1).mp q
      omega
    have z := i0_in (Q := Q) (R := tnR p) h (by omega : p < 10) 24 0 (by omega)
    have e0 : va_up (tnR p) p (tnF 0) = tnR p := by
      funext j
      unfold va_up
      by_cases e : j = p
      · subst e; rw [if_pos rfl, tnF_0]; unfold tnR; rw [if_neg (by omega)]
      · rw [if_neg e]
    rw [e0, tnR_s, nI_0] at z
    rw [g0_55]
    simp only [g0_56, g0_58, h4, if_false, g0_61, g0_62, z, g0_85, g0_88, nI_1]
    exact ih (p + 1) _ (by omega)
theorem i0 (h : σ.length = 26) : GM 0 [.ref 26] (σ ++ [.inr (0, [.null, .null, .null, .null, .null, .int 0])]) Q = Q none (σ ++ T0 R0) := by
  have z := i0_out (Q := Q) h 10 0 .null (by omega)
  have e0 : tnR 0 = fun _ _ => 0 := by funext j; unfold tnR; rw [if_neg (by omega)]
  rw [e0] at z
  rw [← z]
  show G none 0 0 [.ref 26, .null, .null] [] (σ ++ [.inr (0, [.null, .null, .null, .null, .null, .int 0])]) 0 0 Q = _
  simp (discharger := first | exact h | decide | (rw [scP_v, List.length_append, h]; decide)) only [g0_0, g0_1, g0_4, g0_5, g0_7, g0_9, g0_13, g0_16, g0_17, g0_19, g0_21, g0_24, g0_25, g0_27, g0_29, g0_32, g0_33, g0_35, g0_37, g0_40, g0_41, g0_43, g0_45, g0_48, g0_49, g0_50, g0_53, g0_54, g0_56, g0_58, g0_61, g0_62, g0_63, g0_64, g0_66, g0_69, g0_70, g0_73, g0_74, g0_75, g0_76, g0_78, g0_79, g0_82, g0_85, g0_88, g0_91, List.append_assoc, List.cons_append, List.nil_append, List.length_append, h, List.length_cons, List.length_nil, Nat.reduceAdd, List.set_cons_zero, List.set_cons_succ]
  rfl
theorem j61 {c : va_E} (h : σ.length = 0) : GM 61 [.ref 1] (σ ++ c :: ([.inr (5, [.null, .null, .null])])) Q = Q none (σ ++ c :: (T61 4)) := by
  have z := i61 (Q := Q) (σ := σ ++ c :: ([])) (by rw [List.length_append, h]; rfl)
  simp only [List.append_assoc, List.cons_append, List.nil_append, List.append_nil] at z
  exact z
theorem j52 {c : va_E} (h : σ.length = 0) : GM 52 [.ref 9] (σ ++ c :: (T61 4 ++ ([.inr (4, [.null, .null, .null, .null, .null, .int 0])]))) Q = Q none (σ ++ c :: (T61 4 ++ (T52))) := by
  have z := i52 (Q := Q) (σ := σ ++ c :: (T61 4 ++ ([]))) (by rw [List.length_append, h]; rfl)
  simp only [List.append_assoc, List.cons_append, List.nil_append, List.append_nil] at z
  exact z
theorem j34 {c : va_E} (h : σ.length = 0) : GM 34 [.ref 15] (σ ++ c :: (T61 4 ++ (T52 ++ ([.inr (2, [.null, .null, .null, .null, .int 0, .int 0])])))) Q = Q none (σ ++ c :: (T61 4 ++ (T52 ++ (T34)))) := by
  have z := i34 (Q := Q) (σ := σ ++ c :: (T61 4 ++ (T52 ++ ([])))) (by rw [List.length_append, h]; rfl)
  simp only [List.append_assoc, List.cons_append, List.nil_append, List.append_nil] at z
  exact z
theorem j0 {c : va_E} (h : σ.length = 0) : GM 0 [.ref 26] (σ ++ c :: (T61 4 ++ (T52 ++ (T34 ++ ([.inr (0, [.null, .null, .null, .null, .null, .int 0])]))))) Q = Q none (σ ++ c :: (T61 4 ++ (T52 ++ (T34 ++ (T0 R0))))) := by
  have z := i0 (Q := Q) (σ := σ ++ c :: (T61 4 ++ (T52 ++ (T34 ++ ([]))))) (by rw [List.length_append, h]; rfl)
  simp only [List.append_assoc, List.cons_append, List.nil_append, List.append_nil] at z
  exact z
theorem j19 {c : va_E} (h : σ.length = 0) : GM 19 [.ref 42] (σ ++ c :: (T61 4 ++ (T52 ++ (T34 ++ (T0 R0 ++ ([.inr (1, [.null, .null, .null, .null, .null, .null, .null, .int 0, .int 0, .int 0, .int 0])])))))) Q = Q none (σ ++ c :: (T61 4 ++ (T52 ++ (T34 ++ (T0 R0 ++ (T19)))))) := by
  have z := i19 (Q := Q) (σ := σ ++ c :: (T61 4 ++ (T52 ++ (T34 ++ (T0 R0 ++ ([])))))) (by rw [List.length_append, h]; rfl)
  simp only [List.append_assoc, List.cons_append, List.nil_append, List.append_nil] at z
  exact z
theorem j46 {c : va_E} (h : σ.length = 0) : GM 46 [.ref 50] (σ ++ c :: (T61 4 ++ (T52 ++ (T34 ++ (T0 R0 ++ (T19 ++ ([.inr (3, [.null, .null, .null])]))))))) Q = Q none (σ ++ c :: (T61 4 ++ (T52 ++ (T34 ++ (T0 R0 ++ (T19 ++ (T46))))))) := by
  have z := i46 (Q := Q) (σ := σ ++ c :: (T61 4 ++ (T52 ++ (T34 ++ (T0 R0 ++ (T19 ++ ([]))))))) (by rw [List.length_append, h]; rfl)
  simp only [List.append_assoc, List.cons_append, List.nil_append, List.append_nil] at z
  exact z

end
