/-! THE CONSTRUCTORS -/
theorem scP_v : scP = 1000000 := rfl
section
variable {σ : xSt} {Q : Option Value → xSt → Prop}
theorem xCe_at {cs : xSt} {N q : Nat} (h : σ.length = N) (hq : N ≤ q) (hs : q < 1000000) : xCe (σ ++ cs) q = cs[q - N]? := by
  unfold xCe
  rw [if_neg (by rw [scP_v]; omega), List.getElem?_append_right (by omega), h]
theorem xAi_at {cs : xSt} {N q n : Nat} {f : Nat → Int32} (h : σ.length = N) (hq : N ≤ q) (hs : q < 1000000) (e : cs[q - N]? = some (.inl (0, n, .inl f))) : xAi (σ ++ cs) q = some (n, f) := by
  unfold xAi
  rw [xCe_at h hq hs, e]
  rfl
theorem set_at {cs : xSt} {N q : Nat} {v : va_E} (h : σ.length = N) (hq : N ≤ q) : (σ ++ cs).set q v = σ ++ cs.set (q - N) v := by
  rw [List.set_append_right _ _ (by omega), h]
def gF (n a : Nat) : va_E := .inl (3, n, .inr (.inr (.inr (.inr fun j => if j < n then some (a + j) else none))))
def a0 (n : Nat) : va_E := .inl (0, n, .inl fun _ => 0)
def l0 (n : Nat) : va_E := .inl (1, n, .inr (.inl fun _ => 0))
def m1f (i : Nat) : Nat → Int32 := fun k => if k < i then -1 else 0
theorem m1f_0 : m1f 0 = fun _ => 0 := by funext k; unfold m1f; rw [if_neg (by omega)]
theorem m1f_s {i : Nat} : upd (m1f i) i (-1) = m1f (i + 1) := by
  funext k
  unfold upd m1f
  by_cases h : k = i
  · subst h; simp
  · by_cases h2 : k < i
    · have : k < i + 1 := by omega
      simp [h, h2, this]
    · have : ¬ k < i + 1 := by omega
      simp only [h, h2, this, if_false]
def T61 (i : Nat) : xSt := [.inr (5, [.ref 2, .ref 7, .ref 8]), .inl (4, 4, .inr (.inr (.inr (.inr fun j => if j < 4 then some (3 + j) else none)))), l0 40, l0 40, l0 40, l0 40, .inl (0, 4, .inl (m1f i)), a0 4]
theorem i61_loop (h : σ.length = 1) : ∀ (d i : Nat), i + d = 4 → G none 61 31 [.ref 1, .int (nI i)] [] (σ ++ T61 i) 7 172 Q = Q none (σ ++ T61 4) := by
  intro d
  induction d with
  | zero =>
    intro i hi
    have e : i = 4 := by omega
    subst e
    rw [g61_31]
    have : (4 : Int32) ≤ nI 4 := by decide
    simp only [g61_32, g61_33, this, if_true, g61_49]
  | succ d ih =>
    intro i hi
    have i1 : i < 2 ^ 31 := by omega
    have h4 : ¬ (4 : Int32) ≤ nI i := by
      intro q
      have := (nI_leI (a := 4) (by decide) i1).mp q
      omega
    have h5 : vp_in (nI i) 4 := vp_in_nI (by omega) (by decide)
    have e1 : xAi (σ ++ T61 i) 7 = some (4, m1f i) := xAi_at h (by decide) (by decide) rfl
    have e2 : (σ ++ T61 i).set 7 (.inl (0, 4, .inl (upd (m1f i) i (-1)))) = σ ++ T61 (i + 1) := by
      rw [set_at h (by decide), m1f_s]; rfl
    rw [g61_31]
    simp only [g61_32, g61_33, h4, if_false, g61_36]
    rw [show σ ++ T61 i = σ ++ .inr (5, [.ref 2, .ref 7, .ref 8]) :: (T61 i).tail from rfl]
    rw [g61_37 (v := .ref 7) rfl h (by decide)]
    rw [show σ ++ .inr (5, [.ref 2, .ref 7, .ref 8]) :: (T61 i).tail = σ ++ T61 i from rfl]
    simp only [g61_40, g61_41, g61_42, e1, GV_s, h5, true_and, nI_clamp i1, e2, g61_43, g61_46, nI_1]
    exact ih (i + 1) (by omega)
theorem i61 (h : σ.length = 1) : GM 61 [.ref 1] (σ ++ [.inr (5, [.null, .null, .null])]) Q = Q none (σ ++ T61 4) := by
  have z := i61_loop (Q := Q) h 4 0 (by omega)
  rw [← z]
  show G none 61 0 [.ref 1, .null] [] (σ ++ [.inr (5, [.null, .null, .null])]) 0 0 Q = _
  have h1 : 1 < scP := by decide
  simp (discharger := first | exact h | decide | (rw [scP_v, List.length_append, h]; decide)) only [g61_0, g61_1, g61_4, g61_5, g61_6, g61_8, g61_12, g61_15, g61_16, g61_17, g61_19, g61_22, g61_23, g61_24, g61_26, g61_29, g61_30, g61_32, g61_33, g61_36, g61_37, g61_40, g61_41, g61_42, g61_43, g61_46, g61_49, List.append_assoc, List.cons_append, List.nil_append, List.length_append, h, List.length_cons, List.length_nil, Nat.reduceAdd, List.set_cons_zero, List.set_cons_succ]
  rfl
def T52 : xSt := [.inr (4, [.ref 10, .ref 11, .ref 12, .ref 13, .ref 14, .int 0]), a0 60, a0 60, a0 60, a0 60, a0 60]
theorem i52 (h : σ.length = 9) : GM 52 [.ref 9] (σ ++ [.inr (4, [.null, .null, .null, .null, .null, .int 0])]) Q = Q none (σ ++ T52) := by
  show G none 52 0 [.ref 9] [] (σ ++ [.inr (4, [.null, .null, .null, .null, .null, .int 0])]) 0 0 Q = _
  simp (discharger := first | exact h | decide | (rw [scP_v, List.length_append, h]; decide)) only [g52_0, g52_1, g52_4, g52_5, g52_7, g52_9, g52_12, g52_13, g52_15, g52_17, g52_20, g52_21, g52_23, g52_25, g52_28, g52_29, g52_31, g52_33, g52_36, g52_37, g52_39, g52_41, g52_44, g52_45, g52_46, g52_49, List.append_assoc, List.cons_append, List.nil_append, List.length_append, h, List.length_cons, List.length_nil, Nat.reduceAdd, List.set_cons_zero, List.set_cons_succ]
  rfl
def T34 : xSt := [.inr (2, [.ref 16, .ref 23, .ref 24, .ref 25, .int 0, .int 0]), gF 6 17, a0 6, a0 6, a0 6, a0 6, a0 6, a0 6, a0 64, a0 6, a0 6]
theorem i34 (h : σ.length = 15) : GM 34 [.ref 15] (σ ++ [.inr (2, [.null, .null, .null, .null, .int 0, .int 0])]) Q = Q none (σ ++ T34) := by
  show G none 34 0 [.ref 15] [] (σ ++ [.inr (2, [.null, .null, .null, .null, .int 0, .int 0])]) 0 0 Q = _
  simp (discharger := first | exact h | decide | (rw [scP_v, List.length_append, h]; decide)) only [g34_0, g34_1, g34_4, g34_5, g34_7, g34_9, g34_13, g34_16, g34_17, g34_19, g34_21, g34_24, g34_25, g34_27, g34_29, g34_32, g34_33, g34_35, g34_37, g34_40, g34_41, g34_42, g34_45, g34_46, g34_47, g34_50, List.append_assoc, List.cons_append, List.nil_append, List.length_append, h, List.length_cons, List.length_nil, Nat.reduceAdd, List.set_cons_zero, List.set_cons_succ]
  rfl
def T19 : xSt := [.inr (1, [.ref 43, .ref 44, .ref 45, .ref 46, .ref 47, .ref 48, .ref 49, .int 0, .int 0, .int 0, .int 1]), l0 10, l0 10, a0 10, a0 1024, a0 10, a0 10, l0 10]
theorem i19 (h : σ.length = 42) : GM 19 [.ref 42] (σ ++ [.inr (1, [.null, .null, .null, .null, .null, .null, .null, .int 0, .int 0, .int 0, .int 0])]) Q = Q none (σ ++ T19) := by
  show G none 19 0 [.ref 42] [] (σ ++ [.inr (1, [.null, .null, .null, .null, .null, .null, .null, .int 0, .int 0, .int 0, .int 0])]) 0 0 Q = _
  simp (discharger := first | exact h | decide | (rw [scP_v, List.length_append, h]; decide)) only [g19_0, g19_1, g19_4, g19_5, g19_7, g19_9, g19_12, g19_13, g19_15, g19_17, g19_20, g19_21, g19_23, g19_25, g19_28, g19_29, g19_32, g19_34, g19_37, g19_38, g19_40, g19_42, g19_45, g19_46, g19_48, g19_50, g19_53, g19_54, g19_56, g19_58, g19_61, g19_62, g19_63, g19_66, g19_67, g19_68, g19_71, g19_72, g19_73, g19_76, g19_77, g19_78, g19_81, List.append_assoc, List.cons_append, List.nil_append, List.length_append, h, List.length_cons, List.length_nil, Nat.reduceAdd, List.set_cons_zero, List.set_cons_succ, or_true]
  rfl
def T46 : xSt := [.inr (3, [.ref 51, .ref 52, .ref 53]), l0 40, l0 40, l0 40]
theorem i46 (h : σ.length = 50) : GM 46 [.ref 50] (σ ++ [.inr (3, [.null, .null, .null])]) Q = Q none (σ ++ T46) := by
  show G none 46 0 [.ref 50] [] (σ ++ [.inr (3, [.null, .null, .null])]) 0 0 Q = _
  simp (discharger := first | exact h | decide | (rw [scP_v, List.length_append, h]; decide)) only [g46_0, g46_1, g46_4, g46_5, g46_7, g46_9, g46_12, g46_13, g46_15, g46_17, g46_20, g46_21, g46_23, g46_25, g46_28, List.append_assoc, List.cons_append, List.nil_append, List.length_append, h, List.length_cons, List.length_nil, Nat.reduceAdd, List.set_cons_zero, List.set_cons_succ]
  rfl
end
