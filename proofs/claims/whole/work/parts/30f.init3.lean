/-! THE CONSTRUCTORS: the house, the reference, the law's start -/
section
variable {σ : xSt} {Q : Option Value → xSt → Prop}
theorem i73 (h : σ.length = 0) : GM 73 [.ref 0] (σ ++ [.inr (6, [.null, .null, .null, .null, .null, .null, .null, .int 0, .int 0, .long 0, .long 0])]) Q = Q none (σ ++ .inr (6, [.ref 1, .ref 9, .ref 15, .ref 26, .ref 42, .ref 50, .ref 54, .int 0, .int 0, .long 0, .long 1]) :: (T61 4 ++ (T52 ++ (T34 ++ (T0 R0 ++ (T19 ++ (T46 ++ [a0 10]))))))) := by
  have l61 : (T61 4).length = 8 := rfl
  have l52 : T52.length = 6 := rfl
  have l34 : T34.length = 11 := rfl
  have l00 : (T0 R0).length = 16 := rfl
  have l19 : T19.length = 8 := rfl
  have l46 : T46.length = 4 := rfl
  show G none 73 0 [.ref 0] [] (σ ++ [.inr (6, [.null, .null, .null, .null, .null, .null, .null, .int 0, .int 0, .long 0, .long 0])]) 0 0 Q = _
  simp (discharger := first | exact h | decide | (rw [scP_v, List.length_append, h]; decide)) only [g73_0, g73_1, g73_4, g73_5, g73_8, g73_9, g73_12, g73_15, g73_16, g73_19, g73_20, g73_23, g73_26, g73_27, g73_30, g73_31, g73_34, g73_37, g73_38, g73_41, g73_42, g73_45, g73_48, g73_49, g73_52, g73_53, g73_56, g73_59, g73_60, g73_63, g73_64, g73_67, g73_70, g73_71, g73_73, g73_75, g73_78, g73_79, g73_80, g73_83, g73_84, g73_85, g73_88, g73_89, g73_90, g73_93, g73_94, g73_95, g73_98, j61 h, j52 h, j34 h, j0 h, j19 h, j46 h, List.append_assoc, List.cons_append, List.nil_append, List.length_append, h, l61, l52, l34, l00, l19, l46, List.length_cons, List.length_nil, List.set_cons_zero, List.set_cons_succ, ↓reduceIte, GV_s, GV_n, List.map_cons, List.map_nil, List.sum_cons, List.sum_nil, cat_i, cat_l, cat_r, Option.toList_some, Option.toList_none, List.cons_append, List.nil_append, true_and, and_true, Nat.reduceAdd, Nat.reduceLeDiff, Nat.zero_le, Nat.le_refl, Nat.add_zero, Nat.zero_add, va_up_self, va_up_ne, ne_eq, Nat.reduceEqDiff, not_false_eq_true, not_true_eq_false, if_true, if_false, false_and, and_false, or_true, true_or, false_or, or_false]
  rfl
def z0b (n : Nat) : va_E := .inl (2, n, .inl fun _ => 0)
def T129 (i : Nat) : xSt := [.inr (7, [.int 0, .int 0, .long 0, .long 1, .ref 56, .ref 57, .ref 58, .int 0, .int 0, .ref 59, .ref 60, .ref 61, .ref 62, .ref 63, .ref 64, .int 0, .int 0, .ref 65, .ref 66, .ref 67, .ref 68, .int 0, .ref 69, .ref 70, .ref 71, .ref 72, .int 0, .ref 73, .ref 74, .ref 75, .ref 76, .ref 77, .ref 78, .ref 79, .ref 80, .ref 81, .int 0, .ref 82, .ref 83, .ref 84, .ref 85]), a0 4, .inl (0, 4, .inl (m1f i)), l0 160, a0 60, a0 60, a0 60, a0 60, a0 60, z0b 10000, a0 36, a0 6, a0 6, l0 36, a0 240, a0 24, a0 25, z0b 275, a0 200, a0 200, a0 200, l0 10, l0 1024, a0 1024, a0 10, a0 10, l0 10, a0 10, l0 40, l0 40, l0 40]
theorem i129_loop (h : σ.length = 55) : ∀ (d i : Nat), i + d = 4 → G none 129 258 [.ref 55, .int (nI i)] [] (σ ++ T129 i) 30 13934 Q = Q none (σ ++ T129 4) := by
  intro d
  induction d with
  | zero =>
    intro i hi
    have e : i = 4 := by omega
    subst e
    rw [g129_258]
    have : (4 : Int32) ≤ nI 4 := by decide
    simp only [g129_259, g129_260, this, if_true, g129_276]
  | succ d ih =>
    intro i hi
    have i1 : i < 2 ^ 31 := by omega
    have h4 : ¬ (4 : Int32) ≤ nI i := by
      intro q
      have := (nI_leI (a := 4) (by decide) i1).mp q
      omega
    have h5 : vp_in (nI i) 4 := vp_in_nI (by omega) (by decide)
    have e1 : xAi (σ ++ T129 i) 57 = some (4, m1f i) := xAi_at h (by decide) (by decide) rfl
    have e2 : (σ ++ T129 i).set 57 (.inl (0, 4, .inl (upd (m1f i) i (-1)))) = σ ++ T129 (i + 1) := by
      rw [set_at h (by decide), m1f_s]; rfl
    rw [g129_258]
    simp only [g129_259, g129_260, h4, if_false, g129_263]
    rw [show σ ++ T129 i = σ ++ .inr (7, [.int 0, .int 0, .long 0, .long 1, .ref 56, .ref 57, .ref 58, .int 0, .int 0, .ref 59, .ref 60, .ref 61, .ref 62, .ref 63, .ref 64, .int 0, .int 0, .ref 65, .ref 66, .ref 67, .ref 68, .int 0, .ref 69, .ref 70, .ref 71, .ref 72, .int 0, .ref 73, .ref 74, .ref 75, .ref 76, .ref 77, .ref 78, .ref 79, .ref 80, .ref 81, .int 0, .ref 82, .ref 83, .ref 84, .ref 85]) :: (T129 i).tail from rfl]
    rw [g129_264 (v := .ref 57) rfl h (by decide)]
    rw [show σ ++ .inr (7, [.int 0, .int 0, .long 0, .long 1, .ref 56, .ref 57, .ref 58, .int 0, .int 0, .ref 59, .ref 60, .ref 61, .ref 62, .ref 63, .ref 64, .int 0, .int 0, .ref 65, .ref 66, .ref 67, .ref 68, .int 0, .ref 69, .ref 70, .ref 71, .ref 72, .int 0, .ref 73, .ref 74, .ref 75, .ref 76, .ref 77, .ref 78, .ref 79, .ref 80, .ref 81, .int 0, .ref 82, .ref 83, .ref 84, .ref 85]) :: (T129 i).tail = σ ++ T129 i from rfl]
    simp only [g129_267, g129_268, g129_269, e1, GV_s, h5, true_and, nI_clamp i1, e2, g129_270, g129_273, nI_1]
    exact ih (i + 1) (by omega)
theorem i129 (h : σ.length = 55) : GM 129 [.ref 55] (σ ++ [.inr (7, [.int 0, .int 0, .long 0, .long 0, .null, .null, .null, .int 0, .int 0, .null, .null, .null, .null, .null, .null, .int 0, .int 0, .null, .null, .null, .null, .int 0, .null, .null, .null, .null, .int 0, .null, .null, .null, .null, .null, .null, .null, .null, .null, .int 0, .null, .null, .null, .null])]) Q = Q none (σ ++ T129 4) := by
  have z := i129_loop (Q := Q) h 4 0 (by omega)
  rw [← z]
  show G none 129 0 [.ref 55, .null] [] (σ ++ [.inr (7, [.int 0, .int 0, .long 0, .long 0, .null, .null, .null, .int 0, .int 0, .null, .null, .null, .null, .null, .null, .int 0, .int 0, .null, .null, .null, .null, .int 0, .null, .null, .null, .null, .int 0, .null, .null, .null, .null, .null, .null, .null, .null, .null, .int 0, .null, .null, .null, .null])]) 0 0 Q = _
  simp (discharger := first | exact h | decide | (rw [scP_v, List.length_append, h]; decide)) only [g129_0, g129_1, g129_4, g129_5, g129_6, g129_9, g129_10, g129_11, g129_13, g129_16, g129_17, g129_18, g129_20, g129_23, g129_24, g129_27, g129_29, g129_32, g129_33, g129_35, g129_37, g129_40, g129_41, g129_43, g129_45, g129_48, g129_49, g129_51, g129_53, g129_56, g129_57, g129_59, g129_61, g129_64, g129_65, g129_67, g129_69, g129_72, g129_73, g129_76, g129_78, g129_81, g129_82, g129_84, g129_86, g129_89, g129_90, g129_92, g129_94, g129_97, g129_98, g129_100, g129_102, g129_105, g129_106, g129_108, g129_110, g129_113, g129_114, g129_117, g129_119, g129_122, g129_123, g129_125, g129_127, g129_130, g129_131, g129_133, g129_135, g129_138, g129_139, g129_142, g129_144, g129_147, g129_148, g129_151, g129_153, g129_156, g129_157, g129_160, g129_162, g129_165, g129_166, g129_169, g129_171, g129_174, g129_175, g129_177, g129_179, g129_182, g129_183, g129_186, g129_188, g129_191, g129_192, g129_195, g129_197, g129_200, g129_201, g129_203, g129_205, g129_208, g129_209, g129_211, g129_213, g129_216, g129_217, g129_219, g129_221, g129_224, g129_225, g129_227, g129_229, g129_232, g129_233, g129_235, g129_237, g129_240, g129_241, g129_243, g129_245, g129_248, g129_249, g129_251, g129_253, g129_256, g129_257, g129_259, g129_260, g129_263, g129_264, g129_267, g129_268, g129_269, g129_270, g129_273, g129_276, List.append_assoc, List.cons_append, List.nil_append, List.length_append, h, List.length_cons, List.length_nil, Nat.reduceAdd, List.set_cons_zero, List.set_cons_succ]
  rfl
end
