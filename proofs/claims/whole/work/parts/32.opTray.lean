/-! TRAYS -/
section
variable {σ : xSt} {Q : Option Value → xSt → Prop} {ai : Nat → Nat → Int32} {al : Nat → Nat → Int64} {fi : Nat → Nat → Int32} {fl : Nat → Nat → Int64}
def isT (a : Int32) : Int32 := if a < 0 then 0 else if 4 ≤ a then 0 else 1
theorem isT_n {a : Int32} (h : a < 0) : isT a = 0 := if_pos h
theorem isT_b {a : Int32} (h : 4 ≤ a) : isT a = 0 := by unfold isT; rw [if_pos h]; split <;> rfl
theorem isT_t {t : Nat} (h : t < 4) : isT (nI t) = 1 := by
  have h1 : t < 2147483648 := by omega
  unfold isT
  rw [if_neg (by rw [nLT h1 (by decide)]; omega), if_neg (by rw [nGE h1 (by decide)]; omega)]
theorem c70 {a : Int32} : GM 70 [.int a] σ Q = Q (some (.int (isT a))) σ := by
  show G none 70 0 [.int a] [] σ 0 0 Q = _
  simp only [g70_0, g70_1, g70_4, g70_5, g70_6, g70_9, g70_10, g70_13, g70_14, isT]
  split
  · simp
  · split <;> simp
def wL (a s n : Int32) : Int32 := if isT a = 0 then 1 else if s < 0 then 1 else if s < 4 then (if n ≤ 40 then (if 0 ≤ n then 0 else 6) else 5) else 1
theorem c62 {a s n : Int32} : GM 62 [.ref 1, .int a, .int s, .int n] σ Q = Q (some (.int (wL a s n))) σ := by
  show G none 62 0 [.ref 1, .int a, .int s, .int n] [] σ 0 0 Q = _
  simp only [g62_0, g62_1, g62_4, g62_7, g62_8, g62_11, g62_12, g62_13, g62_16, g62_17, g62_18, g62_19, g62_21, g62_24, g62_25, g62_26, g62_27, g62_30, g62_32, g62_35, g62_36, ↓reduceIte, GV_s, GV_n, List.map_cons, List.map_nil, List.sum_cons, List.sum_nil, cat_i, cat_l, cat_r, Option.toList_some, Option.toList_none, List.cons_append, List.nil_append, true_and, and_true, Nat.reduceAdd, Nat.reduceLeDiff, Nat.zero_le, Nat.le_refl, Nat.add_zero, Nat.zero_add, va_up_self, va_up_ne, ne_eq, Nat.reduceEqDiff, not_false_eq_true, not_true_eq_false, if_true, if_false, false_and, and_false, or_true, true_or, false_or, or_false, c70, wL]
  split
  · rfl
  · split
    · rfl
    · split
      · split
        · split <;> rfl
        · rfl
      · rfl
/-- the first n are 0 -/
def fill0 (n : Nat) (f : Nat → Int64) : Nat → Int64 := fun k => if k < n then 0 else f k
theorem fill0_s {i : Nat} {f : Nat → Int64} : vp_updL (fill0 i f) i 0 = fill0 (i + 1) f := by
  funext k
  unfold vp_updL fill0
  by_cases h : k = i
  · subst h; simp
  · by_cases h2 : k < i
    · simp [h, h2, Nat.lt_succ_of_lt h2]
    · have : ¬ k < i + 1 := by omega
      simp [h, h2, this]
theorem fill0_0 {f : Nat → Int64} : fill0 0 f = f := by
  funext k
  simp [fill0]
theorem va_up_id {α : Type} (f : Nat → α) (k : Nat) : va_up f k (f k) = f := by
  funext j
  unfold va_up
  split
  · rename_i h; rw [h]
  · rfl
theorem R4_at {al : Nat → Nat → Int64} {t : Nat} (h : t < 4) : R4 (al 3) (al 4) (al 5) (al 6) t = al (3 + t) := by
  match t, h with
  | 0, _ => rfl
  | 1, _ => rfl
  | 2, _ => rfl
  | 3, _ => rfl
theorem R4_up {al : Nat → Nat → Int64} {t u : Nat} {f : Nat → Int64} (ht : t < 4) (hu : u < 4) : R4 (va_up al (3 + t) f 3) (va_up al (3 + t) f 4) (va_up al (3 + t) f 5) (va_up al (3 + t) f 6) u = if u = t then f else al (3 + u) := by
  rw [R4_at hu]
  unfold va_up
  by_cases h : u = t
  · subst h; simp
  · have : ¬ 3 + u = 3 + t := by omega
    simp [h]
theorem c66_loop {t n : Nat} {s : Int32} (ht : t < 4) (hn : n ≤ 40) : ∀ (d i : Nat), i + d = n → G none 66 17 [.ref 1, .int (nI t), .int s, .int (nI n), .int (nI i)] [] (mk ai (va_up al (3 + t) (fill0 i (al (3 + t)))) fi fl) 0 0 Q = Q none (mk ai (va_up al (3 + t) (fill0 n (al (3 + t)))) fi fl) := by
  intro d
  induction d with
  | zero =>
    intro i hi
    have e : i = n := by omega
    subst e
    have h1 : i < 2147483648 := by omega
    simp only [g66_0, g66_1, g66_4, g66_5, g66_6, g66_7, g66_8, g66_11, g66_12, g66_13, g66_14, g66_15, g66_17, g66_19, g66_20, g66_23, g66_24, g66_27, g66_28, g66_29, g66_31, g66_32, g66_33, g66_36, g66_39, ↓reduceIte, GV_s, GV_n, List.map_cons, List.map_nil, List.sum_cons, List.sum_nil, cat_i, cat_l, cat_r, Option.toList_some, Option.toList_none, List.cons_append, List.nil_append, true_and, and_true, Nat.reduceAdd, Nat.reduceLeDiff, Nat.zero_le, Nat.le_refl, Nat.add_zero, Nat.zero_add, va_up_self, va_up_ne, ne_eq, Nat.reduceEqDiff, not_false_eq_true, not_true_eq_false, if_true, if_false, false_and, and_false, or_true, true_or, false_or, or_false, fd_0_0, fd_0_1, fd_0_2, fd_0_3, fd_0_4, fd_0_5, fd_0_6, fd_0_7, pf_0_7, fd_0_8, pf_0_8, fd_0_9, pf_0_9, fd_0_10, pf_0_10, fd_1_0, fd_1_1, fd_1_2, aq_2, ar_3, as_3, ar_4, as_4, ar_5, as_5, ar_6, as_6, ar_7, as_7, ar_8, as_8, fd_9_0, fd_9_1, fd_9_2, fd_9_3, fd_9_4, fd_9_5, pf_9_5, ar_10, as_10, ar_11, as_11, ar_12, as_12, ar_13, as_13, ar_14, as_14, fd_15_0, fd_15_1, fd_15_2, fd_15_3, fd_15_4, pf_15_4, fd_15_5, pf_15_5, aq_16, ar_17, as_17, ar_18, as_18, ar_19, as_19, ar_20, as_20, ar_21, as_21, ar_22, as_22, ar_23, as_23, ar_24, as_24, ar_25, as_25, fd_26_0, fd_26_1, fd_26_2, fd_26_3, fd_26_4, fd_26_5, pf_26_5, aq_27, ar_28, as_28, ar_29, as_29, ar_30, as_30, ar_31, as_31, ar_32, as_32, ar_33, as_33, ar_34, as_34, ar_35, as_35, ar_36, as_36, ar_37, as_37, ar_38, as_38, ar_39, as_39, ar_40, as_40, ar_41, as_41, fd_42_0, fd_42_1, fd_42_2, fd_42_3, fd_42_4, fd_42_5, fd_42_6, fd_42_7, pf_42_7, fd_42_8, pf_42_8, fd_42_9, pf_42_9, fd_42_10, pf_42_10_0, pf_42_10_1, ar_43, as_43, ar_44, as_44, ar_45, as_45, ar_46, as_46, ar_47, as_47, ar_48, as_48, ar_49, as_49, fd_50_0, fd_50_1, fd_50_2, ar_51, as_51, ar_52, as_52, ar_53, as_53, ar_54, as_54, fd_55_0, pf_55_0, fd_55_1, pf_55_1, fd_55_2, pf_55_2, fd_55_3, pf_55_3, fd_55_4, fd_55_5, fd_55_6, fd_55_7, pf_55_7, fd_55_8, pf_55_8, fd_55_9, fd_55_10, fd_55_11, fd_55_12, fd_55_13, fd_55_14, fd_55_15, pf_55_15, fd_55_16, pf_55_16, fd_55_17, fd_55_18, fd_55_19, fd_55_20, fd_55_21, pf_55_21, fd_55_22, fd_55_23, fd_55_24, fd_55_25, fd_55_26, pf_55_26, fd_55_27, fd_55_28, fd_55_29, fd_55_30, fd_55_31, fd_55_32, fd_55_33, fd_55_34, fd_55_35, fd_55_36, pf_55_36, fd_55_37, fd_55_38, fd_55_39, fd_55_40, ar_56, as_56, ar_57, as_57, ar_58, as_58, ar_59, as_59, ar_60, as_60, ar_61, as_61, ar_62, as_62, ar_63, as_63, ar_64, as_64, ar_65, as_65, ar_66, as_66, ar_67, as_67, ar_68, as_68, ar_69, as_69, ar_70, as_70, ar_71, as_71, ar_72, as_72, ar_73, as_73, ar_74, as_74, ar_75, as_75, ar_76, as_76, ar_77, as_77, ar_78, as_78, ar_79, as_79, ar_80, as_80, ar_81, as_81, ar_82, as_82, ar_83, as_83, ar_84, as_84, ar_85, as_85, rc_1, rc_2, rc_3, rc_4, rc_5, rc_6, rc_7, rc_8, rc_9, rc_10, rc_11, rc_12, rc_13, rc_14, rc_15, rc_16, rc_17, rc_18, rc_20, rc_21, rc_22, rc_23, rc_24, rc_25, rc_26, rc_27, rc_28, rc_29, rc_30, rc_31, rc_32, rc_33, rc_35, rc_36, rc_37, rc_38, rc_39, rc_40, rc_41, rc_42, rc_43, rc_44, rc_45, rc_47, rc_48, rc_49, rc_50, rc_51, rc_53, rc_54, rc_55, rc_56, rc_57, rc_58, rc_59, rc_60, rc_62, rc_63, rc_64, rc_65, rc_66, rc_67, rc_68, rc_69, rc_71, rc_74, rc_75, rc_76, rc_77, rc_78, rc_79, rc_80, rc_81, rc_82, rc_83, rc_84, rc_85, rc_86, rc_87, rc_88, rc_89, rc_90, rc_91, rc_92, rc_93, rc_94, rc_95, rc_96, rc_97, rc_98, rc_99, rc_100, rc_101, rc_102, rc_103, rc_104, rc_105, rc_106, rc_111, rc_112, rc_113, rc_114, rc_115, rc_116, rc_117, rc_118, rc_119, rc_120, rc_121, rc_122, rc_123, rc_124, rc_125, rc_126, rc_127, rc_128, rc_130, rc_131, rc_132, rc_134, rc_135, rc_136, rc_137, rc_138, rc_139, rc_140, rc_142, rc_143, rc_144, rc_145, rc_146, rc_147, rc_148, rc_149, rc_150, rc_151, rc_152, rc_154, rc_155, rc_156, rc_157, rc_158, rc_159, rc_160, rc_161, rc_162, rc_163, rc_164, rc_165, rc_166, rc_167, rc_168, rc_169, rc_170, rc_171, rc_172, rc_173, rc_174, rc_175, rc_176, rc_177, rc_178, rc_179, rc_180, rc_181, rc_182, rc_183, rc_184, mW_11, mW_30, mW_32, mW_45, mW_58, mW_69, mW_147, mW_153, mW_154, mW_164, mW_173, mW_175, kLE h1 h1, if_true]
  | succ d ih =>
    intro i hi
    have h1 : i < 2147483648 := by omega
    have h2 : n < 2147483648 := by omega
    have h3 : t < 2147483648 := by omega
    have h4 : ¬ n ≤ i := by omega
    have h5 : i < 40 := by omega
    have h6 : ¬ 3 + t = scP := by unfold scP; omega
    rw [g66_17]
    simp only [g66_0, g66_1, g66_4, g66_5, g66_6, g66_7, g66_8, g66_11, g66_12, g66_13, g66_14, g66_15, g66_19, g66_20, g66_23, g66_24, g66_27, g66_28, g66_29, g66_31, g66_32, g66_33, g66_36, g66_39, ↓reduceIte, GV_s, GV_n, List.map_cons, List.map_nil, List.sum_cons, List.sum_nil, cat_i, cat_l, cat_r, Option.toList_some, Option.toList_none, List.cons_append, List.nil_append, true_and, and_true, Nat.reduceAdd, Nat.reduceLeDiff, Nat.zero_le, Nat.le_refl, Nat.add_zero, Nat.zero_add, va_up_self, va_up_ne, ne_eq, Nat.reduceEqDiff, not_false_eq_true, not_true_eq_false, if_true, if_false, false_and, and_false, or_true, true_or, false_or, or_false, fd_0_0, fd_0_1, fd_0_2, fd_0_3, fd_0_4, fd_0_5, fd_0_6, fd_0_7, pf_0_7, fd_0_8, pf_0_8, fd_0_9, pf_0_9, fd_0_10, pf_0_10, fd_1_0, fd_1_1, fd_1_2, aq_2, ar_3, as_3, ar_4, as_4, ar_5, as_5, ar_6, as_6, ar_7, as_7, ar_8, as_8, fd_9_0, fd_9_1, fd_9_2, fd_9_3, fd_9_4, fd_9_5, pf_9_5, ar_10, as_10, ar_11, as_11, ar_12, as_12, ar_13, as_13, ar_14, as_14, fd_15_0, fd_15_1, fd_15_2, fd_15_3, fd_15_4, pf_15_4, fd_15_5, pf_15_5, aq_16, ar_17, as_17, ar_18, as_18, ar_19, as_19, ar_20, as_20, ar_21, as_21, ar_22, as_22, ar_23, as_23, ar_24, as_24, ar_25, as_25, fd_26_0, fd_26_1, fd_26_2, fd_26_3, fd_26_4, fd_26_5, pf_26_5, aq_27, ar_28, as_28, ar_29, as_29, ar_30, as_30, ar_31, as_31, ar_32, as_32, ar_33, as_33, ar_34, as_34, ar_35, as_35, ar_36, as_36, ar_37, as_37, ar_38, as_38, ar_39, as_39, ar_40, as_40, ar_41, as_41, fd_42_0, fd_42_1, fd_42_2, fd_42_3, fd_42_4, fd_42_5, fd_42_6, fd_42_7, pf_42_7, fd_42_8, pf_42_8, fd_42_9, pf_42_9, fd_42_10, pf_42_10_0, pf_42_10_1, ar_43, as_43, ar_44, as_44, ar_45, as_45, ar_46, as_46, ar_47, as_47, ar_48, as_48, ar_49, as_49, fd_50_0, fd_50_1, fd_50_2, ar_51, as_51, ar_52, as_52, ar_53, as_53, ar_54, as_54, fd_55_0, pf_55_0, fd_55_1, pf_55_1, fd_55_2, pf_55_2, fd_55_3, pf_55_3, fd_55_4, fd_55_5, fd_55_6, fd_55_7, pf_55_7, fd_55_8, pf_55_8, fd_55_9, fd_55_10, fd_55_11, fd_55_12, fd_55_13, fd_55_14, fd_55_15, pf_55_15, fd_55_16, pf_55_16, fd_55_17, fd_55_18, fd_55_19, fd_55_20, fd_55_21, pf_55_21, fd_55_22, fd_55_23, fd_55_24, fd_55_25, fd_55_26, pf_55_26, fd_55_27, fd_55_28, fd_55_29, fd_55_30, fd_55_31, fd_55_32, fd_55_33, fd_55_34, fd_55_35, fd_55_36, pf_55_36, fd_55_37, fd_55_38, fd_55_39, fd_55_40, ar_56, as_56, ar_57, as_57, ar_58, as_58, ar_59, as_59, ar_60, as_60, ar_61, as_61, ar_62, as_62, ar_63, as_63, ar_64, as_64, ar_65, as_65, ar_66, as_66, ar_67, as_67, ar_68, as_68, ar_69, as_69, ar_70, as_70, ar_71, as_71, ar_72, as_72, ar_73, as_73, ar_74, as_74, ar_75, as_75, ar_76, as_76, ar_77, as_77, ar_78, as_78, ar_79, as_79, ar_80, as_80, ar_81, as_81, ar_82, as_82, ar_83, as_83, ar_84, as_84, ar_85, as_85, rc_1, rc_2, rc_3, rc_4, rc_5, rc_6, rc_7, rc_8, rc_9, rc_10, rc_11, rc_12, rc_13, rc_14, rc_15, rc_16, rc_17, rc_18, rc_20, rc_21, rc_22, rc_23, rc_24, rc_25, rc_26, rc_27, rc_28, rc_29, rc_30, rc_31, rc_32, rc_33, rc_35, rc_36, rc_37, rc_38, rc_39, rc_40, rc_41, rc_42, rc_43, rc_44, rc_45, rc_47, rc_48, rc_49, rc_50, rc_51, rc_53, rc_54, rc_55, rc_56, rc_57, rc_58, rc_59, rc_60, rc_62, rc_63, rc_64, rc_65, rc_66, rc_67, rc_68, rc_69, rc_71, rc_74, rc_75, rc_76, rc_77, rc_78, rc_79, rc_80, rc_81, rc_82, rc_83, rc_84, rc_85, rc_86, rc_87, rc_88, rc_89, rc_90, rc_91, rc_92, rc_93, rc_94, rc_95, rc_96, rc_97, rc_98, rc_99, rc_100, rc_101, rc_102, rc_103, rc_104, rc_105, rc_106, rc_111, rc_112, rc_113, rc_114, rc_115, rc_116, rc_117, rc_118, rc_119, rc_120, rc_121, rc_122, rc_123, rc_124, rc_125, rc_126, rc_127, rc_128, rc_130, rc_131, rc_132, rc_134, rc_135, rc_136, rc_137, rc_138, rc_139, rc_140, rc_142, rc_143, rc_144, rc_145, rc_146, rc_147, rc_148, rc_149, rc_150, rc_151, rc_152, rc_154, rc_155, rc_156, rc_157, rc_158, rc_159, rc_160, rc_161, rc_162, rc_163, rc_164, rc_165, rc_166, rc_167, rc_168, rc_169, rc_170, rc_171, rc_172, rc_173, rc_174, rc_175, rc_176, rc_177, rc_178, rc_179, rc_180, rc_181, rc_182, rc_183, rc_184, mW_11, mW_30, mW_32, mW_45, mW_58, mW_69, mW_147, mW_153, mW_154, mW_164, mW_173, mW_175, kLE h2 h1, h4, if_false, nCl h3, ht, if_true, vIN h3, vIN h1, row2_get ht, row2_set ht, nCl h1, h5, nAd_1, h6, not_false_eq_true, bx_uu, va_up_self, fill0_s]
    exact ih (i + 1) (by omega)
theorem c66 {t n : Nat} {s : Int32} (ht : t < 4) (hn : n ≤ 40) : GM 66 [.ref 1, .int (nI t), .int s, .int (nI n)] (mk ai al fi fl) Q = Q none (mk (va_up (va_up ai 7 (upd (ai 7) t s)) 8 (upd (ai 8) t (nI n))) (va_up al (3 + t) (fill0 n (al (3 + t)))) fi fl) := by
  have h3 : t < 2147483648 := by omega
  show G none 66 0 [.ref 1, .int (nI t), .int s, .int (nI n), .null] [] (mk ai al fi fl) 0 0 Q = _
  simp only [g66_0, g66_1, g66_4, g66_5, g66_6, g66_7, g66_8, g66_11, g66_12, g66_13, g66_14, g66_15, g66_19, g66_20, g66_23, g66_24, g66_27, g66_28, g66_29, g66_31, g66_32, g66_33, g66_36, g66_39, ↓reduceIte, GV_s, GV_n, List.map_cons, List.map_nil, List.sum_cons, List.sum_nil, cat_i, cat_l, cat_r, Option.toList_some, Option.toList_none, List.cons_append, List.nil_append, true_and, and_true, Nat.reduceAdd, Nat.reduceLeDiff, Nat.zero_le, Nat.le_refl, Nat.add_zero, Nat.zero_add, va_up_self, va_up_ne, ne_eq, Nat.reduceEqDiff, not_false_eq_true, not_true_eq_false, if_true, if_false, false_and, and_false, or_true, true_or, false_or, or_false, fd_0_0, fd_0_1, fd_0_2, fd_0_3, fd_0_4, fd_0_5, fd_0_6, fd_0_7, pf_0_7, fd_0_8, pf_0_8, fd_0_9, pf_0_9, fd_0_10, pf_0_10, fd_1_0, fd_1_1, fd_1_2, aq_2, ar_3, as_3, ar_4, as_4, ar_5, as_5, ar_6, as_6, ar_7, as_7, ar_8, as_8, fd_9_0, fd_9_1, fd_9_2, fd_9_3, fd_9_4, fd_9_5, pf_9_5, ar_10, as_10, ar_11, as_11, ar_12, as_12, ar_13, as_13, ar_14, as_14, fd_15_0, fd_15_1, fd_15_2, fd_15_3, fd_15_4, pf_15_4, fd_15_5, pf_15_5, aq_16, ar_17, as_17, ar_18, as_18, ar_19, as_19, ar_20, as_20, ar_21, as_21, ar_22, as_22, ar_23, as_23, ar_24, as_24, ar_25, as_25, fd_26_0, fd_26_1, fd_26_2, fd_26_3, fd_26_4, fd_26_5, pf_26_5, aq_27, ar_28, as_28, ar_29, as_29, ar_30, as_30, ar_31, as_31, ar_32, as_32, ar_33, as_33, ar_34, as_34, ar_35, as_35, ar_36, as_36, ar_37, as_37, ar_38, as_38, ar_39, as_39, ar_40, as_40, ar_41, as_41, fd_42_0, fd_42_1, fd_42_2, fd_42_3, fd_42_4, fd_42_5, fd_42_6, fd_42_7, pf_42_7, fd_42_8, pf_42_8, fd_42_9, pf_42_9, fd_42_10, pf_42_10_0, pf_42_10_1, ar_43, as_43, ar_44, as_44, ar_45, as_45, ar_46, as_46, ar_47, as_47, ar_48, as_48, ar_49, as_49, fd_50_0, fd_50_1, fd_50_2, ar_51, as_51, ar_52, as_52, ar_53, as_53, ar_54, as_54, fd_55_0, pf_55_0, fd_55_1, pf_55_1, fd_55_2, pf_55_2, fd_55_3, pf_55_3, fd_55_4, fd_55_5, fd_55_6, fd_55_7, pf_55_7, fd_55_8, pf_55_8, fd_55_9, fd_55_10, fd_55_11, fd_55_12, fd_55_13, fd_55_14, fd_55_15, pf_55_15, fd_55_16, pf_55_16, fd_55_17, fd_55_18, fd_55_19, fd_55_20, fd_55_21, pf_55_21, fd_55_22, fd_55_23, fd_55_24, fd_55_25, fd_55_26, pf_55_26, fd_55_27, fd_55_28, fd_55_29, fd_55_30, fd_55_31, fd_55_32, fd_55_33, fd_55_34, fd_55_35, fd_55_36, pf_55_36, fd_55_37, fd_55_38, fd_55_39, fd_55_40, ar_56, as_56, ar_57, as_57, ar_58, as_58, ar_59, as_59, ar_60, as_60, ar_61, as_61, ar_62, as_62, ar_63, as_63, ar_64, as_64, ar_65, as_65, ar_66, as_66, ar_67, as_67, ar_68, as_68, ar_69, as_69, ar_70, as_70, ar_71, as_71, ar_72, as_72, ar_73, as_73, ar_74, as_74, ar_75, as_75, ar_76, as_76, ar_77, as_77, ar_78, as_78, ar_79, as_79, ar_80, as_80, ar_81, as_81, ar_82, as_82, ar_83, as_83, ar_84, as_84, ar_85, as_85, rc_1, rc_2, rc_3, rc_4, rc_5, rc_6, rc_7, rc_8, rc_9, rc_10, rc_11, rc_12, rc_13, rc_14, rc_15, rc_16, rc_17, rc_18, rc_20, rc_21, rc_22, rc_23, rc_24, rc_25, rc_26, rc_27, rc_28, rc_29, rc_30, rc_31, rc_32, rc_33, rc_35, rc_36, rc_37, rc_38, rc_39, rc_40, rc_41, rc_42, rc_43, rc_44, rc_45, rc_47, rc_48, rc_49, rc_50, rc_51, rc_53, rc_54, rc_55, rc_56, rc_57, rc_58, rc_59, rc_60, rc_62, rc_63, rc_64, rc_65, rc_66, rc_67, rc_68, rc_69, rc_71, rc_74, rc_75, rc_76, rc_77, rc_78, rc_79, rc_80, rc_81, rc_82, rc_83, rc_84, rc_85, rc_86, rc_87, rc_88, rc_89, rc_90, rc_91, rc_92, rc_93, rc_94, rc_95, rc_96, rc_97, rc_98, rc_99, rc_100, rc_101, rc_102, rc_103, rc_104, rc_105, rc_106, rc_111, rc_112, rc_113, rc_114, rc_115, rc_116, rc_117, rc_118, rc_119, rc_120, rc_121, rc_122, rc_123, rc_124, rc_125, rc_126, rc_127, rc_128, rc_130, rc_131, rc_132, rc_134, rc_135, rc_136, rc_137, rc_138, rc_139, rc_140, rc_142, rc_143, rc_144, rc_145, rc_146, rc_147, rc_148, rc_149, rc_150, rc_151, rc_152, rc_154, rc_155, rc_156, rc_157, rc_158, rc_159, rc_160, rc_161, rc_162, rc_163, rc_164, rc_165, rc_166, rc_167, rc_168, rc_169, rc_170, rc_171, rc_172, rc_173, rc_174, rc_175, rc_176, rc_177, rc_178, rc_179, rc_180, rc_181, rc_182, rc_183, rc_184, mW_11, mW_30, mW_32, mW_45, mW_58, mW_69, mW_147, mW_153, mW_154, mW_164, mW_173, mW_175, vIN h3, nCl h3, ht]
  have := c66_loop (ai := va_up (va_up ai 7 (upd (ai 7) t s)) 8 (upd (ai 8) t (nI n))) (al := al) (fi := fi) (fl := fl) (Q := Q) (s := s) ht hn n 0 (by omega)
  rw [fill0_0, va_up_id, nI_0] at this
  exact this
def cutJ (s : Nat) (v : Int64) : Int64 := match s with
  | 0 => v.toInt32.toInt8.toInt32.toInt64
  | 1 => v.toInt32.toInt16.toInt32.toInt64
  | 2 => v.toInt32.toInt64
  | _ => v
theorem g72_1_0 {l0 l1 l2 : Value} {st : List Value} : G none 72 1 [l0, l1, l2] (.int 0 :: st) σ 0 0 Q = G none 72 28 [l0, l1, l2] st σ 0 0 Q := G_go (ins := .tableswitch 41 0 2 #[27, 32, 37]) (len := 27) (by decide +kernel) rfl
theorem g72_1_1 {l0 l1 l2 : Value} {st : List Value} : G none 72 1 [l0, l1, l2] (.int 1 :: st) σ 0 0 Q = G none 72 33 [l0, l1, l2] st σ 0 0 Q := G_go (ins := .tableswitch 41 0 2 #[27, 32, 37]) (len := 27) (by decide +kernel) rfl
theorem g72_1_2 {l0 l1 l2 : Value} {st : List Value} : G none 72 1 [l0, l1, l2] (.int 2 :: st) σ 0 0 Q = G none 72 38 [l0, l1, l2] st σ 0 0 Q := G_go (ins := .tableswitch 41 0 2 #[27, 32, 37]) (len := 27) (by decide +kernel) rfl
theorem g72_1_3 {l0 l1 l2 : Value} {st : List Value} : G none 72 1 [l0, l1, l2] (.int 3 :: st) σ 0 0 Q = G none 72 42 [l0, l1, l2] st σ 0 0 Q := G_go (ins := .tableswitch 41 0 2 #[27, 32, 37]) (len := 27) (by decide +kernel) rfl
theorem c72 {s : Nat} {v : Int64} (hs : s < 4) : GM 72 [.long v, .int (nI s)] σ Q = Q (some (.long (cutJ s v))) σ := by
  show G none 72 0 [.long v, .retAddr 0, .int (nI s)] [] σ 0 0 Q = _
  match s, hs with
  | 0, _ => show G none 72 0 [.long v, .retAddr 0, .int 0] [] σ 0 0 Q = _; simp only [g72_0, g72_28, g72_29, g72_30, g72_31, g72_32, g72_33, g72_34, g72_35, g72_36, g72_37, g72_38, g72_39, g72_40, g72_41, g72_42, g72_43, g72_1_0]; rfl
  | 1, _ => show G none 72 0 [.long v, .retAddr 0, .int 1] [] σ 0 0 Q = _; simp only [g72_0, g72_28, g72_29, g72_30, g72_31, g72_32, g72_33, g72_34, g72_35, g72_36, g72_37, g72_38, g72_39, g72_40, g72_41, g72_42, g72_43, g72_1_1]; rfl
  | 2, _ => show G none 72 0 [.long v, .retAddr 0, .int 2] [] σ 0 0 Q = _; simp only [g72_0, g72_28, g72_29, g72_30, g72_31, g72_32, g72_33, g72_34, g72_35, g72_36, g72_37, g72_38, g72_39, g72_40, g72_41, g72_42, g72_43, g72_1_2]; rfl
  | 3, _ => show G none 72 0 [.long v, .retAddr 0, .int 3] [] σ 0 0 Q = _; simp only [g72_0, g72_28, g72_29, g72_30, g72_31, g72_32, g72_33, g72_34, g72_35, g72_36, g72_37, g72_38, g72_39, g72_40, g72_41, g72_42, g72_43, g72_1_3]; rfl
theorem c133 {s : Nat} {v : Int64} (hs : s < 4) : GM 133 [.int (nI s), .long v] σ Q = Q (some (.long (cutJ s v))) σ := by
  have h1 : s < 2147483648 := by omega
  show G none 133 0 [.int (nI s), .long v, .retAddr 0] [] σ 0 0 Q = _
  simp only [g133_0, g133_1, g133_4, g133_5, g133_6, g133_7, g133_8, g133_11, g133_12, g133_13, g133_16, g133_17, g133_18, g133_19, g133_20, g133_23, g133_24, g133_25, g133_28, g133_29, g133_30, g133_31, g133_34, g133_35, nEQ_0 h1, nEQ_1 h1, nEQ_2 h1]
  match s, hs with
  | 0, _ => simp [cutJ]
  | 1, _ => simp [cutJ]
  | 2, _ => simp [cutJ]
  | 3, _ => simp [cutJ]
/-- a tray, missing or not, and a place of it -/
def tMis (so : Nat → Int32) (a : Int32) : Int32 := if isT a = 0 then 1 else if so a.toNatClampNeg = -1 then 3 else 0
theorem isT_in {a : Int32} (h : ¬ isT a = 0) : vp_in a 4 := by
  rcases ixL a 4 4 rfl (by decide) with q | q | ⟨t, ht, rfl⟩
  · exact absurd (isT_n q) h
  · exact absurd (isT_b q) h
  · rw [vIN (by omega)]; exact ht
theorem c63 {a : Int32} : GM 63 [.ref 1, .int a] (mk ai al fi fl) Q = Q (some (.int (tMis (ai 7) a))) (mk ai al fi fl) := by
  show G none 63 0 [.ref 1, .int a] [] (mk ai al fi fl) 0 0 Q = _
  simp only [g63_0, g63_1, g63_4, g63_7, g63_8, g63_9, g63_10, g63_13, g63_14, g63_15, g63_16, g63_19, g63_20, g63_23, g63_24, ↓reduceIte, GV_s, GV_n, List.map_cons, List.map_nil, List.sum_cons, List.sum_nil, cat_i, cat_l, cat_r, Option.toList_some, Option.toList_none, List.cons_append, List.nil_append, true_and, and_true, Nat.reduceAdd, Nat.reduceLeDiff, Nat.zero_le, Nat.le_refl, Nat.add_zero, Nat.zero_add, va_up_self, va_up_ne, ne_eq, Nat.reduceEqDiff, not_false_eq_true, not_true_eq_false, if_true, if_false, false_and, and_false, or_true, true_or, false_or, or_false, fd_0_0, fd_0_1, fd_0_2, fd_0_3, fd_0_4, fd_0_5, fd_0_6, fd_0_7, pf_0_7, fd_0_8, pf_0_8, fd_0_9, pf_0_9, fd_0_10, pf_0_10, fd_1_0, fd_1_1, fd_1_2, aq_2, ar_3, as_3, ar_4, as_4, ar_5, as_5, ar_6, as_6, ar_7, as_7, ar_8, as_8, fd_9_0, fd_9_1, fd_9_2, fd_9_3, fd_9_4, fd_9_5, pf_9_5, ar_10, as_10, ar_11, as_11, ar_12, as_12, ar_13, as_13, ar_14, as_14, fd_15_0, fd_15_1, fd_15_2, fd_15_3, fd_15_4, pf_15_4, fd_15_5, pf_15_5, aq_16, ar_17, as_17, ar_18, as_18, ar_19, as_19, ar_20, as_20, ar_21, as_21, ar_22, as_22, ar_23, as_23, ar_24, as_24, ar_25, as_25, fd_26_0, fd_26_1, fd_26_2, fd_26_3, fd_26_4, fd_26_5, pf_26_5, aq_27, ar_28, as_28, ar_29, as_29, ar_30, as_30, ar_31, as_31, ar_32, as_32, ar_33, as_33, ar_34, as_34, ar_35, as_35, ar_36, as_36, ar_37, as_37, ar_38, as_38, ar_39, as_39, ar_40, as_40, ar_41, as_41, fd_42_0, fd_42_1, fd_42_2, fd_42_3, fd_42_4, fd_42_5, fd_42_6, fd_42_7, pf_42_7, fd_42_8, pf_42_8, fd_42_9, pf_42_9, fd_42_10, pf_42_10_0, pf_42_10_1, ar_43, as_43, ar_44, as_44, ar_45, as_45, ar_46, as_46, ar_47, as_47, ar_48, as_48, ar_49, as_49, fd_50_0, fd_50_1, fd_50_2, ar_51, as_51, ar_52, as_52, ar_53, as_53, ar_54, as_54, fd_55_0, pf_55_0, fd_55_1, pf_55_1, fd_55_2, pf_55_2, fd_55_3, pf_55_3, fd_55_4, fd_55_5, fd_55_6, fd_55_7, pf_55_7, fd_55_8, pf_55_8, fd_55_9, fd_55_10, fd_55_11, fd_55_12, fd_55_13, fd_55_14, fd_55_15, pf_55_15, fd_55_16, pf_55_16, fd_55_17, fd_55_18, fd_55_19, fd_55_20, fd_55_21, pf_55_21, fd_55_22, fd_55_23, fd_55_24, fd_55_25, fd_55_26, pf_55_26, fd_55_27, fd_55_28, fd_55_29, fd_55_30, fd_55_31, fd_55_32, fd_55_33, fd_55_34, fd_55_35, fd_55_36, pf_55_36, fd_55_37, fd_55_38, fd_55_39, fd_55_40, ar_56, as_56, ar_57, as_57, ar_58, as_58, ar_59, as_59, ar_60, as_60, ar_61, as_61, ar_62, as_62, ar_63, as_63, ar_64, as_64, ar_65, as_65, ar_66, as_66, ar_67, as_67, ar_68, as_68, ar_69, as_69, ar_70, as_70, ar_71, as_71, ar_72, as_72, ar_73, as_73, ar_74, as_74, ar_75, as_75, ar_76, as_76, ar_77, as_77, ar_78, as_78, ar_79, as_79, ar_80, as_80, ar_81, as_81, ar_82, as_82, ar_83, as_83, ar_84, as_84, ar_85, as_85, rc_1, rc_2, rc_3, rc_4, rc_5, rc_6, rc_7, rc_8, rc_9, rc_10, rc_11, rc_12, rc_13, rc_14, rc_15, rc_16, rc_17, rc_18, rc_20, rc_21, rc_22, rc_23, rc_24, rc_25, rc_26, rc_27, rc_28, rc_29, rc_30, rc_31, rc_32, rc_33, rc_35, rc_36, rc_37, rc_38, rc_39, rc_40, rc_41, rc_42, rc_43, rc_44, rc_45, rc_47, rc_48, rc_49, rc_50, rc_51, rc_53, rc_54, rc_55, rc_56, rc_57, rc_58, rc_59, rc_60, rc_62, rc_63, rc_64, rc_65, rc_66, rc_67, rc_68, rc_69, rc_71, rc_74, rc_75, rc_76, rc_77, rc_78, rc_79, rc_80, rc_81, rc_82, rc_83, rc_84, rc_85, rc_86, rc_87, rc_88, rc_89, rc_90, rc_91, rc_92, rc_93, rc_94, rc_95, rc_96, rc_97, rc_98, rc_99, rc_100, rc_101, rc_102, rc_103, rc_104, rc_105, rc_106, rc_111, rc_112, rc_113, rc_114, rc_115, rc_116, rc_117, rc_118, rc_119, rc_120, rc_121, rc_122, rc_123, rc_124, rc_125, rc_126, rc_127, rc_128, rc_130, rc_131, rc_132, rc_134, rc_135, rc_136, rc_137, rc_138, rc_139, rc_140, rc_142, rc_143, rc_144, rc_145, rc_146, rc_147, rc_148, rc_149, rc_150, rc_151, rc_152, rc_154, rc_155, rc_156, rc_157, rc_158, rc_159, rc_160, rc_161, rc_162, rc_163, rc_164, rc_165, rc_166, rc_167, rc_168, rc_169, rc_170, rc_171, rc_172, rc_173, rc_174, rc_175, rc_176, rc_177, rc_178, rc_179, rc_180, rc_181, rc_182, rc_183, rc_184, mW_11, mW_30, mW_32, mW_45, mW_58, mW_69, mW_147, mW_153, mW_154, mW_164, mW_173, mW_175, c70]
  unfold tMis
  by_cases h : isT a = 0
  · simp [h]
  · have := isT_in h
    simp only [h, this, not_false_eq_true, if_true, if_false, true_and]
    split <;> simp_all
def tNoP (so le : Nat → Int32) (a b : Int32) : Int32 := if tMis so a = 0 then (if b < 0 then 4 else if b < le a.toNatClampNeg then 0 else 4) else tMis so a
theorem tMis_T {so : Nat → Int32} {a : Int32} (h : tMis so a = 0) : ¬ isT a = 0 := by
  intro q
  unfold tMis at h
  rw [if_pos q] at h
  cases h
theorem c64 {a b : Int32} : GM 64 [.ref 1, .int a, .int b] (mk ai al fi fl) Q = Q (some (.int (tNoP (ai 7) (ai 8) a b))) (mk ai al fi fl) := by
  show G none 64 0 [.ref 1, .int a, .int b, .null] [] (mk ai al fi fl) 0 0 Q = _
  simp only [g64_0, g64_1, g64_2, g64_5, g64_6, g64_7, g64_10, g64_11, g64_12, g64_13, g64_16, g64_17, g64_18, g64_21, g64_22, g64_23, g64_26, g64_27, g64_30, g64_31, ↓reduceIte, GV_s, GV_n, List.map_cons, List.map_nil, List.sum_cons, List.sum_nil, cat_i, cat_l, cat_r, Option.toList_some, Option.toList_none, List.cons_append, List.nil_append, true_and, and_true, Nat.reduceAdd, Nat.reduceLeDiff, Nat.zero_le, Nat.le_refl, Nat.add_zero, Nat.zero_add, va_up_self, va_up_ne, ne_eq, Nat.reduceEqDiff, not_false_eq_true, not_true_eq_false, if_true, if_false, false_and, and_false, or_true, true_or, false_or, or_false, fd_0_0, fd_0_1, fd_0_2, fd_0_3, fd_0_4, fd_0_5, fd_0_6, fd_0_7, pf_0_7, fd_0_8, pf_0_8, fd_0_9, pf_0_9, fd_0_10, pf_0_10, fd_1_0, fd_1_1, fd_1_2, aq_2, ar_3, as_3, ar_4, as_4, ar_5, as_5, ar_6, as_6, ar_7, as_7, ar_8, as_8, fd_9_0, fd_9_1, fd_9_2, fd_9_3, fd_9_4, fd_9_5, pf_9_5, ar_10, as_10, ar_11, as_11, ar_12, as_12, ar_13, as_13, ar_14, as_14, fd_15_0, fd_15_1, fd_15_2, fd_15_3, fd_15_4, pf_15_4, fd_15_5, pf_15_5, aq_16, ar_17, as_17, ar_18, as_18, ar_19, as_19, ar_20, as_20, ar_21, as_21, ar_22, as_22, ar_23, as_23, ar_24, as_24, ar_25, as_25, fd_26_0, fd_26_1, fd_26_2, fd_26_3, fd_26_4, fd_26_5, pf_26_5, aq_27, ar_28, as_28, ar_29, as_29, ar_30, as_30, ar_31, as_31, ar_32, as_32, ar_33, as_33, ar_34, as_34, ar_35, as_35, ar_36, as_36, ar_37, as_37, ar_38, as_38, ar_39, as_39, ar_40, as_40, ar_41, as_41, fd_42_0, fd_42_1, fd_42_2, fd_42_3, fd_42_4, fd_42_5, fd_42_6, fd_42_7, pf_42_7, fd_42_8, pf_42_8, fd_42_9, pf_42_9, fd_42_10, pf_42_10_0, pf_42_10_1, ar_43, as_43, ar_44, as_44, ar_45, as_45, ar_46, as_46, ar_47, as_47, ar_48, as_48, ar_49, as_49, fd_50_0, fd_50_1, fd_50_2, ar_51, as_51, ar_52, as_52, ar_53, as_53, ar_54, as_54, fd_55_0, pf_55_0, fd_55_1, pf_55_1, fd_55_2, pf_55_2, fd_55_3, pf_55_3, fd_55_4, fd_55_5, fd_55_6, fd_55_7, pf_55_7, fd_55_8, pf_55_8, fd_55_9, fd_55_10, fd_55_11, fd_55_12, fd_55_13, fd_55_14, fd_55_15, pf_55_15, fd_55_16, pf_55_16, fd_55_17, fd_55_18, fd_55_19, fd_55_20, fd_55_21, pf_55_21, fd_55_22, fd_55_23, fd_55_24, fd_55_25, fd_55_26, pf_55_26, fd_55_27, fd_55_28, fd_55_29, fd_55_30, fd_55_31, fd_55_32, fd_55_33, fd_55_34, fd_55_35, fd_55_36, pf_55_36, fd_55_37, fd_55_38, fd_55_39, fd_55_40, ar_56, as_56, ar_57, as_57, ar_58, as_58, ar_59, as_59, ar_60, as_60, ar_61, as_61, ar_62, as_62, ar_63, as_63, ar_64, as_64, ar_65, as_65, ar_66, as_66, ar_67, as_67, ar_68, as_68, ar_69, as_69, ar_70, as_70, ar_71, as_71, ar_72, as_72, ar_73, as_73, ar_74, as_74, ar_75, as_75, ar_76, as_76, ar_77, as_77, ar_78, as_78, ar_79, as_79, ar_80, as_80, ar_81, as_81, ar_82, as_82, ar_83, as_83, ar_84, as_84, ar_85, as_85, rc_1, rc_2, rc_3, rc_4, rc_5, rc_6, rc_7, rc_8, rc_9, rc_10, rc_11, rc_12, rc_13, rc_14, rc_15, rc_16, rc_17, rc_18, rc_20, rc_21, rc_22, rc_23, rc_24, rc_25, rc_26, rc_27, rc_28, rc_29, rc_30, rc_31, rc_32, rc_33, rc_35, rc_36, rc_37, rc_38, rc_39, rc_40, rc_41, rc_42, rc_43, rc_44, rc_45, rc_47, rc_48, rc_49, rc_50, rc_51, rc_53, rc_54, rc_55, rc_56, rc_57, rc_58, rc_59, rc_60, rc_62, rc_63, rc_64, rc_65, rc_66, rc_67, rc_68, rc_69, rc_71, rc_74, rc_75, rc_76, rc_77, rc_78, rc_79, rc_80, rc_81, rc_82, rc_83, rc_84, rc_85, rc_86, rc_87, rc_88, rc_89, rc_90, rc_91, rc_92, rc_93, rc_94, rc_95, rc_96, rc_97, rc_98, rc_99, rc_100, rc_101, rc_102, rc_103, rc_104, rc_105, rc_106, rc_111, rc_112, rc_113, rc_114, rc_115, rc_116, rc_117, rc_118, rc_119, rc_120, rc_121, rc_122, rc_123, rc_124, rc_125, rc_126, rc_127, rc_128, rc_130, rc_131, rc_132, rc_134, rc_135, rc_136, rc_137, rc_138, rc_139, rc_140, rc_142, rc_143, rc_144, rc_145, rc_146, rc_147, rc_148, rc_149, rc_150, rc_151, rc_152, rc_154, rc_155, rc_156, rc_157, rc_158, rc_159, rc_160, rc_161, rc_162, rc_163, rc_164, rc_165, rc_166, rc_167, rc_168, rc_169, rc_170, rc_171, rc_172, rc_173, rc_174, rc_175, rc_176, rc_177, rc_178, rc_179, rc_180, rc_181, rc_182, rc_183, rc_184, mW_11, mW_30, mW_32, mW_45, mW_58, mW_69, mW_147, mW_153, mW_154, mW_164, mW_173, mW_175, c63]
  unfold tNoP
  by_cases h : tMis (ai 7) a = 0
  · have := isT_in (tMis_T h)
    simp only [h, this, if_true, true_and]
    split
    · rfl
    · split <;> rfl
  · simp only [h, if_false]
theorem c135 {a : Int32} : GM 135 [.ref 55, .int a] (mk ai al fi fl) Q = Q (some (.int (if isT a = 0 then 1 else if 0 ≤ ai 57 a.toNatClampNeg then 0 else 3))) (mk ai al fi fl) := by
  show G none 135 0 [.ref 55, .int a] [] (mk ai al fi fl) 0 0 Q = _
  simp only [g135_0, g135_1, g135_4, g135_5, g135_6, g135_9, g135_10, g135_13, g135_14, g135_17, g135_18, g135_19, g135_22, g135_23, g135_26, g135_27, ↓reduceIte, GV_s, GV_n, List.map_cons, List.map_nil, List.sum_cons, List.sum_nil, cat_i, cat_l, cat_r, Option.toList_some, Option.toList_none, List.cons_append, List.nil_append, true_and, and_true, Nat.reduceAdd, Nat.reduceLeDiff, Nat.zero_le, Nat.le_refl, Nat.add_zero, Nat.zero_add, va_up_self, va_up_ne, ne_eq, Nat.reduceEqDiff, not_false_eq_true, not_true_eq_false, if_true, if_false, false_and, and_false, or_true, true_or, false_or, or_false, fd_0_0, fd_0_1, fd_0_2, fd_0_3, fd_0_4, fd_0_5, fd_0_6, fd_0_7, pf_0_7, fd_0_8, pf_0_8, fd_0_9, pf_0_9, fd_0_10, pf_0_10, fd_1_0, fd_1_1, fd_1_2, aq_2, ar_3, as_3, ar_4, as_4, ar_5, as_5, ar_6, as_6, ar_7, as_7, ar_8, as_8, fd_9_0, fd_9_1, fd_9_2, fd_9_3, fd_9_4, fd_9_5, pf_9_5, ar_10, as_10, ar_11, as_11, ar_12, as_12, ar_13, as_13, ar_14, as_14, fd_15_0, fd_15_1, fd_15_2, fd_15_3, fd_15_4, pf_15_4, fd_15_5, pf_15_5, aq_16, ar_17, as_17, ar_18, as_18, ar_19, as_19, ar_20, as_20, ar_21, as_21, ar_22, as_22, ar_23, as_23, ar_24, as_24, ar_25, as_25, fd_26_0, fd_26_1, fd_26_2, fd_26_3, fd_26_4, fd_26_5, pf_26_5, aq_27, ar_28, as_28, ar_29, as_29, ar_30, as_30, ar_31, as_31, ar_32, as_32, ar_33, as_33, ar_34, as_34, ar_35, as_35, ar_36, as_36, ar_37, as_37, ar_38, as_38, ar_39, as_39, ar_40, as_40, ar_41, as_41, fd_42_0, fd_42_1, fd_42_2, fd_42_3, fd_42_4, fd_42_5, fd_42_6, fd_42_7, pf_42_7, fd_42_8, pf_42_8, fd_42_9, pf_42_9, fd_42_10, pf_42_10_0, pf_42_10_1, ar_43, as_43, ar_44, as_44, ar_45, as_45, ar_46, as_46, ar_47, as_47, ar_48, as_48, ar_49, as_49, fd_50_0, fd_50_1, fd_50_2, ar_51, as_51, ar_52, as_52, ar_53, as_53, ar_54, as_54, fd_55_0, pf_55_0, fd_55_1, pf_55_1, fd_55_2, pf_55_2, fd_55_3, pf_55_3, fd_55_4, fd_55_5, fd_55_6, fd_55_7, pf_55_7, fd_55_8, pf_55_8, fd_55_9, fd_55_10, fd_55_11, fd_55_12, fd_55_13, fd_55_14, fd_55_15, pf_55_15, fd_55_16, pf_55_16, fd_55_17, fd_55_18, fd_55_19, fd_55_20, fd_55_21, pf_55_21, fd_55_22, fd_55_23, fd_55_24, fd_55_25, fd_55_26, pf_55_26, fd_55_27, fd_55_28, fd_55_29, fd_55_30, fd_55_31, fd_55_32, fd_55_33, fd_55_34, fd_55_35, fd_55_36, pf_55_36, fd_55_37, fd_55_38, fd_55_39, fd_55_40, ar_56, as_56, ar_57, as_57, ar_58, as_58, ar_59, as_59, ar_60, as_60, ar_61, as_61, ar_62, as_62, ar_63, as_63, ar_64, as_64, ar_65, as_65, ar_66, as_66, ar_67, as_67, ar_68, as_68, ar_69, as_69, ar_70, as_70, ar_71, as_71, ar_72, as_72, ar_73, as_73, ar_74, as_74, ar_75, as_75, ar_76, as_76, ar_77, as_77, ar_78, as_78, ar_79, as_79, ar_80, as_80, ar_81, as_81, ar_82, as_82, ar_83, as_83, ar_84, as_84, ar_85, as_85, rc_1, rc_2, rc_3, rc_4, rc_5, rc_6, rc_7, rc_8, rc_9, rc_10, rc_11, rc_12, rc_13, rc_14, rc_15, rc_16, rc_17, rc_18, rc_20, rc_21, rc_22, rc_23, rc_24, rc_25, rc_26, rc_27, rc_28, rc_29, rc_30, rc_31, rc_32, rc_33, rc_35, rc_36, rc_37, rc_38, rc_39, rc_40, rc_41, rc_42, rc_43, rc_44, rc_45, rc_47, rc_48, rc_49, rc_50, rc_51, rc_53, rc_54, rc_55, rc_56, rc_57, rc_58, rc_59, rc_60, rc_62, rc_63, rc_64, rc_65, rc_66, rc_67, rc_68, rc_69, rc_71, rc_74, rc_75, rc_76, rc_77, rc_78, rc_79, rc_80, rc_81, rc_82, rc_83, rc_84, rc_85, rc_86, rc_87, rc_88, rc_89, rc_90, rc_91, rc_92, rc_93, rc_94, rc_95, rc_96, rc_97, rc_98, rc_99, rc_100, rc_101, rc_102, rc_103, rc_104, rc_105, rc_106, rc_111, rc_112, rc_113, rc_114, rc_115, rc_116, rc_117, rc_118, rc_119, rc_120, rc_121, rc_122, rc_123, rc_124, rc_125, rc_126, rc_127, rc_128, rc_130, rc_131, rc_132, rc_134, rc_135, rc_136, rc_137, rc_138, rc_139, rc_140, rc_142, rc_143, rc_144, rc_145, rc_146, rc_147, rc_148, rc_149, rc_150, rc_151, rc_152, rc_154, rc_155, rc_156, rc_157, rc_158, rc_159, rc_160, rc_161, rc_162, rc_163, rc_164, rc_165, rc_166, rc_167, rc_168, rc_169, rc_170, rc_171, rc_172, rc_173, rc_174, rc_175, rc_176, rc_177, rc_178, rc_179, rc_180, rc_181, rc_182, rc_183, rc_184, mW_11, mW_30, mW_32, mW_45, mW_58, mW_69, mW_147, mW_153, mW_154, mW_164, mW_173, mW_175]
  rcases ixL a 4 4 rfl (by decide) with q | q | ⟨t, ht, rfl⟩
  · simp [q, isT_n q]
  · have h2 : ¬ a < 4 := by rw [Int32.not_lt]; exact q
    rw [isT_b q]
    simp only [h2, if_false, if_true]
    split <;> rfl
  · have h1 : t < 2147483648 := by omega
    simp only [nLT_0 h1, nLT_4 h1, isT_t ht, vIN h1, ht, Nat.not_lt_zero, if_true, if_false, true_and, nCl h1]
    have : ¬ (1 : Int32) = 0 := by decide
    simp only [this, if_false]
    split <;> rfl
/-- in the two, a tray's and place's status is one -/
theorem tr_same {P : Prop} (hT : InvT0 (ai 7) (ai 8) (ai 56) (ai 57)) {a : Int32} : (if isT a = 0 then 1 else if 0 ≤ ai 57 a.toNatClampNeg then 0 else 3) = tMis (ai 7) a := by
  unfold tMis
  split
  · rfl
  · rename_i h
    rcases ixL a 4 4 rfl (by decide) with q | q | ⟨t, ht, rfl⟩
    · exact absurd (isT_n q) h
    · exact absurd (isT_b q) h
    · have h1 : t < 2147483648 := by omega
      rw [nCl h1]
      rcases hT t ht with ⟨e1, e2⟩ | ⟨n, s, hn, hs, e1, e2, e3, e4⟩
      · rw [e1, e2]; decide
      · rw [e2, e3, if_pos (by rw [nGE (by omega) (by decide)]; exact Nat.zero_le _), if_neg (by rw [nM1 (by omega)]; exact id)]
theorem c136 (hT : InvT0 (ai 7) (ai 8) (ai 56) (ai 57)) {a b : Int32} : GM 136 [.ref 55, .int a, .int b] (mk ai al fi fl) Q = Q (some (.int (tNoP (ai 7) (ai 8) a b))) (mk ai al fi fl) := by
  show G none 136 0 [.ref 55, .int a, .int b, .null] [] (mk ai al fi fl) 0 0 Q = _
  simp only [g136_0, g136_1, g136_2, g136_5, g136_6, g136_7, g136_10, g136_11, g136_14, g136_15, g136_18, g136_19, g136_20, g136_23, g136_24, g136_25, g136_28, g136_29, g136_32, g136_33, ↓reduceIte, GV_s, GV_n, List.map_cons, List.map_nil, List.sum_cons, List.sum_nil, cat_i, cat_l, cat_r, Option.toList_some, Option.toList_none, List.cons_append, List.nil_append, true_and, and_true, Nat.reduceAdd, Nat.reduceLeDiff, Nat.zero_le, Nat.le_refl, Nat.add_zero, Nat.zero_add, va_up_self, va_up_ne, ne_eq, Nat.reduceEqDiff, not_false_eq_true, not_true_eq_false, if_true, if_false, false_and, and_false, or_true, true_or, false_or, or_false, fd_0_0, fd_0_1, fd_0_2, fd_0_3, fd_0_4, fd_0_5, fd_0_6, fd_0_7, pf_0_7, fd_0_8, pf_0_8, fd_0_9, pf_0_9, fd_0_10, pf_0_10, fd_1_0, fd_1_1, fd_1_2, aq_2, ar_3, as_3, ar_4, as_4, ar_5, as_5, ar_6, as_6, ar_7, as_7, ar_8, as_8, fd_9_0, fd_9_1, fd_9_2, fd_9_3, fd_9_4, fd_9_5, pf_9_5, ar_10, as_10, ar_11, as_11, ar_12, as_12, ar_13, as_13, ar_14, as_14, fd_15_0, fd_15_1, fd_15_2, fd_15_3, fd_15_4, pf_15_4, fd_15_5, pf_15_5, aq_16, ar_17, as_17, ar_18, as_18, ar_19, as_19, ar_20, as_20, ar_21, as_21, ar_22, as_22, ar_23, as_23, ar_24, as_24, ar_25, as_25, fd_26_0, fd_26_1, fd_26_2, fd_26_3, fd_26_4, fd_26_5, pf_26_5, aq_27, ar_28, as_28, ar_29, as_29, ar_30, as_30, ar_31, as_31, ar_32, as_32, ar_33, as_33, ar_34, as_34, ar_35, as_35, ar_36, as_36, ar_37, as_37, ar_38, as_38, ar_39, as_39, ar_40, as_40, ar_41, as_41, fd_42_0, fd_42_1, fd_42_2, fd_42_3, fd_42_4, fd_42_5, fd_42_6, fd_42_7, pf_42_7, fd_42_8, pf_42_8, fd_42_9, pf_42_9, fd_42_10, pf_42_10_0, pf_42_10_1, ar_43, as_43, ar_44, as_44, ar_45, as_45, ar_46, as_46, ar_47, as_47, ar_48, as_48, ar_49, as_49, fd_50_0, fd_50_1, fd_50_2, ar_51, as_51, ar_52, as_52, ar_53, as_53, ar_54, as_54, fd_55_0, pf_55_0, fd_55_1, pf_55_1, fd_55_2, pf_55_2, fd_55_3, pf_55_3, fd_55_4, fd_55_5, fd_55_6, fd_55_7, pf_55_7, fd_55_8, pf_55_8, fd_55_9, fd_55_10, fd_55_11, fd_55_12, fd_55_13, fd_55_14, fd_55_15, pf_55_15, fd_55_16, pf_55_16, fd_55_17, fd_55_18, fd_55_19, fd_55_20, fd_55_21, pf_55_21, fd_55_22, fd_55_23, fd_55_24, fd_55_25, fd_55_26, pf_55_26, fd_55_27, fd_55_28, fd_55_29, fd_55_30, fd_55_31, fd_55_32, fd_55_33, fd_55_34, fd_55_35, fd_55_36, pf_55_36, fd_55_37, fd_55_38, fd_55_39, fd_55_40, ar_56, as_56, ar_57, as_57, ar_58, as_58, ar_59, as_59, ar_60, as_60, ar_61, as_61, ar_62, as_62, ar_63, as_63, ar_64, as_64, ar_65, as_65, ar_66, as_66, ar_67, as_67, ar_68, as_68, ar_69, as_69, ar_70, as_70, ar_71, as_71, ar_72, as_72, ar_73, as_73, ar_74, as_74, ar_75, as_75, ar_76, as_76, ar_77, as_77, ar_78, as_78, ar_79, as_79, ar_80, as_80, ar_81, as_81, ar_82, as_82, ar_83, as_83, ar_84, as_84, ar_85, as_85, rc_1, rc_2, rc_3, rc_4, rc_5, rc_6, rc_7, rc_8, rc_9, rc_10, rc_11, rc_12, rc_13, rc_14, rc_15, rc_16, rc_17, rc_18, rc_20, rc_21, rc_22, rc_23, rc_24, rc_25, rc_26, rc_27, rc_28, rc_29, rc_30, rc_31, rc_32, rc_33, rc_35, rc_36, rc_37, rc_38, rc_39, rc_40, rc_41, rc_42, rc_43, rc_44, rc_45, rc_47, rc_48, rc_49, rc_50, rc_51, rc_53, rc_54, rc_55, rc_56, rc_57, rc_58, rc_59, rc_60, rc_62, rc_63, rc_64, rc_65, rc_66, rc_67, rc_68, rc_69, rc_71, rc_74, rc_75, rc_76, rc_77, rc_78, rc_79, rc_80, rc_81, rc_82, rc_83, rc_84, rc_85, rc_86, rc_87, rc_88, rc_89, rc_90, rc_91, rc_92, rc_93, rc_94, rc_95, rc_96, rc_97, rc_98, rc_99, rc_100, rc_101, rc_102, rc_103, rc_104, rc_105, rc_106, rc_111, rc_112, rc_113, rc_114, rc_115, rc_116, rc_117, rc_118, rc_119, rc_120, rc_121, rc_122, rc_123, rc_124, rc_125, rc_126, rc_127, rc_128, rc_130, rc_131, rc_132, rc_134, rc_135, rc_136, rc_137, rc_138, rc_139, rc_140, rc_142, rc_143, rc_144, rc_145, rc_146, rc_147, rc_148, rc_149, rc_150, rc_151, rc_152, rc_154, rc_155, rc_156, rc_157, rc_158, rc_159, rc_160, rc_161, rc_162, rc_163, rc_164, rc_165, rc_166, rc_167, rc_168, rc_169, rc_170, rc_171, rc_172, rc_173, rc_174, rc_175, rc_176, rc_177, rc_178, rc_179, rc_180, rc_181, rc_182, rc_183, rc_184, mW_11, mW_30, mW_32, mW_45, mW_58, mW_69, mW_147, mW_153, mW_154, mW_164, mW_173, mW_175, c135]
  rw [tr_same (P := True) hT]
  unfold tNoP
  by_cases h : tMis (ai 7) a = 0
  · have h2 := tMis_T h
    have := isT_in h2
    simp only [h, this, if_true, true_and]
    rcases ixL a 4 4 rfl (by decide) with q | q | ⟨t, ht, rfl⟩
    · exact absurd (isT_n q) h2
    · exact absurd (isT_b q) h2
    · have h1 : t < 2147483648 := by omega
      rw [nCl h1]
      rcases hT t ht with ⟨e1, e2⟩ | ⟨n, s, hn, hs, e1, e2, e3, e4⟩
      · exfalso
        unfold tMis at h
        rw [if_neg h2, nCl h1, if_pos e1] at h
        cases h
      · have h0 : (0 : Int32) ≤ 0 := by decide
        simp only [h0, if_true, e1, e2]
        split
        · rfl
        · split <;> rfl
  · have h9 : ¬ tMis (ai 7) a ≤ 0 := by
      unfold tMis at h ⊢
      split
      · decide
      · split
        · decide
        · rename_i q1 q2
          rw [if_neg q1, if_neg q2] at h
          exact absurd rfl h
    simp only [h, h9, if_false]
end
