/-! SWAP: the class counts the gifts -/
def upN (g : Nat → Nat) (c v : Nat) : Nat → Nat := fun i => if i = c then v else g i
theorem upN_s {g : Nat → Nat} {c v : Nat} : upN g c v c = v := if_pos rfl
theorem upN_o {g : Nat → Nat} {c v i : Nat} (h : ¬ i = c) : upN g c v i = g i := if_neg h
section
variable {n : Nat} {e : Nat → Nat → Bool}
/-- what holds while the gifts are counted -/
def BI (n : Nat) (e : Nat → Nat → Bool) (f q Qn : Nat) (g u : Nat → Nat) : Prop := (u 0 = f ∧ g f = 0 ∧ 1 ≤ Qn) ∧ (∀ i, i < Qn → u i < n ∧ g (u i) ≤ i ∧ (0 < i → f < u i ∧ ¬ g (u i) = 0)) ∧ (∀ i j, i < j → j < Qn → ¬ u i = u j) ∧ (∀ i j, i < j → j < Qn → g (u i) ≤ g (u j)) ∧ (∀ c, f < c → c < n → ¬ g c = 0 → (∃ i, i < Qn ∧ u i = c) ∧ Wf n e f (g c) c) ∧ (∀ i c, i < q → f < c → c < n → e c (u i) = true → ¬ g c = 0 ∧ g c ≤ g (u i) + 1) ∧ (q < Qn → ∀ i, i < Qn → g (u i) ≤ g (u q) + 1)
theorem BI_n {f q Qn : Nat} {g u : Nat → Nat} (h : BI n e f q Qn g u) : Qn ≤ n := php (fun i hi => (h.2.1 i hi).1) h.2.2.1
theorem BI_push {f q Qn c0 : Nat} {g u : Nat → Nat} (h : BI n e f q Qn g u) (hq : q < Qn) (hc : f < c0) (hcn : c0 < n) (h0 : g c0 = 0) (he : e c0 (u q) = true) (hf : f < n) : Qn < n ∧ BI n e f q (Qn + 1) (upN g c0 (g (u q) + 1)) (upN u Qn c0) := by
  obtain ⟨⟨a1, a2, a3⟩, b1, b2, b3, b4, b5, b6⟩ := h
  have nin : ∀ i, i < Qn → ¬ u i = c0 := fun i hi w => by
    by_cases z : i = 0
    · subst z; omega
    · have := ((b1 i hi).2.2 (by omega)).2
      rw [w] at this
      exact this h0
  have ud : ∀ i, i < Qn → upN u Qn c0 i = u i := fun i hi => upN_o (by omega)
  have gd : ∀ i, i < Qn → upN g c0 (g (u q) + 1) (u i) = g (u i) := fun i hi => upN_o (nin i hi)
  have dis : ∀ i j, i < j → j < Qn + 1 → ¬ upN u Qn c0 i = upN u Qn c0 j := fun i j hij hj => by
    rw [ud i (by omega)]
    by_cases z : j = Qn
    · subst z; rw [upN_s]; exact nin i (by omega)
    · rw [ud j (by omega)]; exact b2 i j hij (by omega)
  have inn : ∀ i, i < Qn + 1 → upN u Qn c0 i < n := fun i hi => by
    by_cases z : i = Qn
    · subst z; rw [upN_s]; exact hcn
    · rw [ud i (by omega)]; exact (b1 i (by omega)).1
  have hle := php inn dis
  have hW : Wf n e f (g (u q) + 1) c0 := by
    by_cases z : q = 0
    · subst z
      rw [a1] at he ⊢
      rw [a2]
      exact he
    · obtain ⟨x1, x2⟩ := (b1 q hq).2.2 (by omega)
      exact Wf_cons x1 (b1 q hq).1 he (b4 (u q) x1 (b1 q hq).1 x2).2
  refine ⟨by omega, ⟨by rw [ud 0 (by omega)]; exact a1, by rw [upN_o (by omega)]; exact a2, by omega⟩, fun i hi => ?_, dis, fun i j hij hj => ?_, fun c c1 c2 c3 => ?_, fun i c i1 c1 c2 c3 => ?_, fun _ i hi => ?_⟩
  · refine ⟨inn i hi, ?_, fun hi0 => ?_⟩
    · by_cases z : i = Qn
      · subst z
        rw [upN_s, upN_s]
        have := (b1 q hq).2.1
        omega
      · rw [ud i (by omega), gd i (by omega)]; exact (b1 i (by omega)).2.1
    · by_cases z : i = Qn
      · subst z
        rw [upN_s, upN_s]
        exact ⟨hc, by omega⟩
      · rw [ud i (by omega), gd i (by omega)]; exact (b1 i (by omega)).2.2 hi0
  · rw [ud i (by omega), gd i (by omega)]
    by_cases z : j = Qn
    · subst z
      rw [upN_s, upN_s]
      exact b6 hq i (by omega)
    · rw [ud j (by omega), gd j (by omega)]; exact b3 i j hij (by omega)
  · by_cases z : c = c0
    · subst z
      rw [upN_s]
      exact ⟨⟨Qn, by omega, upN_s⟩, hW⟩
    · rw [upN_o z] at c3 ⊢
      obtain ⟨⟨i, i1, i2⟩, x⟩ := b4 c c1 c2 c3
      exact ⟨⟨i, by omega, by rw [ud i i1]; exact i2⟩, x⟩
  · rw [ud i (by omega)] at c3
    rw [ud i (by omega), gd i (by omega)]
    by_cases z : c = c0
    · subst z
      exact absurd h0 (b5 i c i1 c1 c2 c3).1
    · rw [upN_o z]; exact b5 i c i1 c1 c2 c3
  · rw [ud q hq, gd q hq]
    by_cases z : i = Qn
    · subst z
      rw [upN_s, upN_s]
      exact Nat.le_refl _
    · rw [ud i (by omega), gd i (by omega)]; exact b6 hq i (by omega)
theorem BI_next {f q Qn : Nat} {g u : Nat → Nat} (h : BI n e f q Qn g u) (hq : q < Qn) (hc : ∀ c, f < c → c < n → e c (u q) = true → ¬ g c = 0 ∧ g c ≤ g (u q) + 1) : BI n e f (q + 1) Qn g u := by
  obtain ⟨a, b1, b2, b3, b4, b5, b6⟩ := h
  refine ⟨a, b1, b2, b3, b4, fun i c i1 c1 c2 c3 => ?_, fun hq2 i hi => ?_⟩
  · by_cases z : i = q
    · subst z; exact hc c c1 c2 c3
    · exact b5 i c (by omega) c1 c2 c3
  · have := b6 hq i hi
    have := b3 q (q + 1) (by omega) hq2
    omega
theorem BI_end {f q Qn : Nat} {g u : Nat → Nat} (hn : n ≤ 24) (h : BI n e f q Qn g u) (hq : Qn ≤ q) : GS n e f g := by
  have hQ := BI_n h
  obtain ⟨⟨a1, a2, a3⟩, b1, b2, b3, b4, b5, b6⟩ := h
  have key : ∀ k c, f < c → c < n → Wf n e f (k + 1) c → ¬ g c = 0 ∧ g c ≤ k + 1 := by
    intro k
    induction k with
    | zero =>
      intro c c1 c2 hw
      have := b5 0 c (by omega) c1 c2 (by rw [a1]; exact hw)
      rw [a1, a2] at this
      exact this
    | succ k ih =>
      intro c c1 c2 hw
      obtain ⟨d, d1, d2, d3, d4⟩ := hw
      obtain ⟨x1, x2⟩ := ih d d1 d2 d3
      obtain ⟨⟨i, i1, i2⟩, _⟩ := b4 d d1 d2 x1
      have := b5 i c (by omega) c1 c2 (by rw [i2]; exact d4)
      rw [i2] at this
      exact ⟨this.1, by omega⟩
  intro c c1 c2
  refine ⟨?_, fun h0 k hk => ?_, fun h0 => ⟨(b4 c c1 c2 h0).2, fun k hk => ?_⟩⟩
  · by_cases z : g c = 0
    · omega
    · obtain ⟨⟨i, i1, i2⟩, _⟩ := b4 c c1 c2 z
      have := (b1 i i1).2.1
      rw [i2] at this
      omega
  · match k, hk with
    | 0, hk => exact hk
    | k + 1, hk => exact (key k c c1 c2 hk).1 h0
  · match k, hk with
    | 0, hk => exact absurd hk id
    | k + 1, hk => exact (key k c c1 c2 hk).2
end
def eB (ow : Nat → Int32) (V : Nat → Nat → Int32) (a x : Nat) : Bool := decide (¬ ow a = -1) && (decide (¬ ow x = -1) && (decide (¬ ow a = ow x) && decide (V (ow x).toNatClampNeg a < V (ow x).toNatClampNeg x)))
/-- the class's gifts -/
def Ed1 (P n : Nat) (e : Nat → Nat → Bool) (ai : Nat → Nat → Int32) : Prop := owOk P n (ai 38) ∧ ∀ a x, a < n → x < n → eB (ai 38) (R10 (ai 28) (ai 29) (ai 30) (ai 31) (ai 32) (ai 33) (ai 34) (ai 35) (ai 36) (ai 37)) a x = e a x
section
variable {σ : xSt} {Q : Option Value → xSt → Prop} {ai : Nat → Nat → Int32} {al : Nat → Nat → Int64} {fi : Nat → Nat → Int32} {fl : Nat → Nat → Int64} {n P : Nat} {e : Nat → Nat → Bool}
theorem c13 {a x : Nat} (hP : P ≤ 10) (hn : n ≤ 24) (hE : Ed1 P n e ai) (ha : a < n) (hx : x < n) : GM 13 [.ref 26, .int (nI a), .int (nI x)] (mk ai al fi fl) Q = Q (some (.int (if e a x = true then 1 else 0))) (mk ai al fi fl) := by
  have a1 : a < 2147483648 := by omega
  have a2 : a < 24 := by omega
  have x1 : x < 2147483648 := by omega
  have x2 : x < 24 := by omega
  rw [← hE.2 a x ha hx]
  unfold eB
  show G none 13 0 [.ref 26, .int (nI a), .int (nI x), .null, .null] [] (mk ai al fi fl) 0 0 Q = _
  by_cases q1 : ai 38 a = -1
  · simp only [g13_0, g13_1, g13_4, g13_5, g13_6, g13_7, g13_8, g13_11, g13_12, g13_13, g13_15, g13_16, g13_17, g13_20, g13_22, g13_23, g13_26, g13_27, g13_29, g13_32, g13_33, g13_34, g13_35, g13_38, g13_40, g13_41, g13_42, g13_43, g13_44, g13_47, g13_49, g13_50, g13_51, g13_52, g13_55, g13_56, g13_59, g13_60, ↓reduceIte, GV_s, GV_n, List.map_cons, List.map_nil, List.sum_cons, List.sum_nil, cat_i, cat_l, cat_r, Option.toList_some, Option.toList_none, List.cons_append, List.nil_append, true_and, and_true, Nat.reduceAdd, Nat.reduceLeDiff, Nat.zero_le, Nat.le_refl, Nat.add_zero, Nat.zero_add, va_up_self, va_up_ne, ne_eq, Nat.reduceEqDiff, not_false_eq_true, not_true_eq_false, if_true, if_false, false_and, and_false, or_true, true_or, false_or, or_false, fd_0_0, fd_0_1, fd_0_2, fd_0_3, fd_0_4, fd_0_5, fd_0_6, fd_0_7, pf_0_7, fd_0_8, pf_0_8, fd_0_9, pf_0_9, fd_0_10, pf_0_10, fd_1_0, fd_1_1, fd_1_2, aq_2, ar_3, as_3, ar_4, as_4, ar_5, as_5, ar_6, as_6, ar_7, as_7, ar_8, as_8, fd_9_0, fd_9_1, fd_9_2, fd_9_3, fd_9_4, fd_9_5, pf_9_5, ar_10, as_10, ar_11, as_11, ar_12, as_12, ar_13, as_13, ar_14, as_14, fd_15_0, fd_15_1, fd_15_2, fd_15_3, fd_15_4, pf_15_4, fd_15_5, pf_15_5, aq_16, ar_17, as_17, ar_18, as_18, ar_19, as_19, ar_20, as_20, ar_21, as_21, ar_22, as_22, ar_23, as_23, ar_24, as_24, ar_25, as_25, fd_26_0, fd_26_1, fd_26_2, fd_26_3, fd_26_4, fd_26_5, pf_26_5, aq_27, ar_28, as_28, ar_29, as_29, ar_30, as_30, ar_31, as_31, ar_32, as_32, ar_33, as_33, ar_34, as_34, ar_35, as_35, ar_36, as_36, ar_37, as_37, ar_38, as_38, ar_39, as_39, ar_40, as_40, ar_41, as_41, fd_42_0, fd_42_1, fd_42_2, fd_42_3, fd_42_4, fd_42_5, fd_42_6, fd_42_7, pf_42_7, fd_42_8, pf_42_8, fd_42_9, pf_42_9, fd_42_10, pf_42_10_0, pf_42_10_1, ar_43, as_43, ar_44, as_44, ar_45, as_45, ar_46, as_46, ar_47, as_47, ar_48, as_48, ar_49, as_49, fd_50_0, fd_50_1, fd_50_2, ar_51, as_51, ar_52, as_52, ar_53, as_53, ar_54, as_54, fd_55_0, pf_55_0, fd_55_1, pf_55_1, fd_55_2, pf_55_2, fd_55_3, pf_55_3, fd_55_4, fd_55_5, fd_55_6, fd_55_7, pf_55_7, fd_55_8, pf_55_8, fd_55_9, fd_55_10, fd_55_11, fd_55_12, fd_55_13, fd_55_14, fd_55_15, pf_55_15, fd_55_16, pf_55_16, fd_55_17, fd_55_18, fd_55_19, fd_55_20, fd_55_21, pf_55_21, fd_55_22, fd_55_23, fd_55_24, fd_55_25, fd_55_26, pf_55_26, fd_55_27, fd_55_28, fd_55_29, fd_55_30, fd_55_31, fd_55_32, fd_55_33, fd_55_34, fd_55_35, fd_55_36, pf_55_36, fd_55_37, fd_55_38, fd_55_39, fd_55_40, ar_56, as_56, ar_57, as_57, ar_58, as_58, ar_59, as_59, ar_60, as_60, ar_61, as_61, ar_62, as_62, ar_63, as_63, ar_64, as_64, ar_65, as_65, ar_66, as_66, ar_67, as_67, ar_68, as_68, ar_69, as_69, ar_70, as_70, ar_71, as_71, ar_72, as_72, ar_73, as_73, ar_74, as_74, ar_75, as_75, ar_76, as_76, ar_77, as_77, ar_78, as_78, ar_79, as_79, ar_80, as_80, ar_81, as_81, ar_82, as_82, ar_83, as_83, ar_84, as_84, ar_85, as_85, rc_1, rc_2, rc_3, rc_4, rc_5, rc_6, rc_7, rc_8, rc_9, rc_10, rc_11, rc_12, rc_13, rc_14, rc_15, rc_16, rc_17, rc_18, rc_20, rc_21, rc_22, rc_23, rc_24, rc_25, rc_26, rc_27, rc_28, rc_29, rc_30, rc_31, rc_32, rc_33, rc_35, rc_36, rc_37, rc_38, rc_39, rc_40, rc_41, rc_42, rc_43, rc_44, rc_45, rc_47, rc_48, rc_49, rc_50, rc_51, rc_53, rc_54, rc_55, rc_56, rc_57, rc_58, rc_59, rc_60, rc_62, rc_63, rc_64, rc_65, rc_66, rc_67, rc_68, rc_69, rc_71, rc_74, rc_75, rc_76, rc_77, rc_78, rc_79, rc_80, rc_81, rc_82, rc_83, rc_84, rc_85, rc_86, rc_87, rc_88, rc_89, rc_90, rc_91, rc_92, rc_93, rc_94, rc_95, rc_96, rc_97, rc_98, rc_99, rc_100, rc_101, rc_102, rc_103, rc_104, rc_105, rc_106, rc_111, rc_112, rc_113, rc_114, rc_115, rc_116, rc_117, rc_118, rc_119, rc_120, rc_121, rc_122, rc_123, rc_124, rc_125, rc_126, rc_127, rc_128, rc_130, rc_131, rc_132, rc_134, rc_135, rc_136, rc_137, rc_138, rc_139, rc_140, rc_142, rc_143, rc_144, rc_145, rc_146, rc_147, rc_148, rc_149, rc_150, rc_151, rc_152, rc_154, rc_155, rc_156, rc_157, rc_158, rc_159, rc_160, rc_161, rc_162, rc_163, rc_164, rc_165, rc_166, rc_167, rc_168, rc_169, rc_170, rc_171, rc_172, rc_173, rc_174, rc_175, rc_176, rc_177, rc_178, rc_179, rc_180, rc_181, rc_182, rc_183, rc_184, mW_11, mW_30, mW_32, mW_45, mW_58, mW_69, mW_147, mW_153, mW_154, mW_164, mW_173, mW_175, vIN a1, nCl a1, a2, vIN x1, nCl x1, x2, q1, not_true_eq_false, decide_false, Bool.false_and, Bool.false_eq_true]
  rcases hE.1 x hx with q2 | ⟨p, p1, q2⟩
  · simp only [g13_0, g13_1, g13_4, g13_5, g13_6, g13_7, g13_8, g13_11, g13_12, g13_13, g13_15, g13_16, g13_17, g13_20, g13_22, g13_23, g13_26, g13_27, g13_29, g13_32, g13_33, g13_34, g13_35, g13_38, g13_40, g13_41, g13_42, g13_43, g13_44, g13_47, g13_49, g13_50, g13_51, g13_52, g13_55, g13_56, g13_59, g13_60, ↓reduceIte, GV_s, GV_n, List.map_cons, List.map_nil, List.sum_cons, List.sum_nil, cat_i, cat_l, cat_r, Option.toList_some, Option.toList_none, List.cons_append, List.nil_append, true_and, and_true, Nat.reduceAdd, Nat.reduceLeDiff, Nat.zero_le, Nat.le_refl, Nat.add_zero, Nat.zero_add, va_up_self, va_up_ne, ne_eq, Nat.reduceEqDiff, not_false_eq_true, not_true_eq_false, if_true, if_false, false_and, and_false, or_true, true_or, false_or, or_false, fd_0_0, fd_0_1, fd_0_2, fd_0_3, fd_0_4, fd_0_5, fd_0_6, fd_0_7, pf_0_7, fd_0_8, pf_0_8, fd_0_9, pf_0_9, fd_0_10, pf_0_10, fd_1_0, fd_1_1, fd_1_2, aq_2, ar_3, as_3, ar_4, as_4, ar_5, as_5, ar_6, as_6, ar_7, as_7, ar_8, as_8, fd_9_0, fd_9_1, fd_9_2, fd_9_3, fd_9_4, fd_9_5, pf_9_5, ar_10, as_10, ar_11, as_11, ar_12, as_12, ar_13, as_13, ar_14, as_14, fd_15_0, fd_15_1, fd_15_2, fd_15_3, fd_15_4, pf_15_4, fd_15_5, pf_15_5, aq_16, ar_17, as_17, ar_18, as_18, ar_19, as_19, ar_20, as_20, ar_21, as_21, ar_22, as_22, ar_23, as_23, ar_24, as_24, ar_25, as_25, fd_26_0, fd_26_1, fd_26_2, fd_26_3, fd_26_4, fd_26_5, pf_26_5, aq_27, ar_28, as_28, ar_29, as_29, ar_30, as_30, ar_31, as_31, ar_32, as_32, ar_33, as_33, ar_34, as_34, ar_35, as_35, ar_36, as_36, ar_37, as_37, ar_38, as_38, ar_39, as_39, ar_40, as_40, ar_41, as_41, fd_42_0, fd_42_1, fd_42_2, fd_42_3, fd_42_4, fd_42_5, fd_42_6, fd_42_7, pf_42_7, fd_42_8, pf_42_8, fd_42_9, pf_42_9, fd_42_10, pf_42_10_0, pf_42_10_1, ar_43, as_43, ar_44, as_44, ar_45, as_45, ar_46, as_46, ar_47, as_47, ar_48, as_48, ar_49, as_49, fd_50_0, fd_50_1, fd_50_2, ar_51, as_51, ar_52, as_52, ar_53, as_53, ar_54, as_54, fd_55_0, pf_55_0, fd_55_1, pf_55_1, fd_55_2, pf_55_2, fd_55_3, pf_55_3, fd_55_4, fd_55_5, fd_55_6, fd_55_7, pf_55_7, fd_55_8, pf_55_8, fd_55_9, fd_55_10, fd_55_11, fd_55_12, fd_55_13, fd_55_14, fd_55_15, pf_55_15, fd_55_16, pf_55_16, fd_55_17, fd_55_18, fd_55_19, fd_55_20, fd_55_21, pf_55_21, fd_55_22, fd_55_23, fd_55_24, fd_55_25, fd_55_26, pf_55_26, fd_55_27, fd_55_28, fd_55_29, fd_55_30, fd_55_31, fd_55_32, fd_55_33, fd_55_34, fd_55_35, fd_55_36, pf_55_36, fd_55_37, fd_55_38, fd_55_39, fd_55_40, ar_56, as_56, ar_57, as_57, ar_58, as_58, ar_59, as_59, ar_60, as_60, ar_61, as_61, ar_62, as_62, ar_63, as_63, ar_64, as_64, ar_65, as_65, ar_66, as_66, ar_67, as_67, ar_68, as_68, ar_69, as_69, ar_70, as_70, ar_71, as_71, ar_72, as_72, ar_73, as_73, ar_74, as_74, ar_75, as_75, ar_76, as_76, ar_77, as_77, ar_78, as_78, ar_79, as_79, ar_80, as_80, ar_81, as_81, ar_82, as_82, ar_83, as_83, ar_84, as_84, ar_85, as_85, rc_1, rc_2, rc_3, rc_4, rc_5, rc_6, rc_7, rc_8, rc_9, rc_10, rc_11, rc_12, rc_13, rc_14, rc_15, rc_16, rc_17, rc_18, rc_20, rc_21, rc_22, rc_23, rc_24, rc_25, rc_26, rc_27, rc_28, rc_29, rc_30, rc_31, rc_32, rc_33, rc_35, rc_36, rc_37, rc_38, rc_39, rc_40, rc_41, rc_42, rc_43, rc_44, rc_45, rc_47, rc_48, rc_49, rc_50, rc_51, rc_53, rc_54, rc_55, rc_56, rc_57, rc_58, rc_59, rc_60, rc_62, rc_63, rc_64, rc_65, rc_66, rc_67, rc_68, rc_69, rc_71, rc_74, rc_75, rc_76, rc_77, rc_78, rc_79, rc_80, rc_81, rc_82, rc_83, rc_84, rc_85, rc_86, rc_87, rc_88, rc_89, rc_90, rc_91, rc_92, rc_93, rc_94, rc_95, rc_96, rc_97, rc_98, rc_99, rc_100, rc_101, rc_102, rc_103, rc_104, rc_105, rc_106, rc_111, rc_112, rc_113, rc_114, rc_115, rc_116, rc_117, rc_118, rc_119, rc_120, rc_121, rc_122, rc_123, rc_124, rc_125, rc_126, rc_127, rc_128, rc_130, rc_131, rc_132, rc_134, rc_135, rc_136, rc_137, rc_138, rc_139, rc_140, rc_142, rc_143, rc_144, rc_145, rc_146, rc_147, rc_148, rc_149, rc_150, rc_151, rc_152, rc_154, rc_155, rc_156, rc_157, rc_158, rc_159, rc_160, rc_161, rc_162, rc_163, rc_164, rc_165, rc_166, rc_167, rc_168, rc_169, rc_170, rc_171, rc_172, rc_173, rc_174, rc_175, rc_176, rc_177, rc_178, rc_179, rc_180, rc_181, rc_182, rc_183, rc_184, mW_11, mW_30, mW_32, mW_45, mW_58, mW_69, mW_147, mW_153, mW_154, mW_164, mW_173, mW_175, vIN a1, nCl a1, a2, vIN x1, nCl x1, x2, q1, q2, not_true_eq_false, decide_false, Bool.false_and, Bool.and_false, Bool.false_eq_true]
  have pn : p < 2147483648 := by omega
  have p2 : p < 10 := by omega
  have h6 : ¬ 28 + p = scP := by unfold scP; omega
  by_cases q3 : ai 38 a = nI p
  · simp only [g13_0, g13_1, g13_4, g13_5, g13_6, g13_7, g13_8, g13_11, g13_12, g13_13, g13_15, g13_16, g13_17, g13_20, g13_22, g13_23, g13_26, g13_27, g13_29, g13_32, g13_33, g13_34, g13_35, g13_38, g13_40, g13_41, g13_42, g13_43, g13_44, g13_47, g13_49, g13_50, g13_51, g13_52, g13_55, g13_56, g13_59, g13_60, ↓reduceIte, GV_s, GV_n, List.map_cons, List.map_nil, List.sum_cons, List.sum_nil, cat_i, cat_l, cat_r, Option.toList_some, Option.toList_none, List.cons_append, List.nil_append, true_and, and_true, Nat.reduceAdd, Nat.reduceLeDiff, Nat.zero_le, Nat.le_refl, Nat.add_zero, Nat.zero_add, va_up_self, va_up_ne, ne_eq, Nat.reduceEqDiff, not_false_eq_true, not_true_eq_false, if_true, if_false, false_and, and_false, or_true, true_or, false_or, or_false, fd_0_0, fd_0_1, fd_0_2, fd_0_3, fd_0_4, fd_0_5, fd_0_6, fd_0_7, pf_0_7, fd_0_8, pf_0_8, fd_0_9, pf_0_9, fd_0_10, pf_0_10, fd_1_0, fd_1_1, fd_1_2, aq_2, ar_3, as_3, ar_4, as_4, ar_5, as_5, ar_6, as_6, ar_7, as_7, ar_8, as_8, fd_9_0, fd_9_1, fd_9_2, fd_9_3, fd_9_4, fd_9_5, pf_9_5, ar_10, as_10, ar_11, as_11, ar_12, as_12, ar_13, as_13, ar_14, as_14, fd_15_0, fd_15_1, fd_15_2, fd_15_3, fd_15_4, pf_15_4, fd_15_5, pf_15_5, aq_16, ar_17, as_17, ar_18, as_18, ar_19, as_19, ar_20, as_20, ar_21, as_21, ar_22, as_22, ar_23, as_23, ar_24, as_24, ar_25, as_25, fd_26_0, fd_26_1, fd_26_2, fd_26_3, fd_26_4, fd_26_5, pf_26_5, aq_27, ar_28, as_28, ar_29, as_29, ar_30, as_30, ar_31, as_31, ar_32, as_32, ar_33, as_33, ar_34, as_34, ar_35, as_35, ar_36, as_36, ar_37, as_37, ar_38, as_38, ar_39, as_39, ar_40, as_40, ar_41, as_41, fd_42_0, fd_42_1, fd_42_2, fd_42_3, fd_42_4, fd_42_5, fd_42_6, fd_42_7, pf_42_7, fd_42_8, pf_42_8, fd_42_9, pf_42_9, fd_42_10, pf_42_10_0, pf_42_10_1, ar_43, as_43, ar_44, as_44, ar_45, as_45, ar_46, as_46, ar_47, as_47, ar_48, as_48, ar_49, as_49, fd_50_0, fd_50_1, fd_50_2, ar_51, as_51, ar_52, as_52, ar_53, as_53, ar_54, as_54, fd_55_0, pf_55_0, fd_55_1, pf_55_1, fd_55_2, pf_55_2, fd_55_3, pf_55_3, fd_55_4, fd_55_5, fd_55_6, fd_55_7, pf_55_7, fd_55_8, pf_55_8, fd_55_9, fd_55_10, fd_55_11, fd_55_12, fd_55_13, fd_55_14, fd_55_15, pf_55_15, fd_55_16, pf_55_16, fd_55_17, fd_55_18, fd_55_19, fd_55_20, fd_55_21, pf_55_21, fd_55_22, fd_55_23, fd_55_24, fd_55_25, fd_55_26, pf_55_26, fd_55_27, fd_55_28, fd_55_29, fd_55_30, fd_55_31, fd_55_32, fd_55_33, fd_55_34, fd_55_35, fd_55_36, pf_55_36, fd_55_37, fd_55_38, fd_55_39, fd_55_40, ar_56, as_56, ar_57, as_57, ar_58, as_58, ar_59, as_59, ar_60, as_60, ar_61, as_61, ar_62, as_62, ar_63, as_63, ar_64, as_64, ar_65, as_65, ar_66, as_66, ar_67, as_67, ar_68, as_68, ar_69, as_69, ar_70, as_70, ar_71, as_71, ar_72, as_72, ar_73, as_73, ar_74, as_74, ar_75, as_75, ar_76, as_76, ar_77, as_77, ar_78, as_78, ar_79, as_79, ar_80, as_80, ar_81, as_81, ar_82, as_82, ar_83, as_83, ar_84, as_84, ar_85, as_85, rc_1, rc_2, rc_3, rc_4, rc_5, rc_6, rc_7, rc_8, rc_9, rc_10, rc_11, rc_12, rc_13, rc_14, rc_15, rc_16, rc_17, rc_18, rc_20, rc_21, rc_22, rc_23, rc_24, rc_25, rc_26, rc_27, rc_28, rc_29, rc_30, rc_31, rc_32, rc_33, rc_35, rc_36, rc_37, rc_38, rc_39, rc_40, rc_41, rc_42, rc_43, rc_44, rc_45, rc_47, rc_48, rc_49, rc_50, rc_51, rc_53, rc_54, rc_55, rc_56, rc_57, rc_58, rc_59, rc_60, rc_62, rc_63, rc_64, rc_65, rc_66, rc_67, rc_68, rc_69, rc_71, rc_74, rc_75, rc_76, rc_77, rc_78, rc_79, rc_80, rc_81, rc_82, rc_83, rc_84, rc_85, rc_86, rc_87, rc_88, rc_89, rc_90, rc_91, rc_92, rc_93, rc_94, rc_95, rc_96, rc_97, rc_98, rc_99, rc_100, rc_101, rc_102, rc_103, rc_104, rc_105, rc_106, rc_111, rc_112, rc_113, rc_114, rc_115, rc_116, rc_117, rc_118, rc_119, rc_120, rc_121, rc_122, rc_123, rc_124, rc_125, rc_126, rc_127, rc_128, rc_130, rc_131, rc_132, rc_134, rc_135, rc_136, rc_137, rc_138, rc_139, rc_140, rc_142, rc_143, rc_144, rc_145, rc_146, rc_147, rc_148, rc_149, rc_150, rc_151, rc_152, rc_154, rc_155, rc_156, rc_157, rc_158, rc_159, rc_160, rc_161, rc_162, rc_163, rc_164, rc_165, rc_166, rc_167, rc_168, rc_169, rc_170, rc_171, rc_172, rc_173, rc_174, rc_175, rc_176, rc_177, rc_178, rc_179, rc_180, rc_181, rc_182, rc_183, rc_184, mW_11, mW_30, mW_32, mW_45, mW_58, mW_69, mW_147, mW_153, mW_154, mW_164, mW_173, mW_175, vIN a1, nCl a1, a2, vIN x1, nCl x1, x2, q1, q2, q3, nM1 pn, not_true_eq_false, not_false_eq_true, decide_false, decide_true, Bool.true_and, Bool.false_and, Bool.and_false, Bool.false_eq_true]
  · rw [q2, nCl pn, R10_at p2]
    by_cases q4 : ai (28 + p) a < ai (28 + p) x
    · have q5 : ¬ ai (28 + p) x ≤ ai (28 + p) a := by rw [fa_le]; rw [fa_lt] at q4; omega
      simp only [g13_0, g13_1, g13_4, g13_5, g13_6, g13_7, g13_8, g13_11, g13_12, g13_13, g13_15, g13_16, g13_17, g13_20, g13_22, g13_23, g13_26, g13_27, g13_29, g13_32, g13_33, g13_34, g13_35, g13_38, g13_40, g13_41, g13_42, g13_43, g13_44, g13_47, g13_49, g13_50, g13_51, g13_52, g13_55, g13_56, g13_59, g13_60, ↓reduceIte, GV_s, GV_n, List.map_cons, List.map_nil, List.sum_cons, List.sum_nil, cat_i, cat_l, cat_r, Option.toList_some, Option.toList_none, List.cons_append, List.nil_append, true_and, and_true, Nat.reduceAdd, Nat.reduceLeDiff, Nat.zero_le, Nat.le_refl, Nat.add_zero, Nat.zero_add, va_up_self, va_up_ne, ne_eq, Nat.reduceEqDiff, not_false_eq_true, not_true_eq_false, if_true, if_false, false_and, and_false, or_true, true_or, false_or, or_false, fd_0_0, fd_0_1, fd_0_2, fd_0_3, fd_0_4, fd_0_5, fd_0_6, fd_0_7, pf_0_7, fd_0_8, pf_0_8, fd_0_9, pf_0_9, fd_0_10, pf_0_10, fd_1_0, fd_1_1, fd_1_2, aq_2, ar_3, as_3, ar_4, as_4, ar_5, as_5, ar_6, as_6, ar_7, as_7, ar_8, as_8, fd_9_0, fd_9_1, fd_9_2, fd_9_3, fd_9_4, fd_9_5, pf_9_5, ar_10, as_10, ar_11, as_11, ar_12, as_12, ar_13, as_13, ar_14, as_14, fd_15_0, fd_15_1, fd_15_2, fd_15_3, fd_15_4, pf_15_4, fd_15_5, pf_15_5, aq_16, ar_17, as_17, ar_18, as_18, ar_19, as_19, ar_20, as_20, ar_21, as_21, ar_22, as_22, ar_23, as_23, ar_24, as_24, ar_25, as_25, fd_26_0, fd_26_1, fd_26_2, fd_26_3, fd_26_4, fd_26_5, pf_26_5, aq_27, ar_28, as_28, ar_29, as_29, ar_30, as_30, ar_31, as_31, ar_32, as_32, ar_33, as_33, ar_34, as_34, ar_35, as_35, ar_36, as_36, ar_37, as_37, ar_38, as_38, ar_39, as_39, ar_40, as_40, ar_41, as_41, fd_42_0, fd_42_1, fd_42_2, fd_42_3, fd_42_4, fd_42_5, fd_42_6, fd_42_7, pf_42_7, fd_42_8, pf_42_8, fd_42_9, pf_42_9, fd_42_10, pf_42_10_0, pf_42_10_1, ar_43, as_43, ar_44, as_44, ar_45, as_45, ar_46, as_46, ar_47, as_47, ar_48, as_48, ar_49, as_49, fd_50_0, fd_50_1, fd_50_2, ar_51, as_51, ar_52, as_52, ar_53, as_53, ar_54, as_54, fd_55_0, pf_55_0, fd_55_1, pf_55_1, fd_55_2, pf_55_2, fd_55_3, pf_55_3, fd_55_4, fd_55_5, fd_55_6, fd_55_7, pf_55_7, fd_55_8, pf_55_8, fd_55_9, fd_55_10, fd_55_11, fd_55_12, fd_55_13, fd_55_14, fd_55_15, pf_55_15, fd_55_16, pf_55_16, fd_55_17, fd_55_18, fd_55_19, fd_55_20, fd_55_21, pf_55_21, fd_55_22, fd_55_23, fd_55_24, fd_55_25, fd_55_26, pf_55_26, fd_55_27, fd_55_28, fd_55_29, fd_55_30, fd_55_31, fd_55_32, fd_55_33, fd_55_34, fd_55_35, fd_55_36, pf_55_36, fd_55_37, fd_55_38, fd_55_39, fd_55_40, ar_56, as_56, ar_57, as_57, ar_58, as_58, ar_59, as_59, ar_60, as_60, ar_61, as_61, ar_62, as_62, ar_63, as_63, ar_64, as_64, ar_65, as_65, ar_66, as_66, ar_67, as_67, ar_68, as_68, ar_69, as_69, ar_70, as_70, ar_71, as_71, ar_72, as_72, ar_73, as_73, ar_74, as_74, ar_75, as_75, ar_76, as_76, ar_77, as_77, ar_78, as_78, ar_79, as_79, ar_80, as_80, ar_81, as_81, ar_82, as_82, ar_83, as_83, ar_84, as_84, ar_85, as_85, rc_1, rc_2, rc_3, rc_4, rc_5, rc_6, rc_7, rc_8, rc_9, rc_10, rc_11, rc_12, rc_13, rc_14, rc_15, rc_16, rc_17, rc_18, rc_20, rc_21, rc_22, rc_23, rc_24, rc_25, rc_26, rc_27, rc_28, rc_29, rc_30, rc_31, rc_32, rc_33, rc_35, rc_36, rc_37, rc_38, rc_39, rc_40, rc_41, rc_42, rc_43, rc_44, rc_45, rc_47, rc_48, rc_49, rc_50, rc_51, rc_53, rc_54, rc_55, rc_56, rc_57, rc_58, rc_59, rc_60, rc_62, rc_63, rc_64, rc_65, rc_66, rc_67, rc_68, rc_69, rc_71, rc_74, rc_75, rc_76, rc_77, rc_78, rc_79, rc_80, rc_81, rc_82, rc_83, rc_84, rc_85, rc_86, rc_87, rc_88, rc_89, rc_90, rc_91, rc_92, rc_93, rc_94, rc_95, rc_96, rc_97, rc_98, rc_99, rc_100, rc_101, rc_102, rc_103, rc_104, rc_105, rc_106, rc_111, rc_112, rc_113, rc_114, rc_115, rc_116, rc_117, rc_118, rc_119, rc_120, rc_121, rc_122, rc_123, rc_124, rc_125, rc_126, rc_127, rc_128, rc_130, rc_131, rc_132, rc_134, rc_135, rc_136, rc_137, rc_138, rc_139, rc_140, rc_142, rc_143, rc_144, rc_145, rc_146, rc_147, rc_148, rc_149, rc_150, rc_151, rc_152, rc_154, rc_155, rc_156, rc_157, rc_158, rc_159, rc_160, rc_161, rc_162, rc_163, rc_164, rc_165, rc_166, rc_167, rc_168, rc_169, rc_170, rc_171, rc_172, rc_173, rc_174, rc_175, rc_176, rc_177, rc_178, rc_179, rc_180, rc_181, rc_182, rc_183, rc_184, mW_11, mW_30, mW_32, mW_45, mW_58, mW_69, mW_147, mW_153, mW_154, mW_164, mW_173, mW_175, vIN a1, nCl a1, a2, vIN x1, nCl x1, x2, q1, q2, q3, nM1 pn, vIN pn, nCl pn, p2, h6, row27_get p2, q5, q4, not_true_eq_false, not_false_eq_true, decide_false, decide_true, Bool.true_and, Bool.false_and, Bool.and_false, Bool.false_eq_true]
    · have q5 : ai (28 + p) x ≤ ai (28 + p) a := by rw [fa_le]; rw [fa_lt] at q4; omega
      simp only [g13_0, g13_1, g13_4, g13_5, g13_6, g13_7, g13_8, g13_11, g13_12, g13_13, g13_15, g13_16, g13_17, g13_20, g13_22, g13_23, g13_26, g13_27, g13_29, g13_32, g13_33, g13_34, g13_35, g13_38, g13_40, g13_41, g13_42, g13_43, g13_44, g13_47, g13_49, g13_50, g13_51, g13_52, g13_55, g13_56, g13_59, g13_60, ↓reduceIte, GV_s, GV_n, List.map_cons, List.map_nil, List.sum_cons, List.sum_nil, cat_i, cat_l, cat_r, Option.toList_some, Option.toList_none, List.cons_append, List.nil_append, true_and, and_true, Nat.reduceAdd, Nat.reduceLeDiff, Nat.zero_le, Nat.le_refl, Nat.add_zero, Nat.zero_add, va_up_self, va_up_ne, ne_eq, Nat.reduceEqDiff, not_false_eq_true, not_true_eq_false, if_true, if_false, false_and, and_false, or_true, true_or, false_or, or_false, fd_0_0, fd_0_1, fd_0_2, fd_0_3, fd_0_4, fd_0_5, fd_0_6, fd_0_7, pf_0_7, fd_0_8, pf_0_8, fd_0_9, pf_0_9, fd_0_10, pf_0_10, fd_1_0, fd_1_1, fd_1_2, aq_2, ar_3, as_3, ar_4, as_4, ar_5, as_5, ar_6, as_6, ar_7, as_7, ar_8, as_8, fd_9_0, fd_9_1, fd_9_2, fd_9_3, fd_9_4, fd_9_5, pf_9_5, ar_10, as_10, ar_11, as_11, ar_12, as_12, ar_13, as_13, ar_14, as_14, fd_15_0, fd_15_1, fd_15_2, fd_15_3, fd_15_4, pf_15_4, fd_15_5, pf_15_5, aq_16, ar_17, as_17, ar_18, as_18, ar_19, as_19, ar_20, as_20, ar_21, as_21, ar_22, as_22, ar_23, as_23, ar_24, as_24, ar_25, as_25, fd_26_0, fd_26_1, fd_26_2, fd_26_3, fd_26_4, fd_26_5, pf_26_5, aq_27, ar_28, as_28, ar_29, as_29, ar_30, as_30, ar_31, as_31, ar_32, as_32, ar_33, as_33, ar_34, as_34, ar_35, as_35, ar_36, as_36, ar_37, as_37, ar_38, as_38, ar_39, as_39, ar_40, as_40, ar_41, as_41, fd_42_0, fd_42_1, fd_42_2, fd_42_3, fd_42_4, fd_42_5, fd_42_6, fd_42_7, pf_42_7, fd_42_8, pf_42_8, fd_42_9, pf_42_9, fd_42_10, pf_42_10_0, pf_42_10_1, ar_43, as_43, ar_44, as_44, ar_45, as_45, ar_46, as_46, ar_47, as_47, ar_48, as_48, ar_49, as_49, fd_50_0, fd_50_1, fd_50_2, ar_51, as_51, ar_52, as_52, ar_53, as_53, ar_54, as_54, fd_55_0, pf_55_0, fd_55_1, pf_55_1, fd_55_2, pf_55_2, fd_55_3, pf_55_3, fd_55_4, fd_55_5, fd_55_6, fd_55_7, pf_55_7, fd_55_8, pf_55_8, fd_55_9, fd_55_10, fd_55_11, fd_55_12, fd_55_13, fd_55_14, fd_55_15, pf_55_15, fd_55_16, pf_55_16, fd_55_17, fd_55_18, fd_55_19, fd_55_20, fd_55_21, pf_55_21, fd_55_22, fd_55_23, fd_55_24, fd_55_25, fd_55_26, pf_55_26, fd_55_27, fd_55_28, fd_55_29, fd_55_30, fd_55_31, fd_55_32, fd_55_33, fd_55_34, fd_55_35, fd_55_36, pf_55_36, fd_55_37, fd_55_38, fd_55_39, fd_55_40, ar_56, as_56, ar_57, as_57, ar_58, as_58, ar_59, as_59, ar_60, as_60, ar_61, as_61, ar_62, as_62, ar_63, as_63, ar_64, as_64, ar_65, as_65, ar_66, as_66, ar_67, as_67, ar_68, as_68, ar_69, as_69, ar_70, as_70, ar_71, as_71, ar_72, as_72, ar_73, as_73, ar_74, as_74, ar_75, as_75, ar_76, as_76, ar_77, as_77, ar_78, as_78, ar_79, as_79, ar_80, as_80, ar_81, as_81, ar_82, as_82, ar_83, as_83, ar_84, as_84, ar_85, as_85, rc_1, rc_2, rc_3, rc_4, rc_5, rc_6, rc_7, rc_8, rc_9, rc_10, rc_11, rc_12, rc_13, rc_14, rc_15, rc_16, rc_17, rc_18, rc_20, rc_21, rc_22, rc_23, rc_24, rc_25, rc_26, rc_27, rc_28, rc_29, rc_30, rc_31, rc_32, rc_33, rc_35, rc_36, rc_37, rc_38, rc_39, rc_40, rc_41, rc_42, rc_43, rc_44, rc_45, rc_47, rc_48, rc_49, rc_50, rc_51, rc_53, rc_54, rc_55, rc_56, rc_57, rc_58, rc_59, rc_60, rc_62, rc_63, rc_64, rc_65, rc_66, rc_67, rc_68, rc_69, rc_71, rc_74, rc_75, rc_76, rc_77, rc_78, rc_79, rc_80, rc_81, rc_82, rc_83, rc_84, rc_85, rc_86, rc_87, rc_88, rc_89, rc_90, rc_91, rc_92, rc_93, rc_94, rc_95, rc_96, rc_97, rc_98, rc_99, rc_100, rc_101, rc_102, rc_103, rc_104, rc_105, rc_106, rc_111, rc_112, rc_113, rc_114, rc_115, rc_116, rc_117, rc_118, rc_119, rc_120, rc_121, rc_122, rc_123, rc_124, rc_125, rc_126, rc_127, rc_128, rc_130, rc_131, rc_132, rc_134, rc_135, rc_136, rc_137, rc_138, rc_139, rc_140, rc_142, rc_143, rc_144, rc_145, rc_146, rc_147, rc_148, rc_149, rc_150, rc_151, rc_152, rc_154, rc_155, rc_156, rc_157, rc_158, rc_159, rc_160, rc_161, rc_162, rc_163, rc_164, rc_165, rc_166, rc_167, rc_168, rc_169, rc_170, rc_171, rc_172, rc_173, rc_174, rc_175, rc_176, rc_177, rc_178, rc_179, rc_180, rc_181, rc_182, rc_183, rc_184, mW_11, mW_30, mW_32, mW_45, mW_58, mW_69, mW_147, mW_153, mW_154, mW_164, mW_173, mW_175, vIN a1, nCl a1, a2, vIN x1, nCl x1, x2, q1, q2, q3, nM1 pn, vIN pn, nCl pn, p2, h6, row27_get p2, q5, q4, not_true_eq_false, not_false_eq_true, decide_false, decide_true, Bool.true_and, Bool.false_and, Bool.and_false, Bool.false_eq_true]
end
