/-! THE PLAN, on both sides -/
section
variable {b : Nat → Int}
theorem sh_sum {a s : Nat} : ∀ n, fb_si (fun p => (shOf a s p : Int)) n = ((cB s n * (a / cB s 10) + (if cB s n < a % cB s 10 then cB s n else a % cB s 10) : Nat) : Int)
  | 0 => by
    show (0 : Int) = _
    have : cB s 0 = 0 := rfl
    rw [this, Nat.zero_mul]
    split
    · rfl
    · have : a % cB s 10 = 0 := by omega
      rw [this]
      rfl
  | n + 1 => by
    rw [fb_si_succ, sh_sum n]
    unfold shOf
    have e1 : fb_ct (fun q => s.testBit q) 10 = cB s 10 := rfl
    have e2 : fb_ct (fun q => s.testBit q) n = cB s n := rfl
    rw [e1, e2]
    clear e1 e2
    generalize cB s 10 = K
    rw [cB_s]
    cases h : s.testBit n
    · simp
    · simp only [if_true, Nat.add_mul, Nat.one_mul]
      generalize cB s n * (a / K) = x
      generalize a / K = y
      generalize a % K = r
      generalize cB s n = c
      split <;> split <;> omega
theorem sh_all {a s : Nat} (h0 : ¬ s = 0) (hs : s < 1024) : fb_si (fun p => (shOf a s p : Int)) 10 = a := by
  rw [sh_sum 10]
  have hp := cB_pos h0 hs
  have := Nat.mod_lt a hp
  have e := Nat.div_add_mod a (cB s 10)
  rw [if_neg (by omega), e]
theorem sh_le {a s p : Nat} (h0 : ¬ s = 0) (hs : s < 1024) (ha : a ≤ 1000000) (hp : p < 10) : shOf a s p ≤ 1000000 := by
  have h := sh_all (a := a) h0 hs
  have : ∀ n, p < n → (shOf a s p : Int) ≤ fb_si (fun p => (shOf a s p : Int)) n := by
    intro n
    induction n with
    | zero => intro h; omega
    | succ n ih =>
      intro hn
      rw [fb_si_succ]
      have nn : 0 ≤ fb_si (fun p => (shOf a s p : Int)) n := (si_nn (fun k _ => by show (0 : Int) ≤ (shOf a s k : Int); omega)).1
      by_cases e : p = n
      · subst e; omega
      · have := ih (by omega)
        omega
  have := this 10 hp
  omega
theorem bal_f {P : Nat} {py am ag : Nat → Nat} (hP : P ≤ 10) : ∀ k, k ≤ 200 → (∀ j, j < k → py j < P ∧ 1 ≤ am j ∧ am j ≤ 1000000 ∧ 1 ≤ ag j ∧ ag j < 2 ^ P) → (∀ p, p < 10 → -(k * 1000000 : Int) ≤ balOf py am ag p k ∧ balOf py am ag p k ≤ (k * 1000000 : Int)) ∧ fb_si (fun p => balOf py am ag p k) 10 = 0 ∧ ∀ p, P ≤ p → balOf py am ag p k = 0
  | 0, _, _ => by
    refine ⟨fun p _ => by show -((0 : Nat) * 1000000 : Int) ≤ (0 : Int) ∧ (0 : Int) ≤ _; omega, ?_, fun p _ => rfl⟩
    have : fb_si (fun p => balOf py am ag p 0) 10 = fb_si (fun _ => (0 : Int)) 10 := fb_si_cong (fun p _ => rfl)
    rw [this]
    decide
  | k + 1, hk, h => by
    obtain ⟨a1, a2, a3⟩ := bal_f hP k (by omega) (fun j hj => h j (by omega))
    obtain ⟨h1, h2, h3, h4, h5⟩ := h k (by omega)
    have tp : 2 ^ P ≤ 1024 := Nat.pow_le_pow_right (n := 2) (by decide) hP
    have g0 : ¬ ag k = 0 := by omega
    have g1 : ag k < 1024 := by omega
    refine ⟨fun p hp => ?_, ?_, fun p hp => ?_⟩
    · have x1 := a1 p hp
      have x2 := sh_le (p := p) g0 g1 h3 hp
      show _ ≤ balOf py am ag p k + (if py k = p then (am k : Int) else 0) - (shOf (am k) (ag k) p : Int) ∧ balOf py am ag p k + (if py k = p then (am k : Int) else 0) - (shOf (am k) (ag k) p : Int) ≤ _
      have e : ((k + 1 : Nat) * 1000000 : Int) = (k * 1000000 : Int) + 1000000 := by omega
      rw [e]
      split <;> omega
    · have e : fb_si (fun p => balOf py am ag p (k + 1)) 10 = fb_si (fun p => (if p = py k then balOf py am ag (py k) k + am k else balOf py am ag p k) + (-1) * (shOf (am k) (ag k) p : Int)) 10 := fb_si_cong (fun p hp => by
        show balOf py am ag p k + (if py k = p then (am k : Int) else 0) - (shOf (am k) (ag k) p : Int) = _
        by_cases w : py k = p
        · subst w; simp; omega
        · have w2 : ¬ p = py k := fun z => w z.symm
          rw [if_neg w, if_neg w2]; omega)
      rw [e, fb_si_add, fb_si_mul, sh_all g0 g1, fb_si_upd (fun p => balOf py am ag p k) _ (by omega : py k < 10), a2]
      omega
    · show balOf py am ag p k + (if py k = p then (am k : Int) else 0) - (shOf (am k) (ag k) p : Int) = 0
      have hb : (ag k).testBit p = false := Nat.testBit_lt_two_pow (Nat.lt_of_lt_of_le h5 (Nat.pow_le_pow_right (n := 2) (by decide) hp))
      rw [a3 p hp, if_neg (by omega)]
      unfold shOf
      rw [hb]
      rfl
theorem sB_all {M : Nat} (h : isAll b M) : sB b M = fb_si b 10 := by
  unfold sB
  apply fb_si_cong
  intro p hp
  rw [h.2 p hp]
  by_cases e : b p = 0
  · simp [e]
  · simp [e]
theorem all_P {P : Nat} (hP : P ≤ 10) (h0 : ∀ p, P ≤ p → p < 10 → b p = 0) : isAll b (mskOf (fun p => decide (¬ b p = 0)) P) := by
  refine ⟨?_, fun p hp => ?_⟩
  · have := msk_lt (fun p => decide (¬ b p = 0)) P
    have tp : 2 ^ P ≤ 1024 := Nat.pow_le_pow_right (n := 2) (by decide) hP
    omega
  · rw [msk_bit]
    by_cases q : p < P
    · simp [q]
    · simp [h0 p (by omega) hp]
end
section
variable {σ : xSt} {Q : Option Value → xSt → Prop} {ai : Nat → Nat → Int32} {al : Nat → Nat → Int64} {fi : Nat → Nat → Int32} {fl : Nat → Nat → Int64} {b : Nat → Int}
theorem c174_in {hv : Nat → Nat} {P L H all : Nat} {l2 : Value} (hhv : ∀ M, M < 1024 → isH b M (hv M)) (hB : ∀ p, p < 10 → -200000000 ≤ b p ∧ b p ≤ 200000000) (hP : P ≤ 10) (hL : L < 2 ^ P) (h0 : ¬ L = 0) (hLa : subM L all) (hz : sB b L = 0) (h78 : ∀ T, T < 2 ^ P → ai 78 T = hpT b hv all T) (h77 : ∀ T, T < 2 ^ P → al 77 T = Int64.ofInt (sB b T)) (hH : FH b L H) : ∀ (d T : Nat), T + d = H → ¬ T = 0 → G none 174 21 [.ref 55, .int (nI L), .int (nI (loB L)), .int (nI T)] [] (mk ai al fi fl) 0 0 Q = G none 174 73 [.ref 55, .int (nI L), .int (nI (loB L)), .int (nI H)] [] (mk ai al fi fl) 0 0 Q := by
  have tp : 2 ^ P ≤ 1024 := Nat.pow_le_pow_right (n := 2) (by decide) hP
  have L1 : L < 2147483648 := by omega
  have L2 : L < 1024 := by omega
  obtain ⟨l1, l2', l3'⟩ := lo_ok L2 h0
  have hHL := sub_le hH.1.1
  have q1 : HB b 1 L := HB_more hz (sub_r L) h0 trivial
  have v1 := (hhv L L2 1).mpr q1
  have v2 := hv_le hhv L2
  have v3 := cB_lt (s := L) (n := 10)
  have ev : nI (hv L) - 1 = nI (hv L - 1) := by
    have : hv L = hv L - 1 + 1 := by omega
    rw [this, nSub1]
    rfl
  have eL : ai 78 L = nI (hv L) := by rw [h78 L hL, hpT_y hLa hz]
  intro d
  induction d with
  | zero =>
    intro T hi ht0
    have e : T = H := by omega
    subst e
    obtain ⟨t1, t2, t3, t4⟩ := (okH_iff hhv L2 hz).mp hH.1
    have T1 : T < 2147483648 := by omega
    have T2 : T < 1024 := by omega
    have T3 : T < 2 ^ P := by omega
    have x0 := sub_le (sub_xs t1)
    have x1 : L ^^^ T < 2147483648 := by omega
    have x2 : L ^^^ T < 1024 := by omega
    have x3 : L ^^^ T < 2 ^ P := by omega
    have hs1 : (nI T &&& (nI L ^^^ -1) = 0) = True := by rw [m_out0 T2]; exact eq_true t1
    have hb3 : ((nI T >>> (nI (loB L) &&& 31)) &&& 1 = 0) = False := by rw [bit_m (by omega : T < 2 ^ 31) (by omega : loB L < 31), t2]; simp
    have hq4 : (Int64.ofInt (sB b T) = 0) = True := by rw [oL_eq0 (sB_bd2 hB T).1 (sB_bd2 hB T).2]; exact eq_true t3
    have eX : ai 78 (L ^^^ T) = nI (hv L - 1) := by
      rw [h78 _ x3, hpT_y (sub_t (sub_xs t1) hLa) (z_x t1 hz t3)]
      congr 1
      omega
    rw [g174_21]
    simp only [g174_0, g174_1, g174_4, g174_5, g174_6, g174_7, g174_10, g174_11, g174_14, g174_15, g174_18, g174_19, g174_20, g174_22, g174_23, g174_24, g174_25, g174_26, g174_29, g174_30, g174_31, g174_32, g174_33, g174_34, g174_37, g174_38, g174_41, g174_42, g174_43, g174_44, g174_45, g174_48, g174_49, g174_52, g174_53, g174_54, g174_55, g174_56, g174_57, g174_60, g174_61, g174_62, g174_63, g174_64, g174_67, g174_70, g174_74, g174_75, g174_78, g174_79, g174_80, g174_81, g174_82, g174_85, ↓reduceIte, GV_s, GV_n, List.map_cons, List.map_nil, List.sum_cons, List.sum_nil, cat_i, cat_l, cat_r, Option.toList_some, Option.toList_none, List.cons_append, List.nil_append, true_and, and_true, Nat.reduceAdd, Nat.reduceLeDiff, Nat.zero_le, Nat.le_refl, Nat.add_zero, Nat.zero_add, va_up_self, va_up_ne, ne_eq, Nat.reduceEqDiff, not_false_eq_true, not_true_eq_false, if_true, if_false, false_and, and_false, or_true, true_or, false_or, or_false, fd_0_0, fd_0_1, fd_0_2, fd_0_3, fd_0_4, fd_0_5, fd_0_6, fd_0_7, pf_0_7, fd_0_8, pf_0_8, fd_0_9, pf_0_9, fd_0_10, pf_0_10, fd_1_0, fd_1_1, fd_1_2, aq_2, ar_3, as_3, ar_4, as_4, ar_5, as_5, ar_6, as_6, ar_7, as_7, ar_8, as_8, fd_9_0, fd_9_1, fd_9_2, fd_9_3, fd_9_4, fd_9_5, pf_9_5, ar_10, as_10, ar_11, as_11, ar_12, as_12, ar_13, as_13, ar_14, as_14, fd_15_0, fd_15_1, fd_15_2, fd_15_3, fd_15_4, pf_15_4, fd_15_5, pf_15_5, aq_16, ar_17, as_17, ar_18, as_18, ar_19, as_19, ar_20, as_20, ar_21, as_21, ar_22, as_22, ar_23, as_23, ar_24, as_24, ar_25, as_25, fd_26_0, fd_26_1, fd_26_2, fd_26_3, fd_26_4, fd_26_5, pf_26_5, aq_27, ar_28, as_28, ar_29, as_29, ar_30, as_30, ar_31, as_31, ar_32, as_32, ar_33, as_33, ar_34, as_34, ar_35, as_35, ar_36, as_36, ar_37, as_37, ar_38, as_38, ar_39, as_39, ar_40, as_40, ar_41, as_41, fd_42_0, fd_42_1, fd_42_2, fd_42_3, fd_42_4, fd_42_5, fd_42_6, fd_42_7, pf_42_7, fd_42_8, pf_42_8, fd_42_9, pf_42_9, fd_42_10, pf_42_10_0, pf_42_10_1, ar_43, as_43, ar_44, as_44, ar_45, as_45, ar_46, as_46, ar_47, as_47, ar_48, as_48, ar_49, as_49, fd_50_0, fd_50_1, fd_50_2, ar_51, as_51, ar_52, as_52, ar_53, as_53, ar_54, as_54, fd_55_0, pf_55_0, fd_55_1, pf_55_1, fd_55_2, pf_55_2, fd_55_3, pf_55_3, fd_55_4, fd_55_5, fd_55_6, fd_55_7, pf_55_7, fd_55_8, pf_55_8, fd_55_9, fd_55_10, fd_55_11, fd_55_12, fd_55_13, fd_55_14, fd_55_15, pf_55_15, fd_55_16, pf_55_16, fd_55_17, fd_55_18, fd_55_19, fd_55_20, fd_55_21, pf_55_21, fd_55_22, fd_55_23, fd_55_24, fd_55_25, fd_55_26, pf_55_26, fd_55_27, fd_55_28, fd_55_29, fd_55_30, fd_55_31, fd_55_32, fd_55_33, fd_55_34, fd_55_35, fd_55_36, pf_55_36, fd_55_37, fd_55_38, fd_55_39, fd_55_40, ar_56, as_56, ar_57, as_57, ar_58, as_58, ar_59, as_59, ar_60, as_60, ar_61, as_61, ar_62, as_62, ar_63, as_63, ar_64, as_64, ar_65, as_65, ar_66, as_66, ar_67, as_67, ar_68, as_68, ar_69, as_69, ar_70, as_70, ar_71, as_71, ar_72, as_72, ar_73, as_73, ar_74, as_74, ar_75, as_75, ar_76, as_76, ar_77, as_77, ar_78, as_78, ar_79, as_79, ar_80, as_80, ar_81, as_81, ar_82, as_82, ar_83, as_83, ar_84, as_84, ar_85, as_85, rc_1, rc_2, rc_3, rc_4, rc_5, rc_6, rc_7, rc_8, rc_9, rc_10, rc_11, rc_12, rc_13, rc_14, rc_15, rc_16, rc_17, rc_18, rc_20, rc_21, rc_22, rc_23, rc_24, rc_25, rc_26, rc_27, rc_28, rc_29, rc_30, rc_31, rc_32, rc_33, rc_35, rc_36, rc_37, rc_38, rc_39, rc_40, rc_41, rc_42, rc_43, rc_44, rc_45, rc_47, rc_48, rc_49, rc_50, rc_51, rc_53, rc_54, rc_55, rc_56, rc_57, rc_58, rc_59, rc_60, rc_62, rc_63, rc_64, rc_65, rc_66, rc_67, rc_68, rc_69, rc_71, rc_74, rc_75, rc_76, rc_77, rc_78, rc_79, rc_80, rc_81, rc_82, rc_83, rc_84, rc_85, rc_86, rc_87, rc_88, rc_89, rc_90, rc_91, rc_92, rc_93, rc_94, rc_95, rc_96, rc_97, rc_98, rc_99, rc_100, rc_101, rc_102, rc_103, rc_104, rc_105, rc_106, rc_111, rc_112, rc_113, rc_114, rc_115, rc_116, rc_117, rc_118, rc_119, rc_120, rc_121, rc_122, rc_123, rc_124, rc_125, rc_126, rc_127, rc_128, rc_130, rc_131, rc_132, rc_134, rc_135, rc_136, rc_137, rc_138, rc_139, rc_140, rc_142, rc_143, rc_144, rc_145, rc_146, rc_147, rc_148, rc_149, rc_150, rc_151, rc_152, rc_154, rc_155, rc_156, rc_157, rc_158, rc_159, rc_160, rc_161, rc_162, rc_163, rc_164, rc_165, rc_166, rc_167, rc_168, rc_169, rc_170, rc_171, rc_172, rc_173, rc_174, rc_175, rc_176, rc_177, rc_178, rc_179, rc_180, rc_181, rc_182, rc_183, rc_184, mW_11, mW_30, mW_32, mW_45, mW_58, mW_69, mW_147, mW_153, mW_154, mW_164, mW_173, mW_175, hs1, hb3, vIN T1, nCl T1, T2, h77 T T3, lg_cmp_eq, hq4, fb_xorI, vIN x1, nCl x1, x2, eX, vIN L1, nCl L1, L2, eL, ev]
  | succ d ih =>
    intro T hi ht0
    have hno := hH.2 T (by omega)
    rw [okH_iff hhv L2 hz] at hno
    have T1 : T < 2147483648 := by omega
    have T2 : T < 1024 := by omega
    have T3 : T < 2 ^ P := by omega
    rw [← ih (T + 1) (by omega) (by omega), g174_21]
    by_cases t1 : subM T L
    · have hs1 : (nI T &&& (nI L ^^^ -1) = 0) = True := by rw [m_out0 T2]; exact eq_true t1
      have x0 := sub_le (sub_xs t1)
      have x1 : L ^^^ T < 2147483648 := by omega
      have x2 : L ^^^ T < 1024 := by omega
      have x3 : L ^^^ T < 2 ^ P := by omega
      cases t2 : T.testBit (loB L) with
      | false =>
        have hb3 : ((nI T >>> (nI (loB L) &&& 31)) &&& 1 = 0) = True := by rw [bit_m (by omega : T < 2 ^ 31) (by omega : loB L < 31), t2]; simp
        simp only [g174_0, g174_1, g174_4, g174_5, g174_6, g174_7, g174_10, g174_11, g174_14, g174_15, g174_18, g174_19, g174_20, g174_22, g174_23, g174_24, g174_25, g174_26, g174_29, g174_30, g174_31, g174_32, g174_33, g174_34, g174_37, g174_38, g174_41, g174_42, g174_43, g174_44, g174_45, g174_48, g174_49, g174_52, g174_53, g174_54, g174_55, g174_56, g174_57, g174_60, g174_61, g174_62, g174_63, g174_64, g174_67, g174_70, g174_74, g174_75, g174_78, g174_79, g174_80, g174_81, g174_82, g174_85, ↓reduceIte, GV_s, GV_n, List.map_cons, List.map_nil, List.sum_cons, List.sum_nil, cat_i, cat_l, cat_r, Option.toList_some, Option.toList_none, List.cons_append, List.nil_append, true_and, and_true, Nat.reduceAdd, Nat.reduceLeDiff, Nat.zero_le, Nat.le_refl, Nat.add_zero, Nat.zero_add, va_up_self, va_up_ne, ne_eq, Nat.reduceEqDiff, not_false_eq_true, not_true_eq_false, if_true, if_false, false_and, and_false, or_true, true_or, false_or, or_false, fd_0_0, fd_0_1, fd_0_2, fd_0_3, fd_0_4, fd_0_5, fd_0_6, fd_0_7, pf_0_7, fd_0_8, pf_0_8, fd_0_9, pf_0_9, fd_0_10, pf_0_10, fd_1_0, fd_1_1, fd_1_2, aq_2, ar_3, as_3, ar_4, as_4, ar_5, as_5, ar_6, as_6, ar_7, as_7, ar_8, as_8, fd_9_0, fd_9_1, fd_9_2, fd_9_3, fd_9_4, fd_9_5, pf_9_5, ar_10, as_10, ar_11, as_11, ar_12, as_12, ar_13, as_13, ar_14, as_14, fd_15_0, fd_15_1, fd_15_2, fd_15_3, fd_15_4, pf_15_4, fd_15_5, pf_15_5, aq_16, ar_17, as_17, ar_18, as_18, ar_19, as_19, ar_20, as_20, ar_21, as_21, ar_22, as_22, ar_23, as_23, ar_24, as_24, ar_25, as_25, fd_26_0, fd_26_1, fd_26_2, fd_26_3, fd_26_4, fd_26_5, pf_26_5, aq_27, ar_28, as_28, ar_29, as_29, ar_30, as_30, ar_31, as_31, ar_32, as_32, ar_33, as_33, ar_34, as_34, ar_35, as_35, ar_36, as_36, ar_37, as_37, ar_38, as_38, ar_39, as_39, ar_40, as_40, ar_41, as_41, fd_42_0, fd_42_1, fd_42_2, fd_42_3, fd_42_4, fd_42_5, fd_42_6, fd_42_7, pf_42_7, fd_42_8, pf_42_8, fd_42_9, pf_42_9, fd_42_10, pf_42_10_0, pf_42_10_1, ar_43, as_43, ar_44, as_44, ar_45, as_45, ar_46, as_46, ar_47, as_47, ar_48, as_48, ar_49, as_49, fd_50_0, fd_50_1, fd_50_2, ar_51, as_51, ar_52, as_52, ar_53, as_53, ar_54, as_54, fd_55_0, pf_55_0, fd_55_1, pf_55_1, fd_55_2, pf_55_2, fd_55_3, pf_55_3, fd_55_4, fd_55_5, fd_55_6, fd_55_7, pf_55_7, fd_55_8, pf_55_8, fd_55_9, fd_55_10, fd_55_11, fd_55_12, fd_55_13, fd_55_14, fd_55_15, pf_55_15, fd_55_16, pf_55_16, fd_55_17, fd_55_18, fd_55_19, fd_55_20, fd_55_21, pf_55_21, fd_55_22, fd_55_23, fd_55_24, fd_55_25, fd_55_26, pf_55_26, fd_55_27, fd_55_28, fd_55_29, fd_55_30, fd_55_31, fd_55_32, fd_55_33, fd_55_34, fd_55_35, fd_55_36, pf_55_36, fd_55_37, fd_55_38, fd_55_39, fd_55_40, ar_56, as_56, ar_57, as_57, ar_58, as_58, ar_59, as_59, ar_60, as_60, ar_61, as_61, ar_62, as_62, ar_63, as_63, ar_64, as_64, ar_65, as_65, ar_66, as_66, ar_67, as_67, ar_68, as_68, ar_69, as_69, ar_70, as_70, ar_71, as_71, ar_72, as_72, ar_73, as_73, ar_74, as_74, ar_75, as_75, ar_76, as_76, ar_77, as_77, ar_78, as_78, ar_79, as_79, ar_80, as_80, ar_81, as_81, ar_82, as_82, ar_83, as_83, ar_84, as_84, ar_85, as_85, rc_1, rc_2, rc_3, rc_4, rc_5, rc_6, rc_7, rc_8, rc_9, rc_10, rc_11, rc_12, rc_13, rc_14, rc_15, rc_16, rc_17, rc_18, rc_20, rc_21, rc_22, rc_23, rc_24, rc_25, rc_26, rc_27, rc_28, rc_29, rc_30, rc_31, rc_32, rc_33, rc_35, rc_36, rc_37, rc_38, rc_39, rc_40, rc_41, rc_42, rc_43, rc_44, rc_45, rc_47, rc_48, rc_49, rc_50, rc_51, rc_53, rc_54, rc_55, rc_56, rc_57, rc_58, rc_59, rc_60, rc_62, rc_63, rc_64, rc_65, rc_66, rc_67, rc_68, rc_69, rc_71, rc_74, rc_75, rc_76, rc_77, rc_78, rc_79, rc_80, rc_81, rc_82, rc_83, rc_84, rc_85, rc_86, rc_87, rc_88, rc_89, rc_90, rc_91, rc_92, rc_93, rc_94, rc_95, rc_96, rc_97, rc_98, rc_99, rc_100, rc_101, rc_102, rc_103, rc_104, rc_105, rc_106, rc_111, rc_112, rc_113, rc_114, rc_115, rc_116, rc_117, rc_118, rc_119, rc_120, rc_121, rc_122, rc_123, rc_124, rc_125, rc_126, rc_127, rc_128, rc_130, rc_131, rc_132, rc_134, rc_135, rc_136, rc_137, rc_138, rc_139, rc_140, rc_142, rc_143, rc_144, rc_145, rc_146, rc_147, rc_148, rc_149, rc_150, rc_151, rc_152, rc_154, rc_155, rc_156, rc_157, rc_158, rc_159, rc_160, rc_161, rc_162, rc_163, rc_164, rc_165, rc_166, rc_167, rc_168, rc_169, rc_170, rc_171, rc_172, rc_173, rc_174, rc_175, rc_176, rc_177, rc_178, rc_179, rc_180, rc_181, rc_182, rc_183, rc_184, mW_11, mW_30, mW_32, mW_45, mW_58, mW_69, mW_147, mW_153, mW_154, mW_164, mW_173, mW_175, hs1, hb3, nAd_1]
      | true =>
        have hb3 : ((nI T >>> (nI (loB L) &&& 31)) &&& 1 = 0) = False := by rw [bit_m (by omega : T < 2 ^ 31) (by omega : loB L < 31), t2]; simp
        by_cases t3 : sB b T = 0
        · have hq4 : (Int64.ofInt (sB b T) = 0) = True := by rw [oL_eq0 (sB_bd2 hB T).1 (sB_bd2 hB T).2]; exact eq_true t3
          have t4 : ¬ hv (L ^^^ T) = hv L - 1 := fun e => hno ⟨t1, t2, t3, by omega⟩
          have w2 := hv_le hhv x2
          have w3 := cB_lt (s := L ^^^ T) (n := 10)
          have eX : ai 78 (L ^^^ T) = nI (hv (L ^^^ T)) := by
            rw [h78 _ x3, hpT_y (sub_t (sub_xs t1) hLa) (z_x t1 hz t3)]
          simp only [g174_0, g174_1, g174_4, g174_5, g174_6, g174_7, g174_10, g174_11, g174_14, g174_15, g174_18, g174_19, g174_20, g174_22, g174_23, g174_24, g174_25, g174_26, g174_29, g174_30, g174_31, g174_32, g174_33, g174_34, g174_37, g174_38, g174_41, g174_42, g174_43, g174_44, g174_45, g174_48, g174_49, g174_52, g174_53, g174_54, g174_55, g174_56, g174_57, g174_60, g174_61, g174_62, g174_63, g174_64, g174_67, g174_70, g174_74, g174_75, g174_78, g174_79, g174_80, g174_81, g174_82, g174_85, ↓reduceIte, GV_s, GV_n, List.map_cons, List.map_nil, List.sum_cons, List.sum_nil, cat_i, cat_l, cat_r, Option.toList_some, Option.toList_none, List.cons_append, List.nil_append, true_and, and_true, Nat.reduceAdd, Nat.reduceLeDiff, Nat.zero_le, Nat.le_refl, Nat.add_zero, Nat.zero_add, va_up_self, va_up_ne, ne_eq, Nat.reduceEqDiff, not_false_eq_true, not_true_eq_false, if_true, if_false, false_and, and_false, or_true, true_or, false_or, or_false, fd_0_0, fd_0_1, fd_0_2, fd_0_3, fd_0_4, fd_0_5, fd_0_6, fd_0_7, pf_0_7, fd_0_8, pf_0_8, fd_0_9, pf_0_9, fd_0_10, pf_0_10, fd_1_0, fd_1_1, fd_1_2, aq_2, ar_3, as_3, ar_4, as_4, ar_5, as_5, ar_6, as_6, ar_7, as_7, ar_8, as_8, fd_9_0, fd_9_1, fd_9_2, fd_9_3, fd_9_4, fd_9_5, pf_9_5, ar_10, as_10, ar_11, as_11, ar_12, as_12, ar_13, as_13, ar_14, as_14, fd_15_0, fd_15_1, fd_15_2, fd_15_3, fd_15_4, pf_15_4, fd_15_5, pf_15_5, aq_16, ar_17, as_17, ar_18, as_18, ar_19, as_19, ar_20, as_20, ar_21, as_21, ar_22, as_22, ar_23, as_23, ar_24, as_24, ar_25, as_25, fd_26_0, fd_26_1, fd_26_2, fd_26_3, fd_26_4, fd_26_5, pf_26_5, aq_27, ar_28, as_28, ar_29, as_29, ar_30, as_30, ar_31, as_31, ar_32, as_32, ar_33, as_33, ar_34, as_34, ar_35, as_35, ar_36, as_36, ar_37, as_37, ar_38, as_38, ar_39, as_39, ar_40, as_40, ar_41, as_41, fd_42_0, fd_42_1, fd_42_2, fd_42_3, fd_42_4, fd_42_5, fd_42_6, fd_42_7, pf_42_7, fd_42_8, pf_42_8, fd_42_9, pf_42_9, fd_42_10, pf_42_10_0, pf_42_10_1, ar_43, as_43, ar_44, as_44, ar_45, as_45, ar_46, as_46, ar_47, as_47, ar_48, as_48, ar_49, as_49, fd_50_0, fd_50_1, fd_50_2, ar_51, as_51, ar_52, as_52, ar_53, as_53, ar_54, as_54, fd_55_0, pf_55_0, fd_55_1, pf_55_1, fd_55_2, pf_55_2, fd_55_3, pf_55_3, fd_55_4, fd_55_5, fd_55_6, fd_55_7, pf_55_7, fd_55_8, pf_55_8, fd_55_9, fd_55_10, fd_55_11, fd_55_12, fd_55_13, fd_55_14, fd_55_15, pf_55_15, fd_55_16, pf_55_16, fd_55_17, fd_55_18, fd_55_19, fd_55_20, fd_55_21, pf_55_21, fd_55_22, fd_55_23, fd_55_24, fd_55_25, fd_55_26, pf_55_26, fd_55_27, fd_55_28, fd_55_29, fd_55_30, fd_55_31, fd_55_32, fd_55_33, fd_55_34, fd_55_35, fd_55_36, pf_55_36, fd_55_37, fd_55_38, fd_55_39, fd_55_40, ar_56, as_56, ar_57, as_57, ar_58, as_58, ar_59, as_59, ar_60, as_60, ar_61, as_61, ar_62, as_62, ar_63, as_63, ar_64, as_64, ar_65, as_65, ar_66, as_66, ar_67, as_67, ar_68, as_68, ar_69, as_69, ar_70, as_70, ar_71, as_71, ar_72, as_72, ar_73, as_73, ar_74, as_74, ar_75, as_75, ar_76, as_76, ar_77, as_77, ar_78, as_78, ar_79, as_79, ar_80, as_80, ar_81, as_81, ar_82, as_82, ar_83, as_83, ar_84, as_84, ar_85, as_85, rc_1, rc_2, rc_3, rc_4, rc_5, rc_6, rc_7, rc_8, rc_9, rc_10, rc_11, rc_12, rc_13, rc_14, rc_15, rc_16, rc_17, rc_18, rc_20, rc_21, rc_22, rc_23, rc_24, rc_25, rc_26, rc_27, rc_28, rc_29, rc_30, rc_31, rc_32, rc_33, rc_35, rc_36, rc_37, rc_38, rc_39, rc_40, rc_41, rc_42, rc_43, rc_44, rc_45, rc_47, rc_48, rc_49, rc_50, rc_51, rc_53, rc_54, rc_55, rc_56, rc_57, rc_58, rc_59, rc_60, rc_62, rc_63, rc_64, rc_65, rc_66, rc_67, rc_68, rc_69, rc_71, rc_74, rc_75, rc_76, rc_77, rc_78, rc_79, rc_80, rc_81, rc_82, rc_83, rc_84, rc_85, rc_86, rc_87, rc_88, rc_89, rc_90, rc_91, rc_92, rc_93, rc_94, rc_95, rc_96, rc_97, rc_98, rc_99, rc_100, rc_101, rc_102, rc_103, rc_104, rc_105, rc_106, rc_111, rc_112, rc_113, rc_114, rc_115, rc_116, rc_117, rc_118, rc_119, rc_120, rc_121, rc_122, rc_123, rc_124, rc_125, rc_126, rc_127, rc_128, rc_130, rc_131, rc_132, rc_134, rc_135, rc_136, rc_137, rc_138, rc_139, rc_140, rc_142, rc_143, rc_144, rc_145, rc_146, rc_147, rc_148, rc_149, rc_150, rc_151, rc_152, rc_154, rc_155, rc_156, rc_157, rc_158, rc_159, rc_160, rc_161, rc_162, rc_163, rc_164, rc_165, rc_166, rc_167, rc_168, rc_169, rc_170, rc_171, rc_172, rc_173, rc_174, rc_175, rc_176, rc_177, rc_178, rc_179, rc_180, rc_181, rc_182, rc_183, rc_184, mW_11, mW_30, mW_32, mW_45, mW_58, mW_69, mW_147, mW_153, mW_154, mW_164, mW_173, mW_175, hs1, hb3, vIN T1, nCl T1, T2, h77 T T3, lg_cmp_eq, hq4, fb_xorI, vIN x1, nCl x1, x2, eX, vIN L1, nCl L1, L2, eL, ev, kEQ (by omega : hv (L ^^^ T) < 2147483648) (by omega : hv L - 1 < 2147483648), t4, nAd_1]
        · have hq4 : (Int64.ofInt (sB b T) = 0) = False := by rw [oL_eq0 (sB_bd2 hB T).1 (sB_bd2 hB T).2]; exact eq_false t3
          simp only [g174_0, g174_1, g174_4, g174_5, g174_6, g174_7, g174_10, g174_11, g174_14, g174_15, g174_18, g174_19, g174_20, g174_22, g174_23, g174_24, g174_25, g174_26, g174_29, g174_30, g174_31, g174_32, g174_33, g174_34, g174_37, g174_38, g174_41, g174_42, g174_43, g174_44, g174_45, g174_48, g174_49, g174_52, g174_53, g174_54, g174_55, g174_56, g174_57, g174_60, g174_61, g174_62, g174_63, g174_64, g174_67, g174_70, g174_74, g174_75, g174_78, g174_79, g174_80, g174_81, g174_82, g174_85, ↓reduceIte, GV_s, GV_n, List.map_cons, List.map_nil, List.sum_cons, List.sum_nil, cat_i, cat_l, cat_r, Option.toList_some, Option.toList_none, List.cons_append, List.nil_append, true_and, and_true, Nat.reduceAdd, Nat.reduceLeDiff, Nat.zero_le, Nat.le_refl, Nat.add_zero, Nat.zero_add, va_up_self, va_up_ne, ne_eq, Nat.reduceEqDiff, not_false_eq_true, not_true_eq_false, if_true, if_false, false_and, and_false, or_true, true_or, false_or, or_false, fd_0_0, fd_0_1, fd_0_2, fd_0_3, fd_0_4, fd_0_5, fd_0_6, fd_0_7, pf_0_7, fd_0_8, pf_0_8, fd_0_9, pf_0_9, fd_0_10, pf_0_10, fd_1_0, fd_1_1, fd_1_2, aq_2, ar_3, as_3, ar_4, as_4, ar_5, as_5, ar_6, as_6, ar_7, as_7, ar_8, as_8, fd_9_0, fd_9_1, fd_9_2, fd_9_3, fd_9_4, fd_9_5, pf_9_5, ar_10, as_10, ar_11, as_11, ar_12, as_12, ar_13, as_13, ar_14, as_14, fd_15_0, fd_15_1, fd_15_2, fd_15_3, fd_15_4, pf_15_4, fd_15_5, pf_15_5, aq_16, ar_17, as_17, ar_18, as_18, ar_19, as_19, ar_20, as_20, ar_21, as_21, ar_22, as_22, ar_23, as_23, ar_24, as_24, ar_25, as_25, fd_26_0, fd_26_1, fd_26_2, fd_26_3, fd_26_4, fd_26_5, pf_26_5, aq_27, ar_28, as_28, ar_29, as_29, ar_30, as_30, ar_31, as_31, ar_32, as_32, ar_33, as_33, ar_34, as_34, ar_35, as_35, ar_36, as_36, ar_37, as_37, ar_38, as_38, ar_39, as_39, ar_40, as_40, ar_41, as_41, fd_42_0, fd_42_1, fd_42_2, fd_42_3, fd_42_4, fd_42_5, fd_42_6, fd_42_7, pf_42_7, fd_42_8, pf_42_8, fd_42_9, pf_42_9, fd_42_10, pf_42_10_0, pf_42_10_1, ar_43, as_43, ar_44, as_44, ar_45, as_45, ar_46, as_46, ar_47, as_47, ar_48, as_48, ar_49, as_49, fd_50_0, fd_50_1, fd_50_2, ar_51, as_51, ar_52, as_52, ar_53, as_53, ar_54, as_54, fd_55_0, pf_55_0, fd_55_1, pf_55_1, fd_55_2, pf_55_2, fd_55_3, pf_55_3, fd_55_4, fd_55_5, fd_55_6, fd_55_7, pf_55_7, fd_55_8, pf_55_8, fd_55_9, fd_55_10, fd_55_11, fd_55_12, fd_55_13, fd_55_14, fd_55_15, pf_55_15, fd_55_16, pf_55_16, fd_55_17, fd_55_18, fd_55_19, fd_55_20, fd_55_21, pf_55_21, fd_55_22, fd_55_23, fd_55_24, fd_55_25, fd_55_26, pf_55_26, fd_55_27, fd_55_28, fd_55_29, fd_55_30, fd_55_31, fd_55_32, fd_55_33, fd_55_34, fd_55_35, fd_55_36, pf_55_36, fd_55_37, fd_55_38, fd_55_39, fd_55_40, ar_56, as_56, ar_57, as_57, ar_58, as_58, ar_59, as_59, ar_60, as_60, ar_61, as_61, ar_62, as_62, ar_63, as_63, ar_64, as_64, ar_65, as_65, ar_66, as_66, ar_67, as_67, ar_68, as_68, ar_69, as_69, ar_70, as_70, ar_71, as_71, ar_72, as_72, ar_73, as_73, ar_74, as_74, ar_75, as_75, ar_76, as_76, ar_77, as_77, ar_78, as_78, ar_79, as_79, ar_80, as_80, ar_81, as_81, ar_82, as_82, ar_83, as_83, ar_84, as_84, ar_85, as_85, rc_1, rc_2, rc_3, rc_4, rc_5, rc_6, rc_7, rc_8, rc_9, rc_10, rc_11, rc_12, rc_13, rc_14, rc_15, rc_16, rc_17, rc_18, rc_20, rc_21, rc_22, rc_23, rc_24, rc_25, rc_26, rc_27, rc_28, rc_29, rc_30, rc_31, rc_32, rc_33, rc_35, rc_36, rc_37, rc_38, rc_39, rc_40, rc_41, rc_42, rc_43, rc_44, rc_45, rc_47, rc_48, rc_49, rc_50, rc_51, rc_53, rc_54, rc_55, rc_56, rc_57, rc_58, rc_59, rc_60, rc_62, rc_63, rc_64, rc_65, rc_66, rc_67, rc_68, rc_69, rc_71, rc_74, rc_75, rc_76, rc_77, rc_78, rc_79, rc_80, rc_81, rc_82, rc_83, rc_84, rc_85, rc_86, rc_87, rc_88, rc_89, rc_90, rc_91, rc_92, rc_93, rc_94, rc_95, rc_96, rc_97, rc_98, rc_99, rc_100, rc_101, rc_102, rc_103, rc_104, rc_105, rc_106, rc_111, rc_112, rc_113, rc_114, rc_115, rc_116, rc_117, rc_118, rc_119, rc_120, rc_121, rc_122, rc_123, rc_124, rc_125, rc_126, rc_127, rc_128, rc_130, rc_131, rc_132, rc_134, rc_135, rc_136, rc_137, rc_138, rc_139, rc_140, rc_142, rc_143, rc_144, rc_145, rc_146, rc_147, rc_148, rc_149, rc_150, rc_151, rc_152, rc_154, rc_155, rc_156, rc_157, rc_158, rc_159, rc_160, rc_161, rc_162, rc_163, rc_164, rc_165, rc_166, rc_167, rc_168, rc_169, rc_170, rc_171, rc_172, rc_173, rc_174, rc_175, rc_176, rc_177, rc_178, rc_179, rc_180, rc_181, rc_182, rc_183, rc_184, mW_11, mW_30, mW_32, mW_45, mW_58, mW_69, mW_147, mW_153, mW_154, mW_164, mW_173, mW_175, hs1, hb3, vIN T1, nCl T1, T2, h77 T T3, lg_cmp_eq, hq4, nAd_1]
    · have hs1 : (nI T &&& (nI L ^^^ -1) = 0) = False := by rw [m_out0 T2]; exact eq_false t1
      simp only [g174_0, g174_1, g174_4, g174_5, g174_6, g174_7, g174_10, g174_11, g174_14, g174_15, g174_18, g174_19, g174_20, g174_22, g174_23, g174_24, g174_25, g174_26, g174_29, g174_30, g174_31, g174_32, g174_33, g174_34, g174_37, g174_38, g174_41, g174_42, g174_43, g174_44, g174_45, g174_48, g174_49, g174_52, g174_53, g174_54, g174_55, g174_56, g174_57, g174_60, g174_61, g174_62, g174_63, g174_64, g174_67, g174_70, g174_74, g174_75, g174_78, g174_79, g174_80, g174_81, g174_82, g174_85, ↓reduceIte, GV_s, GV_n, List.map_cons, List.map_nil, List.sum_cons, List.sum_nil, cat_i, cat_l, cat_r, Option.toList_some, Option.toList_none, List.cons_append, List.nil_append, true_and, and_true, Nat.reduceAdd, Nat.reduceLeDiff, Nat.zero_le, Nat.le_refl, Nat.add_zero, Nat.zero_add, va_up_self, va_up_ne, ne_eq, Nat.reduceEqDiff, not_false_eq_true, not_true_eq_false, if_true, if_false, false_and, and_false, or_true, true_or, false_or, or_false, fd_0_0, fd_0_1, fd_0_2, fd_0_3, fd_0_4, fd_0_5, fd_0_6, fd_0_7, pf_0_7, fd_0_8, pf_0_8, fd_0_9, pf_0_9, fd_0_10, pf_0_10, fd_1_0, fd_1_1, fd_1_2, aq_2, ar_3, as_3, ar_4, as_4, ar_5, as_5, ar_6, as_6, ar_7, as_7, ar_8, as_8, fd_9_0, fd_9_1, fd_9_2, fd_9_3, fd_9_4, fd_9_5, pf_9_5, ar_10, as_10, ar_11, as_11, ar_12, as_12, ar_13, as_13, ar_14, as_14, fd_15_0, fd_15_1, fd_15_2, fd_15_3, fd_15_4, pf_15_4, fd_15_5, pf_15_5, aq_16, ar_17, as_17, ar_18, as_18, ar_19, as_19, ar_20, as_20, ar_21, as_21, ar_22, as_22, ar_23, as_23, ar_24, as_24, ar_25, as_25, fd_26_0, fd_26_1, fd_26_2, fd_26_3, fd_26_4, fd_26_5, pf_26_5, aq_27, ar_28, as_28, ar_29, as_29, ar_30, as_30, ar_31, as_31, ar_32, as_32, ar_33, as_33, ar_34, as_34, ar_35, as_35, ar_36, as_36, ar_37, as_37, ar_38, as_38, ar_39, as_39, ar_40, as_40, ar_41, as_41, fd_42_0, fd_42_1, fd_42_2, fd_42_3, fd_42_4, fd_42_5, fd_42_6, fd_42_7, pf_42_7, fd_42_8, pf_42_8, fd_42_9, pf_42_9, fd_42_10, pf_42_10_0, pf_42_10_1, ar_43, as_43, ar_44, as_44, ar_45, as_45, ar_46, as_46, ar_47, as_47, ar_48, as_48, ar_49, as_49, fd_50_0, fd_50_1, fd_50_2, ar_51, as_51, ar_52, as_52, ar_53, as_53, ar_54, as_54, fd_55_0, pf_55_0, fd_55_1, pf_55_1, fd_55_2, pf_55_2, fd_55_3, pf_55_3, fd_55_4, fd_55_5, fd_55_6, fd_55_7, pf_55_7, fd_55_8, pf_55_8, fd_55_9, fd_55_10, fd_55_11, fd_55_12, fd_55_13, fd_55_14, fd_55_15, pf_55_15, fd_55_16, pf_55_16, fd_55_17, fd_55_18, fd_55_19, fd_55_20, fd_55_21, pf_55_21, fd_55_22, fd_55_23, fd_55_24, fd_55_25, fd_55_26, pf_55_26, fd_55_27, fd_55_28, fd_55_29, fd_55_30, fd_55_31, fd_55_32, fd_55_33, fd_55_34, fd_55_35, fd_55_36, pf_55_36, fd_55_37, fd_55_38, fd_55_39, fd_55_40, ar_56, as_56, ar_57, as_57, ar_58, as_58, ar_59, as_59, ar_60, as_60, ar_61, as_61, ar_62, as_62, ar_63, as_63, ar_64, as_64, ar_65, as_65, ar_66, as_66, ar_67, as_67, ar_68, as_68, ar_69, as_69, ar_70, as_70, ar_71, as_71, ar_72, as_72, ar_73, as_73, ar_74, as_74, ar_75, as_75, ar_76, as_76, ar_77, as_77, ar_78, as_78, ar_79, as_79, ar_80, as_80, ar_81, as_81, ar_82, as_82, ar_83, as_83, ar_84, as_84, ar_85, as_85, rc_1, rc_2, rc_3, rc_4, rc_5, rc_6, rc_7, rc_8, rc_9, rc_10, rc_11, rc_12, rc_13, rc_14, rc_15, rc_16, rc_17, rc_18, rc_20, rc_21, rc_22, rc_23, rc_24, rc_25, rc_26, rc_27, rc_28, rc_29, rc_30, rc_31, rc_32, rc_33, rc_35, rc_36, rc_37, rc_38, rc_39, rc_40, rc_41, rc_42, rc_43, rc_44, rc_45, rc_47, rc_48, rc_49, rc_50, rc_51, rc_53, rc_54, rc_55, rc_56, rc_57, rc_58, rc_59, rc_60, rc_62, rc_63, rc_64, rc_65, rc_66, rc_67, rc_68, rc_69, rc_71, rc_74, rc_75, rc_76, rc_77, rc_78, rc_79, rc_80, rc_81, rc_82, rc_83, rc_84, rc_85, rc_86, rc_87, rc_88, rc_89, rc_90, rc_91, rc_92, rc_93, rc_94, rc_95, rc_96, rc_97, rc_98, rc_99, rc_100, rc_101, rc_102, rc_103, rc_104, rc_105, rc_106, rc_111, rc_112, rc_113, rc_114, rc_115, rc_116, rc_117, rc_118, rc_119, rc_120, rc_121, rc_122, rc_123, rc_124, rc_125, rc_126, rc_127, rc_128, rc_130, rc_131, rc_132, rc_134, rc_135, rc_136, rc_137, rc_138, rc_139, rc_140, rc_142, rc_143, rc_144, rc_145, rc_146, rc_147, rc_148, rc_149, rc_150, rc_151, rc_152, rc_154, rc_155, rc_156, rc_157, rc_158, rc_159, rc_160, rc_161, rc_162, rc_163, rc_164, rc_165, rc_166, rc_167, rc_168, rc_169, rc_170, rc_171, rc_172, rc_173, rc_174, rc_175, rc_176, rc_177, rc_178, rc_179, rc_180, rc_181, rc_182, rc_183, rc_184, mW_11, mW_30, mW_32, mW_45, mW_58, mW_69, mW_147, mW_153, mW_154, mW_164, mW_173, mW_175, hs1, nAd_1]
theorem c174_loop {hv : Nat → Nat} {P all : Nat} (hhv : ∀ M, M < 1024 → isH b M (hv M)) (hB : ∀ p, p < 10 → -200000000 ≤ b p ∧ b p ≤ 200000000) (hP : P ≤ 10) (hall : ∀ p, all.testBit p = true → ¬ b p = 0) : ∀ (L n : Nat) (o : Nat → Int) (ai : Nat → Nat → Int32) (al : Nat → Nat → Int64) (fi : Nat → Nat → Int32) (l2 l3 : Value), L < 2 ^ P → subM L all → sB b L = 0 → fi 55 7 = nI P → (∀ T, T < 2 ^ P → ai 78 T = hpT b hv all T) → (∀ T, T < 2 ^ P → al 77 T = Int64.ofInt (sB b T)) → OpM P al o → (∀ p, p < 10 → -200000000 ≤ o p ∧ o p ≤ 200000000) → (∀ p, L.testBit p = true → o p = b p) → fi 55 36 = nI n → n + (cB L 10 - hv L) ≤ 9 → ∃ (f : Nat) (Ls : List (Nat × Nat × Int)) (py tk : Nat → Int32) (O mo : Nat → Int64), PlanR b f L Ls ∧ (∀ j, j < n → py j = ai 79 j ∧ tk j = ai 80 j ∧ mo j = al 81 j) ∧ plFrom n Ls py tk mo ∧ ∀ Q, G none 174 10 [.ref 55, .int (nI L), l2, l3] [] (mk ai al fi fl) 0 0 Q = Q none (mk (va_up (va_up ai 79 py) 80 tk) (va_up (va_up al 76 O) 81 mo) (va_up fi 55 (va_up (fi 55) 36 (nI (n + Ls.length)))) fl) := by
  have tp : 2 ^ P ≤ 1024 := Nat.pow_le_pow_right (n := 2) (by decide) hP
  intro L
  induction L using Nat.strongRecOn with
  | ind L ih =>
  intro n o ai al fi l2 l3 hL hLa hz he h78 h77 ho hoB hob hn h9
  have L1 : L < 2147483648 := by omega
  have L2 : L < 1024 := by omega
  by_cases h0 : L = 0
  · subst h0
    refine ⟨0, [], ai 79, ai 80, al 76, al 81, ⟨rfl, rfl⟩, fun j _ => ⟨rfl, rfl, rfl⟩, fun j q w => by simp at w, fun Q => ?_⟩
    have e1 : nI (n + ([] : List (Nat × Nat × Int)).length) = fi 55 36 := by rw [hn]; rfl
    rw [e1, va_up_id, va_up_id, va_up_id, va_up_id, va_up_id, va_up_id, g174_10]
    simp only [g174_0, g174_1, g174_4, g174_5, g174_6, g174_7, g174_11, g174_14, g174_15, g174_18, g174_19, g174_20, g174_21, g174_22, g174_23, g174_24, g174_25, g174_26, g174_29, g174_30, g174_31, g174_32, g174_33, g174_34, g174_37, g174_38, g174_41, g174_42, g174_43, g174_44, g174_45, g174_48, g174_49, g174_52, g174_53, g174_54, g174_55, g174_56, g174_57, g174_60, g174_61, g174_62, g174_63, g174_64, g174_67, g174_70, g174_73, g174_74, g174_75, g174_78, g174_79, g174_80, g174_81, g174_82, g174_85, ↓reduceIte, GV_s, GV_n, List.map_cons, List.map_nil, List.sum_cons, List.sum_nil, cat_i, cat_l, cat_r, Option.toList_some, Option.toList_none, List.cons_append, List.nil_append, true_and, and_true, Nat.reduceAdd, Nat.reduceLeDiff, Nat.zero_le, Nat.le_refl, Nat.add_zero, Nat.zero_add, va_up_self, va_up_ne, ne_eq, Nat.reduceEqDiff, not_false_eq_true, not_true_eq_false, if_true, if_false, false_and, and_false, or_true, true_or, false_or, or_false, fd_0_0, fd_0_1, fd_0_2, fd_0_3, fd_0_4, fd_0_5, fd_0_6, fd_0_7, pf_0_7, fd_0_8, pf_0_8, fd_0_9, pf_0_9, fd_0_10, pf_0_10, fd_1_0, fd_1_1, fd_1_2, aq_2, ar_3, as_3, ar_4, as_4, ar_5, as_5, ar_6, as_6, ar_7, as_7, ar_8, as_8, fd_9_0, fd_9_1, fd_9_2, fd_9_3, fd_9_4, fd_9_5, pf_9_5, ar_10, as_10, ar_11, as_11, ar_12, as_12, ar_13, as_13, ar_14, as_14, fd_15_0, fd_15_1, fd_15_2, fd_15_3, fd_15_4, pf_15_4, fd_15_5, pf_15_5, aq_16, ar_17, as_17, ar_18, as_18, ar_19, as_19, ar_20, as_20, ar_21, as_21, ar_22, as_22, ar_23, as_23, ar_24, as_24, ar_25, as_25, fd_26_0, fd_26_1, fd_26_2, fd_26_3, fd_26_4, fd_26_5, pf_26_5, aq_27, ar_28, as_28, ar_29, as_29, ar_30, as_30, ar_31, as_31, ar_32, as_32, ar_33, as_33, ar_34, as_34, ar_35, as_35, ar_36, as_36, ar_37, as_37, ar_38, as_38, ar_39, as_39, ar_40, as_40, ar_41, as_41, fd_42_0, fd_42_1, fd_42_2, fd_42_3, fd_42_4, fd_42_5, fd_42_6, fd_42_7, pf_42_7, fd_42_8, pf_42_8, fd_42_9, pf_42_9, fd_42_10, pf_42_10_0, pf_42_10_1, ar_43, as_43, ar_44, as_44, ar_45, as_45, ar_46, as_46, ar_47, as_47, ar_48, as_48, ar_49, as_49, fd_50_0, fd_50_1, fd_50_2, ar_51, as_51, ar_52, as_52, ar_53, as_53, ar_54, as_54, fd_55_0, pf_55_0, fd_55_1, pf_55_1, fd_55_2, pf_55_2, fd_55_3, pf_55_3, fd_55_4, fd_55_5, fd_55_6, fd_55_7, pf_55_7, fd_55_8, pf_55_8, fd_55_9, fd_55_10, fd_55_11, fd_55_12, fd_55_13, fd_55_14, fd_55_15, pf_55_15, fd_55_16, pf_55_16, fd_55_17, fd_55_18, fd_55_19, fd_55_20, fd_55_21, pf_55_21, fd_55_22, fd_55_23, fd_55_24, fd_55_25, fd_55_26, pf_55_26, fd_55_27, fd_55_28, fd_55_29, fd_55_30, fd_55_31, fd_55_32, fd_55_33, fd_55_34, fd_55_35, fd_55_36, pf_55_36, fd_55_37, fd_55_38, fd_55_39, fd_55_40, ar_56, as_56, ar_57, as_57, ar_58, as_58, ar_59, as_59, ar_60, as_60, ar_61, as_61, ar_62, as_62, ar_63, as_63, ar_64, as_64, ar_65, as_65, ar_66, as_66, ar_67, as_67, ar_68, as_68, ar_69, as_69, ar_70, as_70, ar_71, as_71, ar_72, as_72, ar_73, as_73, ar_74, as_74, ar_75, as_75, ar_76, as_76, ar_77, as_77, ar_78, as_78, ar_79, as_79, ar_80, as_80, ar_81, as_81, ar_82, as_82, ar_83, as_83, ar_84, as_84, ar_85, as_85, rc_1, rc_2, rc_3, rc_4, rc_5, rc_6, rc_7, rc_8, rc_9, rc_10, rc_11, rc_12, rc_13, rc_14, rc_15, rc_16, rc_17, rc_18, rc_20, rc_21, rc_22, rc_23, rc_24, rc_25, rc_26, rc_27, rc_28, rc_29, rc_30, rc_31, rc_32, rc_33, rc_35, rc_36, rc_37, rc_38, rc_39, rc_40, rc_41, rc_42, rc_43, rc_44, rc_45, rc_47, rc_48, rc_49, rc_50, rc_51, rc_53, rc_54, rc_55, rc_56, rc_57, rc_58, rc_59, rc_60, rc_62, rc_63, rc_64, rc_65, rc_66, rc_67, rc_68, rc_69, rc_71, rc_74, rc_75, rc_76, rc_77, rc_78, rc_79, rc_80, rc_81, rc_82, rc_83, rc_84, rc_85, rc_86, rc_87, rc_88, rc_89, rc_90, rc_91, rc_92, rc_93, rc_94, rc_95, rc_96, rc_97, rc_98, rc_99, rc_100, rc_101, rc_102, rc_103, rc_104, rc_105, rc_106, rc_111, rc_112, rc_113, rc_114, rc_115, rc_116, rc_117, rc_118, rc_119, rc_120, rc_121, rc_122, rc_123, rc_124, rc_125, rc_126, rc_127, rc_128, rc_130, rc_131, rc_132, rc_134, rc_135, rc_136, rc_137, rc_138, rc_139, rc_140, rc_142, rc_143, rc_144, rc_145, rc_146, rc_147, rc_148, rc_149, rc_150, rc_151, rc_152, rc_154, rc_155, rc_156, rc_157, rc_158, rc_159, rc_160, rc_161, rc_162, rc_163, rc_164, rc_165, rc_166, rc_167, rc_168, rc_169, rc_170, rc_171, rc_172, rc_173, rc_174, rc_175, rc_176, rc_177, rc_178, rc_179, rc_180, rc_181, rc_182, rc_183, rc_184, mW_11, mW_30, mW_32, mW_45, mW_58, mW_69, mW_147, mW_153, mW_154, mW_164, mW_173, mW_175, nI_0]
  · obtain ⟨H0, hH0⟩ := okH_ex L2 h0 (hhv L L2) hz
    obtain ⟨H, a2⟩ : ∃ H, FH b L H := by
      clear ih
      induction H0 using Nat.strongRecOn with
      | ind x ihx =>
        by_cases q : ∃ y, y < x ∧ okH b L y
        · obtain ⟨y, y1, y2⟩ := q
          exact ihx y y1 y2
        · exact ⟨x, hH0, fun y y1 y2 => q ⟨y, y1, y2⟩⟩
    have hsub := a2.1.1
    have hHl := sub_le hsub
    have hnb : ∀ p, L.testBit p = true → ¬ b p = 0 := fun p hp => hall p (hLa p hp)
    have hmn := okH_min (hhv _ L2) hz hnb a2.1
    obtain ⟨v1, hv2⟩ := okH_isH (hhv _ L2) hz a2.1
    have xle := sub_le (sub_xs hsub)
    have hv3 := isH_one hv2 (hhv _ (by omega))
    have hobS : ∀ p, H.testBit p = true → b p = o p := fun p hp => (hob p (hsub p hp)).symm
    have hm := mnH_cong hobS hmn
    have cc := cB_add hsub
    have cp := cB_pos (okH_0 a2.1) (by omega : H < 1024)
    have hle := hv_le hhv (by omega : L ^^^ H < 1024)
    have hg : grd 10 H o = grd 10 H b := (grd_cong (by omega) hobS).symm
    have hgl := grd_len (by omega : H < 1024) hmn
    obtain ⟨py, tk, O, mo, o', r1, r2, r3, r4, r5⟩ := c175 (ai := ai) (fl := fl) (by omega : H < 2 ^ P) hP he hm hn ho hoB (by omega)
    have xlt : L ^^^ H < L := lt_sub (sub_xs hsub) (fun e => by
      obtain ⟨p, hp⟩ := ne_bit (okH_0 a2.1)
      have := sub_x (p := p) hsub
      rw [e, hsub p hp, hp] at this
      simp at this)
    have hz2 : sB b (L ^^^ H) = 0 := z_x hsub hz a2.1.2.2.1
    have outH : ∀ p, P ≤ p → H.testBit p = false := fun p hp => Nat.testBit_lt_two_pow (Nat.lt_of_lt_of_le (by omega : H < 2 ^ P) (Nat.pow_le_pow_right (n := 2) (by decide) hp))
    obtain ⟨f, Ls, py2, tk2, O2, mo2, s1, s2, s3, s4⟩ := ih (L ^^^ H) xlt (n + (grd 10 H o).length) o' (va_up (va_up ai 79 py) 80 tk) (va_up (va_up al 76 O) 81 mo) (va_up fi 55 (va_up (fi 55) 36 (nI (n + (grd 10 H o).length)))) (.int (nI (loB L))) (.int (nI H)) (by omega) (sub_t (sub_xs hsub) hLa) hz2 (by simp only [va_up_self, va_up_ne, ne_eq, Nat.reduceEqDiff, not_false_eq_true]; exact he) (fun x hx => by simp only [va_up_self, va_up_ne, ne_eq, Nat.reduceEqDiff, not_false_eq_true]; exact h78 x hx) (fun x hx => by simp only [va_up_self, va_up_ne, ne_eq, Nat.reduceEqDiff, not_false_eq_true]; exact h77 x hx) (fun p hp => by
        have := r3 p hp
        simp only [va_up_self, va_up_ne, ne_eq, Nat.reduceEqDiff, not_false_eq_true] at this ⊢
        exact this) (fun p hp => by
        by_cases q : p < P
        · exact (r3 p q).2
        · rw [r4 p (outH p (by omega))]
          exact hoB p hp) (fun p hp => by
        rw [sub_x hsub] at hp
        simp at hp
        rw [r4 p hp.2]
        exact hob p hp.1) (by simp only [va_up_self, va_up_ne, ne_eq, Nat.reduceEqDiff, not_false_eq_true]) (by rw [hg, hgl]; omega)
    refine ⟨f + 1, grd 10 H b ++ Ls, py2, tk2, O2, mo2, Or.inr ⟨h0, H, Ls, a2, s1, rfl⟩, fun j hj => ?_, fun j q w => ?_, fun Q => ?_⟩
    · have := s2 j (by omega)
      simp only [va_up_self, va_up_ne, ne_eq, Nat.reduceEqDiff, not_false_eq_true] at this
      have w := r1 j hj
      rw [this.1, this.2.1, this.2.2]
      exact w
    · rw [hg] at r2 s2 s3
      by_cases hj : j < (grd 10 H b).length
      · rw [List.getElem?_append_left hj] at w
        have x1 := r2 j q w
        have x2 := s2 (n + j) (by omega)
        simp only [va_up_self, va_up_ne, ne_eq, Nat.reduceEqDiff, not_false_eq_true] at x2
        rw [x2.1, x2.2.1, x2.2.2]
        exact x1
      · rw [List.getElem?_append_right (by omega)] at w
        have x1 := s3 _ q w
        have e : n + (grd 10 H b).length + (j - (grd 10 H b).length) = n + j := by omega
        rw [e] at x1
        exact x1
    · have s5 := s4 Q
      have tz := (tz_ok L L2 h0).1
      have etz : fa_first (fun i => L.testBit i) 10 = loB L := rfl
      rw [etz] at tz
      have H0 : ¬ H = 0 := okH_0 a2.1
      have zi := fun Q => c174_in (ai := ai) (al := al) (fi := fi) (fl := fl) (Q := Q) (l2 := .null) hhv hB hP hL h0 hLa hz h78 h77 a2 (H - 1) 1 (by omega) (by omega)
      have e1 : nI 1 = 1 := rfl
      rw [e1] at zi
      have el : n + (grd 10 H b ++ Ls).length = n + (grd 10 H o).length + Ls.length := by
        rw [List.length_append, hg]; omega
      rw [el, g174_10]
      simp only [g174_0, g174_1, g174_4, g174_5, g174_6, g174_7, g174_11, g174_14, g174_15, g174_18, g174_19, g174_20, g174_22, g174_23, g174_24, g174_25, g174_26, g174_29, g174_30, g174_31, g174_32, g174_33, g174_34, g174_37, g174_38, g174_41, g174_42, g174_43, g174_44, g174_45, g174_48, g174_49, g174_52, g174_53, g174_54, g174_55, g174_56, g174_57, g174_60, g174_61, g174_62, g174_63, g174_64, g174_67, g174_70, g174_74, g174_75, g174_78, g174_79, g174_80, g174_81, g174_82, g174_85, ↓reduceIte, GV_s, GV_n, List.map_cons, List.map_nil, List.sum_cons, List.sum_nil, cat_i, cat_l, cat_r, Option.toList_some, Option.toList_none, List.cons_append, List.nil_append, true_and, and_true, Nat.reduceAdd, Nat.reduceLeDiff, Nat.zero_le, Nat.le_refl, Nat.add_zero, Nat.zero_add, va_up_self, va_up_ne, ne_eq, Nat.reduceEqDiff, not_false_eq_true, not_true_eq_false, if_true, if_false, false_and, and_false, or_true, true_or, false_or, or_false, fd_0_0, fd_0_1, fd_0_2, fd_0_3, fd_0_4, fd_0_5, fd_0_6, fd_0_7, pf_0_7, fd_0_8, pf_0_8, fd_0_9, pf_0_9, fd_0_10, pf_0_10, fd_1_0, fd_1_1, fd_1_2, aq_2, ar_3, as_3, ar_4, as_4, ar_5, as_5, ar_6, as_6, ar_7, as_7, ar_8, as_8, fd_9_0, fd_9_1, fd_9_2, fd_9_3, fd_9_4, fd_9_5, pf_9_5, ar_10, as_10, ar_11, as_11, ar_12, as_12, ar_13, as_13, ar_14, as_14, fd_15_0, fd_15_1, fd_15_2, fd_15_3, fd_15_4, pf_15_4, fd_15_5, pf_15_5, aq_16, ar_17, as_17, ar_18, as_18, ar_19, as_19, ar_20, as_20, ar_21, as_21, ar_22, as_22, ar_23, as_23, ar_24, as_24, ar_25, as_25, fd_26_0, fd_26_1, fd_26_2, fd_26_3, fd_26_4, fd_26_5, pf_26_5, aq_27, ar_28, as_28, ar_29, as_29, ar_30, as_30, ar_31, as_31, ar_32, as_32, ar_33, as_33, ar_34, as_34, ar_35, as_35, ar_36, as_36, ar_37, as_37, ar_38, as_38, ar_39, as_39, ar_40, as_40, ar_41, as_41, fd_42_0, fd_42_1, fd_42_2, fd_42_3, fd_42_4, fd_42_5, fd_42_6, fd_42_7, pf_42_7, fd_42_8, pf_42_8, fd_42_9, pf_42_9, fd_42_10, pf_42_10_0, pf_42_10_1, ar_43, as_43, ar_44, as_44, ar_45, as_45, ar_46, as_46, ar_47, as_47, ar_48, as_48, ar_49, as_49, fd_50_0, fd_50_1, fd_50_2, ar_51, as_51, ar_52, as_52, ar_53, as_53, ar_54, as_54, fd_55_0, pf_55_0, fd_55_1, pf_55_1, fd_55_2, pf_55_2, fd_55_3, pf_55_3, fd_55_4, fd_55_5, fd_55_6, fd_55_7, pf_55_7, fd_55_8, pf_55_8, fd_55_9, fd_55_10, fd_55_11, fd_55_12, fd_55_13, fd_55_14, fd_55_15, pf_55_15, fd_55_16, pf_55_16, fd_55_17, fd_55_18, fd_55_19, fd_55_20, fd_55_21, pf_55_21, fd_55_22, fd_55_23, fd_55_24, fd_55_25, fd_55_26, pf_55_26, fd_55_27, fd_55_28, fd_55_29, fd_55_30, fd_55_31, fd_55_32, fd_55_33, fd_55_34, fd_55_35, fd_55_36, pf_55_36, fd_55_37, fd_55_38, fd_55_39, fd_55_40, ar_56, as_56, ar_57, as_57, ar_58, as_58, ar_59, as_59, ar_60, as_60, ar_61, as_61, ar_62, as_62, ar_63, as_63, ar_64, as_64, ar_65, as_65, ar_66, as_66, ar_67, as_67, ar_68, as_68, ar_69, as_69, ar_70, as_70, ar_71, as_71, ar_72, as_72, ar_73, as_73, ar_74, as_74, ar_75, as_75, ar_76, as_76, ar_77, as_77, ar_78, as_78, ar_79, as_79, ar_80, as_80, ar_81, as_81, ar_82, as_82, ar_83, as_83, ar_84, as_84, ar_85, as_85, rc_1, rc_2, rc_3, rc_4, rc_5, rc_6, rc_7, rc_8, rc_9, rc_10, rc_11, rc_12, rc_13, rc_14, rc_15, rc_16, rc_17, rc_18, rc_20, rc_21, rc_22, rc_23, rc_24, rc_25, rc_26, rc_27, rc_28, rc_29, rc_30, rc_31, rc_32, rc_33, rc_35, rc_36, rc_37, rc_38, rc_39, rc_40, rc_41, rc_42, rc_43, rc_44, rc_45, rc_47, rc_48, rc_49, rc_50, rc_51, rc_53, rc_54, rc_55, rc_56, rc_57, rc_58, rc_59, rc_60, rc_62, rc_63, rc_64, rc_65, rc_66, rc_67, rc_68, rc_69, rc_71, rc_74, rc_75, rc_76, rc_77, rc_78, rc_79, rc_80, rc_81, rc_82, rc_83, rc_84, rc_85, rc_86, rc_87, rc_88, rc_89, rc_90, rc_91, rc_92, rc_93, rc_94, rc_95, rc_96, rc_97, rc_98, rc_99, rc_100, rc_101, rc_102, rc_103, rc_104, rc_105, rc_106, rc_111, rc_112, rc_113, rc_114, rc_115, rc_116, rc_117, rc_118, rc_119, rc_120, rc_121, rc_122, rc_123, rc_124, rc_125, rc_126, rc_127, rc_128, rc_130, rc_131, rc_132, rc_134, rc_135, rc_136, rc_137, rc_138, rc_139, rc_140, rc_142, rc_143, rc_144, rc_145, rc_146, rc_147, rc_148, rc_149, rc_150, rc_151, rc_152, rc_154, rc_155, rc_156, rc_157, rc_158, rc_159, rc_160, rc_161, rc_162, rc_163, rc_164, rc_165, rc_166, rc_167, rc_168, rc_169, rc_170, rc_171, rc_172, rc_173, rc_174, rc_175, rc_176, rc_177, rc_178, rc_179, rc_180, rc_181, rc_182, rc_183, rc_184, mW_11, mW_30, mW_32, mW_45, mW_58, mW_69, mW_147, mW_153, mW_154, mW_164, mW_173, mW_175, nEQ_0 L1, h0, c185, tz, zi]
      simp only [g174_73, g174_74, g174_75, g174_78, g174_79, g174_80, g174_81, g174_82, ↓reduceIte, GV_s, GV_n, List.map_cons, List.map_nil, List.sum_cons, List.sum_nil, cat_i, cat_l, cat_r, Option.toList_some, Option.toList_none, List.cons_append, List.nil_append, true_and, and_true, Nat.reduceAdd, Nat.reduceLeDiff, Nat.zero_le, Nat.le_refl, Nat.add_zero, Nat.zero_add, va_up_self, va_up_ne, ne_eq, Nat.reduceEqDiff, not_false_eq_true, not_true_eq_false, if_true, if_false, false_and, and_false, or_true, true_or, false_or, or_false, fd_0_0, fd_0_1, fd_0_2, fd_0_3, fd_0_4, fd_0_5, fd_0_6, fd_0_7, pf_0_7, fd_0_8, pf_0_8, fd_0_9, pf_0_9, fd_0_10, pf_0_10, fd_1_0, fd_1_1, fd_1_2, aq_2, ar_3, as_3, ar_4, as_4, ar_5, as_5, ar_6, as_6, ar_7, as_7, ar_8, as_8, fd_9_0, fd_9_1, fd_9_2, fd_9_3, fd_9_4, fd_9_5, pf_9_5, ar_10, as_10, ar_11, as_11, ar_12, as_12, ar_13, as_13, ar_14, as_14, fd_15_0, fd_15_1, fd_15_2, fd_15_3, fd_15_4, pf_15_4, fd_15_5, pf_15_5, aq_16, ar_17, as_17, ar_18, as_18, ar_19, as_19, ar_20, as_20, ar_21, as_21, ar_22, as_22, ar_23, as_23, ar_24, as_24, ar_25, as_25, fd_26_0, fd_26_1, fd_26_2, fd_26_3, fd_26_4, fd_26_5, pf_26_5, aq_27, ar_28, as_28, ar_29, as_29, ar_30, as_30, ar_31, as_31, ar_32, as_32, ar_33, as_33, ar_34, as_34, ar_35, as_35, ar_36, as_36, ar_37, as_37, ar_38, as_38, ar_39, as_39, ar_40, as_40, ar_41, as_41, fd_42_0, fd_42_1, fd_42_2, fd_42_3, fd_42_4, fd_42_5, fd_42_6, fd_42_7, pf_42_7, fd_42_8, pf_42_8, fd_42_9, pf_42_9, fd_42_10, pf_42_10_0, pf_42_10_1, ar_43, as_43, ar_44, as_44, ar_45, as_45, ar_46, as_46, ar_47, as_47, ar_48, as_48, ar_49, as_49, fd_50_0, fd_50_1, fd_50_2, ar_51, as_51, ar_52, as_52, ar_53, as_53, ar_54, as_54, fd_55_0, pf_55_0, fd_55_1, pf_55_1, fd_55_2, pf_55_2, fd_55_3, pf_55_3, fd_55_4, fd_55_5, fd_55_6, fd_55_7, pf_55_7, fd_55_8, pf_55_8, fd_55_9, fd_55_10, fd_55_11, fd_55_12, fd_55_13, fd_55_14, fd_55_15, pf_55_15, fd_55_16, pf_55_16, fd_55_17, fd_55_18, fd_55_19, fd_55_20, fd_55_21, pf_55_21, fd_55_22, fd_55_23, fd_55_24, fd_55_25, fd_55_26, pf_55_26, fd_55_27, fd_55_28, fd_55_29, fd_55_30, fd_55_31, fd_55_32, fd_55_33, fd_55_34, fd_55_35, fd_55_36, pf_55_36, fd_55_37, fd_55_38, fd_55_39, fd_55_40, ar_56, as_56, ar_57, as_57, ar_58, as_58, ar_59, as_59, ar_60, as_60, ar_61, as_61, ar_62, as_62, ar_63, as_63, ar_64, as_64, ar_65, as_65, ar_66, as_66, ar_67, as_67, ar_68, as_68, ar_69, as_69, ar_70, as_70, ar_71, as_71, ar_72, as_72, ar_73, as_73, ar_74, as_74, ar_75, as_75, ar_76, as_76, ar_77, as_77, ar_78, as_78, ar_79, as_79, ar_80, as_80, ar_81, as_81, ar_82, as_82, ar_83, as_83, ar_84, as_84, ar_85, as_85, rc_1, rc_2, rc_3, rc_4, rc_5, rc_6, rc_7, rc_8, rc_9, rc_10, rc_11, rc_12, rc_13, rc_14, rc_15, rc_16, rc_17, rc_18, rc_20, rc_21, rc_22, rc_23, rc_24, rc_25, rc_26, rc_27, rc_28, rc_29, rc_30, rc_31, rc_32, rc_33, rc_35, rc_36, rc_37, rc_38, rc_39, rc_40, rc_41, rc_42, rc_43, rc_44, rc_45, rc_47, rc_48, rc_49, rc_50, rc_51, rc_53, rc_54, rc_55, rc_56, rc_57, rc_58, rc_59, rc_60, rc_62, rc_63, rc_64, rc_65, rc_66, rc_67, rc_68, rc_69, rc_71, rc_74, rc_75, rc_76, rc_77, rc_78, rc_79, rc_80, rc_81, rc_82, rc_83, rc_84, rc_85, rc_86, rc_87, rc_88, rc_89, rc_90, rc_91, rc_92, rc_93, rc_94, rc_95, rc_96, rc_97, rc_98, rc_99, rc_100, rc_101, rc_102, rc_103, rc_104, rc_105, rc_106, rc_111, rc_112, rc_113, rc_114, rc_115, rc_116, rc_117, rc_118, rc_119, rc_120, rc_121, rc_122, rc_123, rc_124, rc_125, rc_126, rc_127, rc_128, rc_130, rc_131, rc_132, rc_134, rc_135, rc_136, rc_137, rc_138, rc_139, rc_140, rc_142, rc_143, rc_144, rc_145, rc_146, rc_147, rc_148, rc_149, rc_150, rc_151, rc_152, rc_154, rc_155, rc_156, rc_157, rc_158, rc_159, rc_160, rc_161, rc_162, rc_163, rc_164, rc_165, rc_166, rc_167, rc_168, rc_169, rc_170, rc_171, rc_172, rc_173, rc_174, rc_175, rc_176, rc_177, rc_178, rc_179, rc_180, rc_181, rc_182, rc_183, rc_184, mW_11, mW_30, mW_32, mW_45, mW_58, mW_69, mW_147, mW_153, mW_154, mW_164, mW_173, mW_175, r5, fb_xorI]
      simp only [va_up_self, va_up_ne, ne_eq, Nat.reduceEqDiff, not_false_eq_true, bx_uu, vuc] at s5 ⊢
      exact s5
end
