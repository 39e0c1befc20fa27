/-! STAYS: the days that one was there, on both sides -/
/-- covered by one of the first stays that count -/
def cvF (K : Nat → Bool) (f t : Nat → Nat) (x : Nat) : Nat → Bool
  | 0 => false
  | n + 1 => cvF K f t x n || (K n && decide (f n ≤ x ∧ x ≤ t n))
theorem cvF_iff {K : Nat → Bool} {f t : Nat → Nat} {x : Nat} : ∀ {n : Nat}, cvF K f t x n = true ↔ ∃ s, s < n ∧ K s = true ∧ f s ≤ x ∧ x ≤ t s
  | 0 => by simp [cvF]
  | n + 1 => by
    rw [cvF, Bool.or_eq_true, cvF_iff, Bool.and_eq_true, decide_eq_true_iff]
    constructor
    · rintro (⟨s, hs, h⟩ | h)
      · exact ⟨s, by omega, h⟩
      · exact ⟨n, by omega, h⟩
    · rintro ⟨s, hs, h⟩
      by_cases e : s = n
      · subst e; exact Or.inr h
      · exact Or.inl ⟨s, by omega, h⟩
/-- how many of the m days from a on -/
def dct (q : Nat → Bool) (a m : Nat) : Nat := fb_ct (fun i => q (a + i)) m
theorem dct_le {q : Nat → Bool} {a m : Nat} : dct q a m ≤ m := fb_ct_le _ _
/-- the first of the earliest ones that reach a day -/
def er (K : Nat → Bool) (f t : Nat → Nat) (day : Nat) : Nat → Option Nat
  | 0 => none
  | s + 1 => if K s = true ∧ day ≤ t s then (match er K f t day s with | none => some s | some e => if f s < f e then some s else some e) else er K f t day s
theorem er_none {K : Nat → Bool} {f t : Nat → Nat} {day : Nat} : ∀ {n : Nat}, er K f t day n = none → ∀ s, s < n → ¬ (K s = true ∧ day ≤ t s)
  | 0, _, s, hs => by omega
  | n + 1, h, s, hs => by
    rw [er] at h
    split at h
    · split at h
      · cases h
      · split at h <;> cases h
    · rename_i q
      by_cases e : s = n
      · subst e; exact q
      · exact er_none h s (by omega)
theorem er_some {K : Nat → Bool} {f t : Nat → Nat} {day : Nat} : ∀ {n e : Nat}, er K f t day n = some e → e < n ∧ K e = true ∧ day ≤ t e ∧ ∀ s, s < n → K s = true → day ≤ t s → f e ≤ f s
  | 0, _, h => by cases h
  | n + 1, e, h => by
    rw [er] at h
    split at h
    · rename_i q
      split at h
      · rename_i h0
        cases h
        refine ⟨by omega, q.1, q.2, fun s hs k1 k2 => ?_⟩
        by_cases e : s = n
        · subst e; omega
        · exact absurd ⟨k1, k2⟩ (er_none h0 s (by omega))
      · rename_i e0 h0
        obtain ⟨a1, a2, a3, a4⟩ := er_some h0
        split at h
        · rename_i q2
          cases h
          refine ⟨by omega, q.1, q.2, fun s hs k1 k2 => ?_⟩
          by_cases e : s = n
          · subst e; omega
          · have := a4 s (by omega) k1 k2; omega
        · rename_i q2
          cases h
          refine ⟨by omega, a2, a3, fun s hs k1 k2 => ?_⟩
          by_cases e : s = n
          · subst e; omega
          · exact a4 s (by omega) k1 k2
    · rename_i q
      obtain ⟨a1, a2, a3, a4⟩ := er_some h
      refine ⟨by omega, a2, a3, fun s hs k1 k2 => ?_⟩
      by_cases e : s = n
      · subst e; exact absurd ⟨k1, k2⟩ q
      · exact a4 s (by omega) k1 k2
/-- one step of the class: what is counted -/
theorem dct_step {K : Nat → Bool} {f t : Nat → Nat} {n day b e : Nat} (he : er K f t day n = some e) (hf : f e ≤ t e) (hd : day ≤ b) (hb : f e ≤ b) : dct (fun x => cvF K f t x n) day (b + 1 - day) = ((if b < t e then b else t e) + 1 - (if f e < day then day else f e)) + dct (fun x => cvF K f t x n) ((if b < t e then b else t e) + 1) (b + 1 - ((if b < t e then b else t e) + 1)) := by
  obtain ⟨a1, a2, a3, a4⟩ := er_some he
  generalize hE : (if b < t e then b else t e) = E
  generalize hB : (if f e < day then day else f e) = B
  have b1 : f e ≤ B ∧ day ≤ B ∧ (B = day ∨ B = f e) := by subst hB; split <;> omega
  have b2 : E ≤ t e ∧ E ≤ b ∧ B ≤ E := by
    have : B ≤ t e ∧ B ≤ b := by subst hB; split <;> omega
    subst hE
    split <;> omega
  have h1 : b + 1 - day = (B - day) + ((E + 1 - B) + (b + 1 - (E + 1))) := by omega
  unfold dct
  rw [h1, fb_ct_split, fb_ct_split]
  have c1 : fb_ct (fun i => cvF K f t (day + i) n) (B - day) = 0 := by
    rw [fb_ct_zero]
    intro k hk
    cases hc : cvF K f t (day + k) n with
    | false => rfl
    | true =>
      obtain ⟨s, s1, s2, s3, s4⟩ := cvF_iff.mp hc
      have := a4 s s1 s2 (by omega)
      omega
  have c2 : fb_ct (fun k => cvF K f t (day + (B - day + k)) n) (E + 1 - B) = E + 1 - B := by
    rw [fb_ct_all]
    intro k hk
    exact cvF_iff.mpr ⟨e, a1, a2, by omega, by omega⟩
  rw [c1, c2, Nat.zero_add]
  congr 1
  apply fb_ct_cong
  intro k hk
  show cvF K f t (day + (B - day + (E + 1 - B + k))) n = cvF K f t (E + 1 + k) n
  congr 1
  omega
theorem dct_0 {K : Nat → Bool} {f t : Nat → Nat} {n day b : Nat} (h : ∀ s, s < n → K s = true → day ≤ t s → b < f s) : dct (fun x => cvF K f t x n) day (b + 1 - day) = 0 := by
  unfold dct
  rw [fb_ct_zero]
  intro k hk
  cases hc : cvF K f t (day + k) n with
  | false => exact hc
  | true =>
    obtain ⟨s, s1, s2, s3, s4⟩ := cvF_iff.mp hc
    have := h s s1 s2 (by omega)
    omega
/-- those that reach a day are fewer behind a step -/
def rch (K : Nat → Bool) (t : Nat → Nat) (day n : Nat) : Nat := fb_ct (fun s => K s && decide (day ≤ t s)) n
theorem rch_lt {K : Nat → Bool} {f t : Nat → Nat} {n day e : Nat} (he : er K f t day n = some e) : rch K t (t e + 1) n < rch K t day n := by
  obtain ⟨a1, a2, a3, a4⟩ := er_some he
  unfold rch
  have h := fb_ct_upd (fun s => K s && decide (day ≤ t s)) false a1
  have h2 : (K e && decide (day ≤ t e)) = true := by simp [a2, a3]
  rw [h2] at h
  have h3 : fb_ct (fun s => K s && decide (t e + 1 ≤ t s)) n ≤ fb_ct (fun k => if k = e then false else (K k && decide (day ≤ t k))) n := by
    apply fb_ct_sub
    intro k hk q
    simp only [Bool.and_eq_true, decide_eq_true_iff] at q
    by_cases e9 : k = e
    · subst e9; omega
    · rw [if_neg e9]; simp [q.1]; omega
  simp at h h3
  omega
section
variable {σ : xSt} {Q : Option Value → xSt → Prop} {ai : Nat → Nat → Int32} {al : Nat → Nat → Int64} {fi : Nat → Nat → Int32} {fl : Nat → Nat → Int64}
def StF (P n : Nat) (ai : Nat → Nat → Int32) (w f t d c : Nat → Nat) : Prop := ∀ s, s < n → w s < P ∧ f s ≤ t s ∧ t s ≤ 9999 ∧ d s ≤ 9999 ∧ c s ≤ 10000 ∧ ai 10 s = nI (w s) ∧ ai 59 s = nI (w s) ∧ ai 11 s = nI (f s) ∧ ai 60 s = nI (f s) ∧ ai 12 s = nI (t s) ∧ ai 61 s = nI (t s) ∧ ai 13 s = nI (d s) ∧ ai 62 s = nI (d s) ∧ ai 14 s = nI (c s) ∧ ((c s = 10000 ∧ ai 63 s = -1) ∨ (c s ≤ 9999 ∧ ai 63 s = nI (c s)))
theorem StF_of {P : Nat} {cn mcn : Int32} (hP : P ≤ 10) (h : InvS P cn mcn (ai 10) (ai 11) (ai 12) (ai 13) (ai 14) (ai 59) (ai 60) (ai 61) (ai 62) (ai 63)) : ∃ (n : Nat) (w f t d c : Nat → Nat), n ≤ 60 ∧ cn = nI n ∧ mcn = nI n ∧ StF P n ai w f t d c := by
  obtain ⟨n, h1, h2, h3, h4⟩ := h
  refine ⟨n, fun s => (ai 10 s).toNatClampNeg, fun s => (ai 11 s).toNatClampNeg, fun s => (ai 12 s).toNatClampNeg, fun s => (ai 13 s).toNatClampNeg, fun s => (ai 14 s).toNatClampNeg, h1, h2, h3, fun s hs => ?_⟩
  obtain ⟨⟨w, f, t, d, k1, k2, k3, k4, e1, e2, e3, e4, e5, e6, e7, e8⟩, hk⟩ := h4 s hs
  have hc : ∃ c : Nat, c ≤ 10000 ∧ ai 14 s = nI c ∧ ((c = 10000 ∧ ai 63 s = -1) ∨ (c ≤ 9999 ∧ ai 63 s = nI c)) := by
    rcases hk with ⟨q1, q2⟩ | ⟨c, q0, q1, q2⟩
    · exact ⟨10000, by omega, q1, Or.inl ⟨rfl, q2⟩⟩
    · exact ⟨c, by omega, q1, Or.inr ⟨q0, q2⟩⟩
  obtain ⟨c, c1, c2, c3⟩ := hc
  show (ai 10 s).toNatClampNeg < P ∧ (ai 11 s).toNatClampNeg ≤ (ai 12 s).toNatClampNeg ∧ (ai 12 s).toNatClampNeg ≤ 9999 ∧ (ai 13 s).toNatClampNeg ≤ 9999 ∧ (ai 14 s).toNatClampNeg ≤ 10000 ∧ ai 10 s = nI (ai 10 s).toNatClampNeg ∧ ai 59 s = nI (ai 10 s).toNatClampNeg ∧ ai 11 s = nI (ai 11 s).toNatClampNeg ∧ ai 60 s = nI (ai 11 s).toNatClampNeg ∧ ai 12 s = nI (ai 12 s).toNatClampNeg ∧ ai 61 s = nI (ai 12 s).toNatClampNeg ∧ ai 13 s = nI (ai 13 s).toNatClampNeg ∧ ai 62 s = nI (ai 13 s).toNatClampNeg ∧ ai 14 s = nI (ai 14 s).toNatClampNeg ∧ (((ai 14 s).toNatClampNeg = 10000 ∧ ai 63 s = -1) ∨ ((ai 14 s).toNatClampNeg ≤ 9999 ∧ ai 63 s = nI (ai 14 s).toNatClampNeg))
  by_cases hw : w < 2147483648
  · rw [e1, e3, e5, e7, c2, nCl hw, nCl (t := f) (by omega), nCl (t := t) (by omega), nCl (t := d) (by omega), nCl (t := c) (by omega)]
    exact ⟨k1, k2, k3, k4, c1, rfl, e2, rfl, e4, rfl, e6, rfl, e8, rfl, c3⟩
  · exfalso
    omega
def ksF (w d c : Nat → Nat) (p k s : Nat) : Bool := decide (w s = p ∧ d s ≤ k ∧ k < c s)
theorem c60 {P n s k : Nat} {w f t d c : Nat → Nat} (hn : n ≤ 60) (hs : s < n) (hk : k ≤ 9999) (hF : StF P n ai w f t d c) : GM 60 [.ref 9, .int (nI s), .int (nI k)] (mk ai al fi fl) Q = Q (some (.int (if d s ≤ k ∧ k < c s then 1 else 0))) (mk ai al fi fl) := by
  obtain ⟨a1, a2, a3, a4, a5, e1, e2, e3, e4, e5, e6, e7, e8, e9, e10⟩ := hF s hs
  have s1 : s < 2147483648 := by omega
  have s2 : s < 60 := by omega
  have k1 : k < 2147483648 := by omega
  have d1 : d s < 2147483648 := by omega
  have c1 : c s < 2147483648 := by omega
  show G none 60 0 [.ref 9, .int (nI s), .int (nI k)] [] (mk ai al fi fl) 0 0 Q = _
  by_cases q1 : k < d s
  · have q2 : ¬ (d s ≤ k ∧ k < c s) := by omega
    simp only [g60_0, g60_1, g60_4, g60_5, g60_6, g60_7, g60_10, g60_11, g60_14, g60_15, g60_16, g60_17, g60_20, g60_21, g60_24, g60_25, ↓reduceIte, GV_s, GV_n, List.map_cons, List.map_nil, List.sum_cons, List.sum_nil, cat_i, cat_l, cat_r, Option.toList_some, Option.toList_none, List.cons_append, List.nil_append, true_and, and_true, Nat.reduceAdd, Nat.reduceLeDiff, Nat.zero_le, Nat.le_refl, Nat.add_zero, Nat.zero_add, va_up_self, va_up_ne, ne_eq, Nat.reduceEqDiff, not_false_eq_true, not_true_eq_false, if_true, if_false, false_and, and_false, or_true, true_or, false_or, or_false, fd_0_0, fd_0_1, fd_0_2, fd_0_3, fd_0_4, fd_0_5, fd_0_6, fd_0_7, pf_0_7, fd_0_8, pf_0_8, fd_0_9, pf_0_9, fd_0_10, pf_0_10, fd_1_0, fd_1_1, fd_1_2, aq_2, ar_3, as_3, ar_4, as_4, ar_5, as_5, ar_6, as_6, ar_7, as_7, ar_8, as_8, fd_9_0, fd_9_1, fd_9_2, fd_9_3, fd_9_4, fd_9_5, pf_9_5, ar_10, as_10, ar_11, as_11, ar_12, as_12, ar_13, as_13, ar_14, as_14, fd_15_0, fd_15_1, fd_15_2, fd_15_3, fd_15_4, pf_15_4, fd_15_5, pf_15_5, aq_16, ar_17, as_17, ar_18, as_18, ar_19, as_19, ar_20, as_20, ar_21, as_21, ar_22, as_22, ar_23, as_23, ar_24, as_24, ar_25, as_25, fd_26_0, fd_26_1, fd_26_2, fd_26_3, fd_26_4, fd_26_5, pf_26_5, aq_27, ar_28, as_28, ar_29, as_29, ar_30, as_30, ar_31, as_31, ar_32, as_32, ar_33, as_33, ar_34, as_34, ar_35, as_35, ar_36, as_36, ar_37, as_37, ar_38, as_38, ar_39, as_39, ar_40, as_40, ar_41, as_41, fd_42_0, fd_42_1, fd_42_2, fd_42_3, fd_42_4, fd_42_5, fd_42_6, fd_42_7, pf_42_7, fd_42_8, pf_42_8, fd_42_9, pf_42_9, fd_42_10, pf_42_10_0, pf_42_10_1, ar_43, as_43, ar_44, as_44, ar_45, as_45, ar_46, as_46, ar_47, as_47, ar_48, as_48, ar_49, as_49, fd_50_0, fd_50_1, fd_50_2, ar_51, as_51, ar_52, as_52, ar_53, as_53, ar_54, as_54, fd_55_0, pf_55_0, fd_55_1, pf_55_1, fd_55_2, pf_55_2, fd_55_3, pf_55_3, fd_55_4, fd_55_5, fd_55_6, fd_55_7, pf_55_7, fd_55_8, pf_55_8, fd_55_9, fd_55_10, fd_55_11, fd_55_12, fd_55_13, fd_55_14, fd_55_15, pf_55_15, fd_55_16, pf_55_16, fd_55_17, fd_55_18, fd_55_19, fd_55_20, fd_55_21, pf_55_21, fd_55_22, fd_55_23, fd_55_24, fd_55_25, fd_55_26, pf_55_26, fd_55_27, fd_55_28, fd_55_29, fd_55_30, fd_55_31, fd_55_32, fd_55_33, fd_55_34, fd_55_35, fd_55_36, pf_55_36, fd_55_37, fd_55_38, fd_55_39, fd_55_40, ar_56, as_56, ar_57, as_57, ar_58, as_58, ar_59, as_59, ar_60, as_60, ar_61, as_61, ar_62, as_62, ar_63, as_63, ar_64, as_64, ar_65, as_65, ar_66, as_66, ar_67, as_67, ar_68, as_68, ar_69, as_69, ar_70, as_70, ar_71, as_71, ar_72, as_72, ar_73, as_73, ar_74, as_74, ar_75, as_75, ar_76, as_76, ar_77, as_77, ar_78, as_78, ar_79, as_79, ar_80, as_80, ar_81, as_81, ar_82, as_82, ar_83, as_83, ar_84, as_84, ar_85, as_85, rc_1, rc_2, rc_3, rc_4, rc_5, rc_6, rc_7, rc_8, rc_9, rc_10, rc_11, rc_12, rc_13, rc_14, rc_15, rc_16, rc_17, rc_18, rc_20, rc_21, rc_22, rc_23, rc_24, rc_25, rc_26, rc_27, rc_28, rc_29, rc_30, rc_31, rc_32, rc_33, rc_35, rc_36, rc_37, rc_38, rc_39, rc_40, rc_41, rc_42, rc_43, rc_44, rc_45, rc_47, rc_48, rc_49, rc_50, rc_51, rc_53, rc_54, rc_55, rc_56, rc_57, rc_58, rc_59, rc_60, rc_62, rc_63, rc_64, rc_65, rc_66, rc_67, rc_68, rc_69, rc_71, rc_74, rc_75, rc_76, rc_77, rc_78, rc_79, rc_80, rc_81, rc_82, rc_83, rc_84, rc_85, rc_86, rc_87, rc_88, rc_89, rc_90, rc_91, rc_92, rc_93, rc_94, rc_95, rc_96, rc_97, rc_98, rc_99, rc_100, rc_101, rc_102, rc_103, rc_104, rc_105, rc_106, rc_111, rc_112, rc_113, rc_114, rc_115, rc_116, rc_117, rc_118, rc_119, rc_120, rc_121, rc_122, rc_123, rc_124, rc_125, rc_126, rc_127, rc_128, rc_130, rc_131, rc_132, rc_134, rc_135, rc_136, rc_137, rc_138, rc_139, rc_140, rc_142, rc_143, rc_144, rc_145, rc_146, rc_147, rc_148, rc_149, rc_150, rc_151, rc_152, rc_154, rc_155, rc_156, rc_157, rc_158, rc_159, rc_160, rc_161, rc_162, rc_163, rc_164, rc_165, rc_166, rc_167, rc_168, rc_169, rc_170, rc_171, rc_172, rc_173, rc_174, rc_175, rc_176, rc_177, rc_178, rc_179, rc_180, rc_181, rc_182, rc_183, rc_184, mW_11, mW_30, mW_32, mW_45, mW_58, mW_69, mW_147, mW_153, mW_154, mW_164, mW_173, mW_175, vIN s1, nCl s1, s2, e7, e9, kLT k1 d1, q1, q2]
  · by_cases q3 : c s ≤ k
    · have q2 : ¬ (d s ≤ k ∧ k < c s) := by omega
      simp only [g60_0, g60_1, g60_4, g60_5, g60_6, g60_7, g60_10, g60_11, g60_14, g60_15, g60_16, g60_17, g60_20, g60_21, g60_24, g60_25, ↓reduceIte, GV_s, GV_n, List.map_cons, List.map_nil, List.sum_cons, List.sum_nil, cat_i, cat_l, cat_r, Option.toList_some, Option.toList_none, List.cons_append, List.nil_append, true_and, and_true, Nat.reduceAdd, Nat.reduceLeDiff, Nat.zero_le, Nat.le_refl, Nat.add_zero, Nat.zero_add, va_up_self, va_up_ne, ne_eq, Nat.reduceEqDiff, not_false_eq_true, not_true_eq_false, if_true, if_false, false_and, and_false, or_true, true_or, false_or, or_false, fd_0_0, fd_0_1, fd_0_2, fd_0_3, fd_0_4, fd_0_5, fd_0_6, fd_0_7, pf_0_7, fd_0_8, pf_0_8, fd_0_9, pf_0_9, fd_0_10, pf_0_10, fd_1_0, fd_1_1, fd_1_2, aq_2, ar_3, as_3, ar_4, as_4, ar_5, as_5, ar_6, as_6, ar_7, as_7, ar_8, as_8, fd_9_0, fd_9_1, fd_9_2, fd_9_3, fd_9_4, fd_9_5, pf_9_5, ar_10, as_10, ar_11, as_11, ar_12, as_12, ar_13, as_13, ar_14, as_14, fd_15_0, fd_15_1, fd_15_2, fd_15_3, fd_15_4, pf_15_4, fd_15_5, pf_15_5, aq_16, ar_17, as_17, ar_18, as_18, ar_19, as_19, ar_20, as_20, ar_21, as_21, ar_22, as_22, ar_23, as_23, ar_24, as_24, ar_25, as_25, fd_26_0, fd_26_1, fd_26_2, fd_26_3, fd_26_4, fd_26_5, pf_26_5, aq_27, ar_28, as_28, ar_29, as_29, ar_30, as_30, ar_31, as_31, ar_32, as_32, ar_33, as_33, ar_34, as_34, ar_35, as_35, ar_36, as_36, ar_37, as_37, ar_38, as_38, ar_39, as_39, ar_40, as_40, ar_41, as_41, fd_42_0, fd_42_1, fd_42_2, fd_42_3, fd_42_4, fd_42_5, fd_42_6, fd_42_7, pf_42_7, fd_42_8, pf_42_8, fd_42_9, pf_42_9, fd_42_10, pf_42_10_0, pf_42_10_1, ar_43, as_43, ar_44, as_44, ar_45, as_45, ar_46, as_46, ar_47, as_47, ar_48, as_48, ar_49, as_49, fd_50_0, fd_50_1, fd_50_2, ar_51, as_51, ar_52, as_52, ar_53, as_53, ar_54, as_54, fd_55_0, pf_55_0, fd_55_1, pf_55_1, fd_55_2, pf_55_2, fd_55_3, pf_55_3, fd_55_4, fd_55_5, fd_55_6, fd_55_7, pf_55_7, fd_55_8, pf_55_8, fd_55_9, fd_55_10, fd_55_11, fd_55_12, fd_55_13, fd_55_14, fd_55_15, pf_55_15, fd_55_16, pf_55_16, fd_55_17, fd_55_18, fd_55_19, fd_55_20, fd_55_21, pf_55_21, fd_55_22, fd_55_23, fd_55_24, fd_55_25, fd_55_26, pf_55_26, fd_55_27, fd_55_28, fd_55_29, fd_55_30, fd_55_31, fd_55_32, fd_55_33, fd_55_34, fd_55_35, fd_55_36, pf_55_36, fd_55_37, fd_55_38, fd_55_39, fd_55_40, ar_56, as_56, ar_57, as_57, ar_58, as_58, ar_59, as_59, ar_60, as_60, ar_61, as_61, ar_62, as_62, ar_63, as_63, ar_64, as_64, ar_65, as_65, ar_66, as_66, ar_67, as_67, ar_68, as_68, ar_69, as_69, ar_70, as_70, ar_71, as_71, ar_72, as_72, ar_73, as_73, ar_74, as_74, ar_75, as_75, ar_76, as_76, ar_77, as_77, ar_78, as_78, ar_79, as_79, ar_80, as_80, ar_81, as_81, ar_82, as_82, ar_83, as_83, ar_84, as_84, ar_85, as_85, rc_1, rc_2, rc_3, rc_4, rc_5, rc_6, rc_7, rc_8, rc_9, rc_10, rc_11, rc_12, rc_13, rc_14, rc_15, rc_16, rc_17, rc_18, rc_20, rc_21, rc_22, rc_23, rc_24, rc_25, rc_26, rc_27, rc_28, rc_29, rc_30, rc_31, rc_32, rc_33, rc_35, rc_36, rc_37, rc_38, rc_39, rc_40, rc_41, rc_42, rc_43, rc_44, rc_45, rc_47, rc_48, rc_49, rc_50, rc_51, rc_53, rc_54, rc_55, rc_56, rc_57, rc_58, rc_59, rc_60, rc_62, rc_63, rc_64, rc_65, rc_66, rc_67, rc_68, rc_69, rc_71, rc_74, rc_75, rc_76, rc_77, rc_78, rc_79, rc_80, rc_81, rc_82, rc_83, rc_84, rc_85, rc_86, rc_87, rc_88, rc_89, rc_90, rc_91, rc_92, rc_93, rc_94, rc_95, rc_96, rc_97, rc_98, rc_99, rc_100, rc_101, rc_102, rc_103, rc_104, rc_105, rc_106, rc_111, rc_112, rc_113, rc_114, rc_115, rc_116, rc_117, rc_118, rc_119, rc_120, rc_121, rc_122, rc_123, rc_124, rc_125, rc_126, rc_127, rc_128, rc_130, rc_131, rc_132, rc_134, rc_135, rc_136, rc_137, rc_138, rc_139, rc_140, rc_142, rc_143, rc_144, rc_145, rc_146, rc_147, rc_148, rc_149, rc_150, rc_151, rc_152, rc_154, rc_155, rc_156, rc_157, rc_158, rc_159, rc_160, rc_161, rc_162, rc_163, rc_164, rc_165, rc_166, rc_167, rc_168, rc_169, rc_170, rc_171, rc_172, rc_173, rc_174, rc_175, rc_176, rc_177, rc_178, rc_179, rc_180, rc_181, rc_182, rc_183, rc_184, mW_11, mW_30, mW_32, mW_45, mW_58, mW_69, mW_147, mW_153, mW_154, mW_164, mW_173, mW_175, vIN s1, nCl s1, s2, e7, e9, kLT k1 d1, q1, kLE c1 k1, q3, q2]
    · have q2 : d s ≤ k ∧ k < c s := by omega
      simp only [g60_0, g60_1, g60_4, g60_5, g60_6, g60_7, g60_10, g60_11, g60_14, g60_15, g60_16, g60_17, g60_20, g60_21, g60_24, g60_25, ↓reduceIte, GV_s, GV_n, List.map_cons, List.map_nil, List.sum_cons, List.sum_nil, cat_i, cat_l, cat_r, Option.toList_some, Option.toList_none, List.cons_append, List.nil_append, true_and, and_true, Nat.reduceAdd, Nat.reduceLeDiff, Nat.zero_le, Nat.le_refl, Nat.add_zero, Nat.zero_add, va_up_self, va_up_ne, ne_eq, Nat.reduceEqDiff, not_false_eq_true, not_true_eq_false, if_true, if_false, false_and, and_false, or_true, true_or, false_or, or_false, fd_0_0, fd_0_1, fd_0_2, fd_0_3, fd_0_4, fd_0_5, fd_0_6, fd_0_7, pf_0_7, fd_0_8, pf_0_8, fd_0_9, pf_0_9, fd_0_10, pf_0_10, fd_1_0, fd_1_1, fd_1_2, aq_2, ar_3, as_3, ar_4, as_4, ar_5, as_5, ar_6, as_6, ar_7, as_7, ar_8, as_8, fd_9_0, fd_9_1, fd_9_2, fd_9_3, fd_9_4, fd_9_5, pf_9_5, ar_10, as_10, ar_11, as_11, ar_12, as_12, ar_13, as_13, ar_14, as_14, fd_15_0, fd_15_1, fd_15_2, fd_15_3, fd_15_4, pf_15_4, fd_15_5, pf_15_5, aq_16, ar_17, as_17, ar_18, as_18, ar_19, as_19, ar_20, as_20, ar_21, as_21, ar_22, as_22, ar_23, as_23, ar_24, as_24, ar_25, as_25, fd_26_0, fd_26_1, fd_26_2, fd_26_3, fd_26_4, fd_26_5, pf_26_5, aq_27, ar_28, as_28, ar_29, as_29, ar_30, as_30, ar_31, as_31, ar_32, as_32, ar_33, as_33, ar_34, as_34, ar_35, as_35, ar_36, as_36, ar_37, as_37, ar_38, as_38, ar_39, as_39, ar_40, as_40, ar_41, as_41, fd_42_0, fd_42_1, fd_42_2, fd_42_3, fd_42_4, fd_42_5, fd_42_6, fd_42_7, pf_42_7, fd_42_8, pf_42_8, fd_42_9, pf_42_9, fd_42_10, pf_42_10_0, pf_42_10_1, ar_43, as_43, ar_44, as_44, ar_45, as_45, ar_46, as_46, ar_47, as_47, ar_48, as_48, ar_49, as_49, fd_50_0, fd_50_1, fd_50_2, ar_51, as_51, ar_52, as_52, ar_53, as_53, ar_54, as_54, fd_55_0, pf_55_0, fd_55_1, pf_55_1, fd_55_2, pf_55_2, fd_55_3, pf_55_3, fd_55_4, fd_55_5, fd_55_6, fd_55_7, pf_55_7, fd_55_8, pf_55_8, fd_55_9, fd_55_10, fd_55_11, fd_55_12, fd_55_13, fd_55_14, fd_55_15, pf_55_15, fd_55_16, pf_55_16, fd_55_17, fd_55_18, fd_55_19, fd_55_20, fd_55_21, pf_55_21, fd_55_22, fd_55_23, fd_55_24, fd_55_25, fd_55_26, pf_55_26, fd_55_27, fd_55_28, fd_55_29, fd_55_30, fd_55_31, fd_55_32, fd_55_33, fd_55_34, fd_55_35, fd_55_36, pf_55_36, fd_55_37, fd_55_38, fd_55_39, fd_55_40, ar_56, as_56, ar_57, as_57, ar_58, as_58, ar_59, as_59, ar_60, as_60, ar_61, as_61, ar_62, as_62, ar_63, as_63, ar_64, as_64, ar_65, as_65, ar_66, as_66, ar_67, as_67, ar_68, as_68, ar_69, as_69, ar_70, as_70, ar_71, as_71, ar_72, as_72, ar_73, as_73, ar_74, as_74, ar_75, as_75, ar_76, as_76, ar_77, as_77, ar_78, as_78, ar_79, as_79, ar_80, as_80, ar_81, as_81, ar_82, as_82, ar_83, as_83, ar_84, as_84, ar_85, as_85, rc_1, rc_2, rc_3, rc_4, rc_5, rc_6, rc_7, rc_8, rc_9, rc_10, rc_11, rc_12, rc_13, rc_14, rc_15, rc_16, rc_17, rc_18, rc_20, rc_21, rc_22, rc_23, rc_24, rc_25, rc_26, rc_27, rc_28, rc_29, rc_30, rc_31, rc_32, rc_33, rc_35, rc_36, rc_37, rc_38, rc_39, rc_40, rc_41, rc_42, rc_43, rc_44, rc_45, rc_47, rc_48, rc_49, rc_50, rc_51, rc_53, rc_54, rc_55, rc_56, rc_57, rc_58, rc_59, rc_60, rc_62, rc_63, rc_64, rc_65, rc_66, rc_67, rc_68, rc_69, rc_71, rc_74, rc_75, rc_76, rc_77, rc_78, rc_79, rc_80, rc_81, rc_82, rc_83, rc_84, rc_85, rc_86, rc_87, rc_88, rc_89, rc_90, rc_91, rc_92, rc_93, rc_94, rc_95, rc_96, rc_97, rc_98, rc_99, rc_100, rc_101, rc_102, rc_103, rc_104, rc_105, rc_106, rc_111, rc_112, rc_113, rc_114, rc_115, rc_116, rc_117, rc_118, rc_119, rc_120, rc_121, rc_122, rc_123, rc_124, rc_125, rc_126, rc_127, rc_128, rc_130, rc_131, rc_132, rc_134, rc_135, rc_136, rc_137, rc_138, rc_139, rc_140, rc_142, rc_143, rc_144, rc_145, rc_146, rc_147, rc_148, rc_149, rc_150, rc_151, rc_152, rc_154, rc_155, rc_156, rc_157, rc_158, rc_159, rc_160, rc_161, rc_162, rc_163, rc_164, rc_165, rc_166, rc_167, rc_168, rc_169, rc_170, rc_171, rc_172, rc_173, rc_174, rc_175, rc_176, rc_177, rc_178, rc_179, rc_180, rc_181, rc_182, rc_183, rc_184, mW_11, mW_30, mW_32, mW_45, mW_58, mW_69, mW_147, mW_153, mW_154, mW_164, mW_173, mW_175, vIN s1, nCl s1, s2, e7, e9, kLT k1 d1, q1, kLE c1 k1, q3, q2.1, q2.2]
end
