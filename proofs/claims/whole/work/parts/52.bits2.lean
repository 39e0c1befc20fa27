/-! bits: counted, the lowest -/
def bc1 (x : Int32) : Int32 := x - ((x.toUInt32 >>> (Int32.toUInt32 1 &&& Int32.toUInt32 31)).toInt32 &&& 1431655765)
def bc2 (x : Int32) : Int32 := (x &&& 858993459) + ((x.toUInt32 >>> (Int32.toUInt32 2 &&& Int32.toUInt32 31)).toInt32 &&& 858993459)
def bc3 (x : Int32) : Int32 := (x + (x.toUInt32 >>> (Int32.toUInt32 4 &&& Int32.toUInt32 31)).toInt32) &&& 252645135
def bc4 (x : Int32) : Int32 := x + (x.toUInt32 >>> (Int32.toUInt32 8 &&& Int32.toUInt32 31)).toInt32
def bc5 (x : Int32) : Int32 := x + (x.toUInt32 >>> (Int32.toUInt32 16 &&& Int32.toUInt32 31)).toInt32
def bcF (x : Int32) : Int32 := bc5 (bc4 (bc3 (bc2 (bc1 x)))) &&& 63
def tz1 (n i : Int32) : Int32 := n + (i.toUInt32 >>> (Int32.toUInt32 1 &&& Int32.toUInt32 31)).toInt32
def tz2 (n i : Int32) : Int32 := if i ≤ 4 then tz1 n i else tz1 (n + 2) (i.toUInt32 >>> (Int32.toUInt32 2 &&& Int32.toUInt32 31)).toInt32
def tz4 (n i : Int32) : Int32 := if i ≤ 16 then tz2 n i else tz2 (n + 4) (i.toUInt32 >>> (Int32.toUInt32 4 &&& Int32.toUInt32 31)).toInt32
def tz8 (n i : Int32) : Int32 := if i ≤ 256 then tz4 n i else tz4 (n + 8) (i.toUInt32 >>> (Int32.toUInt32 8 &&& Int32.toUInt32 31)).toInt32
def tz16 (n i : Int32) : Int32 := if i ≤ 65536 then tz8 n i else tz8 (n + 16) (i.toUInt32 >>> (Int32.toUInt32 16 &&& Int32.toUInt32 31)).toInt32
def tzF (x : Int32) : Int32 := if 0 < ((x ^^^ -1) &&& (x - 1)) then tz16 1 ((x ^^^ -1) &&& (x - 1)) else ((x ^^^ -1) &&& (x - 1)) &&& 32
section
variable {σ : xSt} {Q : Option Value → xSt → Prop} {ai : Nat → Nat → Int32} {al : Nat → Nat → Int64} {fi : Nat → Nat → Int32} {fl : Nat → Nat → Int64}
theorem c186 {x : Int32} : GM 186 [.int x] σ Q = Q (some (.int (bcF x))) σ := by
  show G none 186 0 [.int x] [] σ 0 0 Q = _
  simp only [g186_0, g186_1, g186_2, g186_3, g186_4, g186_7, g186_8, g186_9, g186_10, g186_11, g186_14, g186_15, g186_16, g186_17, g186_18, g186_21, g186_22, g186_23, g186_24, g186_25, g186_26, g186_27, g186_28, g186_29, g186_32, g186_33, g186_34, g186_35, g186_36, g186_38, g186_39, g186_40, g186_41, g186_42, g186_43, g186_45, g186_46, g186_47, g186_48, g186_49, g186_51, g186_52, ↓reduceIte, GV_s, GV_n, List.map_cons, List.map_nil, List.sum_cons, List.sum_nil, cat_i, cat_l, cat_r, Option.toList_some, Option.toList_none, List.cons_append, List.nil_append, true_and, and_true, Nat.reduceAdd, Nat.reduceLeDiff, Nat.zero_le, Nat.le_refl, Nat.add_zero, Nat.zero_add, va_up_self, va_up_ne, ne_eq, Nat.reduceEqDiff, not_false_eq_true, not_true_eq_false, if_true, if_false, false_and, and_false, or_true, true_or, false_or, or_false]
  rfl
theorem c185 {x : Int32} : GM 185 [.int x] σ Q = Q (some (.int (tzF x))) σ := by
  show G none 185 0 [.int x, .null] [] σ 0 0 Q = _
  simp only [g185_0, g185_1, g185_2, g185_3, g185_4, g185_5, g185_6, g185_7, g185_8, g185_9, g185_12, g185_13, g185_15, g185_16, g185_17, g185_18, g185_19, g185_20, g185_23, g185_26, g185_29, g185_30, g185_32, g185_33, g185_34, g185_35, g185_38, g185_41, g185_44, g185_45, g185_47, g185_48, g185_49, g185_50, g185_52, g185_55, g185_58, g185_59, g185_60, g185_61, g185_62, g185_63, g185_64, g185_67, g185_70, g185_71, g185_72, g185_73, g185_74, g185_75, g185_76, g185_77, g185_78, g185_79, ↓reduceIte, GV_s, GV_n, List.map_cons, List.map_nil, List.sum_cons, List.sum_nil, cat_i, cat_l, cat_r, Option.toList_some, Option.toList_none, List.cons_append, List.nil_append, true_and, and_true, Nat.reduceAdd, Nat.reduceLeDiff, Nat.zero_le, Nat.le_refl, Nat.add_zero, Nat.zero_add, va_up_self, va_up_ne, ne_eq, Nat.reduceEqDiff, not_false_eq_true, not_true_eq_false, if_true, if_false, false_and, and_false, or_true, true_or, false_or, or_false]
  unfold tzF tz16 tz8 tz4 tz2 tz1
  repeat' split
  all_goals first | rfl | contradiction
/-- bits of a set -/
def cB (s n : Nat) : Nat := fb_ct (fun i => s.testBit i) n
theorem bc_ok : ∀ s, s < 1024 → bcF (nI s) = nI (cB s 10) := by decide +kernel
theorem tz_ok : ∀ s, s < 1024 → ¬ s = 0 → tzF (nI s) = nI (fa_first (fun i => s.testBit i) 10) ∧ fa_first (fun i => s.testBit i) 10 < 10 := by decide +kernel
theorem sh1 : ∀ p, p < 31 → (1 : Int32) <<< (nI p &&& 31) = nI (2 ^ p) := by decide +kernel
theorem bit_c {s p : Nat} (hp : p < 31) : (nI s &&& ((1 : Int32) <<< (nI p &&& 31)) = 0) = (s.testBit p = false) := by
  rw [sh1 p hp]
  exact propext (fa_bit hp)
theorem bit_m {s p : Nat} (hs : s < 2 ^ 31) (hp : p < 31) : ((nI s >>> (nI p &&& 31)) &&& 1 = 0) = (s.testBit p = false) := by
  rw [pk_shrN hs _ p (s_l p (by omega))]
  have e : nI (s / 2 ^ p) &&& (1 : Int32) = nI (s / 2 ^ p % 2) := fa_mask (s / 2 ^ p) 1
  rw [e, nEQ_0 (by omega), Nat.testBit_eq_decide_div_mod_eq]
  apply propext
  rw [decide_eq_false_iff_not]
  omega
theorem sub_le0 {r c : Nat} (hr : r < 1000000000) (hc : c < 1000000000) : (nI r - nI c ≤ 0) = (r ≤ c) := by
  apply propext
  have h0 : (0 : Int32).toInt = 0 := by decide
  rw [fa_le, fb_subI (by rw [nI_toInt (by omega), nI_toInt (by omega)]; omega) (by rw [nI_toInt (by omega), nI_toInt (by omega)]; omega), nI_toInt (by omega), nI_toInt (by omega), h0]
  omega
theorem sub_dec {r c : Nat} (hr : r < 1000000000) (hc : c < 1000000000) : nI r - nI c + (-1) = nI r - nI (c + 1) := by
  have hm : (-1 : Int32).toInt = -1 := by decide
  have e1 : (nI r - nI c).toInt = (r : Int) - c := by
    rw [fb_subI (by rw [nI_toInt (by omega), nI_toInt (by omega)]; omega) (by rw [nI_toInt (by omega), nI_toInt (by omega)]; omega), nI_toInt (by omega), nI_toInt (by omega)]
  have e2 : (nI r - nI (c + 1)).toInt = (r : Int) - (c + 1 : Nat) := by
    rw [fb_subI (by rw [nI_toInt (by omega), nI_toInt (by omega)]; omega) (by rw [nI_toInt (by omega), nI_toInt (by omega)]; omega), nI_toInt (by omega), nI_toInt (by omega)]
  rw [fa_eq, fb_addI (by rw [e1, hm]; omega) (by rw [e1, hm]; omega), e1, e2, hm]
  omega
theorem cB_lt {s n : Nat} : cB s n ≤ n := fb_ct_le _ _
theorem cB_pos {s : Nat} (h0 : ¬ s = 0) (h : s < 1024) : 0 < cB s 10 := by
  have := (tz_ok s h h0).2
  exact fb_ct_pos.mpr ⟨_, this, fa_first_yes _ _ this⟩
theorem cB_s {s i : Nat} : cB s (i + 1) = cB s i + (if s.testBit i then 1 else 0) := rfl
end
