/-! numbers: ints that are small naturals, beside literals -/
theorem nLT {t n : Nat} (ht : t < 2147483648) (hn : (OfNat.ofNat n : Nat) < 2147483648) : (nI t < (OfNat.ofNat n : Int32)) = (t < (OfNat.ofNat n : Nat)) := by rw [fa_lit]; exact propext (nI_ltI ht hn)
theorem nLE {t n : Nat} (ht : t < 2147483648) (hn : (OfNat.ofNat n : Nat) < 2147483648) : (nI t ≤ (OfNat.ofNat n : Int32)) = (t ≤ (OfNat.ofNat n : Nat)) := by rw [fa_lit]; exact propext (nI_leI ht hn)
theorem nGT {t n : Nat} (ht : t < 2147483648) (hn : (OfNat.ofNat n : Nat) < 2147483648) : ((OfNat.ofNat n : Int32) < nI t) = ((OfNat.ofNat n : Nat) < t) := by rw [fa_lit]; exact propext (nI_ltI hn ht)
theorem nGE {t n : Nat} (ht : t < 2147483648) (hn : (OfNat.ofNat n : Nat) < 2147483648) : ((OfNat.ofNat n : Int32) ≤ nI t) = ((OfNat.ofNat n : Nat) ≤ t) := by rw [fa_lit]; exact propext (nI_leI hn ht)
theorem nEQ {t n : Nat} (ht : t < 2147483648) (hn : (OfNat.ofNat n : Nat) < 2147483648) : (nI t = (OfNat.ofNat n : Int32)) = (t = (OfNat.ofNat n : Nat)) := by rw [fa_lit]; exact propext (nI_eq ht hn)
theorem kLT {a b : Nat} (ha : a < 2147483648) (hb : b < 2147483648) : (nI a < nI b) = (a < b) := propext (nI_ltI ha hb)
theorem kLE {a b : Nat} (ha : a < 2147483648) (hb : b < 2147483648) : (nI a ≤ nI b) = (a ≤ b) := propext (nI_leI ha hb)
theorem kEQ {a b : Nat} (ha : a < 2147483648) (hb : b < 2147483648) : (nI a = nI b) = (a = b) := propext (nI_eq ha hb)
theorem nM1 {t : Nat} (ht : t < 2147483648) : (nI t = -1) = False := by
  apply eq_false
  intro h
  have h1 := congrArg Int32.toInt h
  rw [nI_toInt ht] at h1
  have h2 : (-1 : Int32).toInt = -1 := by decide
  rw [h2] at h1
  omega
theorem vIN {t n : Nat} (ht : t < 2147483648) : vp_in (nI t) n = (t < n) := by
  apply propext
  rw [vp_in_iff, nI_toInt ht]
  omega
theorem nCl {t : Nat} (ht : t < 2147483648) : (nI t).toNatClampNeg = t := nI_clamp ht
theorem nAd {a n : Nat} : nI a + (OfNat.ofNat n : Int32) = nI (a + (OfNat.ofNat n : Nat)) := by rw [fa_lit]; exact nI_add a n
theorem nMu {a n : Nat} : (OfNat.ofNat n : Int32) * nI a = nI ((OfNat.ofNat n : Nat) * a) := by rw [fa_lit]; exact pk_mul n a
theorem nSu {a n : Nat} (h : (OfNat.ofNat n : Nat) ≤ a) : nI a - (OfNat.ofNat n : Int32) = nI (a - (OfNat.ofNat n : Nat)) := by rw [fa_lit]; exact pk_sub h
theorem ixL (a M : Int32) (n : Nat) (hM : M = nI n) (hn : n < 2147483648) : a < 0 ∨ M ≤ a ∨ ∃ j : Nat, j < n ∧ a = nI j := by rw [hM]; exact pk_ix a hn
theorem nI_lit {n : Nat} : nI n = (OfNat.ofNat n : Int32) := rfl
theorem upA {f : Nat → Int32} {k : Nat} {x : Int32} : upd f k x k = x := pk_us
theorem bz (p : Prop) [Decidable p] : (if p then (1 : Int32) else 0) = 0 ∨ (if p then (1 : Int32) else 0) = 1 := by split <;> simp
/-- a loop that goes up -/
def itr {α : Type} (f : Nat → α → α) : Nat → Nat → α → α
  | 0, _, a => a
  | k + 1, i, a => itr f k (i + 1) (f i a)
theorem itr_last {α : Type} (f : Nat → α → α) : ∀ (k i : Nat) (a : α), itr f (k + 1) i a = f (i + k) (itr f k i a)
  | 0, i, a => rfl
  | k + 1, i, a => by
    rw [itr, itr_last f k (i + 1) (f i a), itr]
    congr 1
    omega
theorem itr_inv {α : Type} {f : Nat → α → α} (I : Nat → α → Prop) : ∀ {k i : Nat} {a : α}, I i a → (∀ j b, i ≤ j → j < i + k → I j b → I (j + 1) (f j b)) → I (i + k) (itr f k i a)
  | 0, i, a, h, _ => h
  | k + 1, i, a, h, hs => by
    have h1 := itr_inv I (f := f) (k := k) (i := i + 1) (a := f i a) (hs i a (Nat.le_refl _) (by omega) h) (fun j b h1 h2 h3 => hs j b (by omega) (by omega) h3)
    rw [show i + (k + 1) = i + 1 + k by omega]
    exact h1
/-! the same at the literals that are used (simp sees literals, not patterns) -/
theorem nLT_0 {t : Nat} (ht : t < 2147483648) : (nI t < 0) = (t < 0) := nLT ht (by decide)
theorem nLE_0 {t : Nat} (ht : t < 2147483648) : (nI t ≤ 0) = (t ≤ 0) := nLE ht (by decide)
theorem nGT_0 {t : Nat} (ht : t < 2147483648) : (0 < nI t) = (0 < t) := nGT ht (by decide)
theorem nGE_0 {t : Nat} (ht : t < 2147483648) : (0 ≤ nI t) = (0 ≤ t) := nGE ht (by decide)
theorem nEQ_0 {t : Nat} (ht : t < 2147483648) : (nI t = 0) = (t = 0) := nEQ ht (by decide)
theorem nLT_1 {t : Nat} (ht : t < 2147483648) : (nI t < 1) = (t < 1) := nLT ht (by decide)
theorem nLE_1 {t : Nat} (ht : t < 2147483648) : (nI t ≤ 1) = (t ≤ 1) := nLE ht (by decide)
theorem nGT_1 {t : Nat} (ht : t < 2147483648) : (1 < nI t) = (1 < t) := nGT ht (by decide)
theorem nGE_1 {t : Nat} (ht : t < 2147483648) : (1 ≤ nI t) = (1 ≤ t) := nGE ht (by decide)
theorem nEQ_1 {t : Nat} (ht : t < 2147483648) : (nI t = 1) = (t = 1) := nEQ ht (by decide)
theorem nLT_2 {t : Nat} (ht : t < 2147483648) : (nI t < 2) = (t < 2) := nLT ht (by decide)
theorem nLE_2 {t : Nat} (ht : t < 2147483648) : (nI t ≤ 2) = (t ≤ 2) := nLE ht (by decide)
theorem nGT_2 {t : Nat} (ht : t < 2147483648) : (2 < nI t) = (2 < t) := nGT ht (by decide)
theorem nGE_2 {t : Nat} (ht : t < 2147483648) : (2 ≤ nI t) = (2 ≤ t) := nGE ht (by decide)
theorem nEQ_2 {t : Nat} (ht : t < 2147483648) : (nI t = 2) = (t = 2) := nEQ ht (by decide)
theorem nLT_3 {t : Nat} (ht : t < 2147483648) : (nI t < 3) = (t < 3) := nLT ht (by decide)
theorem nLE_3 {t : Nat} (ht : t < 2147483648) : (nI t ≤ 3) = (t ≤ 3) := nLE ht (by decide)
theorem nGT_3 {t : Nat} (ht : t < 2147483648) : (3 < nI t) = (3 < t) := nGT ht (by decide)
theorem nGE_3 {t : Nat} (ht : t < 2147483648) : (3 ≤ nI t) = (3 ≤ t) := nGE ht (by decide)
theorem nEQ_3 {t : Nat} (ht : t < 2147483648) : (nI t = 3) = (t = 3) := nEQ ht (by decide)
theorem nLT_4 {t : Nat} (ht : t < 2147483648) : (nI t < 4) = (t < 4) := nLT ht (by decide)
theorem nLE_4 {t : Nat} (ht : t < 2147483648) : (nI t ≤ 4) = (t ≤ 4) := nLE ht (by decide)
theorem nGT_4 {t : Nat} (ht : t < 2147483648) : (4 < nI t) = (4 < t) := nGT ht (by decide)
theorem nGE_4 {t : Nat} (ht : t < 2147483648) : (4 ≤ nI t) = (4 ≤ t) := nGE ht (by decide)
theorem nEQ_4 {t : Nat} (ht : t < 2147483648) : (nI t = 4) = (t = 4) := nEQ ht (by decide)
theorem nLT_5 {t : Nat} (ht : t < 2147483648) : (nI t < 5) = (t < 5) := nLT ht (by decide)
theorem nLE_5 {t : Nat} (ht : t < 2147483648) : (nI t ≤ 5) = (t ≤ 5) := nLE ht (by decide)
theorem nGT_5 {t : Nat} (ht : t < 2147483648) : (5 < nI t) = (5 < t) := nGT ht (by decide)
theorem nGE_5 {t : Nat} (ht : t < 2147483648) : (5 ≤ nI t) = (5 ≤ t) := nGE ht (by decide)
theorem nEQ_5 {t : Nat} (ht : t < 2147483648) : (nI t = 5) = (t = 5) := nEQ ht (by decide)
theorem nLT_6 {t : Nat} (ht : t < 2147483648) : (nI t < 6) = (t < 6) := nLT ht (by decide)
theorem nLE_6 {t : Nat} (ht : t < 2147483648) : (nI t ≤ 6) = (t ≤ 6) := nLE ht (by decide)
theorem nGT_6 {t : Nat} (ht : t < 2147483648) : (6 < nI t) = (6 < t) := nGT ht (by decide)
theorem nGE_6 {t : Nat} (ht : t < 2147483648) : (6 ≤ nI t) = (6 ≤ t) := nGE ht (by decide)
theorem nEQ_6 {t : Nat} (ht : t < 2147483648) : (nI t = 6) = (t = 6) := nEQ ht (by decide)
theorem nLT_7 {t : Nat} (ht : t < 2147483648) : (nI t < 7) = (t < 7) := nLT ht (by decide)
theorem nLE_7 {t : Nat} (ht : t < 2147483648) : (nI t ≤ 7) = (t ≤ 7) := nLE ht (by decide)
theorem nGT_7 {t : Nat} (ht : t < 2147483648) : (7 < nI t) = (7 < t) := nGT ht (by decide)
theorem nGE_7 {t : Nat} (ht : t < 2147483648) : (7 ≤ nI t) = (7 ≤ t) := nGE ht (by decide)
theorem nEQ_7 {t : Nat} (ht : t < 2147483648) : (nI t = 7) = (t = 7) := nEQ ht (by decide)
theorem nLT_8 {t : Nat} (ht : t < 2147483648) : (nI t < 8) = (t < 8) := nLT ht (by decide)
theorem nLE_8 {t : Nat} (ht : t < 2147483648) : (nI t ≤ 8) = (t ≤ 8) := nLE ht (by decide)
theorem nGT_8 {t : Nat} (ht : t < 2147483648) : (8 < nI t) = (8 < t) := nGT ht (by decide)
theorem nGE_8 {t : Nat} (ht : t < 2147483648) : (8 ≤ nI t) = (8 ≤ t) := nGE ht (by decide)
theorem nEQ_8 {t : Nat} (ht : t < 2147483648) : (nI t = 8) = (t = 8) := nEQ ht (by decide)
theorem nLT_9 {t : Nat} (ht : t < 2147483648) : (nI t < 9) = (t < 9) := nLT ht (by decide)
theorem nLE_9 {t : Nat} (ht : t < 2147483648) : (nI t ≤ 9) = (t ≤ 9) := nLE ht (by decide)
theorem nGT_9 {t : Nat} (ht : t < 2147483648) : (9 < nI t) = (9 < t) := nGT ht (by decide)
theorem nGE_9 {t : Nat} (ht : t < 2147483648) : (9 ≤ nI t) = (9 ≤ t) := nGE ht (by decide)
theorem nEQ_9 {t : Nat} (ht : t < 2147483648) : (nI t = 9) = (t = 9) := nEQ ht (by decide)
theorem nLT_10 {t : Nat} (ht : t < 2147483648) : (nI t < 10) = (t < 10) := nLT ht (by decide)
theorem nLE_10 {t : Nat} (ht : t < 2147483648) : (nI t ≤ 10) = (t ≤ 10) := nLE ht (by decide)
theorem nGT_10 {t : Nat} (ht : t < 2147483648) : (10 < nI t) = (10 < t) := nGT ht (by decide)
theorem nGE_10 {t : Nat} (ht : t < 2147483648) : (10 ≤ nI t) = (10 ≤ t) := nGE ht (by decide)
theorem nEQ_10 {t : Nat} (ht : t < 2147483648) : (nI t = 10) = (t = 10) := nEQ ht (by decide)
theorem nLT_11 {t : Nat} (ht : t < 2147483648) : (nI t < 11) = (t < 11) := nLT ht (by decide)
theorem nLE_11 {t : Nat} (ht : t < 2147483648) : (nI t ≤ 11) = (t ≤ 11) := nLE ht (by decide)
theorem nGT_11 {t : Nat} (ht : t < 2147483648) : (11 < nI t) = (11 < t) := nGT ht (by decide)
theorem nGE_11 {t : Nat} (ht : t < 2147483648) : (11 ≤ nI t) = (11 ≤ t) := nGE ht (by decide)
theorem nEQ_11 {t : Nat} (ht : t < 2147483648) : (nI t = 11) = (t = 11) := nEQ ht (by decide)
theorem nLT_24 {t : Nat} (ht : t < 2147483648) : (nI t < 24) = (t < 24) := nLT ht (by decide)
theorem nLE_24 {t : Nat} (ht : t < 2147483648) : (nI t ≤ 24) = (t ≤ 24) := nLE ht (by decide)
theorem nGT_24 {t : Nat} (ht : t < 2147483648) : (24 < nI t) = (24 < t) := nGT ht (by decide)
theorem nGE_24 {t : Nat} (ht : t < 2147483648) : (24 ≤ nI t) = (24 ≤ t) := nGE ht (by decide)
theorem nEQ_24 {t : Nat} (ht : t < 2147483648) : (nI t = 24) = (t = 24) := nEQ ht (by decide)
theorem nLT_25 {t : Nat} (ht : t < 2147483648) : (nI t < 25) = (t < 25) := nLT ht (by decide)
theorem nLE_25 {t : Nat} (ht : t < 2147483648) : (nI t ≤ 25) = (t ≤ 25) := nLE ht (by decide)
theorem nGT_25 {t : Nat} (ht : t < 2147483648) : (25 < nI t) = (25 < t) := nGT ht (by decide)
theorem nGE_25 {t : Nat} (ht : t < 2147483648) : (25 ≤ nI t) = (25 ≤ t) := nGE ht (by decide)
theorem nEQ_25 {t : Nat} (ht : t < 2147483648) : (nI t = 25) = (t = 25) := nEQ ht (by decide)
theorem nLT_36 {t : Nat} (ht : t < 2147483648) : (nI t < 36) = (t < 36) := nLT ht (by decide)
theorem nLE_36 {t : Nat} (ht : t < 2147483648) : (nI t ≤ 36) = (t ≤ 36) := nLE ht (by decide)
theorem nGT_36 {t : Nat} (ht : t < 2147483648) : (36 < nI t) = (36 < t) := nGT ht (by decide)
theorem nGE_36 {t : Nat} (ht : t < 2147483648) : (36 ≤ nI t) = (36 ≤ t) := nGE ht (by decide)
theorem nEQ_36 {t : Nat} (ht : t < 2147483648) : (nI t = 36) = (t = 36) := nEQ ht (by decide)
theorem nLT_40 {t : Nat} (ht : t < 2147483648) : (nI t < 40) = (t < 40) := nLT ht (by decide)
theorem nLE_40 {t : Nat} (ht : t < 2147483648) : (nI t ≤ 40) = (t ≤ 40) := nLE ht (by decide)
theorem nGT_40 {t : Nat} (ht : t < 2147483648) : (40 < nI t) = (40 < t) := nGT ht (by decide)
theorem nGE_40 {t : Nat} (ht : t < 2147483648) : (40 ≤ nI t) = (40 ≤ t) := nGE ht (by decide)
theorem nEQ_40 {t : Nat} (ht : t < 2147483648) : (nI t = 40) = (t = 40) := nEQ ht (by decide)
theorem nLT_60 {t : Nat} (ht : t < 2147483648) : (nI t < 60) = (t < 60) := nLT ht (by decide)
theorem nLE_60 {t : Nat} (ht : t < 2147483648) : (nI t ≤ 60) = (t ≤ 60) := nLE ht (by decide)
theorem nGT_60 {t : Nat} (ht : t < 2147483648) : (60 < nI t) = (60 < t) := nGT ht (by decide)
theorem nGE_60 {t : Nat} (ht : t < 2147483648) : (60 ≤ nI t) = (60 ≤ t) := nGE ht (by decide)
theorem nEQ_60 {t : Nat} (ht : t < 2147483648) : (nI t = 60) = (t = 60) := nEQ ht (by decide)
theorem nLT_64 {t : Nat} (ht : t < 2147483648) : (nI t < 64) = (t < 64) := nLT ht (by decide)
theorem nLE_64 {t : Nat} (ht : t < 2147483648) : (nI t ≤ 64) = (t ≤ 64) := nLE ht (by decide)
theorem nGT_64 {t : Nat} (ht : t < 2147483648) : (64 < nI t) = (64 < t) := nGT ht (by decide)
theorem nGE_64 {t : Nat} (ht : t < 2147483648) : (64 ≤ nI t) = (64 ≤ t) := nGE ht (by decide)
theorem nEQ_64 {t : Nat} (ht : t < 2147483648) : (nI t = 64) = (t = 64) := nEQ ht (by decide)
theorem nLT_100 {t : Nat} (ht : t < 2147483648) : (nI t < 100) = (t < 100) := nLT ht (by decide)
theorem nLE_100 {t : Nat} (ht : t < 2147483648) : (nI t ≤ 100) = (t ≤ 100) := nLE ht (by decide)
theorem nGT_100 {t : Nat} (ht : t < 2147483648) : (100 < nI t) = (100 < t) := nGT ht (by decide)
theorem nGE_100 {t : Nat} (ht : t < 2147483648) : (100 ≤ nI t) = (100 ≤ t) := nGE ht (by decide)
theorem nEQ_100 {t : Nat} (ht : t < 2147483648) : (nI t = 100) = (t = 100) := nEQ ht (by decide)
theorem nLT_200 {t : Nat} (ht : t < 2147483648) : (nI t < 200) = (t < 200) := nLT ht (by decide)
theorem nLE_200 {t : Nat} (ht : t < 2147483648) : (nI t ≤ 200) = (t ≤ 200) := nLE ht (by decide)
theorem nGT_200 {t : Nat} (ht : t < 2147483648) : (200 < nI t) = (200 < t) := nGT ht (by decide)
theorem nGE_200 {t : Nat} (ht : t < 2147483648) : (200 ≤ nI t) = (200 ≤ t) := nGE ht (by decide)
theorem nEQ_200 {t : Nat} (ht : t < 2147483648) : (nI t = 200) = (t = 200) := nEQ ht (by decide)
theorem nLT_1000 {t : Nat} (ht : t < 2147483648) : (nI t < 1000) = (t < 1000) := nLT ht (by decide)
theorem nLE_1000 {t : Nat} (ht : t < 2147483648) : (nI t ≤ 1000) = (t ≤ 1000) := nLE ht (by decide)
theorem nGT_1000 {t : Nat} (ht : t < 2147483648) : (1000 < nI t) = (1000 < t) := nGT ht (by decide)
theorem nGE_1000 {t : Nat} (ht : t < 2147483648) : (1000 ≤ nI t) = (1000 ≤ t) := nGE ht (by decide)
theorem nEQ_1000 {t : Nat} (ht : t < 2147483648) : (nI t = 1000) = (t = 1000) := nEQ ht (by decide)
theorem nLT_1024 {t : Nat} (ht : t < 2147483648) : (nI t < 1024) = (t < 1024) := nLT ht (by decide)
theorem nLE_1024 {t : Nat} (ht : t < 2147483648) : (nI t ≤ 1024) = (t ≤ 1024) := nLE ht (by decide)
theorem nGT_1024 {t : Nat} (ht : t < 2147483648) : (1024 < nI t) = (1024 < t) := nGT ht (by decide)
theorem nGE_1024 {t : Nat} (ht : t < 2147483648) : (1024 ≤ nI t) = (1024 ≤ t) := nGE ht (by decide)
theorem nEQ_1024 {t : Nat} (ht : t < 2147483648) : (nI t = 1024) = (t = 1024) := nEQ ht (by decide)
theorem nLT_9999 {t : Nat} (ht : t < 2147483648) : (nI t < 9999) = (t < 9999) := nLT ht (by decide)
theorem nLE_9999 {t : Nat} (ht : t < 2147483648) : (nI t ≤ 9999) = (t ≤ 9999) := nLE ht (by decide)
theorem nGT_9999 {t : Nat} (ht : t < 2147483648) : (9999 < nI t) = (9999 < t) := nGT ht (by decide)
theorem nGE_9999 {t : Nat} (ht : t < 2147483648) : (9999 ≤ nI t) = (9999 ≤ t) := nGE ht (by decide)
theorem nEQ_9999 {t : Nat} (ht : t < 2147483648) : (nI t = 9999) = (t = 9999) := nEQ ht (by decide)
theorem nLT_10000 {t : Nat} (ht : t < 2147483648) : (nI t < 10000) = (t < 10000) := nLT ht (by decide)
theorem nLE_10000 {t : Nat} (ht : t < 2147483648) : (nI t ≤ 10000) = (t ≤ 10000) := nLE ht (by decide)
theorem nGT_10000 {t : Nat} (ht : t < 2147483648) : (10000 < nI t) = (10000 < t) := nGT ht (by decide)
theorem nGE_10000 {t : Nat} (ht : t < 2147483648) : (10000 ≤ nI t) = (10000 ≤ t) := nGE ht (by decide)
theorem nEQ_10000 {t : Nat} (ht : t < 2147483648) : (nI t = 10000) = (t = 10000) := nEQ ht (by decide)
theorem nLT_100000 {t : Nat} (ht : t < 2147483648) : (nI t < 100000) = (t < 100000) := nLT ht (by decide)
theorem nLE_100000 {t : Nat} (ht : t < 2147483648) : (nI t ≤ 100000) = (t ≤ 100000) := nLE ht (by decide)
theorem nGT_100000 {t : Nat} (ht : t < 2147483648) : (100000 < nI t) = (100000 < t) := nGT ht (by decide)
theorem nGE_100000 {t : Nat} (ht : t < 2147483648) : (100000 ≤ nI t) = (100000 ≤ t) := nGE ht (by decide)
theorem nEQ_100000 {t : Nat} (ht : t < 2147483648) : (nI t = 100000) = (t = 100000) := nEQ ht (by decide)
theorem nLT_100001 {t : Nat} (ht : t < 2147483648) : (nI t < 100001) = (t < 100001) := nLT ht (by decide)
theorem nLE_100001 {t : Nat} (ht : t < 2147483648) : (nI t ≤ 100001) = (t ≤ 100001) := nLE ht (by decide)
theorem nGT_100001 {t : Nat} (ht : t < 2147483648) : (100001 < nI t) = (100001 < t) := nGT ht (by decide)
theorem nGE_100001 {t : Nat} (ht : t < 2147483648) : (100001 ≤ nI t) = (100001 ≤ t) := nGE ht (by decide)
theorem nEQ_100001 {t : Nat} (ht : t < 2147483648) : (nI t = 100001) = (t = 100001) := nEQ ht (by decide)
theorem nLT_1000000 {t : Nat} (ht : t < 2147483648) : (nI t < 1000000) = (t < 1000000) := nLT ht (by decide)
theorem nLE_1000000 {t : Nat} (ht : t < 2147483648) : (nI t ≤ 1000000) = (t ≤ 1000000) := nLE ht (by decide)
theorem nGT_1000000 {t : Nat} (ht : t < 2147483648) : (1000000 < nI t) = (1000000 < t) := nGT ht (by decide)
theorem nGE_1000000 {t : Nat} (ht : t < 2147483648) : (1000000 ≤ nI t) = (1000000 ≤ t) := nGE ht (by decide)
theorem nEQ_1000000 {t : Nat} (ht : t < 2147483648) : (nI t = 1000000) = (t = 1000000) := nEQ ht (by decide)
theorem nLT_1000000000 {t : Nat} (ht : t < 2147483648) : (nI t < 1000000000) = (t < 1000000000) := nLT ht (by decide)
theorem nLE_1000000000 {t : Nat} (ht : t < 2147483648) : (nI t ≤ 1000000000) = (t ≤ 1000000000) := nLE ht (by decide)
theorem nGT_1000000000 {t : Nat} (ht : t < 2147483648) : (1000000000 < nI t) = (1000000000 < t) := nGT ht (by decide)
theorem nGE_1000000000 {t : Nat} (ht : t < 2147483648) : (1000000000 ≤ nI t) = (1000000000 ≤ t) := nGE ht (by decide)
theorem nEQ_1000000000 {t : Nat} (ht : t < 2147483648) : (nI t = 1000000000) = (t = 1000000000) := nEQ ht (by decide)
theorem nAd_1 {t : Nat} : nI t + 1 = nI (t + 1) := nAd
theorem nAd_2 {t : Nat} : nI t + 2 = nI (t + 2) := nAd
theorem nAd_6 {t : Nat} : nI t + 6 = nI (t + 6) := nAd
theorem nMu_6 {t : Nat} : 6 * nI t = nI (6 * t) := nMu
theorem nMu_24 {t : Nat} : 24 * nI t = nI (24 * t) := nMu
theorem nMu_40 {t : Nat} : 40 * nI t = nI (40 * t) := nMu
