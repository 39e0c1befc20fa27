/-! HEAPS and the PLAN: what they are -/
/-- the sum of a set's balances -/
def sB (b : Nat → Int) (M : Nat) : Int := fb_si (fun p => if M.testBit p then b p else 0) 10
def subM (T M : Nat) : Prop := ∀ p, T.testBit p = true → M.testBit p = true
/-- k heaps one behind the other can be had of a set -/
def HB (b : Nat → Int) : Nat → Nat → Prop
  | 0, _ => True
  | k + 1, M => ∃ T p, subM T M ∧ sB b T = 0 ∧ T.testBit p = true ∧ HB b k (T ^^^ 2 ^ p)
def loB (M : Nat) : Nat := fa_first (fun i => M.testBit i) 10
/-- a set that can be the next heap -/
def okH (b : Nat → Int) (left heap : Nat) : Prop := subM heap left ∧ heap.testBit (loB left) = true ∧ sB b heap = 0 ∧ ∀ k, HB b (k + 1) left → HB b k (left ^^^ heap)
/-- the next heap: the least such -/
def FH (b : Nat → Int) (left heap : Nat) : Prop := okH b left heap ∧ ∀ h, h < heap → ¬ okH b left h
def mvO (o : Nat → Int) (i j : Nat) (m : Int) : Nat → Int := fun p => if p = i then o p + m else if p = j then o p - m else o p
def fsN (M : Nat) (o : Nat → Int) : Nat := fa_first (fun p => M.testBit p && decide (o p < 0)) 10
def fsP (M : Nat) (o : Nat → Int) : Nat := fa_first (fun p => M.testBit p && decide (0 < o p)) 10
def mnI (x y : Int) : Int := if y < x then y else x
/-- the payments within a heap -/
def grd : Nat → Nat → (Nat → Int) → List (Nat × Nat × Int)
  | 0, _, _ => []
  | f + 1, M, o => if fsN M o < 10 ∧ fsP M o < 10 then (fsN M o, fsP M o, mnI (-(o (fsN M o))) (o (fsP M o))) :: grd f M (mvO o (fsN M o) (fsP M o) (mnI (-(o (fsN M o))) (o (fsP M o)))) else []
def PlanR (b : Nat → Int) : Nat → Nat → List (Nat × Nat × Int) → Prop
  | 0, left, L => left = 0 ∧ L = []
  | f + 1, left, L => (left = 0 ∧ L = []) ∨ (¬ left = 0 ∧ ∃ heap L', FH b left heap ∧ PlanR b f (left ^^^ heap) L' ∧ L = grd 10 heap b ++ L')
def isAll (b : Nat → Int) (M : Nat) : Prop := M < 1024 ∧ ∀ p, p < 10 → M.testBit p = decide (¬ b p = 0)
/-- a plan, as it is kept -/
def plAt (L : List (Nat × Nat × Int)) (py tk : Nat → Int32) (mo : Nat → Int64) : Prop := ∀ j q, L[j]? = some q → py j = nI q.1 ∧ tk j = nI q.2.1 ∧ mo j = Int64.ofInt q.2.2
