/-! ROWS OF THE ABSTRACT MACHINE, by kinds of instructions -/
def GV {α : Type} (o : Option α) (f : α → Prop) : Prop := match o with
  | some v => f v
  | none => False
theorem GV_s {α : Type} {v : α} {f : α → Prop} : GV (some v) f = f v := rfl
theorem GV_n {α : Type} {f : α → Prop} : GV none f = False := rfl
theorem xln_of {ins : Instr} {len : Nat} {A : Option xNx} (h : len = xln ins) : (if len = xln ins then A else none) = A := if_pos h
section GR
variable {scr : Option (Nat × (Nat → Int32))} {i pc : Nat} {L st : List Value} {σ : xSt} {nc ns : Nat} {Q : Option Value → xSt → Prop} {ins : Instr} {len : Nat}
theorem G_ifc {c : Jvm.ClassFile.Cond} {off : Int} {tgt : Nat} {a : Int32} (hd : decode (mC i) pc = .ok (.ifCond c off, 3)) (ht : (pc : Int) + off = (tgt : Int)) : G scr i pc L (.int a :: st) σ nc ns Q = if xCd c a 0 = true then G scr i tgt L st σ nc ns Q else G scr i (pc + 3) L st σ nc ns Q := by
  have hT : 0 ≤ (pc : Int) + off := by omega
  have hU : ((pc : Int) + off).toNat = tgt := by omega
  split
  · rename_i h; exact G_go hd (by simp [xStep, xBr, h, hT, hU])
  · rename_i h; exact G_go hd (by simp [xStep, xBr, h, hT])
theorem G_icc {c : Jvm.ClassFile.Cond} {off : Int} {tgt : Nat} {a b : Int32} (hd : decode (mC i) pc = .ok (.if_icmp c off, 3)) (ht : (pc : Int) + off = (tgt : Int)) : G scr i pc L (.int b :: .int a :: st) σ nc ns Q = if xCd c a b = true then G scr i tgt L st σ nc ns Q else G scr i (pc + 3) L st σ nc ns Q := by
  have hT : 0 ≤ (pc : Int) + off := by omega
  have hU : ((pc : Int) + off).toNat = tgt := by omega
  split
  · rename_i h; exact G_go hd (by simp [xStep, xBr, h, hT, hU])
  · rename_i h; exact G_go hd (by simp [xStep, xBr, h, hT])
theorem ite_dec {p : Prop} [Decidable p] {A B : Prop} : (if decide p = true then A else B) = if p then A else B := by by_cases h : p <;> simp [h]
theorem G_if_eq {off : Int} {tgt : Nat} {a : Int32} (hd : decode (mC i) pc = .ok (.ifCond .eq off, 3)) (ht : (pc : Int) + off = (tgt : Int)) : G scr i pc L (.int a :: st) σ nc ns Q = if a = 0 then G scr i tgt L st σ nc ns Q else G scr i (pc + 3) L st σ nc ns Q := (G_ifc hd ht).trans ite_dec
theorem G_if_ne {off : Int} {tgt : Nat} {a : Int32} (hd : decode (mC i) pc = .ok (.ifCond .ne off, 3)) (ht : (pc : Int) + off = (tgt : Int)) : G scr i pc L (.int a :: st) σ nc ns Q = if ¬ a = 0 then G scr i tgt L st σ nc ns Q else G scr i (pc + 3) L st σ nc ns Q := (G_ifc hd ht).trans ite_dec
theorem G_if_lt {off : Int} {tgt : Nat} {a : Int32} (hd : decode (mC i) pc = .ok (.ifCond .lt off, 3)) (ht : (pc : Int) + off = (tgt : Int)) : G scr i pc L (.int a :: st) σ nc ns Q = if a < 0 then G scr i tgt L st σ nc ns Q else G scr i (pc + 3) L st σ nc ns Q := (G_ifc hd ht).trans ite_dec
theorem G_if_ge {off : Int} {tgt : Nat} {a : Int32} (hd : decode (mC i) pc = .ok (.ifCond .ge off, 3)) (ht : (pc : Int) + off = (tgt : Int)) : G scr i pc L (.int a :: st) σ nc ns Q = if 0 ≤ a then G scr i tgt L st σ nc ns Q else G scr i (pc + 3) L st σ nc ns Q := (G_ifc hd ht).trans ite_dec
theorem G_if_gt {off : Int} {tgt : Nat} {a : Int32} (hd : decode (mC i) pc = .ok (.ifCond .gt off, 3)) (ht : (pc : Int) + off = (tgt : Int)) : G scr i pc L (.int a :: st) σ nc ns Q = if 0 < a then G scr i tgt L st σ nc ns Q else G scr i (pc + 3) L st σ nc ns Q := (G_ifc hd ht).trans ite_dec
theorem G_if_le {off : Int} {tgt : Nat} {a : Int32} (hd : decode (mC i) pc = .ok (.ifCond .le off, 3)) (ht : (pc : Int) + off = (tgt : Int)) : G scr i pc L (.int a :: st) σ nc ns Q = if a ≤ 0 then G scr i tgt L st σ nc ns Q else G scr i (pc + 3) L st σ nc ns Q := (G_ifc hd ht).trans ite_dec
theorem G_icmp_eq {off : Int} {tgt : Nat} {a b : Int32} (hd : decode (mC i) pc = .ok (.if_icmp .eq off, 3)) (ht : (pc : Int) + off = (tgt : Int)) : G scr i pc L (.int b :: .int a :: st) σ nc ns Q = if a = b then G scr i tgt L st σ nc ns Q else G scr i (pc + 3) L st σ nc ns Q := (G_icc hd ht).trans ite_dec
theorem G_icmp_ne {off : Int} {tgt : Nat} {a b : Int32} (hd : decode (mC i) pc = .ok (.if_icmp .ne off, 3)) (ht : (pc : Int) + off = (tgt : Int)) : G scr i pc L (.int b :: .int a :: st) σ nc ns Q = if ¬ a = b then G scr i tgt L st σ nc ns Q else G scr i (pc + 3) L st σ nc ns Q := (G_icc hd ht).trans ite_dec
theorem G_icmp_lt {off : Int} {tgt : Nat} {a b : Int32} (hd : decode (mC i) pc = .ok (.if_icmp .lt off, 3)) (ht : (pc : Int) + off = (tgt : Int)) : G scr i pc L (.int b :: .int a :: st) σ nc ns Q = if a < b then G scr i tgt L st σ nc ns Q else G scr i (pc + 3) L st σ nc ns Q := (G_icc hd ht).trans ite_dec
theorem G_icmp_ge {off : Int} {tgt : Nat} {a b : Int32} (hd : decode (mC i) pc = .ok (.if_icmp .ge off, 3)) (ht : (pc : Int) + off = (tgt : Int)) : G scr i pc L (.int b :: .int a :: st) σ nc ns Q = if b ≤ a then G scr i tgt L st σ nc ns Q else G scr i (pc + 3) L st σ nc ns Q := (G_icc hd ht).trans ite_dec
theorem G_icmp_gt {off : Int} {tgt : Nat} {a b : Int32} (hd : decode (mC i) pc = .ok (.if_icmp .gt off, 3)) (ht : (pc : Int) + off = (tgt : Int)) : G scr i pc L (.int b :: .int a :: st) σ nc ns Q = if b < a then G scr i tgt L st σ nc ns Q else G scr i (pc + 3) L st σ nc ns Q := (G_icc hd ht).trans ite_dec
theorem G_icmp_le {off : Int} {tgt : Nat} {a b : Int32} (hd : decode (mC i) pc = .ok (.if_icmp .le off, 3)) (ht : (pc : Int) + off = (tgt : Int)) : G scr i pc L (.int b :: .int a :: st) σ nc ns Q = if a ≤ b then G scr i tgt L st σ nc ns Q else G scr i (pc + 3) L st σ nc ns Q := (G_icc hd ht).trans ite_dec
theorem G_idiv {a b : Int32} (hd : decode (mC i) pc = .ok (.idiv, 1)) : G scr i pc L (.int b :: .int a :: st) σ nc ns Q = (¬ b = 0 ∧ G scr i (pc + 1) L (.int (a / b) :: st) σ nc ns Q) := by
  by_cases h : b = 0
  · rw [G_no hd (by simp [xStep, xBr, xln, xMain, xLd, xOp, xSto, xInc, xUn, xBin, xBi, xRd, xWr, xMa, xNw, xCl, xRt, h])]; simp [h]
  · rw [G_go hd (pc' := pc + 1) (L' := L) (st' := .int (a / b) :: st) (σ' := σ) (nc' := nc) (ns' := ns) (by simp [xStep, xBr, xln, xMain, xLd, xOp, xSto, xInc, xUn, xBin, xBi, h])]; simp [h]
theorem G_irem {a b : Int32} (hd : decode (mC i) pc = .ok (.irem, 1)) : G scr i pc L (.int b :: .int a :: st) σ nc ns Q = (¬ b = 0 ∧ G scr i (pc + 1) L (.int (a - a / b * b) :: st) σ nc ns Q) := by
  by_cases h : b = 0
  · rw [G_no hd (by simp [xStep, xBr, xln, xMain, xLd, xOp, xSto, xInc, xUn, xBin, xBi, xRd, xWr, xMa, xNw, xCl, xRt, h])]; simp [h]
  · rw [G_go hd (pc' := pc + 1) (L' := L) (st' := .int (a - a / b * b) :: st) (σ' := σ) (nc' := nc) (ns' := ns) (by simp [xStep, xBr, xln, xMain, xLd, xOp, xSto, xInc, xUn, xBin, xBi, h])]; simp [h]
theorem G_ldiv {a b : Int64} (hd : decode (mC i) pc = .ok (.ldiv, 1)) : G scr i pc L (.long b :: .long a :: st) σ nc ns Q = (¬ b = 0 ∧ G scr i (pc + 1) L (.long (a / b) :: st) σ nc ns Q) := by
  by_cases h : b = 0
  · rw [G_no hd (by simp [xStep, xBr, xln, xMain, xLd, xOp, xSto, xInc, xUn, xBin, xBl, xRd, xWr, xMa, xNw, xCl, xRt, h])]; simp [h]
  · rw [G_go hd (pc' := pc + 1) (L' := L) (st' := .long (a / b) :: st) (σ' := σ) (nc' := nc) (ns' := ns) (by simp [xStep, xBr, xln, xMain, xLd, xOp, xSto, xInc, xUn, xBin, xBl, h])]; simp [h]
theorem G_lrem {a b : Int64} (hd : decode (mC i) pc = .ok (.lrem, 1)) : G scr i pc L (.long b :: .long a :: st) σ nc ns Q = (¬ b = 0 ∧ G scr i (pc + 1) L (.long (a - a / b * b) :: st) σ nc ns Q) := by
  by_cases h : b = 0
  · rw [G_no hd (by simp [xStep, xBr, xln, xMain, xLd, xOp, xSto, xInc, xUn, xBin, xBl, xRd, xWr, xMa, xNw, xCl, xRt, h])]; simp [h]
  · rw [G_go hd (pc' := pc + 1) (L' := L) (st' := .long (a - a / b * b) :: st) (σ' := σ) (nc' := nc) (ns' := ns) (by simp [xStep, xBr, xln, xMain, xLd, xOp, xSto, xInc, xUn, xBin, xBl, h])]; simp [h]
theorem G_getfield {ix ci k a : Nat} (hd : decode (mC i) pc = .ok (.getfield ix, 3)) (hf : fLk (mO i) ix = some (ci, k)) : G scr i pc L (.ref a :: st) σ nc ns Q = GV (xFd σ a ci k) (fun v => G scr i (pc + 3) L (v :: st) σ nc ns Q) := by
  cases h : xFd σ a ci k with
  | none => rw [G_no hd (by simp [xStep, xBr, xln, xMain, xLd, xOp, xSto, xInc, xUn, xBin, xBl, xRd, xWr, xMa, xNw, xCl, xRt, h, hf])]; rfl
  | some v => rw [G_go hd (pc' := pc + 3) (L' := L) (st' := v :: st) (σ' := σ) (nc' := nc) (ns' := ns) (by simp [xStep, xBr, xln, xMain, xLd, xOp, xSto, xInc, xUn, xBin, xBl, xRd, h, hf])]; rfl
theorem G_putfield {ix ci k a : Nat} {v : Value} (hd : decode (mC i) pc = .ok (.putfield ix, 3)) (hf : fLk (mO i) ix = some (ci, k)) : G scr i pc L (v :: .ref a :: st) σ nc ns Q = GV (xPf i σ a ci k v) (fun σ => G scr i (pc + 3) L st σ nc ns Q) := by
  cases h : xPf i σ a ci k v with
  | none => rw [G_no hd (by cases v <;> simp [xStep, xBr, xln, xMain, xLd, xOp, xSto, xInc, xUn, xBin, xBl, xRd, xWr, xMa, xNw, xCl, xRt, h, hf])]; rfl
  | some σ' => rw [G_go hd (pc' := pc + 3) (L' := L) (st' := st) (σ' := σ') (nc' := nc) (ns' := ns) (by cases v <;> (simp [xStep, xBr, xln, xMain, xLd, xOp, xSto, xInc, xUn, xBin, xBl, xRd, xWr, h, hf]))]; rfl
theorem vp_in_d {j : Int32} {n : Nat} {α : Type} {v : α} (h : vp_in j n) : xIn j n v = some v := if_neg h
theorem vp_in_n {j : Int32} {n : Nat} {α : Type} {v : α} (h : ¬ vp_in j n) : xIn j n v = none := if_pos (Decidable.not_not.mp h)
theorem G_iaload {a : Nat} {b : Int32} (hd : decode (mC i) pc = .ok (.iaload, 1)) : G scr i pc L (.int b :: .ref a :: st) σ nc ns Q = GV ((xAi σ a).or (xSc scr a)) (fun z => vp_in b z.1 ∧ G scr i (pc + 1) L (.int (z.2 b.toNatClampNeg) :: st) σ nc ns Q) := by
  cases h : (xAi σ a).or (xSc scr a) with
  | none => rw [G_no hd (by simp [xStep, xBr, xln, xMain, xLd, xOp, xSto, xInc, xUn, xBin, xBl, xRd, xWr, xMa, xNw, xCl, xRt, h])]; rfl
  | some z =>
    rw [GV_s]
    by_cases hv : vp_in b z.1
    · rw [G_go hd (pc' := pc + 1) (L' := L) (st' := .int (z.2 b.toNatClampNeg) :: st) (σ' := σ) (nc' := nc) (ns' := ns) (by simp [xStep, xBr, xln, xMain, xLd, xOp, xSto, xInc, xUn, xBin, xBl, xRd, h, vp_in_d hv])]; simp [hv]
    · rw [G_no hd (by simp [xStep, xBr, xln, xMain, xLd, xOp, xSto, xInc, xUn, xBin, xBl, xRd, xWr, xMa, xNw, xCl, xRt, h, vp_in_n hv])]; simp [hv]
theorem G_laload {a : Nat} {b : Int32} (hd : decode (mC i) pc = .ok (.laload, 1)) : G scr i pc L (.int b :: .ref a :: st) σ nc ns Q = GV (xAl σ a) (fun z => vp_in b z.1 ∧ G scr i (pc + 1) L (.long (z.2 b.toNatClampNeg) :: st) σ nc ns Q) := by
  cases h : xAl σ a with
  | none => rw [G_no hd (by simp [xStep, xBr, xln, xMain, xLd, xOp, xSto, xInc, xUn, xBin, xBl, xRd, xWr, xMa, xNw, xCl, xRt, h])]; rfl
  | some z =>
    rw [GV_s]
    by_cases hv : vp_in b z.1
    · rw [G_go hd (pc' := pc + 1) (L' := L) (st' := .long (z.2 b.toNatClampNeg) :: st) (σ' := σ) (nc' := nc) (ns' := ns) (by simp [xStep, xBr, xln, xMain, xLd, xOp, xSto, xInc, xUn, xBin, xBl, xRd, h, vp_in_d hv])]; simp [hv]
    · rw [G_no hd (by simp [xStep, xBr, xln, xMain, xLd, xOp, xSto, xInc, xUn, xBin, xBl, xRd, xWr, xMa, xNw, xCl, xRt, h, vp_in_n hv])]; simp [hv]
theorem G_baload {a : Nat} {b : Int32} (hd : decode (mC i) pc = .ok (.baload, 1)) : G scr i pc L (.int b :: .ref a :: st) σ nc ns Q = GV (xAz σ a) (fun z => vp_in b z.1 ∧ G scr i (pc + 1) L (.int (z.2 b.toNatClampNeg) :: st) σ nc ns Q) := by
  cases h : xAz σ a with
  | none => rw [G_no hd (by simp [xStep, xBr, xln, xMain, xLd, xOp, xSto, xInc, xUn, xBin, xBl, xRd, xWr, xMa, xNw, xCl, xRt, h])]; rfl
  | some z =>
    rw [GV_s]
    by_cases hv : vp_in b z.1
    · rw [G_go hd (pc' := pc + 1) (L' := L) (st' := .int (z.2 b.toNatClampNeg) :: st) (σ' := σ) (nc' := nc) (ns' := ns) (by simp [xStep, xBr, xln, xMain, xLd, xOp, xSto, xInc, xUn, xBin, xBl, xRd, h, vp_in_d hv])]; simp [hv]
    · rw [G_no hd (by simp [xStep, xBr, xln, xMain, xLd, xOp, xSto, xInc, xUn, xBin, xBl, xRd, xWr, xMa, xNw, xCl, xRt, h, vp_in_n hv])]; simp [hv]
theorem G_aaload {a : Nat} {b : Int32} (hd : decode (mC i) pc = .ok (.aaload, 1)) : G scr i pc L (.int b :: .ref a :: st) σ nc ns Q = GV (xAq σ a) (fun z => GV (z.2 b.toNatClampNeg) (fun y => ¬ y = scP ∧ vp_in b z.1 ∧ G scr i (pc + 1) L (.ref y :: st) σ nc ns Q)) := by
  cases h : xAq σ a with
  | none => rw [G_no hd (by simp [xStep, xBr, xln, xMain, xLd, xOp, xSto, xInc, xUn, xBin, xBl, xRd, xWr, xMa, xNw, xCl, xRt, h])]; rfl
  | some z =>
    rw [GV_s]
    cases hz : z.2 b.toNatClampNeg with
    | none => rw [G_no hd (by simp [xStep, xBr, xln, xMain, xLd, xOp, xSto, xInc, xUn, xBin, xBl, xRd, xWr, xMa, xNw, xCl, xRt, h, hz])]; rfl
    | some y =>
      rw [GV_s]
      by_cases hy : y = scP
      · rw [G_no hd (by simp [xStep, xBr, xln, xMain, xLd, xOp, xSto, xInc, xUn, xBin, xBl, xRd, xWr, xMa, xNw, xCl, xRt, h, hz, hy])]; simp [hy]
      · by_cases hv : vp_in b z.1
        · rw [G_go hd (pc' := pc + 1) (L' := L) (st' := .ref y :: st) (σ' := σ) (nc' := nc) (ns' := ns) (by simp [xStep, xBr, xln, xMain, xLd, xOp, xSto, xInc, xUn, xBin, xBl, xRd, h, hz, hy, vp_in_d hv])]; simp [hv, hy]
        · rw [G_no hd (by simp [xStep, xBr, xln, xMain, xLd, xOp, xSto, xInc, xUn, xBin, xBl, xRd, xWr, xMa, xNw, xCl, xRt, h, hz, hy, vp_in_n hv])]; simp [hv]
theorem G_arraylength {a : Nat} (hd : decode (mC i) pc = .ok (.arraylength, 1)) : G scr i pc L (.ref a :: st) σ nc ns Q = GV (xSc scr a) (fun z => G scr i (pc + 1) L (.int (Int32.ofNat z.1) :: st) σ nc ns Q) := by
  cases h : xSc scr a with
  | none => rw [G_no hd (by simp [xStep, xBr, xln, xMain, xLd, xOp, xSto, xInc, xUn, xBin, xBl, xRd, xWr, xMa, xNw, xCl, xRt, h])]; rfl
  | some z => rw [G_go hd (pc' := pc + 1) (L' := L) (st' := .int (Int32.ofNat z.1) :: st) (σ' := σ) (nc' := nc) (ns' := ns) (by simp [xStep, xBr, xln, xMain, xLd, xOp, xSto, xInc, xUn, xBin, xBl, xRd, h])]; rfl
theorem G_iastore {a : Nat} {b v : Int32} (hd : decode (mC i) pc = .ok (.iastore, 1)) : G scr i pc L (.int v :: .int b :: .ref a :: st) σ nc ns Q = GV (xAi σ a) (fun z => vp_in b z.1 ∧ G scr i (pc + 1) L st (σ.set a (.inl (0, z.1, .inl (upd z.2 b.toNatClampNeg v)))) nc ns Q) := by
  cases h : xAi σ a with
  | none => rw [G_no hd (by simp [xStep, xBr, xln, xMain, xLd, xOp, xSto, xInc, xUn, xBin, xBi, xRd, xWr, xMa, xNw, xCl, xRt, h])]; rfl
  | some z =>
    rw [GV_s]
    by_cases hv : vp_in b z.1
    · rw [G_go hd (pc' := pc + 1) (L' := L) (st' := st) (σ' := σ.set a (.inl (0, z.1, .inl (upd z.2 b.toNatClampNeg v)))) (nc' := nc) (ns' := ns) (by simp [xStep, xBr, xln, xMain, xLd, xOp, xSto, xInc, xUn, xBin, xBi, xRd, xWr, h, vp_in_d hv])]; simp [hv]
    · rw [G_no hd (by simp [xStep, xBr, xln, xMain, xLd, xOp, xSto, xInc, xUn, xBin, xBi, xRd, xWr, xMa, xNw, xCl, xRt, h, vp_in_n hv])]; simp [hv]
theorem G_lastore {a : Nat} {b : Int32} {v : Int64} (hd : decode (mC i) pc = .ok (.lastore, 1)) : G scr i pc L (.long v :: .int b :: .ref a :: st) σ nc ns Q = GV (xAl σ a) (fun z => vp_in b z.1 ∧ G scr i (pc + 1) L st (σ.set a (.inl (1, z.1, .inr (.inl (vp_updL z.2 b.toNatClampNeg v))))) nc ns Q) := by
  cases h : xAl σ a with
  | none => rw [G_no hd (by simp [xStep, xBr, xln, xMain, xLd, xOp, xSto, xInc, xUn, xBin, xBi, xRd, xWr, xMa, xNw, xCl, xRt, h])]; rfl
  | some z =>
    rw [GV_s]
    by_cases hv : vp_in b z.1
    · rw [G_go hd (pc' := pc + 1) (L' := L) (st' := st) (σ' := σ.set a (.inl (1, z.1, .inr (.inl (vp_updL z.2 b.toNatClampNeg v))))) (nc' := nc) (ns' := ns) (by simp [xStep, xBr, xln, xMain, xLd, xOp, xSto, xInc, xUn, xBin, xBi, xRd, xWr, h, vp_in_d hv])]; simp [hv]
    · rw [G_no hd (by simp [xStep, xBr, xln, xMain, xLd, xOp, xSto, xInc, xUn, xBin, xBi, xRd, xWr, xMa, xNw, xCl, xRt, h, vp_in_n hv])]; simp [hv]
theorem G_bastore {a : Nat} {b v : Int32} (hd : decode (mC i) pc = .ok (.bastore, 1)) : G scr i pc L (.int v :: .int b :: .ref a :: st) σ nc ns Q = GV (xAz σ a) (fun z => vp_in b z.1 ∧ G scr i (pc + 1) L st (σ.set a (.inl (2, z.1, .inl (upd z.2 b.toNatClampNeg (vp_nar .boolean v))))) nc ns Q) := by
  cases h : xAz σ a with
  | none => rw [G_no hd (by simp [xStep, xBr, xln, xMain, xLd, xOp, xSto, xInc, xUn, xBin, xBi, xRd, xWr, xMa, xNw, xCl, xRt, h])]; rfl
  | some z =>
    rw [GV_s]
    by_cases hv : vp_in b z.1
    · rw [G_go hd (pc' := pc + 1) (L' := L) (st' := st) (σ' := σ.set a (.inl (2, z.1, .inl (upd z.2 b.toNatClampNeg (vp_nar .boolean v))))) (nc' := nc) (ns' := ns) (by simp [xStep, xBr, xln, xMain, xLd, xOp, xSto, xInc, xUn, xBin, xBi, xRd, xWr, h, vp_in_d hv])]; simp [hv]
    · rw [G_no hd (by simp [xStep, xBr, xln, xMain, xLd, xOp, xSto, xInc, xUn, xBin, xBi, xRd, xWr, xMa, xNw, xCl, xRt, h, vp_in_n hv])]; simp [hv]
theorem G_return_ (hd : decode (mC i) pc = .ok (.return_, 1)) (hr : mR i = none) : G scr i pc L [] σ nc ns Q = ((nc = mCe i ∨ (i = 192 ∧ nc ≤ mCe i)) ∧ ns ≤ mSl i ∧ Q none σ) := by
  by_cases h : (nc = mCe i ∨ (i = 192 ∧ nc ≤ mCe i)) ∧ ns ≤ mSl i
  · rw [G_ret hd (r := none) (by simp [xStep, xBr, xln, xMain, xLd, xOp, xSto, xInc, xUn, xBin, xRd, xWr, xMa, xNw, xCl, xRt, h, hr])]; simp [h]
  · rw [G_no hd (by simp only [xStep, xBr, xln, xMain, xLd, xOp, xSto, xInc, xUn, xBin, xRd, xWr, xMa, xNw, xCl, xRt, hr, h]; simp)]
    apply propext; constructor
    · intro q; exact q.elim
    · intro q; exact h ⟨q.1, q.2.1⟩
theorem G_lreturn {a : Int64} (hd : decode (mC i) pc = .ok (.lreturn, 1)) (hr : mR i = some .long) : G scr i pc L [.long a] σ nc ns Q = ((nc = mCe i ∨ (i = 192 ∧ nc ≤ mCe i)) ∧ ns ≤ mSl i ∧ Q (some (.long a)) σ) := by
  by_cases h : (nc = mCe i ∨ (i = 192 ∧ nc ≤ mCe i)) ∧ ns ≤ mSl i
  · rw [G_ret hd (r := some (.long a)) (by simp [xStep, xBr, xln, xMain, xLd, xOp, xSto, xInc, xUn, xBin, xRd, xWr, xMa, xNw, xCl, xRt, h, hr])]; simp [h]
  · rw [G_no hd (by simp only [xStep, xBr, xln, xMain, xLd, xOp, xSto, xInc, xUn, xBin, xRd, xWr, xMa, xNw, xCl, xRt, hr, h]; simp)]
    apply propext; constructor
    · intro q; exact q.elim
    · intro q; exact h ⟨q.1, q.2.1⟩
theorem G_ireturn {a : Int32} (hd : decode (mC i) pc = .ok (.ireturn, 1)) (hr : mR i = some .int) : G scr i pc L [.int a] σ nc ns Q = ((nc = mCe i ∨ (i = 192 ∧ nc ≤ mCe i)) ∧ ns ≤ mSl i ∧ Q (some (.int a)) σ) := by
  by_cases h : (nc = mCe i ∨ (i = 192 ∧ nc ≤ mCe i)) ∧ ns ≤ mSl i
  · rw [G_ret hd (r := some (.int a)) (by simp [xStep, xBr, xln, xMain, xLd, xOp, xSto, xInc, xUn, xBin, xRd, xWr, xMa, xNw, xCl, xRt, xRok, h, hr])]; simp [h]
  · rw [G_no hd (by simp only [xStep, xBr, xln, xMain, xLd, xOp, xSto, xInc, xUn, xBin, xRd, xWr, xMa, xNw, xCl, xRt, xRok, hr, h]; simp)]
    apply propext; constructor
    · intro q; exact q.elim
    · intro q; exact h ⟨q.1, q.2.1⟩
theorem G_ireturnZ {a : Int32} (hd : decode (mC i) pc = .ok (.ireturn, 1)) (hr : mR i = some .boolean) : G scr i pc L [.int a] σ nc ns Q = ((a = 0 ∨ a = 1) ∧ (nc = mCe i ∨ (i = 192 ∧ nc ≤ mCe i)) ∧ ns ≤ mSl i ∧ Q (some (.int a)) σ) := by
  by_cases h : (a = 0 ∨ a = 1) ∧ (nc = mCe i ∨ (i = 192 ∧ nc ≤ mCe i)) ∧ ns ≤ mSl i
  · rw [G_ret hd (r := some (.int a)) (by simp [xStep, xBr, xln, xMain, xLd, xOp, xSto, xInc, xUn, xBin, xRd, xWr, xMa, xNw, xCl, xRt, xRok, h, hr])]; simp [h]
  · have h' : ¬ (xRok (mR i) a = true ∧ (nc = mCe i ∨ (i = 192 ∧ nc ≤ mCe i)) ∧ ns ≤ mSl i) := by simpa [xRok, hr] using h
    rw [G_no hd (by simp only [xStep, xBr, xln, xMain, xLd, xOp, xSto, xInc, xUn, xBin, xRd, xWr, xMa, xNw, xCl, xRt, h']; simp)]
    apply propext; constructor
    · intro q; exact q.elim
    · intro q; exact h ⟨q.1, q.2.1, q.2.2.1⟩
theorem G_cal {kd ix j : Nat} {ins : Instr} {as : List Value} (hk : kd = 0 ∧ ins = .invokevirtual ix ∨ kd = 1 ∧ ins = .invokestatic ix ∨ kd = 2 ∧ ins = .invokespecial ix) (hd : decode (mC i) pc = .ok (ins, 3)) (hj : cLk (mO i) ix = some j) (hs : j < 187 ∧ mK j = kd ∧ mF j + 1 ≤ mF i ∧ 8 + (mL j + 11) + mW j ≤ mW i) (hn : as.length = xNa kd j) (hl : (xLay as).length ≤ mL j ∧ xAok as = true) (hr : kd = 2 → xRf as = true) (hc : nc + mCe j ≤ mCe i ∧ ns + mSl j ≤ mSl i) : G scr i pc L (as.reverse ++ st) σ nc ns Q = ((st.map fun v => v.category).sum ≤ 8 ∧ (kd = 0 → xRc σ j as = true) ∧ GM j as σ (fun r σ => G scr i (pc + 3) L (r.toList ++ st) σ (nc + mCe j) (ns + mSl j) Q)) := by
  have ht : (as.reverse ++ st).take (xNa kd j) = as.reverse := by rw [← hn, ← List.length_reverse, List.take_left]
  have hdr : (as.reverse ++ st).drop (xNa kd j) = st := by rw [← hn, ← List.length_reverse, List.drop_left]
  have hle : xNa kd j ≤ (as.reverse ++ st).length := by rw [← hn]; simp
  have hca : xCa i kd ix (as.reverse ++ st) σ nc ns = if (st.map fun v => v.category).sum ≤ 8 ∧ (kd = 0 → xRc σ j as = true) then some (j, as, st) else none := by
    unfold xCa
    rw [hj]
    simp only [ht, hdr, List.reverse_reverse]
    by_cases h : (st.map fun v => v.category).sum ≤ 8 ∧ (kd = 0 → xRc σ j as = true)
    · rw [if_pos h, if_pos ⟨hs.1, hs.2.1, ⟨hs.2.2.1, hs.2.2.2, hc⟩, hle, h.1, hl, h.2, hr⟩]
    · rw [if_neg h, if_neg (fun q => h ⟨q.2.2.2.2.1, q.2.2.2.2.2.2.1⟩)]
  have hne : ¬ cLk (mO i) ix = some 1000 := by rw [hj]; intro q; have := Option.some.inj q; omega
  have hne1 : ¬ cLk (mO i) ix = some 1001 := by rw [hj]; intro q; have := Option.some.inj q; omega
  have hst : xStep scr i pc ins 3 L (as.reverse ++ st) σ nc ns = if (st.map fun v => v.category).sum ≤ 8 ∧ (kd = 0 → xRc σ j as = true) then some (.inr (.inl (j, as, st))) else none := by
    generalize as.reverse ++ st = z at hca
    have h1 : xBr ins 3 pc z = none := by rcases hk with ⟨-, rfl⟩ | ⟨-, rfl⟩ | ⟨-, rfl⟩ <;> simp [xBr]
    have h2 : xln ins = 3 := by rcases hk with ⟨-, rfl⟩ | ⟨-, rfl⟩ | ⟨-, rfl⟩ <;> rfl
    have h3 : xLd (mO i) ins L = none := by rcases hk with ⟨-, rfl⟩ | ⟨-, rfl⟩ | ⟨-, rfl⟩ <;> rfl
    have h4 : xOp ins L z = none := by
      have a1 : xSto ins L z = none := by rcases hk with ⟨-, rfl⟩ | ⟨-, rfl⟩ | ⟨-, rfl⟩ <;> simp [xSto]
      have a2 : xInc ins L z = none := by rcases hk with ⟨-, rfl⟩ | ⟨-, rfl⟩ | ⟨-, rfl⟩ <;> simp [xInc]
      have a3 : xUn ins z = none := by rcases hk with ⟨-, rfl⟩ | ⟨-, rfl⟩ | ⟨-, rfl⟩ <;> simp [xUn]
      have a4 : xBin ins z = none := by
        unfold xBin
        split
        · rcases hk with ⟨-, rfl⟩ | ⟨-, rfl⟩ | ⟨-, rfl⟩ <;> simp [xBi]
        · rcases hk with ⟨-, rfl⟩ | ⟨-, rfl⟩ | ⟨-, rfl⟩ <;> simp [xBl]
        · rcases hk with ⟨-, rfl⟩ | ⟨-, rfl⟩ | ⟨-, rfl⟩ <;> simp
        · rfl
      simp [xOp, a1, a2, a3, a4]
    have h5 : xRd scr i ins z σ = none := by
      rcases hk with ⟨-, rfl⟩ | ⟨-, rfl⟩ | ⟨-, rfl⟩ <;> unfold xRd <;> split <;> simp_all
    have h6 : xWr i ins z σ = none := by
      rcases hk with ⟨-, rfl⟩ | ⟨-, rfl⟩ | ⟨-, rfl⟩
      · unfold xWr; split <;> simp_all
      · unfold xWr
        split <;> try simp_all
      · unfold xWr; split <;> simp_all
    have h7a : xMa i ins z nc ns = none := by
      rcases hk with ⟨-, rfl⟩ | ⟨-, rfl⟩ | ⟨-, rfl⟩
      · rfl
      · unfold xMa; simp only [hj]; rw [if_pos (Or.inl hs.1)]
      · rfl
    have h7 : xNw i ins z σ nc ns = none := by rcases hk with ⟨-, rfl⟩ | ⟨-, rfl⟩ | ⟨-, rfl⟩ <;> simp [xNw]
    have h8 : xCl i ins z σ nc ns = xCa i kd ix z σ nc ns := by rcases hk with ⟨rfl, rfl⟩ | ⟨rfl, rfl⟩ | ⟨rfl, rfl⟩ <;> rfl
    have h9 : xRt i ins z nc ns = none := by rcases hk with ⟨-, rfl⟩ | ⟨-, rfl⟩ | ⟨-, rfl⟩ <;> simp [xRt]
    simp only [xStep, xMain, h1, h2, h3, h4, h5, h6, h7a, h7, h8, h9, hca]
    by_cases h : (st.map fun v => v.category).sum ≤ 8 ∧ (kd = 0 → xRc σ j as = true)
    · simp only [if_pos h]; rfl
    · simp only [if_neg h]; rfl
  by_cases h : (st.map fun v => v.category).sum ≤ 8 ∧ (kd = 0 → xRc σ j as = true)
  · rw [if_pos h] at hst
    rw [G_call hd hst]
    apply propext
    exact ⟨fun q => ⟨h.1, h.2, q⟩, fun q => q.2.2⟩
  · rw [if_neg h] at hst
    rw [G_no hd hst]
    apply propext
    exact ⟨fun q => q.elim, fun q => h ⟨q.1, q.2.1⟩⟩
theorem G_cv {ix j : Nat} {as : List Value} (hd : decode (mC i) pc = .ok (.invokevirtual ix, 3)) (hj : cLk (mO i) ix = some j) (hs : (j < 187 ∧ mK j = 0 ∧ mF j + 1 ≤ mF i ∧ 8 + (mL j + 11) + mW j ≤ mW i) ∧ mCe j = 0 ∧ mSl j = 0) (hn : as.length = xNa 0 j) (hl : (xLay as).length ≤ mL j ∧ xAok as = true) : G none i pc L (as.reverse ++ st) σ 0 0 Q = ((st.map fun v => v.category).sum ≤ 8 ∧ xRc σ j as = true ∧ GM j as σ (fun r σ => G none i (pc + 3) L (r.toList ++ st) σ 0 0 Q)) := by
  rw [G_cal (kd := 0) (.inl ⟨rfl, rfl⟩) hd hj hs.1 hn hl (fun h => by cases h) ⟨by omega, by omega⟩, hs.2.1, hs.2.2]
  simp
theorem G_cs {ix j : Nat} {as : List Value} (hd : decode (mC i) pc = .ok (.invokestatic ix, 3)) (hj : cLk (mO i) ix = some j) (hs : (j < 187 ∧ mK j = 1 ∧ mF j + 1 ≤ mF i ∧ 8 + (mL j + 11) + mW j ≤ mW i) ∧ mCe j = 0 ∧ mSl j = 0) (hn : as.length = xNa 1 j) (hl : (xLay as).length ≤ mL j ∧ xAok as = true) : G none i pc L (as.reverse ++ st) σ 0 0 Q = ((st.map fun v => v.category).sum ≤ 8 ∧ GM j as σ (fun r σ => G none i (pc + 3) L (r.toList ++ st) σ 0 0 Q)) := by
  rw [G_cal (kd := 1) (.inr (.inl ⟨rfl, rfl⟩)) hd hj hs.1 hn hl (fun h => by cases h) ⟨by omega, by omega⟩, hs.2.1, hs.2.2]
  simp
theorem G_acopy {ix a b : Nat} {u v w : Int32} (hd : decode (mC i) pc = .ok (.invokestatic ix, 3)) (hj : cLk (mO i) ix = some 1001) (hf : 1 ≤ mF i) : G none i pc L (.int w :: .int v :: .ref b :: .int u :: .ref a :: st) σ 0 0 Q = GV (xAl σ a) (fun y => GV (xAl σ b) (fun z => ((st.map fun v => v.category).sum + 18 ≤ mW i ∧ ¬ u < 0 ∧ ¬ v < 0 ∧ ¬ w < 0 ∧ u.toNatClampNeg + w.toNatClampNeg ≤ y.1 ∧ v.toNatClampNeg + w.toNatClampNeg ≤ z.1) ∧ G none i (pc + 3) L st (σ.set b (.inl (1, z.1, .inr (.inl (va_cpy y.2 z.2 u.toNatClampNeg v.toNatClampNeg w.toNatClampNeg))))) 0 0 Q)) := by
  cases h : xAl σ a with
  | none => rw [G_no hd (by simp [xStep, xBr, xln, xMain, xLd, xOp, xSto, xInc, xUn, xBin, xBi, xRd, xWr, xMa, xM1, xNw, xCl, xCa, xRt, hj, h])]; rfl
  | some y =>
    rw [GV_s]
    cases h2 : xAl σ b with
    | none => rw [G_no hd (by simp [xStep, xBr, xln, xMain, xLd, xOp, xSto, xInc, xUn, xBin, xBi, xRd, xWr, xMa, xM1, xNw, xCl, xCa, xRt, hj, h, h2])]; rfl
    | some z =>
      rw [GV_s]
      by_cases hc : (st.map fun v => v.category).sum + 18 ≤ mW i ∧ ¬ u < 0 ∧ ¬ v < 0 ∧ ¬ w < 0 ∧ u.toNatClampNeg + w.toNatClampNeg ≤ y.1 ∧ v.toNatClampNeg + w.toNatClampNeg ≤ z.1
      · rw [G_go hd (pc' := pc + 3) (L' := L) (st' := st) (σ' := σ.set b (.inl (1, z.1, .inr (.inl (va_cpy y.2 z.2 u.toNatClampNeg v.toNatClampNeg w.toNatClampNeg))))) (nc' := 0) (ns' := 0) (by
          have e : xWr i (.invokestatic ix) (.int w :: .int v :: .ref b :: .int u :: .ref a :: st) σ = some (st, σ.set b (.inl (1, z.1, .inr (.inl (va_cpy y.2 z.2 u.toNatClampNeg v.toNatClampNeg w.toNatClampNeg))))) := by
            simp only [xWr, h, h2, Option.bind_some]
            rw [if_pos ⟨hj, hf, hc⟩]
          simp [xStep, xBr, xln, xMain, xLd, xOp, xSto, xInc, xUn, xBin, xBi, xRd, e])]
        apply propext
        exact ⟨fun q => ⟨hc, q⟩, fun q => q.2⟩
      · have e : xWr i (.invokestatic ix) (.int w :: .int v :: .ref b :: .int u :: .ref a :: st) σ = none := by
          simp only [xWr, h, h2, Option.bind_some]
          rw [if_neg (fun q => hc q.2.2)]
        rw [G_no hd (by simp [xStep, xBr, xln, xMain, xLd, xOp, xSto, xInc, xUn, xBin, xBi, xRd, e, xMa, xM1, xNw, xCl, xCa, xRt, hj])]
        apply propext
        exact ⟨fun q => q.elim, fun q => hc q.1⟩
end GR
section GR0
variable {i pc : Nat} {L st : List Value} {σ : xSt} {Q : Option Value → xSt → Prop}
theorem G_mmax {ix : Nat} {a b : Int32} (hd : decode (mC i) pc = .ok (.invokestatic ix, 3)) (hj : cLk (mO i) ix = some 188) (hf : 1 ≤ mF i) : G none i pc L (.int b :: .int a :: st) σ 0 0 Q = ((st.map fun v => v.category).sum + 13 ≤ mW i ∧ G none i (pc + 3) L (.int (if a < b then b else a) :: st) σ 0 0 Q) := by
  have hm : xMa i (.invokestatic ix) (.int b :: .int a :: st) 0 0 = if (st.map fun v => v.category).sum + 13 ≤ mW i then some (.int (if a < b then b else a) :: st) else none := by
    unfold xMa
    simp only [hj]
    rw [if_neg (by omega)]
    simp [xM1]
  have h5 : xRd none i (.invokestatic ix) (.int b :: .int a :: st) σ = none := by simp [xRd]
  have h6 : xWr i (.invokestatic ix) (.int b :: .int a :: st) σ = none := by
    unfold xWr
    split <;> simp_all
  have h7 : xBin (.invokestatic ix) (.int b :: .int a :: st) = none := by
    unfold xBin
    split <;> simp_all [xBi, xBl]
  by_cases hc : (st.map fun v => v.category).sum + 13 ≤ mW i
  · rw [if_pos hc] at hm
    rw [G_go hd (pc' := pc + 3) (L' := L) (st' := .int (if a < b then b else a) :: st) (σ' := σ) (nc' := 0) (ns' := 0) (by simp [xStep, xBr, xln, xMain, xLd, xOp, xSto, xInc, xUn, h5, h6, h7, hm])]
    simp [hc]
  · rw [if_neg hc] at hm
    rw [G_no hd (by simp [xStep, xBr, xln, xMain, xLd, xOp, xSto, xInc, xUn, h5, h6, h7, hm, xNw, xCl, xCa, xRt, hj])]
    simp [hc]
theorem G_mmin {ix : Nat} {a b : Int32} (hd : decode (mC i) pc = .ok (.invokestatic ix, 3)) (hj : cLk (mO i) ix = some 190) (hf : 1 ≤ mF i) : G none i pc L (.int b :: .int a :: st) σ 0 0 Q = ((st.map fun v => v.category).sum + 13 ≤ mW i ∧ G none i (pc + 3) L (.int (if b < a then b else a) :: st) σ 0 0 Q) := by
  have hm : xMa i (.invokestatic ix) (.int b :: .int a :: st) 0 0 = if (st.map fun v => v.category).sum + 13 ≤ mW i then some (.int (if b < a then b else a) :: st) else none := by
    unfold xMa
    simp only [hj]
    rw [if_neg (by omega)]
    simp [xM1]
  have h5 : xRd none i (.invokestatic ix) (.int b :: .int a :: st) σ = none := by simp [xRd]
  have h6 : xWr i (.invokestatic ix) (.int b :: .int a :: st) σ = none := by
    unfold xWr
    split <;> simp_all
  have h7 : xBin (.invokestatic ix) (.int b :: .int a :: st) = none := by
    unfold xBin
    split <;> simp_all [xBi, xBl]
  by_cases hc : (st.map fun v => v.category).sum + 13 ≤ mW i
  · rw [if_pos hc] at hm
    rw [G_go hd (pc' := pc + 3) (L' := L) (st' := .int (if b < a then b else a) :: st) (σ' := σ) (nc' := 0) (ns' := 0) (by simp [xStep, xBr, xln, xMain, xLd, xOp, xSto, xInc, xUn, h5, h6, h7, hm])]
    simp [hc]
  · rw [if_neg hc] at hm
    rw [G_no hd (by simp [xStep, xBr, xln, xMain, xLd, xOp, xSto, xInc, xUn, h5, h6, h7, hm, xNw, xCl, xCa, xRt, hj])]
    simp [hc]
theorem G_mmaxL {ix : Nat} {a b : Int64} (hd : decode (mC i) pc = .ok (.invokestatic ix, 3)) (hj : cLk (mO i) ix = some 189) (hf : 1 ≤ mF i) : G none i pc L (.long b :: .long a :: st) σ 0 0 Q = ((st.map fun v => v.category).sum + 15 ≤ mW i ∧ G none i (pc + 3) L (.long (if b < a then a else b) :: st) σ 0 0 Q) := by
  have hm : xMa i (.invokestatic ix) (.long b :: .long a :: st) 0 0 = if (st.map fun v => v.category).sum + 15 ≤ mW i then some (.long (if b < a then a else b) :: st) else none := by
    unfold xMa
    simp only [hj]
    rw [if_neg (by omega)]
    simp [xM1]
  have h5 : xRd none i (.invokestatic ix) (.long b :: .long a :: st) σ = none := by simp [xRd]
  have h6 : xWr i (.invokestatic ix) (.long b :: .long a :: st) σ = none := by
    unfold xWr
    split <;> simp_all
  have h7 : xBin (.invokestatic ix) (.long b :: .long a :: st) = none := by
    unfold xBin
    split <;> simp_all [xBi, xBl]
  by_cases hc : (st.map fun v => v.category).sum + 15 ≤ mW i
  · rw [if_pos hc] at hm
    rw [G_go hd (pc' := pc + 3) (L' := L) (st' := .long (if b < a then a else b) :: st) (σ' := σ) (nc' := 0) (ns' := 0) (by simp [xStep, xBr, xln, xMain, xLd, xOp, xSto, xInc, xUn, h5, h6, h7, hm])]
    simp [hc]
  · rw [if_neg hc] at hm
    rw [G_no hd (by simp [xStep, xBr, xln, xMain, xLd, xOp, xSto, xInc, xUn, h5, h6, h7, hm, xNw, xCl, xCa, xRt, hj])]
    simp [hc]
theorem G_mminL {ix : Nat} {a b : Int64} (hd : decode (mC i) pc = .ok (.invokestatic ix, 3)) (hj : cLk (mO i) ix = some 191) (hf : 1 ≤ mF i) : G none i pc L (.long b :: .long a :: st) σ 0 0 Q = ((st.map fun v => v.category).sum + 15 ≤ mW i ∧ G none i (pc + 3) L (.long (if b < a then b else a) :: st) σ 0 0 Q) := by
  have hm : xMa i (.invokestatic ix) (.long b :: .long a :: st) 0 0 = if (st.map fun v => v.category).sum + 15 ≤ mW i then some (.long (if b < a then b else a) :: st) else none := by
    unfold xMa
    simp only [hj]
    rw [if_neg (by omega)]
    simp [xM1]
  have h5 : xRd none i (.invokestatic ix) (.long b :: .long a :: st) σ = none := by simp [xRd]
  have h6 : xWr i (.invokestatic ix) (.long b :: .long a :: st) σ = none := by
    unfold xWr
    split <;> simp_all
  have h7 : xBin (.invokestatic ix) (.long b :: .long a :: st) = none := by
    unfold xBin
    split <;> simp_all [xBi, xBl]
  by_cases hc : (st.map fun v => v.category).sum + 15 ≤ mW i
  · rw [if_pos hc] at hm
    rw [G_go hd (pc' := pc + 3) (L' := L) (st' := .long (if b < a then b else a) :: st) (σ' := σ) (nc' := 0) (ns' := 0) (by simp [xStep, xBr, xln, xMain, xLd, xOp, xSto, xInc, xUn, h5, h6, h7, hm])]
    simp [hc]
  · rw [if_neg hc] at hm
    rw [G_no hd (by simp [xStep, xBr, xln, xMain, xLd, xOp, xSto, xInc, xUn, h5, h6, h7, hm, xNw, xCl, xCa, xRt, hj])]
    simp [hc]
theorem G_mabsL {ix : Nat} {a : Int64} (hd : decode (mC i) pc = .ok (.invokestatic ix, 3)) (hj : cLk (mO i) ix = some 187) (hf : 1 ≤ mF i) : G none i pc L (.long a :: st) σ 0 0 Q = ((st.map fun v => v.category).sum + 13 ≤ mW i ∧ G none i (pc + 3) L (.long (if 0 < a then a else -a) :: st) σ 0 0 Q) := by
  have hm : xMa i (.invokestatic ix) (.long a :: st) 0 0 = if (st.map fun v => v.category).sum + 13 ≤ mW i then some (.long (if 0 < a then a else -a) :: st) else none := by
    unfold xMa
    simp only [hj]
    rw [if_neg (by omega)]
    cases st with
    | nil => simp [xM1]
    | cons h r =>
      cases h <;> simp [xM1, Value.category]
      all_goals first | done | skip
      rw [Nat.add_comm 2]
  have h5 : xRd none i (.invokestatic ix) (.long a :: st) σ = none := by simp [xRd]
  have h6 : xWr i (.invokestatic ix) (.long a :: st) σ = none := by
    unfold xWr
    split <;> simp_all
  have h7 : xBin (.invokestatic ix) (.long a :: st) = none := by
    unfold xBin
    split <;> simp_all [xBi, xBl]
  by_cases hc : (st.map fun v => v.category).sum + 13 ≤ mW i
  · rw [if_pos hc] at hm
    rw [G_go hd (pc' := pc + 3) (L' := L) (st' := .long (if 0 < a then a else -a) :: st) (σ' := σ) (nc' := 0) (ns' := 0) (by simp [xStep, xBr, xln, xMain, xLd, xOp, xSto, xInc, xUn, h5, h6, h7, hm])]
    simp [hc]
  · rw [if_neg hc] at hm
    rw [G_no hd (by simp [xStep, xBr, xln, xMain, xLd, xOp, xSto, xInc, xUn, h5, h6, h7, hm, xNw, xCl, xCa, xRt, hj])]
    simp [hc]
theorem G_rv (hd : decode (mC i) pc = .ok (.return_, 1)) (hr : mR i = none) (hc : mCe i = 0) : G none i pc L [] σ 0 0 Q = Q none σ := by rw [G_return_ hd hr]; simp [hc]
theorem G_rl {a : Int64} (hd : decode (mC i) pc = .ok (.lreturn, 1)) (hr : mR i = some .long) (hc : mCe i = 0) : G none i pc L [.long a] σ 0 0 Q = Q (some (.long a)) σ := by rw [G_lreturn hd hr]; simp [hc]
theorem G_ri {a : Int32} (hd : decode (mC i) pc = .ok (.ireturn, 1)) (hr : mR i = some .int) (hc : mCe i = 0) : G none i pc L [.int a] σ 0 0 Q = Q (some (.int a)) σ := by rw [G_ireturn hd hr]; simp [hc]
theorem G_rz {a : Int32} (hd : decode (mC i) pc = .ok (.ireturn, 1)) (hr : mR i = some .boolean) (hc : mCe i = 0) : G none i pc L [.int a] σ 0 0 Q = ((a = 0 ∨ a = 1) ∧ Q (some (.int a)) σ) := by rw [G_ireturnZ hd hr]; simp [hc]
theorem G_iaload0 {a : Nat} {b : Int32} (hd : decode (mC i) pc = .ok (.iaload, 1)) : G none i pc L (.int b :: .ref a :: st) σ 0 0 Q = GV (xAi σ a) (fun z => vp_in b z.1 ∧ G none i (pc + 1) L (.int (z.2 b.toNatClampNeg) :: st) σ 0 0 Q) := by
  rw [G_iaload hd]
  have : xSc none a = none := by unfold xSc; split <;> rfl
  rw [this, Option.or_none]
end GR0
