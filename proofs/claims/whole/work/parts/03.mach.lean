/-! THE ABSTRACT MACHINE: a frame (pc, locals, operand stack) over a store: the cells made since the law's start, by their places; a reference is a place (scP: the script). -/
abbrev xSt : Type := List va_E
def mC (i : Nat) : ByteArray := cdT.getD i code
def mY (i : Nat) : MethodName := yT.getD i x
def mL (i : Nat) : Nat := mlT.getD i 0
def mR (i : Nat) : Option FieldType := rtT.getD i none
def mO (i : Nat) : Nat := owT.getD i 0
def mN (i : Nat) : Nat := npT.getD i 0
def mK (i : Nat) : Nat := kdT.getD i 0
def mF (i : Nat) : Nat := frT.getD i 0
def mW (i : Nat) : Nat := loT.getD i 0
def mCe (i : Nat) : Nat := ceT.getD i 0
def mSl (i : Nat) : Nat := slT.getD i 0
def oS (o : Nat) : String := oN.getD o ""
def scP : Nat := 1000000
def fLk (o ix : Nat) : Option (Nat × Nat) := (flT.getD o []).lookup ix
def cLk (o ix : Nat) : Option Nat := (clT.getD o []).lookup ix
def kLk (o ix : Nat) : Option Value := (cnT.getD o []).lookup ix
def nLk (o ix : Nat) : Option Nat := (nwT.getD o []).lookup ix
def rLk (o ix : Nat) : Option Nat := (mnT.getD o []).lookup ix
def dFs (ci : Nat) : List Value := dfT.getD ci []
/-- locals: a long takes two places, the second one marked -/
def xLay : List Value → List Value
  | [] => []
  | .long z :: r => .long z :: .retAddr 0 :: xLay r
  | v :: r => v :: xLay r
def xEnt (n : Nat) (as : List Value) : List Value := xLay as ++ List.replicate (n - (xLay as).length) .null
def xGi (L : List Value) (k : Nat) : Option Value := match L[k]? with
  | some (.int z) => some (.int z)
  | _ => none
def xGl (L : List Value) (k : Nat) : Option Value := match L[k]? with
  | some (.long z) => (match L[k + 1]? with
    | some (.retAddr _) => some (.long z)
    | _ => none)
  | _ => none
def xGa (L : List Value) (k : Nat) : Option Value := match L[k]? with
  | some (.ref z) => some (.ref z)
  | _ => none
def xln (i : Instr) : Nat := match i with
  | .bipush _ => 2
  | .iload _ => 2
  | .lload _ => 2
  | .istore _ => 2
  | .lstore _ => 2
  | .ldc _ => 2
  | .newarray _ => 2
  | .sipush _ => 3
  | .iinc _ _ => 3
  | .getfield _ => 3
  | .putfield _ => 3
  | .invokevirtual _ => 3
  | .invokespecial _ => 3
  | .invokestatic _ => 3
  | .new _ => 3
  | .ldc_w _ => 3
  | .ldc2_w _ => 3
  | .multianewarray _ _ => 4
  | _ => 1
/-- what is pushed, by constants and loads -/
def xLd (o : Nat) (i : Instr) (L : List Value) : Option Value := match i with
  | .iconst n => some (.int (Int32.ofInt n))
  | .bipush n => some (.int (Int8.ofInt n).toInt32)
  | .sipush n => some (.int (Int16.ofInt n).toInt32)
  | .lconst n => some (.long (Int64.ofNat (n : Nat)))
  | .iload_n k => xGi L k
  | .iload k => xGi L k
  | .lload_n k => xGl L k
  | .lload k => xGl L k
  | .aload_n k => xGa L k
  | .ldc k => (match kLk o k with
    | some (.int z) => some (.int z)
    | _ => none)
  | .ldc_w k => (match kLk o k with
    | some (.int z) => some (.int z)
    | _ => none)
  | .ldc2_w k => (match kLk o k with
    | some (.long z) => some (.long z)
    | _ => none)
  | _ => none
def xSi (L : List Value) (k : Nat) (v : Value) (r : List Value) : Option (List Value × List Value) := if k < L.length then some (L.set k v, r) else none
def xSl (L : List Value) (k : Nat) (v : Value) (r : List Value) : Option (List Value × List Value) := if k + 1 < L.length then some ((L.set k v).set (k + 1) (.retAddr 0), r) else none
def xSto (i : Instr) (L st : List Value) : Option (List Value × List Value) := match i, st with
  | .istore_n k, .int z :: r => xSi L k (.int z) r
  | .istore k, .int z :: r => xSi L k (.int z) r
  | .astore_n k, .ref z :: r => xSi L k (.ref z) r
  | .lstore_n k, .long z :: r => xSl L k (.long z) r
  | .lstore k, .long z :: r => xSl L k (.long z) r
  | _, _ => none
def xInc (i : Instr) (L st : List Value) : Option (List Value × List Value) := match i with
  | .iinc k n => (match L[k]? with
    | some (.int z) => some (L.set k (.int (z + Int32.ofInt n)), st)
    | _ => none)
  | _ => none
def xUn (i : Instr) (st : List Value) : Option (List Value) := match i, st with
  | .ineg, .int z :: r => some (.int (-z) :: r)
  | .lneg, .long z :: r => some (.long (-z) :: r)
  | .i2l, .int z :: r => some (.long z.toInt64 :: r)
  | .l2i, .long z :: r => some (.int z.toInt32 :: r)
  | .i2b, .int z :: r => some (.int z.toInt8.toInt32 :: r)
  | .i2s, .int z :: r => some (.int z.toInt16.toInt32 :: r)
  | .dup, .int z :: r => some (.int z :: .int z :: r)
  | .dup, .ref z :: r => some (.ref z :: .ref z :: r)
  | .dup2, .int y :: .ref z :: r => some (.int y :: .ref z :: .int y :: .ref z :: r)
  | _, _ => none
def xBi (i : Instr) (y z : Int32) : Option Int32 := match i with
  | .iadd => some (y + z)
  | .isub => some (y - z)
  | .imul => some (y * z)
  | .iand => some (y &&& z)
  | .ior => some (y ||| z)
  | .ixor => some (y ^^^ z)
  | .ishl => some (y <<< (z &&& 31))
  | .ishr => some (y >>> (z &&& 31))
  | .iushr => some (y.toUInt32 >>> (z.toUInt32 &&& Int32.toUInt32 31)).toInt32
  | .idiv => if z = 0 then none else some (y / z)
  | .irem => if z = 0 then none else some (y - y / z * z)
  | _ => none
def xBl (i : Instr) (y z : Int64) : Option Value := match i with
  | .ladd => some (.long (y + z))
  | .lsub => some (.long (y - z))
  | .lmul => some (.long (y * z))
  | .land => some (.long (y &&& z))
  | .lor => some (.long (y ||| z))
  | .lcmp => some (.int (lg_cmp y z))
  | .ldiv => if z = 0 then none else some (.long (y / z))
  | .lrem => if z = 0 then none else some (.long (y - y / z * z))
  | _ => none
def xBin (i : Instr) (st : List Value) : Option (List Value) := match st with
  | .int z :: .int y :: r => (xBi i y z).map fun w => .int w :: r
  | .long z :: .long y :: r => (xBl i y z).map fun w => w :: r
  | .int z :: .long y :: r => (match i with
    | .lshl => some (.long (y <<< (z.toInt64 &&& 63)) :: r)
    | _ => none)
  | _ => none
def xOp (i : Instr) (L st : List Value) : Option (List Value × List Value) :=
  ((xSto i L st).or (xInc i L st)).or (((xUn i st).or (xBin i st)).map fun r => (L, r))
def xT (pc : Nat) (off : Int) (st : List Value) : Option (Nat × List Value) := if 0 ≤ (pc : Int) + off then some (((pc : Int) + off).toNat, st) else none
def xCd (c : Jvm.ClassFile.Cond) (y z : Int32) : Bool := match c with
  | .eq => decide (y = z)
  | .ne => decide (¬ y = z)
  | .lt => decide (y < z)
  | .ge => decide (z ≤ y)
  | .gt => decide (z < y)
  | .le => decide (y ≤ z)
def xBr (i : Instr) (len pc : Nat) (st : List Value) : Option (Nat × List Value) := match i, st with
  | .goto off, st => if len = 3 then xT pc off st else none
  | .ifCond c off, .int z :: r => if len = 3 ∧ 0 ≤ (pc : Int) + off then (if xCd c z 0 = true then some (((pc : Int) + off).toNat, r) else some (pc + 3, r)) else none
  | .if_icmp c off, .int z :: .int y :: r => if len = 3 ∧ 0 ≤ (pc : Int) + off then (if xCd c y z = true then some (((pc : Int) + off).toNat, r) else some (pc + 3, r)) else none
  | .tableswitch d lo hi offs, .int z :: r => if z.toInt < lo ∨ hi < z.toInt then xT pc d r else (match offs[(z.toInt - lo).toNat]? with
    | some off => xT pc off r
    | none => none)
  | .lookupswitch d ps, .int z :: r => if (ps.toList.zip (ps.toList.drop 1)).all (fun (a, next) => a.1 < next.1) then xT pc (Op.lookupswitch.offset ps.toList d z.toInt) r else none
  | _, _ => none
def xCe (σ : xSt) (q : Nat) : Option va_E := if q = scP then none else σ[q]?
def xFd (σ : xSt) (q ci k : Nat) : Option Value := match xCe σ q with
  | some (.inr (c, fs)) => if c = ci then fs[k]? else none
  | _ => none
def xOk (ty : FieldType) (v : Value) : Bool := match ty, v with
  | .int, .int _ => true
  | .long, .long _ => true
  | .boolean, .int z => decide (z = 0) || decide (z = 1)
  | .array _, .ref _ => true
  | .object _, .ref _ => true
  | _, _ => false
def xFin (ci k : Nat) : Bool := match vwCl[ci]? with
  | some (_, T, _) => (T k).2.2.2
  | none => true
def xTy (ci k : Nat) : FieldType := (tyT.getD ci (fun _ => .int)) k
def xPf (i : Nat) (σ : xSt) (q ci k : Nat) (v : Value) : Option xSt := match xCe σ q with
  | some (.inr (c, fs)) => if c = ci ∧ k < fs.length ∧ xOk (xTy ci k) v = true ∧ (xFin ci k = false ∨ (mK i = 2 ∧ mO i = ci)) then some (σ.set q (.inr (c, fs.set k v))) else none
  | _ => none
/-- arrays: of int (0), long (1), boolean (2), rows of int (3), of long (4) -/
def xAi (σ : xSt) (q : Nat) : Option (Nat × (Nat → Int32)) := match xCe σ q with
  | some (.inl (0, n, .inl f)) => some (n, f)
  | _ => none
def xAl (σ : xSt) (q : Nat) : Option (Nat × (Nat → Int64)) := match xCe σ q with
  | some (.inl (1, n, .inr (.inl f))) => some (n, f)
  | _ => none
def xAz (σ : xSt) (q : Nat) : Option (Nat × (Nat → Int32)) := match xCe σ q with
  | some (.inl (2, n, .inl f)) => some (n, f)
  | _ => none
def xAq (σ : xSt) (q : Nat) : Option (Nat × (Nat → Option Nat)) := match xCe σ q with
  | some (.inl (t, n, .inr (.inr (.inr (.inr f))))) => if t = 3 ∨ t = 4 then some (n, f) else none
  | _ => none
def xSc (scr : Option (Nat × (Nat → Int32))) (q : Nat) : Option (Nat × (Nat → Int32)) := if q = scP then scr else none
def xIn {α : Type} (j : Int32) (n : Nat) (v : α) : Option α := if j < 0 ∨ n ≤ j.toNatClampNeg then none else some v
def xRd (scr : Option (Nat × (Nat → Int32))) (i : Nat) (ins : Instr) (st : List Value) (σ : xSt) : Option (List Value) := match ins, st with
  | .getfield ix, .ref q :: r => (match fLk (mO i) ix with
    | some (ci, k) => (xFd σ q ci k).map fun v => v :: r
    | none => none)
  | .iaload, .int j :: .ref q :: r => ((xAi σ q).or (xSc scr q)).bind fun a => xIn j a.1 (.int (a.2 j.toNatClampNeg) :: r)
  | .laload, .int j :: .ref q :: r => (xAl σ q).bind fun a => xIn j a.1 (.long (a.2 j.toNatClampNeg) :: r)
  | .baload, .int j :: .ref q :: r => (xAz σ q).bind fun a => xIn j a.1 (.int (a.2 j.toNatClampNeg) :: r)
  | .aaload, .int j :: .ref q :: r => (xAq σ q).bind fun a => (match a.2 j.toNatClampNeg with
    | some y => if y = scP then none else xIn j a.1 (.ref y :: r)
    | none => none)
  | .arraylength, .ref q :: r => (xSc scr q).map fun a => .int (Int32.ofNat a.1) :: r
  | .invokespecial ix, .ref _ :: r => if cLk (mO i) ix = some 1000 ∧ 1 ≤ mF i ∧ (r.map fun v => v.category).sum + 12 ≤ mW i then some r else none
  | _, _ => none
def xWr (i : Nat) (ins : Instr) (st : List Value) (σ : xSt) : Option (List Value × xSt) := match ins, st with
  | .putfield ix, v :: .ref q :: r => (match fLk (mO i) ix with
    | some (ci, k) => (xPf i σ q ci k v).map fun σ' => (r, σ')
    | none => none)
  | .iastore, .int z :: .int j :: .ref q :: r => (xAi σ q).bind fun a => xIn j a.1 (r, σ.set q (.inl (0, a.1, .inl (upd a.2 j.toNatClampNeg z))))
  | .lastore, .long z :: .int j :: .ref q :: r => (xAl σ q).bind fun a => xIn j a.1 (r, σ.set q (.inl (1, a.1, .inr (.inl (vp_updL a.2 j.toNatClampNeg z)))))
  | .bastore, .int z :: .int j :: .ref q :: r => (xAz σ q).bind fun a => xIn j a.1 (r, σ.set q (.inl (2, a.1, .inl (upd a.2 j.toNatClampNeg (vp_nar .boolean z)))))
  | .invokestatic ix, .int n :: .int dp :: .ref q1 :: .int sp :: .ref q0 :: r => (xAl σ q0).bind fun a => (xAl σ q1).bind fun b =>
      if cLk (mO i) ix = some 1001 ∧ 1 ≤ mF i ∧ (r.map fun v => v.category).sum + 18 ≤ mW i ∧ ¬ sp < 0 ∧ ¬ dp < 0 ∧ ¬ n < 0 ∧ sp.toNatClampNeg + n.toNatClampNeg ≤ a.1 ∧ dp.toNatClampNeg + n.toNatClampNeg ≤ b.1 then some (r, σ.set q1 (.inl (1, b.1, .inr (.inl (va_cpy a.2 b.2 sp.toNatClampNeg dp.toNatClampNeg n.toNatClampNeg))))) else none
  | _, _ => none
def xM1 (j : Nat) (st : List Value) (w : Nat) : Option (List Value) := match st with
  | .long z :: .long y :: r => if (r.map fun v => v.category).sum + 15 ≤ w ∧ j = 189 then some (.long (if z < y then y else z) :: r) else if (r.map fun v => v.category).sum + 15 ≤ w ∧ j = 191 then some (.long (if z < y then z else y) :: r) else if (r.map fun v => v.category).sum + 2 + 13 ≤ w ∧ j = 187 then some (.long (if 0 < z then z else -z) :: .long y :: r) else none
  | .long z :: r => if (r.map fun v => v.category).sum + 13 ≤ w ∧ j = 187 then some (.long (if 0 < z then z else -z) :: r) else none
  | .int z :: .int y :: r => if (r.map fun v => v.category).sum + 13 ≤ w ∧ j = 188 then some (.int (if y < z then z else y) :: r) else if (r.map fun v => v.category).sum + 13 ≤ w ∧ j = 190 then some (.int (if z < y then z else y) :: r) else none
  | _ => none
/-- Math's own: abs, max, min -/
def xMa (i : Nat) (ins : Instr) (st : List Value) (nc ns : Nat) : Option (List Value) := match ins with
  | .invokestatic ix => (match cLk (mO i) ix with
    | some j => if j < 187 ∨ ¬ (1 ≤ mF i ∧ nc ≤ mCe i ∧ ns ≤ mSl i) then none else xM1 j st (mW i)
    | none => none)
  | _ => none
def xAt (t : ArrayType) : Option (Nat × ((Nat → Int32) ⊕ (Nat → Int64) ⊕ (Nat → UInt32) ⊕ (Nat → UInt64) ⊕ (Nat → Option Nat))) := match t with
  | .int => some (0, .inl fun _ => 0)
  | .long => some (1, .inr (.inl fun _ => 0))
  | .boolean => some (2, .inl fun _ => 0)
  | _ => none
def xNw (i : Nat) (ins : Instr) (st : List Value) (σ : xSt) (nc ns : Nat) : Option (List Value × xSt × Nat × Nat) := match ins, st with
  | .new ix, st => (match nLk (mO i) ix with
    | some ci => if nc + 1 ≤ mCe i ∧ ns + (dFs ci).length ≤ mSl i ∧ σ.length < scP then some (.ref σ.length :: st, σ ++ [.inr (ci, dFs ci)], nc + 1, ns + (dFs ci).length) else none
    | none => none)
  | .newarray t, .int n :: r => (match xAt t with
    | some (k, f) => if ¬ n < 0 ∧ n.toNatClampNeg ≤ 100000 ∧ nc + 1 ≤ mCe i ∧ ns + n.toNatClampNeg ≤ mSl i ∧ σ.length < scP then some (.ref σ.length :: r, σ ++ [.inl (k, n.toNatClampNeg, f)], nc + 1, ns + n.toNatClampNeg) else none
    | none => none)
  | .multianewarray ix 2, .int k :: .int n :: r => (match rLk (mO i) ix with
    | some t => if ¬ n < 0 ∧ ¬ k < 0 ∧ n.toNatClampNeg ≤ 100 ∧ k.toNatClampNeg ≤ 100 ∧ nc + (1 + n.toNatClampNeg) ≤ mCe i ∧ ns + (n.toNatClampNeg + n.toNatClampNeg * k.toNatClampNeg) ≤ mSl i ∧ σ.length + n.toNatClampNeg + 1 < scP then
        some (.ref σ.length :: r, (σ ++ [.inl (t, n.toNatClampNeg, .inr (.inr (.inr (.inr fun j => if j < n.toNatClampNeg then some (σ.length + 1 + j) else none))))]) ++ List.replicate n.toNatClampNeg (if t = 3 then .inl (0, k.toNatClampNeg, .inl fun _ => 0) else .inl (1, k.toNatClampNeg, .inr (.inl fun _ => 0))), nc + 1 + n.toNatClampNeg, ns + n.toNatClampNeg + n.toNatClampNeg * k.toNatClampNeg) else none
    | none => none)
  | _, _ => none
def xRc (σ : xSt) (j : Nat) (as : List Value) : Bool := match as with
  | .ref q :: _ => (match xCe σ q with
    | some (.inr (c, _)) => c == mO j
    | _ => false)
  | _ => false
def xRf (as : List Value) : Bool := match as with
  | .ref _ :: _ => true
  | _ => false
def xFit (i j nc ns : Nat) : Prop := mF j + 1 ≤ mF i ∧ 8 + (mL j + 11) + mW j ≤ mW i ∧ nc + mCe j ≤ mCe i ∧ ns + mSl j ≤ mSl i
def xAok (as : List Value) : Bool := as.all fun v => match v with
  | .int _ => true
  | .long _ => true
  | .ref _ => true
  | _ => false
/-- how many entries of the stack a call takes -/
def xNa (kd j : Nat) : Nat := if kd = 1 then mN j else mN j + 1
def xCa (i kd ix : Nat) (st : List Value) (σ : xSt) (nc ns : Nat) : Option (Nat × List Value × List Value) := match cLk (mO i) ix with
  | some j => if j < 187 ∧ mK j = kd ∧ (mF j + 1 ≤ mF i ∧ 8 + (mL j + 11) + mW j ≤ mW i ∧ nc + mCe j ≤ mCe i ∧ ns + mSl j ≤ mSl i) ∧ xNa kd j ≤ st.length ∧ ((st.drop (xNa kd j)).map fun v => v.category).sum ≤ 8 ∧ ((xLay (st.take (xNa kd j)).reverse).length ≤ mL j ∧ xAok (st.take (xNa kd j)).reverse = true) ∧ (kd = 0 → xRc σ j (st.take (xNa kd j)).reverse = true) ∧ (kd = 2 → xRf (st.take (xNa kd j)).reverse = true) then some (j, (st.take (xNa kd j)).reverse, st.drop (xNa kd j)) else none
  | none => none
def xCl (i : Nat) (ins : Instr) (st : List Value) (σ : xSt) (nc ns : Nat) : Option (Nat × List Value × List Value) := match ins with
  | .invokevirtual ix => xCa i 0 ix st σ nc ns
  | .invokestatic ix => xCa i 1 ix st σ nc ns
  | .invokespecial ix => xCa i 2 ix st σ nc ns
  | _ => none
def xRok (ty : Option FieldType) (z : Int32) : Bool := match ty with
  | some .int => true
  | some .boolean => decide (z = 0) || decide (z = 1)
  | _ => false
def xRt (i : Nat) (ins : Instr) (st : List Value) (nc ns : Nat) : Option (Option Value) := match ins, st with
  | .return_, [] => if mR i = none ∧ (nc = mCe i ∨ (i = 192 ∧ nc ≤ mCe i)) ∧ ns ≤ mSl i then some none else none
  | .ireturn, [.int z] => if xRok (mR i) z = true ∧ (nc = mCe i ∨ (i = 192 ∧ nc ≤ mCe i)) ∧ ns ≤ mSl i then some (some (.int z)) else none
  | .lreturn, [.long z] => if mR i = some .long ∧ (nc = mCe i ∨ (i = 192 ∧ nc ≤ mCe i)) ∧ ns ≤ mSl i then some (some (.long z)) else none
  | _, _ => none
/-- where a step leads: on, to a call, to an end -/
abbrev xNx : Type := (Nat × List Value × List Value × xSt × Nat × Nat) ⊕ (Nat × List Value × List Value) ⊕ (Option Value)
def xMain (scr : Option (Nat × (Nat → Int32))) (i pc : Nat) (ins : Instr) (len : Nat) (L st : List Value) (σ : xSt) (nc ns : Nat) : Option xNx :=
  ((xLd (mO i) ins L).map fun v => .inl (pc + len, L, v :: st, σ, nc, ns)).or
  (((xOp ins L st).map fun q => .inl (pc + len, q.1, q.2, σ, nc, ns)).or
  (((xRd scr i ins st σ).map fun r => .inl (pc + len, L, r, σ, nc, ns)).or
  (((xWr i ins st σ).map fun q => .inl (pc + len, L, q.1, q.2, nc, ns)).or
  (((xMa i ins st nc ns).map fun r => .inl (pc + len, L, r, σ, nc, ns)).or
  (((xNw i ins st σ nc ns).map fun q => .inl (pc + len, L, q.1, q.2.1, q.2.2.1, q.2.2.2)).or
  (((xCl i ins st σ nc ns).map fun q => .inr (.inl q)).or
  ((xRt i ins st nc ns).map fun r => .inr (.inr r))))))))
def xStep (scr : Option (Nat × (Nat → Int32))) (i pc : Nat) (ins : Instr) (len : Nat) (L st : List Value) (σ : xSt) (nc ns : Nat) : Option xNx :=
  ((xBr ins len pc st).map fun q => .inl (q.1, L, q.2, σ, nc, ns)).or (if len = xln ins then xMain scr i pc ins len L st σ nc ns else none)
def xs : Nat → Option (Nat × (Nat → Int32)) → Nat → Nat → List Value → List Value → xSt → Nat → Nat → Option (Option Value × xSt)
  | 0, _, _, _, _, _, _, _, _ => none
  | n + 1, scr, i, pc, L, st, σ, nc, ns =>
    match decode (mC i) pc with
    | .error _ => none
    | .ok (ins, len) =>
      match xStep scr i pc ins len L st σ nc ns with
      | none => none
      | some (.inl (pc', L', st', σ', nc', ns')) => xs n scr i pc' L' st' σ' nc' ns'
      | some (.inr (.inl (j, as, st'))) =>
        (match xs n none j 0 (xEnt (mL j) as) [] σ 0 0 with
        | none => none
        | some (r, σ') => xs n scr i (pc + len) L (r.toList ++ st') σ' (nc + mCe j) (ns + mSl j))
      | some (.inr (.inr r)) => some (r, σ)
/-- it comes to an end with Q -/
def G (scr : Option (Nat × (Nat → Int32))) (i pc : Nat) (L st : List Value) (σ : xSt) (nc ns : Nat) (Q : Option Value → xSt → Prop) : Prop := ∃ n r σ', xs n scr i pc L st σ nc ns = some (r, σ') ∧ Q r σ'
/-- a method, with its arguments -/
def GM (j : Nat) (as : List Value) (σ : xSt) (Q : Option Value → xSt → Prop) : Prop := G none j 0 (xEnt (mL j) as) [] σ 0 0 Q
theorem xs_mono (n : Nat) : ∀ (scr : Option (Nat × (Nat → Int32))) (i pc : Nat) (L st : List Value) (σ : xSt) (nc ns : Nat) (q : Option Value × xSt), xs n scr i pc L st σ nc ns = some q → xs (n + 1) scr i pc L st σ nc ns = some q := by
  induction n with
  | zero =>
    intro scr i pc L st σ nc ns q h
    simp [xs] at h
  | succ n ih =>
    intro scr i pc L st σ nc ns q h
    rw [xs] at h
    rw [xs]
    split at h
    · cases h
    · rename_i ins len hd
      split at h
      · cases h
      · exact ih _ _ _ _ _ _ _ _ _ h
      · rename_i j as st' hs
        split at h
        · cases h
        · rename_i r σ' hr
          rw [ih _ _ _ _ _ _ _ _ _ hr]
          exact ih _ _ _ _ _ _ _ _ _ h
      · exact h
theorem xs_le {n k : Nat} (hk : n ≤ k) {scr : Option (Nat × (Nat → Int32))} {i pc : Nat} {L st : List Value} {σ : xSt} {nc ns : Nat} {q : Option Value × xSt} (h : xs n scr i pc L st σ nc ns = some q) : xs k scr i pc L st σ nc ns = some q := by
  induction hk with
  | refl => exact h
  | step _ ih => exact xs_mono _ _ _ _ _ _ _ _ _ _ ih
section GR
variable {scr : Option (Nat × (Nat → Int32))} {i pc : Nat} {L st : List Value} {σ : xSt} {nc ns : Nat} {Q : Option Value → xSt → Prop} {ins : Instr} {len : Nat}
theorem G_go {pc' : Nat} {L' st' : List Value} {σ' : xSt} {nc' ns' : Nat} (hd : decode (mC i) pc = .ok (ins, len)) (h : xStep scr i pc ins len L st σ nc ns = some (.inl (pc', L', st', σ', nc', ns'))) : G scr i pc L st σ nc ns Q = G scr i pc' L' st' σ' nc' ns' Q := by
  apply propext
  constructor
  · intro ⟨n, r, σ1, h1, h2⟩
    cases n with
    | zero => simp [xs] at h1
    | succ n =>
      rw [xs, hd] at h1
      simp only [h] at h1
      exact ⟨n, r, σ1, h1, h2⟩
  · intro ⟨n, r, σ1, h1, h2⟩
    refine ⟨n + 1, r, σ1, ?_, h2⟩
    rw [xs, hd]
    simp only [h]
    exact h1
theorem G_ret {r : Option Value} (hd : decode (mC i) pc = .ok (ins, len)) (h : xStep scr i pc ins len L st σ nc ns = some (.inr (.inr r))) : G scr i pc L st σ nc ns Q = Q r σ := by
  apply propext
  constructor
  · intro ⟨n, r1, σ1, h1, h2⟩
    cases n with
    | zero => simp [xs] at h1
    | succ n =>
      rw [xs, hd] at h1
      simp only [h] at h1
      cases h1
      exact h2
  · intro h2
    refine ⟨1, r, σ, ?_, h2⟩
    rw [xs, hd]
    simp only [h]
theorem G_no (hd : decode (mC i) pc = .ok (ins, len)) (h : xStep scr i pc ins len L st σ nc ns = none) : G scr i pc L st σ nc ns Q = False := by
  apply propext
  constructor
  · intro ⟨n, r1, σ1, h1, h2⟩
    cases n with
    | zero => simp [xs] at h1
    | succ n =>
      rw [xs, hd] at h1
      simp only [h] at h1
      cases h1
  · intro h; exact h.elim
theorem G_call {j : Nat} {as st' : List Value} (hd : decode (mC i) pc = .ok (ins, len)) (h : xStep scr i pc ins len L st σ nc ns = some (.inr (.inl (j, as, st')))) : G scr i pc L st σ nc ns Q = GM j as σ (fun r σ' => G scr i (pc + len) L (r.toList ++ st') σ' (nc + mCe j) (ns + mSl j) Q) := by
  apply propext
  constructor
  · intro ⟨n, r, σ1, h1, h2⟩
    cases n with
    | zero => simp [xs] at h1
    | succ n =>
      rw [xs, hd] at h1
      simp only [h] at h1
      split at h1
      · cases h1
      · rename_i r2 σ2 h3
        exact ⟨n, r2, σ2, h3, n, r, σ1, h1, h2⟩
  · intro ⟨n, r2, σ2, h3, k, r, σ1, h1, h2⟩
    refine ⟨max n k + 1, r, σ1, ?_, h2⟩
    rw [xs, hd]
    simp only [h, xs_le (Nat.le_max_left n k) h3, xs_le (Nat.le_max_right n k) h1]
end GR
