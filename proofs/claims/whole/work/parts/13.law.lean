/-! THE CLAIM OUT OF THE ABSTRACT MACHINE (head of the kit's skeleton, pasted; then mine) -/
def R_law : String := "ChoreHouseLaw"
def lw_P (b : Addr) (xs : List Int32) (args : Array Value) (s : State) : Prop := args = #[.ref b] ∧ s.IntsAt b xs ∧ xs.length ≤ 3072 ∧ (Jvm.Cond.and given_1 narrow_1).before args s = true
def lw_Q (_ : Array Value) (s : State) (o : Outcome) (t : State) : Prop := o = .returned (some (.int 1)) ∧ Framed s o t [] 600000 7302249
def lw_Z (below : List Frame) (a : Array Value) (s : State) : State → Prop := fun t => ∃ o, t.status = .running ∧ Ended t below o ∧ lw_Q a s o t
/-- the law's own end, with 1 on the stack, nothing written that was there before, its room as the claim has it -/
theorem lw_ret {p : Program} {l : Launch} {e : Env} {s : State} {m : MethodId} {below : List Frame} {meth : Method} {c : Code} {b : Nat} (hx : p.tables.exec = Jvm.exec) (hb : c.code = code) (hr : meth.sig.returnType = ret) (hlocks : meth.locks = false) {pc : Nat} {H : Heap} {ls : Array Slot} (hdg : decode code pc = .ok (.ireturn, 1)) : W p l e room_1 s m #[Value.ref b] below meth c H [] 600000 7302249 (lw_Z below #[Value.ref b] s) (F0 m pc ls [.int 1]) := by
  intro T hT X
  obtain ⟨fs, hret, hrun, hended, hW, hframe⟩ := X.leave (v := some (.int 1)) (hlocks := hlocks) (fun h => by rw [hr] at h; cases h)
  have hmeth' : T.vm.method? m = some meth := X.method'
  refine ⟨T.setFrames fs, ?_, .returned (some (.int 1)), hrun, hended, rfl, ⟨_, rfl⟩, hW, hframe⟩
  jvm_step X.here [X.here.top, hx, hb, hdg, hmeth', hr, ret, narrow_b1]
  (try refine ⟨rfl, ?_⟩); (try refine ⟨rfl, ?_⟩)
  first | (intro acts; rw [hret _ acts rfl rfl rfl]) | rw [hret _ _ rfl rfl rfl]
  exact Steps.refl _
/-- what holds at the law's entry: the machine, the code, the tables' words (any of lw_tbl by 'hts w (by decide +kernel)'), the script of L ints xs at the cell b, what the Statement gives of the start (any of its parts by flat_of_before) -/
def lw_At (p : Program) (s : State) (m : MethodId) (meth : Method) (c : Code) (b L : Nat) (xs : Nat → Int32) : Prop :=
  p.tables.exec = Jvm.exec ∧ c.code = code ∧ meth.sig.returnType = ret ∧ c.maxLocals = 4 ∧ s.vm.findClass R_law = some m.cls ∧ (∀ w ∈ lw_tbl, w.before #[Value.ref b] s = true) ∧ va_X b L xs s s.heap ∧ b < s.heap.size ∧ meth.locks = false ∧ (Jvm.Cond.and given_1 narrow_1).before #[Value.ref b] s = true

/-- what is left to prove, without a machine: on every script the abstract law comes to 1 -/
def lawPure : Prop := ∀ (L : Nat) (xs : Nat → Int32), L ≤ 3072 → G (some (L, xs)) 192 0 (xEnt 4 [.ref scP]) [] [] 0 0 (fun r _ => r = some (.int 1))
theorem arrT {s : State} {args : Array Value} {ty : FieldType} (h : (Cond.arrayClass ty).before args s = true) : ∃ cA, ArrOfT s cA ty ∧ s.vm.findClass ("[" ++ ty.toString) = some cA := by
  obtain ⟨c, k, comp, h1, h2, h3⟩ := Cond.arrayClass_spec h
  exact ⟨c, fun n z => ⟨(fun q hq => by cases hq), k, h2, comp, h3⟩, h1⟩
theorem arrO {s : State} {ty : FieldType} (h : zO ty s) : ∃ cA, ArrOfT s cA (.array ty) ∧ s.vm.findClass ("[" ++ (FieldType.array ty).toString) = some cA := by
  obtain ⟨comp, c, k, -, h2, h3, h4⟩ := Cond.arrayOver_specA h
  exact ⟨c, fun n z => ⟨(fun q hq => by cases hq), k, h2, comp, h3⟩, h4⟩
set_option maxRecDepth 100000 in
set_option maxHeartbeats 4000000 in
theorem whole_open (hlaw : lawPure) {p : Program} {e : Env} {s : State} {m : MethodId} {below : List Frame} {meth : Method} {c : Code} (l : Launch) {b L : Nat} {xs : Nat → Int32} (hL : L ≤ 3072) (C0 : lw_At p s m meth c b L xs) : W p l e room_1 s m #[Value.ref b] below meth c s.heap [] 0 0 (lw_Z below #[Value.ref b] s) (entryFrame m ([Value.ref b] : List Value).toArray 4) := by
  obtain ⟨hx, hb, hr, hml, hown, hts, hX, hbl, hlocks, hgv⟩ := C0
  have htA : ∀ w ∈ wsA, w.before #[Value.ref b] s = true := fun w hw => hts w (List.mem_filter.mp hw).1
  have kn : ∀ ci : Nat, ∃ (cC : ClassId) (iS : Nat → Nat), ∀ q : vw_C, vwCl[ci]? = some q → u_Kn s q.1 q.2.1 q.2.2 cC iS := by
    intro ci
    cases hq : vwCl[ci]? with
    | none => exact ⟨0, fun _ => 0, fun q h => by cases h⟩
    | some q =>
      obtain ⟨C, T, n⟩ := q
      have hc := cls_ok hq
      obtain ⟨cC, iS, h⟩ := u_known htA (u_in hc) (htA _ (List.mem_filter.mpr ⟨hc.2.2.2.2.2.2.1, rfl⟩))
      exact ⟨cC, iS, fun q h2 => by cases h2; exact h⟩
  obtain ⟨dC, hdC⟩ := Classical.axiomOfChoice kn
  obtain ⟨dI, hdI⟩ := Classical.axiomOfChoice hdC
  have ho1 : zO .int s := show (Cond.arrayOver (.array .int)).before #[Value.ref b] s = true from hts _ (by decide +kernel)
  have ho2 : zO .long s := show (Cond.arrayOver (.array .long)).before #[Value.ref b] s = true from hts _ (by decide +kernel)
  obtain ⟨a0, p0, q0⟩ := arrT (htA _ arr_words.1)
  obtain ⟨a1, p1, q1⟩ := arrT (htA _ arr_words.2.1)
  obtain ⟨a2, p2, q2⟩ := arrT (htA _ arr_words.2.2)
  obtain ⟨a3, p3, q3⟩ := arrO ho1
  obtain ⟨a4, p4, q4⟩ := arrO ho2
  let ac : Nat → ClassId := fun k => match k with | 0 => a0 | 1 => a1 | 2 => a2 | 3 => a3 | _ => a4
  have hK : zK (dC, dI) ac s := by
    refine ⟨⟨fun ci q hq => hdI ci q hq, fun k q hk => ?_⟩, ho1, ho2⟩
    match k, hk with
    | 0, hk => cases hk; exact ⟨p0, q0⟩
    | 1, hk => cases hk; exact ⟨p1, q1⟩
    | 2, hk => cases hk; exact ⟨p2, q2⟩
    | 3, hk => cases hk; exact ⟨p3, q3⟩
    | 4, hk => cases hk; exact ⟨p4, q4⟩
    | k + 5, hk => simp [zT] at hk
  obtain ⟨n, r, σ', hrun, hone⟩ := hlaw L xs hL
  subst hone
  have C : zC p s m #[Value.ref b] meth c s.heap.size (dC, dI) ac 192 := ⟨hx, hb, hml, hr, hown, hlocks, (fun q => by cases q), htA, hK, Nat.le_refl _⟩
  · rw [lg_entry_eq]
    have hI : zI s.heap.size b ac (dC, dI) [] s.heap := ⟨rfl, fun k e hk => by cases hk⟩
    have hl := zL.entry (base := s.heap.size) (b := b) (n := 4) (as := [.ref scP]) (by decide) rfl
    have key := z_run l s.heap.size b ac (dC, dI) n (some (L, xs)) 192 0 (xEnt 4 [.ref scP]) [] [] 0 0 (some (.int 1)) σ' hrun p e room_1 s m #[Value.ref b] below meth c s.heap [] _ (lw_Z below #[Value.ref b] s) C ⟨by decide, by decide, by decide, by decide⟩ (fun q => by cases q) (fun a ha => by cases ha; exact ⟨hX, hbl, hbl⟩) hI rfl va_S.rf hl ?_
    · have e9 : [Value.ref b] = [Value.ref scP].map (zV s.heap.size b) := by rw [List.map_cons, zV_sc]; rfl
      rw [e9]
      exact key
    · intro H1 locs1 nc1 ns1 pc1 ls1 hd hk hnc hns hI1 hS1
      refine va_forget (fun q hq => hS1.2.2 q hq) ?_
      have h1 : nc1 ≤ 600000 := by
        have e1 : mCe 192 = 600000 := rfl
        omega
      have h2 : ns1 ≤ 7302249 := hns
      refine W.widen h1 h2 ?_
      exact lw_ret hx hb hr hlocks hd
