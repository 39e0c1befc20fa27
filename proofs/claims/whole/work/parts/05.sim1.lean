/-! THE MACHINE DOES WHAT THE ABSTRACT ONE DOES, 1: how the two hold together; the locals -/
def zV (base b : Nat) (v : Value) : Value := match v with
  | .ref q => .ref (if q = scP then b else base + q)
  | v => v
def zA (base : Nat) (a : vp_A) : vp_A := match a with
  | (n, .inr (.inr (.inr (.inr f)))) => (n, .inr (.inr (.inr (.inr fun j => (f j).map fun q => base + q))))
  | a => a
def zE (base b : Nat) (ac : Nat → ClassId) (e : va_E) : va_E := match e with
  | .inl (t, a) => .inl (ac t, zA base a)
  | .inr (ci, fs) => .inr (ci, fs.map (zV base b))
/-- the heap holds the store, from base on, and nothing else has come -/
def zI (base b : Nat) (ac : Nat → ClassId) (D : va_G) (σ : xSt) (H : Heap) : Prop := H.size = base + σ.length ∧ ∀ (k : Nat) (e : va_E), σ[k]? = some e → va_at D vwCl (base + k, zE base b ac e) H
def zT (ac : Nat → ClassId) : List (ClassId × FieldType) := [(ac 0, .int), (ac 1, .long), (ac 2, .boolean), (ac 3, .array .int), (ac 4, .array .long)]
def zO (ty : FieldType) (U : State) : Prop := (Cond.arrayOver (.array ty)).before #[] U = true
def zK (D : va_G) (ac : Nat → ClassId) (U : State) : Prop := va_K D vwCl (zT ac) U ∧ zO .int U ∧ zO .long U
theorem zO.moved {ty : FieldType} {u U : State} (hvm : u.vm.Alike U.vm) (h : zO ty u) : zO ty U := by
  obtain ⟨comp, c, k, h1, h2, h3, h4, h5⟩ : ∃ comp c k, u.vm.findClass (FieldType.array ty).toString = some comp ∧ (u.vm.classes.findIdx? fun (x : Class) => match x.kind with | .array component _ => component == comp | _ => false) = some c ∧ u.vm.classes[c]? = some k ∧ k.kind = .array comp (.array ty) ∧ u.vm.findClass ("[" ++ (FieldType.array ty).toString) = some c := by
    unfold zO Cond.before at h
    simp only [Cond.holds, Cond.value, beq_iff_eq] at h
    cases hc : u.vm.findClass (FieldType.array ty).toString with
    | none => simp [hc] at h
    | some comp =>
      simp only [hc, Option.bind_some, Option.bind_eq_some_iff, Option.map_eq_some_iff] at h
      obtain ⟨c, hi, k, hk, hb⟩ := h
      obtain ⟨hlt, hp, -⟩ := Array.findIdx?_eq_some_iff_getElem.mp hi
      have hkk : u.vm.classes[c] = k := (Array.getElem?_eq_some_iff.mp hk).2
      rw [hkk] at hp
      cases hkind : k.kind with
      | array component t =>
        rw [hkind] at hb hp
        simp at hb hp
        exact ⟨comp, c, k, rfl, hi, hk, by rw [hkind, hp, hb.1], hb.2⟩
      | _ => rw [hkind] at hb; simp at hb
  obtain ⟨k', hk', he⟩ := hvm.2.2 _ _ h3
  have hi : (U.vm.classes.findIdx? fun (x : Class) => match x.kind with | .array component _ => component == comp | _ => false) = some c := by
    have e1 := va_idx_bare U.vm comp
    have e2 := va_idx_bare u.vm comp
    have e3 : U.vm.bare = u.vm.bare := by first | exact hvm.bare_eq | exact hvm.bare_eq.symm
    rw [e3] at e1
    exact (e1.symm.trans e2).trans h2
  have hkind : k'.kind = .array comp (.array ty) := by rw [he]; exact h4
  have f1 : U.vm.findClass (FieldType.array ty).toString = some comp := by rw [hvm.findClass]; exact h1
  have f2 : U.vm.findClass ("[" ++ (FieldType.array ty).toString) = some c := by rw [hvm.findClass]; exact h5
  unfold zO Cond.before Cond.holds
  simp only [Cond.value]
  rw [f1, Option.bind_some]
  refine (congrArg (fun o : Option Nat => (o.bind (fun c => (U.vm.classes[c]?).map fun (k : Class) => match k.kind with | .array _ t => decide (t = FieldType.array ty) && decide (U.vm.findClass ("[" ++ (FieldType.array ty).toString) = some c) | _ => false) == some true)) hi).trans ?_
  simp [hk', hkind, f2]
theorem zK.moved {D : va_G} {ac : Nat → ClassId} {u U : State} (hvm : u.vm.Alike U.vm) (h : zK D ac u) : zK D ac U := ⟨va_K.moved hvm h.1, h.2.1.moved hvm, h.2.2.moved hvm⟩
def wsA : List Cond := lw_tbl.filter goodWord
theorem wsA_in {w : Cond} {k : Nat} (h : lw_tbl[k]? = some w) (hg : goodWord w = true) : w ∈ wsA := List.mem_filter.mpr ⟨List.mem_of_getElem? h, hg⟩
theorem wsA_good : ∀ w ∈ wsA, w ∈ wsA ∧ ((w.onTables && w.keeps) = true ∨ ∃ ty, w = .arrayClass ty) := fun w h => ⟨h, good_of_word (List.mem_filter.mp h).2⟩
/-- what a method's body stands on -/
def zC (p : Program) (s : State) (m : MethodId) (args : Array Value) (meth : Method) (c : Code) (base : Nat) (D : va_G) (ac : Nat → ClassId) (i : Nat) : Prop :=
  p.tables.exec = Jvm.exec ∧ c.code = mC i ∧ c.maxLocals = mL i ∧ meth.sig.returnType = mR i ∧ s.vm.findClass (oS (mO i)) = some m.cls ∧ meth.locks = false ∧ (mK i = 2 → meth.name = (mY i).name) ∧ (∀ w ∈ wsA, w.before args s = true) ∧ zK D ac s ∧ base ≤ s.heap.size
/-- the locals that may be read -/
def xVl (L : List Value) (k : Nat) : Option Value := match L[k]? with
  | some (.int z) => some (.int z)
  | some (.ref z) => some (.ref z)
  | some (.long z) => (match L[k + 1]? with
    | some (.retAddr _) => some (.long z)
    | _ => none)
  | _ => none
def lvO (base b : Nat) (L : List Value) : List (Nat × Value) := (List.range L.length).filterMap fun k => (xVl L k).map fun v => (k, zV base b v)
def zL (base b nL : Nat) (ls : Array Slot) (L : List Value) : Prop := L.length = nL ∧ lv_has ls nL (lvO base b L)
theorem lvO_in {base b : Nat} {L : List Value} {k : Nat} {w : Value} : (k, w) ∈ lvO base b L ↔ ∃ v, xVl L k = some v ∧ w = zV base b v := by
  unfold lvO
  rw [List.mem_filterMap]
  constructor
  · intro ⟨a, _, h⟩
    cases hx : xVl L a with
    | none => rw [hx] at h; cases h
    | some v =>
      rw [hx] at h
      cases h
      exact ⟨v, hx, rfl⟩
  · intro ⟨v, h1, h2⟩
    refine ⟨k, ?_, ?_⟩
    · rw [List.mem_range]
      unfold xVl at h1
      cases hl : L[k]? with
      | none => rw [hl] at h1; cases h1
      | some z => exact (List.getElem?_eq_some_iff.mp hl).1
    · rw [h1, h2]; rfl
theorem lv_has_sub {ls : Array Slot} {n : Nat} {l l' : List (Nat × Value)} (h : lv_has ls n l) (hs : ∀ q ∈ l', q ∈ l) : lv_has ls n l' := ⟨h.1, h.2.1, fun q hq => h.2.2 q (hs q hq)⟩
theorem zL.get {base b nL : Nat} {ls : Array Slot} {L : List Value} (h : zL base b nL ls L) {k : Nat} {v : Value} (hv : xVl L k = some v) : ls[k]? = some (.val (zV base b v)) := h.2.2.2 (k, zV base b v) (lvO_in.mpr ⟨v, hv, rfl⟩)
theorem xVl_cat {L : List Value} {k : Nat} {v : Value} (h : xVl L k = some v) (hc : (zV 0 0 v).category = 2) : ∃ z, L[k]? = some (.long z) := by
  unfold xVl at h
  split at h <;> first | (cases h; simp [zV, Value.category] at hc; done) | (rename_i z hz; exact ⟨z, hz⟩) | (cases h)
theorem zV_cat (base b : Nat) (v : Value) : (zV base b v).category = v.category := by cases v <;> rfl
/-- store of one place -/
theorem zL.set1 {base b nL : Nat} {ls' : Array Slot} {L : List Value} {k : Nat} {v : Value} (hL : L.length = nL) (hk : k < nL) (hv : (∃ z, v = .int z) ∨ ∃ z, v = .ref z) (h : lv_has ls' nL ((k, zV base b v) :: (lvO base b L).filter (fun q => !(q.1 == k) && !(q.1 + 1 == k && q.2.category == 2)))) : zL base b nL ls' (L.set k v) := by
  refine ⟨by rw [List.length_set]; exact hL, lv_has_sub h ?_⟩
  intro ⟨j, w⟩ hq
  obtain ⟨u, h1, rfl⟩ := lvO_in.mp hq
  by_cases e : j = k
  · subst e
    have : (L.set j v)[j]? = some v := by rw [List.getElem?_set_self (by omega)]
    rcases hv with ⟨z, rfl⟩ | ⟨z, rfl⟩
    · unfold xVl at h1; rw [this] at h1; cases h1; exact List.mem_cons_self
    · unfold xVl at h1; rw [this] at h1; cases h1; exact List.mem_cons_self
  · refine List.mem_cons_of_mem _ (List.mem_filter.mpr ⟨?_, ?_⟩)
    · refine lvO_in.mpr ⟨u, ?_, rfl⟩
      unfold xVl at h1 ⊢
      rw [List.getElem?_set_ne (Ne.symm e)] at h1
      by_cases e2 : j + 1 = k
      · have h2 : (L.set k v)[j + 1]? = some v := by rw [e2, List.getElem?_set_self (by omega)]
        rw [h2] at h1
        rcases hv with ⟨z, rfl⟩ | ⟨z, rfl⟩ <;> (split at h1 <;> simp_all)
      · rw [List.getElem?_set_ne (Ne.symm e2)] at h1
        exact h1
    · have a1 : (j == k) = false := by simpa using e
      have a2 : (j + 1 == k && (zV base b u).category == 2) = false := by
        by_cases e2 : j + 1 = k
        · have h2 : (L.set k v)[j + 1]? = some v := by rw [e2, List.getElem?_set_self (by omega)]
          have h3 : ¬ u.category = 2 := by
            intro hc
            unfold xVl at h1
            rw [h2] at h1
            rcases hv with ⟨z, rfl⟩ | ⟨z, rfl⟩ <;> (split at h1 <;> first | (cases h1; cases hc) | cases h1)
          rw [zV_cat]
          simp [h3]
        · simp [e2]
      simp [a1, a2]
/-- store of two places -/
theorem zL.set2 {base b nL : Nat} {ls' : Array Slot} {L : List Value} {k : Nat} {z : Int64} (hL : L.length = nL) (hk : k + 1 < nL) (h : lv_has ls' nL ((k, Value.long z) :: (lvO base b L).filter (fun q => !(q.1 == k) && (!(q.1 == k + 1) && !(q.1 + 1 == k && q.2.category == 2))))) : zL base b nL ls' ((L.set k (.long z)).set (k + 1) (.retAddr 0)) := by
  refine ⟨by rw [List.length_set, List.length_set]; exact hL, lv_has_sub h ?_⟩
  intro ⟨j, w⟩ hq
  obtain ⟨u, h1, rfl⟩ := lvO_in.mp hq
  have g0 : ((L.set k (.long z)).set (k + 1) (.retAddr 0))[k]? = some (.long z) := by rw [List.getElem?_set_ne (by omega), List.getElem?_set_self (by omega)]
  have g1 : ((L.set k (.long z)).set (k + 1) (.retAddr 0))[k + 1]? = some (.retAddr 0) := by rw [List.getElem?_set_self (by rw [List.length_set]; omega)]
  by_cases e : j = k
  · subst e
    unfold xVl at h1; rw [g0, g1] at h1; cases h1; exact List.mem_cons_self
  · by_cases e1 : j = k + 1
    · subst e1
      unfold xVl at h1; rw [g1] at h1; cases h1
    · have gj : ((L.set k (.long z)).set (k + 1) (.retAddr 0))[j]? = L[j]? := by rw [List.getElem?_set_ne (Ne.symm e1), List.getElem?_set_ne (Ne.symm e)]
      refine List.mem_cons_of_mem _ (List.mem_filter.mpr ⟨?_, ?_⟩)
      · refine lvO_in.mpr ⟨u, ?_, rfl⟩
        unfold xVl at h1 ⊢
        rw [gj] at h1
        by_cases e2 : j + 1 = k
        · rw [e2, g0] at h1
          split at h1 <;> simp_all
        · have gj1 : ((L.set k (.long z)).set (k + 1) (.retAddr 0))[j + 1]? = L[j + 1]? := by rw [List.getElem?_set_ne (by omega), List.getElem?_set_ne (by omega)]
          rw [gj1] at h1
          exact h1
      · have a1 : (j == k) = false := by simpa using e
        have a2 : (j == k + 1) = false := by simpa using e1
        have a3 : (j + 1 == k && (zV base b u).category == 2) = false := by
          by_cases e2 : j + 1 = k
          · have h3 : ¬ u.category = 2 := by
              intro hc
              unfold xVl at h1
              rw [e2, g0] at h1
              split at h1 <;> first | (cases h1; cases hc) | cases h1
            rw [zV_cat]
            simp [h3]
          · simp [e2]
        simp [a1, a2, a3]
theorem lv_args_in (base b : Nat) : ∀ (as : List Value) (off : Nat) (pre suf : List Value), pre.length = off → (∀ v, pre.getLast? = some v → ∀ z, v ≠ .long z) → (∀ v ∈ suf, v = .null) → (∀ v ∈ as, (match v with | .int _ => true | .long _ => true | .ref _ => true | _ => false) = true) → ∀ (k : Nat) (v : Value), off ≤ k → xVl (pre ++ (xLay as ++ suf)) k = some v → (k, zV base b v) ∈ lv_args off (as.map (zV base b)) := by
  intro as
  induction as with
  | nil =>
    intro off pre suf hp hl hs hok k v hk hv
    exfalso
    have h0 : ∀ y, (pre ++ suf)[k]? = some y → y = .null := by
      intro y hy
      rw [List.getElem?_append_right (by omega)] at hy
      exact hs y (List.mem_of_getElem? hy)
    simp only [xLay, List.nil_append] at hv
    unfold xVl at hv
    split at hv <;> first | (cases hv; done) | (rename_i h; have := h0 _ h; simp at this)
  | cons a as ih =>
    intro off pre suf hp hl hs hok k v hk hv
    by_cases ha : ∃ z, a = .long z
    · obtain ⟨z, rfl⟩ := ha
      simp only [List.map_cons, zV, lv_args, Value.category]
      simp only [xLay] at hv
      by_cases e : k = off
      · subst e
        unfold xVl at hv
        rw [List.getElem?_append_right (by omega)] at hv
        simp only [hp, Nat.sub_self] at hv
        simp only [List.cons_append, List.getElem?_cons_zero] at hv
        rw [List.getElem?_append_right (by omega)] at hv
        rw [show k + 1 - pre.length = 1 by omega] at hv
        simp only [List.getElem?_cons_succ, List.getElem?_cons_zero] at hv
        cases hv
        exact List.mem_cons_self
      · by_cases e1 : k = off + 1
        · exfalso
          subst e1
          unfold xVl at hv
          rw [List.getElem?_append_right (by omega)] at hv
          rw [show off + 1 - pre.length = 1 by omega] at hv
          simp at hv
        · refine List.mem_cons_of_mem _ ?_
          simp only [if_true]
          refine ih (off + 2) (pre ++ [.long z, .retAddr 0]) suf (by simp [hp]) ?_ hs ?_ k v (by omega) ?_
          · intro y hy q
            simp at hy
            rw [← hy]; exact fun h => by cases h
          · exact fun v hv => hok v (List.mem_cons_of_mem _ hv)
          · rw [List.append_assoc]
            exact hv
    · have hla : xLay (a :: as) = a :: xLay as := by cases a <;> first | rfl | exact absurd ⟨_, rfl⟩ ha
      have hk1 : (∃ z, a = .int z) ∨ ∃ z, a = .ref z := by
        have h1 := hok a List.mem_cons_self
        cases a <;> first | exact Or.inl ⟨_, rfl⟩ | exact Or.inr ⟨_, rfl⟩ | exact absurd ⟨_, rfl⟩ ha | (cases h1)
      have hca : ¬ (zV base b a).category = 2 := by rw [zV_cat]; rcases hk1 with ⟨z, rfl⟩ | ⟨z, rfl⟩ <;> (intro q; cases q)
      simp only [List.map_cons, lv_args, if_neg hca]
      rw [hla] at hv
      by_cases e : k = off
      · subst e
        unfold xVl at hv
        rw [List.getElem?_append_right (by omega)] at hv
        simp only [hp, Nat.sub_self] at hv
        simp only [List.cons_append, List.getElem?_cons_zero] at hv
        rcases hk1 with ⟨z, rfl⟩ | ⟨z, rfl⟩ <;> (cases hv; exact List.mem_cons_self)
      · refine List.mem_cons_of_mem _ ?_
        refine ih (off + 1) (pre ++ [a]) suf (by simp [hp]) ?_ hs (fun v hv => hok v (List.mem_cons_of_mem _ hv)) k v (by omega) ?_
        · intro y hy q
          simp at hy
          intro e2
          rw [← hy] at e2
          exact ha ⟨q, e2⟩
        · rw [List.append_assoc]
          exact hv
theorem lg_lay (base b : Nat) : ∀ (as : List Value), (∀ v ∈ as, (match v with | .int _ => true | .long _ => true | .ref _ => true | _ => false) = true) → (lg_sl (as.map (zV base b))).length = (xLay as).length := by
  intro as
  induction as with
  | nil => intro _; rfl
  | cons a as ih =>
    intro h
    have h1 := ih (fun v hv => h v (List.mem_cons_of_mem _ hv))
    have h2 := h a List.mem_cons_self
    have e : lg_sl ((a :: as).map (zV base b)) = (if (zV base b a).category = 2 then [.val (zV base b a), .second] else [.val (zV base b a)]) ++ lg_sl (as.map (zV base b)) := rfl
    rw [e, List.length_append, h1]
    cases a <;> first | (cases h2; done) | (simp [xLay, zV, Value.category]; done) | (simp [xLay, zV, Value.category]; omega)
/-- the locals at a method's entry -/
theorem zL.entry {base b n : Nat} {as : List Value} (hl : (xLay as).length ≤ n) (hok : xAok as = true) : zL base b n ((lg_sl (as.map (zV base b)) ++ List.replicate (n - (lg_sl (as.map (zV base b))).length) Slot.unset).toArray) (xEnt n as) := by
  have hok' := List.all_eq_true.mp hok
  refine ⟨by unfold xEnt; simp; omega, lv_has_sub (lv_entry (as.map (zV base b)) (n := n) (by rw [lg_lay base b as hok']; exact hl)) ?_⟩
  intro ⟨k, w⟩ hq
  obtain ⟨v, h1, rfl⟩ := lvO_in.mp hq
  exact lv_args_in base b as 0 [] (List.replicate (n - (xLay as).length) .null) rfl (fun v h => by cases h) (fun v hv => (List.mem_replicate.mp hv).2) hok' k v (Nat.zero_le _) h1
