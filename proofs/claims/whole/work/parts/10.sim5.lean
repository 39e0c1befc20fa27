/-! THE MACHINE DOES WHAT THE ABSTRACT ONE DOES, 5: Math; new objects and arrays -/
theorem math_words : (.static Lib.Math.max.name ∈ wsA ∧ .static Lib.Math.min.name ∈ wsA ∧ .static Lib.MathLoose.max_long.x ∈ wsA ∧ .static Lib.MathLoose.min_long.x ∈ wsA ∧ .static Lib.MathLoose.abs_long.x ∈ wsA) ∧ .initialized "java/lang/Math" ∈ wsA := ⟨⟨List.mem_filter.mpr ⟨by decide +kernel, rfl⟩, List.mem_filter.mpr ⟨by decide +kernel, rfl⟩, List.mem_filter.mpr ⟨by decide +kernel, rfl⟩, List.mem_filter.mpr ⟨by decide +kernel, rfl⟩, List.mem_filter.mpr ⟨by decide +kernel, rfl⟩⟩, List.mem_filter.mpr ⟨by decide +kernel, rfl⟩⟩
theorem math_codes : .code Lib.Math.max.name Lib.Math.max.code 2 (some .int) ∈ wsA ∧ .code Lib.Math.min.name Lib.Math.min.code 2 (some .int) ∈ wsA ∧ .code Lib.MathLoose.max_long.x Lib.MathLoose.max_long.code 4 (some .long) ∈ wsA ∧ .code Lib.MathLoose.min_long.x Lib.MathLoose.min_long.code 4 (some .long) ∈ wsA ∧ .code Lib.MathLoose.abs_long.x Lib.MathLoose.abs_long.code 2 (some .long) ∈ wsA := ⟨List.mem_filter.mpr ⟨by decide +kernel, rfl⟩, List.mem_filter.mpr ⟨by decide +kernel, rfl⟩, List.mem_filter.mpr ⟨by decide +kernel, rfl⟩, List.mem_filter.mpr ⟨by decide +kernel, rfl⟩, List.mem_filter.mpr ⟨by decide +kernel, rfl⟩⟩
theorem math_names : mY 188 = Lib.Math.max.name ∧ mY 190 = Lib.Math.min.name ∧ mY 189 = Lib.MathLoose.max_long.x ∧ mY 191 = Lib.MathLoose.min_long.x ∧ mY 187 = Lib.MathLoose.abs_long.x := by decide +kernel
section S5
variable {p : Program} {l : Launch} {e : Env} {R : Room} {s : State} {m : MethodId} {args : Array Value} {below : List Frame} {meth : Method} {c : Code} {H : Heap} {locs : List Loc} {cells slots : Nat} {Q : State → Prop}
variable {base b : Nat} {ac : Nat → ClassId} {D : va_G} {i pc : Nat} {L L' st st' : List Value} {σ σ' : xSt} {ls : Array Slot} {ins : Instr} {len : Nat} {rest : List Value} {scr : Option (Nat × (Nat → Int32))}
theorem s_ma (C : zC p s m args meth c base D ac i) (hd : decode (mC i) pc = .ok (ins, len)) (hlen : len = xln ins) (hR : mF i ≤ R.frames ∧ mW i ≤ R.locals ∧ mCe i ≤ R.cells ∧ mSl i ≤ R.slots) (hls : ls.size = mL i) (h : xMa i ins st cells slots = some st') (k : W p l e R s m args below meth c H locs cells slots Q (F0 m (pc + len) ls (st'.map (zV base b)))) : W p l e R s m args below meth c H locs cells slots Q (F0 m pc ls (st.map (zV base b))) := by
  obtain ⟨hx, hb, hml, -, hown, -, hnm, hts, hK, -⟩ := C
  subst hlen
  unfold xMa at h
  split at h
  · rename_i ix
    split at h
    · rename_i j hj
      split at h
      · cases h
      · rename_i hn
        have hn2 : 187 ≤ j ∧ 1 ≤ mF i ∧ cells ≤ mCe i ∧ slots ≤ mSl i := by
          refine ⟨by omega, ?_⟩
          exact Decidable.not_not.mp (fun q => hn (Or.inr q))
        have hlk := cLk_ok hj
        have e1 : c.maxLocals = ls.size := by rw [hml, hls]
        unfold xM1 at h
        split at h
        · rename_i z y r
          split at h
          · rename_i hc
            obtain ⟨hw, rfl⟩ := hc
            cases h
            rw [if_neg (by decide), if_neg (by decide), math_names.2.2.1] at hlk
            exact va_mmax_long hx hb e1 hown (hts _ hlk) (hts _ math_words.1.2.2.1) (hts _ math_words.2) (hts _ math_codes.2.2.1) (by omega) (by rw [cat_map]; omega) (by omega) (by omega) hd k
          · split at h
            · rename_i hc
              obtain ⟨hw, rfl⟩ := hc
              cases h
              rw [if_neg (by decide), if_neg (by decide), math_names.2.2.2.1] at hlk
              exact va_mmin_long hx hb e1 hown (hts _ hlk) (hts _ math_words.1.2.2.2.1) (hts _ math_words.2) (hts _ math_codes.2.2.2.1) (by omega) (by rw [cat_map]; omega) (by omega) (by omega) hd k
            · split at h
              · rename_i hc
                obtain ⟨hw, rfl⟩ := hc
                cases h
                rw [if_neg (by decide), if_neg (by decide), math_names.2.2.2.2] at hlk
                refine va_mabs_long hx hb e1 hown (hts _ hlk) (hts _ math_words.1.2.2.2.2) (hts _ math_words.2) (hts _ math_codes.2.2.2.2) (by omega) ?_ (by omega) (by omega) hd k
                show (((Value.long y :: r).map (zV base b)).map fun v => v.category).sum + 13 ≤ _
                rw [cat_map]
                simp only [List.map_cons, List.sum_cons, Value.category]
                simp only [Value.category] at hw
                omega
              · cases h
        · rename_i z r hne
          split at h
          · rename_i hc
            obtain ⟨hw, rfl⟩ := hc
            cases h
            rw [if_neg (by decide), if_neg (by decide), math_names.2.2.2.2] at hlk
            exact va_mabs_long hx hb e1 hown (hts _ hlk) (hts _ math_words.1.2.2.2.2) (hts _ math_words.2) (hts _ math_codes.2.2.2.2) (by omega) (by rw [cat_map]; omega) (by omega) (by omega) hd k
          · cases h
        · rename_i z y r
          split at h
          · rename_i hc
            obtain ⟨hw, rfl⟩ := hc
            cases h
            rw [if_neg (by decide), if_neg (by decide), math_names.1] at hlk
            exact va_mmax hx hb e1 hown (hts _ hlk) (hts _ math_words.1.1) (hts _ math_words.2) (hts _ math_codes.1) (by omega) (by rw [cat_map]; omega) (by omega) (by omega) hd k
          · split at h
            · rename_i hc
              obtain ⟨hw, rfl⟩ := hc
              cases h
              rw [if_neg (by decide), if_neg (by decide), math_names.2.1] at hlk
              exact va_mmin hx hb e1 hown (hts _ hlk) (hts _ math_words.1.2.1) (hts _ math_words.2) (hts _ math_codes.2.1) (by omega) (by rw [cat_map]; omega) (by omega) (by omega) hd k
            · cases h
        · cases h
    · cases h
  · cases h
theorem zI.app1 {H1 : Heap} {ee : va_E} (hI : zI base b ac D σ H) (hz : H1.size = H.size + 1) (ho : ∀ x : Nat, x < H.size → H1[x]? = H[x]?) (he : va_at D vwCl (base + σ.length, zE base b ac ee) H1) : zI base b ac D (σ ++ [ee]) H1 := by
  refine ⟨by rw [hz, List.length_append, hI.1]; rfl, fun k e' hk => ?_⟩
  by_cases hl : k < σ.length
  · rw [List.getElem?_append_left hl] at hk
    have h1 := hI.2 k e' hk
    exact h1.kept (ho _ h1.lt)
  · rw [List.getElem?_append_right (by omega)] at hk
    have h0 : k - σ.length < 1 := (List.getElem?_eq_some_iff.mp hk).1
    rw [show k - σ.length = 0 by omega] at hk
    cases hk
    rw [show k = σ.length by omega]
    exact he
theorem va_S.grown {A : Nat → Prop} {H0 H1 : Heap} (hS : va_S A H0 H locs) (hz : H.size ≤ H1.size) (ho : ∀ x : Nat, x < H.size → H1[x]? = H[x]?) : va_S A H0 H1 locs := ⟨Nat.le_trans hS.1 hz, fun x h1 h2 => (ho x (Nat.lt_of_lt_of_le h1 hS.1)).trans (hS.2.1 x h1 h2), hS.2.2⟩
theorem zV_dflt (ty : FieldType) : zV base b (defaultValue ty) = defaultValue ty := by cases ty <;> rfl
theorem vp_V_map (fs : List Value) (j : Nat) : vp_V (fs.map (zV base b)) j = zV base b (vp_V fs j) := by
  unfold vp_V
  rw [List.getD_eq_getElem?_getD, List.getD_eq_getElem?_getD, List.getElem?_map]
  cases fs[j]? <;> rfl
theorem z_outer (c : ClassId) (N h0 : Nat) : ∀ i : Nat, Jvm.Free.Multi.outerC c N h0 i = arrV c N (fun j => va_rf (if j < i then some (h0 + 1 + j) else none))
  | 0 => by
    show ({ cls := c, slots := Array.replicate N .null, vm := .none } : Cell) = _
    rw [arrV_new]
    refine congrArg (arrV c N) (funext fun j => ?_)
    simp [va_rf]
  | i + 1 => by
    show (Jvm.Free.Multi.outerC c N h0 i).setSlot i (.ref (h0 + 1 + i)) = _
    rw [z_outer c N h0 i, arrV_store]
    refine congrArg (arrV c N) (funext fun j => ?_)
    by_cases e : j = i
    · subst e
      simp [updV, va_rf]
    · by_cases h : j < i
      · simp [updV, e, h, Nat.lt_succ_of_lt h]
      · simp [updV, e, h, show ¬ j < i + 1 by omega]
theorem arr_words : .arrayClass .int ∈ wsA ∧ .arrayClass .long ∈ wsA ∧ .arrayClass .boolean ∈ wsA := ⟨List.mem_filter.mpr ⟨by decide +kernel, rfl⟩, List.mem_filter.mpr ⟨by decide +kernel, rfl⟩, List.mem_filter.mpr ⟨by decide +kernel, rfl⟩⟩
theorem s_arr (C : zC p s m args meth c base D ac i) {at_ : ArrayType} {ty : FieldType} {t : Nat} {n : Int32} {f : (Nat → Int32) ⊕ (Nat → Int64) ⊕ (Nat → UInt32) ⊕ (Nat → UInt64) ⊕ (Nat → Option Nat)} (hty : newarray.typeOf at_ = ty) (hw : .arrayClass ty ∈ wsA) (hcell : ∀ cA, vp_cell cA (n.toNatClampNeg, f) = arrV cA n.toNatClampNeg (fun _ => defaultValue ty)) (hfc : s.vm.findClass ("[" ++ ty.toString) = some (ac t)) (hzA : zA base (n.toNatClampNeg, f) = (n.toNatClampNeg, f)) (hd : decode (mC i) pc = .ok (.newarray at_, 2)) (hn : ¬ n < 0) (hby : n.toNatClampNeg * componentBytes ty ≤ 536870912) (hc : cells + 1 ≤ R.cells) (hs : slots + n.toNatClampNeg ≤ R.slots) (hI : zI base b ac D σ H) (hS : va_S (fun q => base ≤ q) s.heap H locs) (hsp : ¬ σ.length = scP)
    (k : ∀ H1, zI base b ac D (σ ++ [.inl (t, n.toNatClampNeg, f)]) H1 → va_S (fun q => base ≤ q) s.heap H1 locs → W p l e R s m args below meth c H1 locs (cells + 1) (slots + n.toNatClampNeg) Q (F0 m (pc + 2) ls (zV base b (.ref σ.length) :: rest))) : W p l e R s m args below meth c H locs cells slots Q (F0 m pc ls (.int n :: rest)) := by
  obtain ⟨hx, hb, hml, -, hown, -, hnm, hts, hK, -⟩ := C
  subst hty
  refine va_newaK hx hb (hts _ hw) rfl hd rfl hn rfl hby hc hs hI.1 fun H1 cA e1 z1 o1 hAr hNm => ?_
  have ec : cA = ac t := Option.some.inj (hNm.symm.trans hfc)
  subst ec
  have ho : ∀ x : Nat, x < H.size → H1[x]? = H[x]? := fun x hx => o1 x (by rw [hI.1] at hx; exact hx)
  have hk := k H1 (hI.app1 (by rw [z1, hI.1]) ho (by
    show H1[base + σ.length]? = some (vp_cell _ _)
    rw [hzA, hcell]
    exact e1)) (hS.grown (by rw [z1, hI.1]; omega) ho)
  rw [zV_q hsp] at hk
  exact hk
theorem s_new (C : zC p s m args meth c base D ac i) {ix ci : Nat} (hd : decode (mC i) pc = .ok (.new ix, 3)) (hl : nLk (mO i) ix = some ci) (hc : cells + 1 ≤ R.cells) (hs : slots + (dFs ci).length ≤ R.slots) (hI : zI base b ac D σ H) (hS : va_S (fun q => base ≤ q) s.heap H locs) (hsp : ¬ σ.length = scP)
    (k : ∀ H1, zI base b ac D (σ ++ [.inr (ci, dFs ci)]) H1 → va_S (fun q => base ≤ q) s.heap H1 locs → W p l e R s m args below meth c H1 locs (cells + 1) (slots + (dFs ci).length) Q (F0 m (pc + 3) ls (zV base b (.ref σ.length) :: rest))) : W p l e R s m args below meth c H locs cells slots Q (F0 m pc ls rest) := by
  obtain ⟨hx, hb, hml, -, hown, -, hnm, hts, hK, -⟩ := C
  obtain ⟨C, T, n, hcl, hlk⟩ := nLk_ok hl
  have hcls := cls_ok hcl
  have hKn := hK.1.1 ci _ hcl
  rw [hcls.2.2.2.2.1] at hs k
  refine W.newcK hx hb hown (hts _ hlk) (hts _ (List.mem_filter.mpr ⟨hcls.2.2.2.2.2.2.1, rfl⟩)) (hts _ (List.mem_filter.mpr ⟨hcls.2.2.2.2.2.2.2, rfl⟩)) rfl hd hc hs hKn.2.1 hI.1 fun H1 kC hkC e1 z1 o1 => ?_
  have ho : ∀ x : Nat, x < H.size → H1[x]? = H[x]? := fun x hx => o1 x (by rw [hI.1] at hx; exact hx)
  have hk := k H1 (hI.app1 (by rw [z1, hI.1]) ho ⟨_, hcl, (u_born (xTy ci) hts (u_in hcls) hKn hkC e1 hcls.2.1).to (fun j hj => by
    rw [vp_V_map, ← hcls.2.2.2.2.2.1 j hj, zV_dflt])⟩) (hS.grown (by rw [z1, hI.1]; omega) ho)
  rw [zV_q hsp] at hk
  exact hk
theorem s_mna (C : zC p s m args meth c base D ac i) {ix t : Nat} {ty : FieldType} {n k : Int32} {g0 : vp_A} (hd : decode (mC i) pc = .ok (.multianewarray ix 2, 4)) (hlk : .classLink (oS (mO i)) ix ("[" ++ (FieldType.array ty).toString) ∈ wsA) (ho : zO ty s) (hw : .arrayClass ty ∈ wsA) (hfo : s.vm.findClass ("[" ++ (FieldType.array ty).toString) = some (ac t)) (hfi : s.vm.findClass (FieldType.array ty).toString = some (ac (t - 3))) (hin : ∀ cA, Jvm.Free.Multi.innerC cA k.toNatClampNeg (defaultValue ty) = vp_cell cA g0) (hz0 : zA base g0 = g0)
    (hn : ¬ n < 0) (hk : ¬ k < 0) (hn1 : n.toNatClampNeg ≤ 100) (hk1 : k.toNatClampNeg ≤ 100) (hby : k.toNatClampNeg * componentBytes ty ≤ 536870912) (hdf : fits ty (defaultValue ty) = true) (hdd : (defaultValue ty).isDefault = true) (hc : cells + (1 + n.toNatClampNeg) ≤ R.cells) (hs : slots + (n.toNatClampNeg + n.toNatClampNeg * k.toNatClampNeg) ≤ R.slots) (hI : zI base b ac D σ H) (hS : va_S (fun q => base ≤ q) s.heap H locs) (hsp : ¬ σ.length = scP)
    (kk : ∀ H1, zI base b ac D ((σ ++ [.inl (t, n.toNatClampNeg, .inr (.inr (.inr (.inr fun j => if j < n.toNatClampNeg then some (σ.length + 1 + j) else none))))]) ++ List.replicate n.toNatClampNeg (.inl (t - 3, g0))) H1 → va_S (fun q => base ≤ q) s.heap H1 locs → W p l e R s m args below meth c H1 locs (cells + 1 + n.toNatClampNeg) (slots + n.toNatClampNeg + n.toNatClampNeg * k.toNatClampNeg) Q (F0 m (pc + 4) ls (zV base b (.ref σ.length) :: rest))) : W p l e R s m args below meth c H locs cells slots Q (F0 m pc ls (.int k :: .int n :: rest)) := by
  obtain ⟨hx, hb, hml, -, hown, -, hnm, hts, hK, -⟩ := C
  intro T hT Xs
  obtain ⟨vm₁, cA, comp, -, fA, fC, hO, -, X', step⟩ := Xs.multianewarray2F hx hown (hts _ hlk) ho (hts _ hw) (g := F0 m pc ls (.int k :: .int n :: rest)) rfl (by rw [hb]; exact hd) rfl hn hk (by omega) hby (by omega) hdf hdd hc hs
  have e1 : ac t = cA := Option.some.inj (hfo.symm.trans fA)
  have e2 : ac (t - 3) = comp := Option.some.inj (hfi.symm.trans fC)
  subst e1; subst e2
  generalize hF : Jvm.Free.Multi.fill (T.setVm vm₁) (ac t) (ac (t - 3)) n.toNatClampNeg k.toNatClampNeg (defaultValue ty) n.toNatClampNeg = F at X' step
  have hTh : (T.setVm vm₁).heap = H := hT
  obtain ⟨f1, f2, -, -⟩ := Jvm.Free.Multi.fill_facts (T.setVm vm₁) (ac t) (ac (t - 3)) n.toNatClampNeg k.toNatClampNeg (defaultValue ty) n.toNatClampNeg
  rw [hF, hTh] at f1 f2
  have hold : ∀ x : Nat, x < H.size → F.heap[x]? = H[x]? := fun x hx => by
    have := Jvm.Free.Multi.fill_old (T.setVm vm₁) (ac t) (ac (t - 3)) n.toNatClampNeg k.toNatClampNeg (defaultValue ty) (a := x) (by rw [hTh]; exact hx) n.toNatClampNeg
    rw [hF, hTh] at this
    exact this
  have hrow : ∀ j : Nat, j < n.toNatClampNeg → F.heap[H.size + 1 + j]? = some (vp_cell (ac (t - 3)) g0) := fun j hj => by
    have := Jvm.Free.Multi.fill_inner (T.setVm vm₁) (ac t) (ac (t - 3)) n.toNatClampNeg k.toNatClampNeg (defaultValue ty) n.toNatClampNeg j hj
    rw [hF, hTh, hin] at this
    exact this
  rw [z_outer] at f2
  have hsz := hI.1
  have hI1 : zI base b ac D ((σ ++ [.inl (t, n.toNatClampNeg, .inr (.inr (.inr (.inr fun j => if j < n.toNatClampNeg then some (σ.length + 1 + j) else none))))]) ++ List.replicate n.toNatClampNeg (.inl (t - 3, g0))) F.heap := by
    refine ⟨by rw [f1]; simp; omega, fun q e' hq => ?_⟩
    by_cases h1 : q < σ.length
    · rw [List.append_assoc, List.getElem?_append_left h1] at hq
      have h2 := hI.2 q e' hq
      exact h2.kept (hold _ h2.lt)
    · by_cases h2 : q = σ.length
      · subst h2
        rw [List.append_assoc, List.getElem?_append_right (by omega), Nat.sub_self] at hq
        cases hq
        show F.heap[base + σ.length]? = some (vp_cell _ _)
        rw [← hsz, f2]
        show _ = some (arrV (ac t) n.toNatClampNeg (fun j => va_rf ((if j < n.toNatClampNeg then some (σ.length + 1 + j) else none).map fun q => base + q)))
        refine congrArg some (congrArg (arrV (ac t) n.toNatClampNeg) (funext fun j => ?_))
        by_cases hj : j < n.toNatClampNeg
        · rw [if_pos hj, if_pos hj]
          show Value.ref (H.size + 1 + j) = Value.ref (base + (σ.length + 1 + j))
          rw [hsz]
          exact congrArg Value.ref (show (base + σ.length + 1 + j : Nat) = base + (σ.length + 1 + j) by omega)
        · rw [if_neg hj, if_neg hj]
          rfl
      · rw [List.getElem?_append_right (by simp; omega)] at hq
        have h3 := List.getElem?_eq_some_iff.mp hq
        obtain ⟨h4, h5⟩ := h3
        rw [List.getElem_replicate] at h5
        subst h5
        simp at h4
        show F.heap[base + q]? = some (vp_cell _ (zA base g0))
        rw [hz0]
        have := hrow (q - (σ.length + 1)) (by omega)
        rw [← this]
        congr 1
        omega
  obtain ⟨t2, a1, b1⟩ := kk F.heap hI1 (hS.grown (by rw [f1]; omega) hold) F rfl X'
  refine ⟨t2, step t2 ?_, b1⟩
  have e3 : T.heap.size = base + σ.length := by rw [hT]; exact hsz
  rw [e3]
  rw [zV_q hsp] at a1
  exact a1
end S5
