/-! THE MACHINE DOES WHAT THE ABSTRACT ONE DOES, 4: writes, Math -/
def zW (base b : Nat) (ac : Nat → ClassId) (σ : xSt) : va_W := σ.mapIdx fun k e => (base + k, zE base b ac e)
theorem zW_at {base b : Nat} {ac : Nat → ClassId} {σ : xSt} {k : Nat} : (zW base b ac σ)[k]? = (σ[k]?).map fun e => (base + k, zE base b ac e) := by
  unfold zW
  rw [List.getElem?_mapIdx]
theorem zW_set {base b : Nat} {ac : Nat → ClassId} {σ : xSt} {q : Nat} {e : va_E} : zW base b ac (σ.set q e) = (zW base b ac σ).set q (base + q, zE base b ac e) := by
  apply List.ext_getElem?
  intro k
  rw [zW_at]
  by_cases h : k = q
  · subst h
    by_cases hl : k < σ.length
    · rw [List.getElem?_set_self hl, List.getElem?_set_self (by unfold zW; rw [List.length_mapIdx]; exact hl)]; rfl
    · rw [List.getElem?_eq_none (by rw [List.length_set]; omega), List.getElem?_eq_none (by rw [List.length_set]; unfold zW; rw [List.length_mapIdx]; omega)]; rfl
  · rw [List.getElem?_set_ne (Ne.symm h), List.getElem?_set_ne (Ne.symm h), zW_at]
theorem zW_P {base b : Nat} {ac : Nat → ClassId} {D : va_G} {σ : xSt} {H : Heap} : va_P D vwCl (zW base b ac σ) H ↔ ∀ (k : Nat) (e : va_E), σ[k]? = some e → va_at D vwCl (base + k, zE base b ac e) H := by
  constructor
  · intro h k e he
    exact h k _ (by rw [zW_at, he]; rfl)
  · intro h k q hq
    rw [zW_at, Option.map_eq_some_iff] at hq
    obtain ⟨e, he, rfl⟩ := hq
    exact h k e he
theorem zW_D {base b : Nat} {ac : Nat → ClassId} {σ : xSt} : va_D (fun q => base ≤ q) (zW base b ac σ) := by
  refine ⟨fun i j p q hi hj hpq => ?_, fun k q hk => ?_⟩
  · rw [zW_at, Option.map_eq_some_iff] at hi hj
    obtain ⟨e1, -, rfl⟩ := hi
    obtain ⟨e2, -, rfl⟩ := hj
    have : base + i = base + j := hpq
    omega
  · rw [zW_at, Option.map_eq_some_iff] at hk
    obtain ⟨e1, -, rfl⟩ := hk
    exact Nat.le_add_right _ _
theorem zW_lt {base b : Nat} {ac : Nat → ClassId} {D : va_G} {σ : xSt} {H : Heap} (h : va_P D vwCl (zW base b ac σ) H) (h0 : 0 < σ.length) : base + σ.length ≤ H.size := by
  have h1 : σ[σ.length - 1]? = some (σ[σ.length - 1]'(by omega)) := List.getElem?_eq_getElem (by omega)
  have h2 := (zW_P.mp h _ _ h1).lt
  simp only at h2
  omega
theorem xOk_s {ty : FieldType} {v : Value} (h : xOk ty v = true) (base b : Nat) : narrow ty (zV base b v) = zV base b v ∧ fits ty (zV base b v) = true := by
  unfold xOk at h
  split at h
  · exact ⟨rfl, rfl⟩
  · exact ⟨rfl, rfl⟩
  · rename_i z
    simp only [Bool.or_eq_true, decide_eq_true_eq] at h
    rcases h with rfl | rfl
    · exact ⟨rfl, rfl⟩
    · exact ⟨rfl, rfl⟩
  · exact ⟨rfl, rfl⟩
  · exact ⟨rfl, rfl⟩
  · cases h
theorem xPf_s {i : Nat} {σ σ' : xSt} {q ci k : Nat} {v : Value} (h : xPf i σ q ci k v = some σ') : ∃ fs, xCe σ q = some (.inr (ci, fs)) ∧ k < fs.length ∧ xOk (xTy ci k) v = true ∧ (xFin ci k = false ∨ (mK i = 2 ∧ mO i = ci)) ∧ σ' = σ.set q (.inr (ci, fs.set k v)) := by
  unfold xPf at h
  split at h
  · rename_i c fs hc
    split at h
    · rename_i hh
      obtain ⟨rfl, h1, h2, h3⟩ := hh
      exact ⟨fs, hc, h1, h2, h3, (Option.some.inj h).symm⟩
    · cases h
  · cases h
section S4
variable {p : Program} {l : Launch} {e : Env} {R : Room} {s : State} {m : MethodId} {args : Array Value} {below : List Frame} {meth : Method} {c : Code} {H : Heap} {locs : List Loc} {cells slots : Nat} {Q : State → Prop}
variable {base b : Nat} {ac : Nat → ClassId} {D : va_G} {i pc : Nat} {L L' st st' : List Value} {σ σ' : xSt} {ls : Array Slot} {ins : Instr} {len : Nat} {rest : List Value} {scr : Option (Nat × (Nat → Int32))}
theorem W_sized {H1 : Heap} {locs1 : List Loc} {g : JFrame} (hz : s.heap.size + cells = H.size) (hle : H.size ≤ H1.size) (k : H1.size = H.size → W p l e R s m args below meth c H1 locs1 cells slots Q g) : W p l e R s m args below meth c H1 locs1 cells slots Q g := fun T hT X => k (by have := X.heapSize; rw [hT] at this; omega) T hT X
/-- behind a write of one cell -/
theorem s_back {H1 : Heap} {locs1 : List Loc} {g : JFrame} {q : Nat} {e0 e1 : va_E} (hI : zI base b ac D σ H) (hz : s.heap.size + cells = base + σ.length) (hq : xCe σ q = some e0) (hP : va_P D vwCl ((zW base b ac σ).set q (base + q, zE base b ac e1)) H1) (k : zI base b ac D (σ.set q e1) H1 → W p l e R s m args below meth c H1 locs1 cells slots Q g) : W p l e R s m args below meth c H1 locs1 cells slots Q g := by
  rw [← zW_set] at hP
  have h0 : 0 < (σ.set q e1).length := by
    have := (List.getElem?_eq_some_iff.mp (xCe_s hq).2).1
    rw [List.length_set]; omega
  have h1 := zW_lt hP h0
  rw [List.length_set] at h1
  refine W_sized (H := H) (by rw [hI.1]; exact hz) (by rw [hI.1]; exact h1) (fun h2 => k ⟨by rw [h2, List.length_set]; exact hI.1, zW_P.mp hP⟩)
theorem copy_words : .native arraycopyName ∈ wsA ∧ .static arraycopyName ∈ wsA ∧ .initialized "java/lang/System" ∈ wsA := ⟨List.mem_filter.mpr ⟨by decide +kernel, rfl⟩, List.mem_filter.mpr ⟨by decide +kernel, rfl⟩, List.mem_filter.mpr ⟨by decide +kernel, rfl⟩⟩
theorem s_wr (C : zC p s m args meth c base D ac i) (hd : decode (mC i) pc = .ok (ins, len)) (hlen : len = xln ins) (hR : mF i ≤ R.frames ∧ mW i ≤ R.locals) (hI : zI base b ac D σ H) (hz : s.heap.size + cells = base + σ.length) (hS : va_S (fun q => base ≤ q) s.heap H locs) (hls : ls.size = mL i) (hi : mK i = 2 → (mY i).name = "<init>") (h : xWr i ins st σ = some (st', σ')) (k : ∀ H1 locs1, zI base b ac D σ' H1 → va_S (fun q => base ≤ q) s.heap H1 locs1 → W p l e R s m args below meth c H1 locs1 cells slots Q (F0 m (pc + len) ls (st'.map (zV base b)))) : W p l e R s m args below meth c H locs cells slots Q (F0 m pc ls (st.map (zV base b))) := by
  obtain ⟨hx, hb, hml, -, hown, -, hnm, hts, hK, -⟩ := C
  subst hlen
  have hP : va_P D vwCl (zW base b ac σ) H := zW_P.mpr hI.2
  unfold xWr at h
  split at h
  · rename_i ix v q r
    split at h
    · rename_i ci kf hf
      rw [Option.map_eq_some_iff] at h
      obtain ⟨σ1, hv, he⟩ := h
      cases he
      obtain ⟨fs, hc, hkl, hok, hfin, rfl⟩ := xPf_s hv
      obtain ⟨C, T, n, hcl, hkn, hlk, hown2⟩ := fLk_ok hf
      have hcls := cls_ok hcl
      have hat : (zW base b ac σ)[q]? = some (base + q, .inr (ci, fs.map (zV base b))) := by rw [zW_at, (xCe_s hc).2]; rfl
      have hnf := xOk_s hok base b
      have hxf : xFin ci kf = (T kf).2.2.2 := by unfold xFin; rw [hcl]
      have hset : ((fs.set kf v).map (zV base b)) = (fs.map (zV base b)).set kf (zV base b v) := List.map_set
      rw [List.map_cons, List.map_cons, zV_q (xCe_s hc).1]
      cases hfb : (T kf).2.2.2 with
      | false =>
        refine va_put (D := D) (ci := ci) (v := zV base b v) (ty := xTy ci kf) hx hb hts (u_in hcls) (xTy ci) hcls.2.1 hcls.2.2.1 hown hK.1 hP zW_D hS q hat hcl kf hkn (hts _ hlk) (fun _ h9 => h9) hfb (hcls.2.1 kf hkn) hnf.1 hnf.2 (by rw [List.length_map]; exact hkl) hd (fun H1 locs1 hP1 hD1 hS1 => ?_)
        rw [← hset] at hP1
        exact s_back (e1 := .inr (ci, fs.set kf v)) hI hz hc hP1 (fun hI1 => k H1 locs1 hI1 hS1)
      | true =>
        rcases hfin with hfin | hfin
        · rw [hxf, hfb] at hfin; cases hfin
        · refine va_putF (D := D) (ci := ci) (v := zV base b v) (ty := xTy ci kf) hx hb hts (u_in hcls) (xTy ci) hcls.2.1 hcls.2.2.1 hown hK.1 hP zW_D hS q hat hcl kf hkn (hts _ hlk) (fun _ h9 => h9) hfb (by rw [hnm hfin.1]; exact hi hfin.1) hown2 (hcls.2.1 kf hkn) hnf.1 hnf.2 (by rw [List.length_map]; exact hkl) hd (fun H1 locs1 hP1 hD1 hS1 => ?_)
          rw [← hset] at hP1
          exact s_back (e1 := .inr (ci, fs.set kf v)) hI hz hc hP1 (fun hI1 => k H1 locs1 hI1 hS1)
    · cases h
  · rename_i z j q r
    rw [Option.bind_eq_some_iff] at h
    obtain ⟨a, ha, h⟩ := h
    obtain ⟨hin, he⟩ := xIn_s h
    cases he
    have hc := xAi_s ha
    have hat : (zW base b ac σ)[q]? = some (base + q, .inl (ac 0, a.1, .inl a.2)) := by rw [zW_at, (xCe_s hc).2]; rfl
    rw [List.map_cons, List.map_cons, List.map_cons, zV_q (xCe_s hc).1, zV_i, zV_i]
    exact va_iast hx hb hK.1 hP zW_D hS q 0 hat rfl hin hd (fun H1 locs1 hP1 hD1 hS1 => s_back (e1 := .inl (0, a.1, .inl (upd a.2 j.toNatClampNeg z))) hI hz hc hP1 (fun hI1 => k H1 locs1 hI1 hS1))
  · rename_i z j q r
    rw [Option.bind_eq_some_iff] at h
    obtain ⟨a, ha, h⟩ := h
    obtain ⟨hin, he⟩ := xIn_s h
    cases he
    have hc := xAl_s ha
    have hat : (zW base b ac σ)[q]? = some (base + q, .inl (ac 1, a.1, .inr (.inl a.2))) := by rw [zW_at, (xCe_s hc).2]; rfl
    rw [List.map_cons, List.map_cons, List.map_cons, zV_q (xCe_s hc).1, zV_i, zV_l]
    exact va_last hx hb hK.1 hP zW_D hS q 1 hat rfl hin hd (fun H1 locs1 hP1 hD1 hS1 => s_back (e1 := .inl (1, a.1, .inr (.inl (vp_updL a.2 j.toNatClampNeg z)))) hI hz hc hP1 (fun hI1 => k H1 locs1 hI1 hS1))
  · rename_i z j q r
    rw [Option.bind_eq_some_iff] at h
    obtain ⟨a, ha, h⟩ := h
    obtain ⟨hin, he⟩ := xIn_s h
    cases he
    have hc := xAz_s ha
    have hat : (zW base b ac σ)[q]? = some (base + q, .inl (ac 2, a.1, .inl a.2)) := by rw [zW_at, (xCe_s hc).2]; rfl
    rw [List.map_cons, List.map_cons, List.map_cons, zV_q (xCe_s hc).1, zV_i, zV_i]
    exact va_zast hx hb hK.1 hP zW_D hS q 2 hat rfl hin hd (fun H1 locs1 hP1 hD1 hS1 => s_back (e1 := .inl (2, a.1, .inl (upd a.2 j.toNatClampNeg (vp_nar .boolean z)))) hI hz hc hP1 (fun hI1 => k H1 locs1 hI1 hS1))
  · rename_i ix n dp q1 sp q0 r
    rw [Option.bind_eq_some_iff] at h
    obtain ⟨a, ha, h⟩ := h
    rw [Option.bind_eq_some_iff] at h
    obtain ⟨a1, ha1, h⟩ := h
    split at h
    · rename_i hc
      have he := Option.some.inj h
      cases he
      obtain ⟨hlk, hf, hw, h1, h2, h3, h4, h5⟩ := hc
      have hlk := cLk_ok hlk
      rw [if_neg (by decide), if_pos rfl] at hlk
      have hc0 := xAl_s ha
      have hc1 := xAl_s ha1
      have hat0 : (zW base b ac σ)[q0]? = some (base + q0, .inl (ac 1, a.1, .inr (.inl a.2))) := by rw [zW_at, (xCe_s hc0).2]; rfl
      have hat1 : (zW base b ac σ)[q1]? = some (base + q1, .inl (ac 1, a1.1, .inr (.inl a1.2))) := by rw [zW_at, (xCe_s hc1).2]; rfl
      rw [List.map_cons, List.map_cons, List.map_cons, List.map_cons, List.map_cons, zV_q (xCe_s hc0).1, zV_q (xCe_s hc1).1, zV_i, zV_i, zV_i]
      refine va_copyl hx hb (by rw [hml, hls]) hown (hts _ hlk) (hts _ copy_words.1) (hts _ copy_words.2.1) (hts _ copy_words.2.2) hK.1 hP zW_D hS q0 q1 1 1 hat0 hat1 rfl rfl rfl h1 h2 h3 h4 h5 (fun _ _ => rfl) (by omega) ?_ hd (fun H1 locs1 hP1 hD1 hS1 => s_back (e1 := .inl (1, a1.1, .inr (.inl (va_cpy a.2 a1.2 sp.toNatClampNeg dp.toNatClampNeg n.toNatClampNeg)))) hI hz hc1 hP1 (fun hI1 => k H1 locs1 hI1 hS1))
      rw [cat_map]
      have e0 : nativeFrameWords "java/lang/System" "arraycopy" 5 = 7 := by decide
      rw [e0]
      omega
    · cases h
  · cases h
end S4
