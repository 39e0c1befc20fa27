/-! THE MACHINE DOES WHAT THE ABSTRACT ONE DOES, 3: instructions of the heap -/
theorem xCe_s {σ : xSt} {q : Nat} {e : va_E} (h : xCe σ q = some e) : ¬ q = scP ∧ σ[q]? = some e := by
  unfold xCe at h
  split at h
  · cases h
  · rename_i hq; exact ⟨hq, h⟩
theorem xFd_s {σ : xSt} {q ci k : Nat} {v : Value} (h : xFd σ q ci k = some v) : ∃ fs, xCe σ q = some (.inr (ci, fs)) ∧ fs[k]? = some v := by
  unfold xFd at h
  split at h
  · rename_i c fs hc
    split at h
    · rename_i e; subst e; exact ⟨fs, hc, h⟩
    · cases h
  · cases h
theorem xAi_s {σ : xSt} {q : Nat} {a : Nat × (Nat → Int32)} (h : xAi σ q = some a) : xCe σ q = some (.inl (0, a.1, .inl a.2)) := by
  unfold xAi at h
  split at h
  · rename_i n f hc; cases h; exact hc
  · cases h
theorem xAl_s {σ : xSt} {q : Nat} {a : Nat × (Nat → Int64)} (h : xAl σ q = some a) : xCe σ q = some (.inl (1, a.1, .inr (.inl a.2))) := by
  unfold xAl at h
  split at h
  · rename_i n f hc; cases h; exact hc
  · cases h
theorem xAz_s {σ : xSt} {q : Nat} {a : Nat × (Nat → Int32)} (h : xAz σ q = some a) : xCe σ q = some (.inl (2, a.1, .inl a.2)) := by
  unfold xAz at h
  split at h
  · rename_i n f hc; cases h; exact hc
  · cases h
theorem xAq_s {σ : xSt} {q : Nat} {a : Nat × (Nat → Option Nat)} (h : xAq σ q = some a) : ∃ t, (t = 3 ∨ t = 4) ∧ xCe σ q = some (.inl (t, a.1, .inr (.inr (.inr (.inr a.2))))) := by
  unfold xAq at h
  split at h
  · rename_i t n f hc
    split at h
    · rename_i ht; cases h; exact ⟨t, ht, hc⟩
    · cases h
  · cases h
theorem xSc_s {scr : Option (Nat × (Nat → Int32))} {q : Nat} {a : Nat × (Nat → Int32)} (h : xSc scr q = some a) : q = scP ∧ scr = some a := by
  unfold xSc at h
  split at h
  · rename_i e; exact ⟨e, h⟩
  · cases h
theorem xIn_s {α : Type} {j : Int32} {n : Nat} {v w : α} (h : xIn j n v = some w) : vp_in j n ∧ w = v := by
  unfold xIn at h
  split at h
  · cases h
  · rename_i hj; cases h; exact ⟨hj, rfl⟩
theorem zV_q {base b q : Nat} (h : ¬ q = scP) : zV base b (.ref q) = .ref (base + q) := by rw [zV_r, if_neg h]
theorem zV_sc {base b : Nat} : zV base b (.ref scP) = .ref b := by rw [zV_r, if_pos rfl]
theorem cat_map (base b : Nat) (r : List Value) : (((r.map (zV base b)).map fun v => v.category).sum) = (r.map fun v => v.category).sum := by
  rw [List.map_map]
  congr 1
  exact List.map_congr_left (fun v _ => zV_cat base b v)
theorem va_P1 {D : va_G} {cl : List vw_C} {x : Nat × va_E} {H : Heap} (h : va_at D cl x H) : va_P D cl [x] H := by
  intro k q hk
  have h0 : k < 1 := (List.getElem?_eq_some_iff.mp hk).1
  rw [show k = 0 by omega] at hk
  cases hk
  exact h
theorem va_D1 {A : Nat → Prop} {x : Nat × va_E} (h : A x.1) : va_D A [x] := by
  refine ⟨fun i j p q hi hj _ => ?_, fun k q hk => ?_⟩
  · have h0 : i < 1 := (List.getElem?_eq_some_iff.mp hi).1
    have h1 : j < 1 := (List.getElem?_eq_some_iff.mp hj).1
    omega
  · have h0 : k < 1 := (List.getElem?_eq_some_iff.mp hk).1
    rw [show k = 0 by omega] at hk
    cases hk
    exact h
theorem zI.at {base b : Nat} {ac : Nat → ClassId} {D : va_G} {σ : xSt} {H : Heap} (h : zI base b ac D σ H) {q : Nat} {e : va_E} (hq : xCe σ q = some e) : va_P D vwCl [(base + q, zE base b ac e)] H := va_P1 (h.2 q e (xCe_s hq).2)
/-- one cell has changed -/
theorem zI.set {base b : Nat} {ac : Nat → ClassId} {D : va_G} {σ : xSt} {H H1 : Heap} (h : zI base b ac D σ H) {q : Nat} {e : va_E} (hz : H1.size = H.size) (ho : ∀ x : Nat, x < H.size → x ≠ base + q → H1[x]? = H[x]?) (he : va_at D vwCl (base + q, zE base b ac e) H1) : zI base b ac D (σ.set q e) H1 := by
  refine ⟨by rw [hz, List.length_set]; exact h.1, fun k e' hk => ?_⟩
  by_cases hq : k = q
  · subst hq
    have hl : k < σ.length := by
      have := (List.getElem?_eq_some_iff.mp hk).1
      rw [List.length_set] at this; exact this
    rw [List.getElem?_set_self hl] at hk
    cases hk
    exact he
  · rw [List.getElem?_set_ne (Ne.symm hq)] at hk
    have h1 := h.2 k e' hk
    exact h1.kept (ho (base + k) h1.lt (by omega))
section S3
variable {p : Program} {l : Launch} {e : Env} {R : Room} {s : State} {m : MethodId} {args : Array Value} {below : List Frame} {meth : Method} {c : Code} {H : Heap} {locs : List Loc} {cells slots : Nat} {Q : State → Prop}
variable {base b : Nat} {ac : Nat → ClassId} {D : va_G} {i pc : Nat} {L L' st st' : List Value} {σ σ' : xSt} {ls : Array Slot} {ins : Instr} {len : Nat} {rest : List Value} {scr : Option (Nat × (Nat → Int32))}
theorem obj_words : .instanceMethod objectInit ∈ wsA ∧ .code objectInit ⟨#[0xb1]⟩ 1 none ∈ wsA := ⟨List.mem_filter.mpr ⟨by decide +kernel, rfl⟩, List.mem_filter.mpr ⟨by decide +kernel, rfl⟩⟩
theorem s_rd (C : zC p s m args meth c base D ac i) (hd : decode (mC i) pc = .ok (ins, len)) (hlen : len = xln ins) (hR : mF i ≤ R.frames ∧ mW i ≤ R.locals) (hI : zI base b ac D σ H) (hS : va_S (fun q => base ≤ q) s.heap H locs) (hscr : ∀ a, scr = some a → va_X b a.1 a.2 s s.heap ∧ b < s.heap.size ∧ b < base) (hls : ls.size = mL i) (h : xRd scr i ins st σ = some st') (k : W p l e R s m args below meth c H locs cells slots Q (F0 m (pc + len) ls (st'.map (zV base b)))) : W p l e R s m args below meth c H locs cells slots Q (F0 m pc ls (st.map (zV base b))) := by
  obtain ⟨hx, hb, hml, -, hown, -, -, hts, hK, -⟩ := C
  subst hlen
  unfold xRd at h
  split at h
  · rename_i ix q r
    split at h
    · rename_i ci kf hf
      rw [Option.map_eq_some_iff] at h
      obtain ⟨v, hv, rfl⟩ := h
      obtain ⟨fs, hc, hk⟩ := xFd_s hv
      obtain ⟨C, T, n, hcl, hkn, hlk, hown2⟩ := fLk_ok hf
      have hcls := cls_ok hcl
      rw [List.map_cons, zV_q (xCe_s hc).1]
      exact va_get (D := D) (ci := ci) (v := zV base b v) hx hb hts (u_in hcls) hown hK.1 (hI.at hc) 0 rfl hcl kf hkn (hts _ hlk) (fun _ h9 => h9) (by rw [List.getElem?_map, hk]; rfl) hd k
    · cases h
  · rename_i j q r
    rw [Option.bind_eq_some_iff] at h
    obtain ⟨a, ha, h⟩ := h
    obtain ⟨hin, rfl⟩ := xIn_s h
    rw [Option.or_eq_some_iff] at ha
    rcases ha with ha | ⟨-, ha⟩
    · have hc := xAi_s ha
      rw [List.map_cons, List.map_cons, zV_q (xCe_s hc).1, zV_i]
      exact va_iald hx hb hK.1 (hI.at hc) 0 0 rfl rfl hin hd k
    · obtain ⟨rfl, hs2⟩ := xSc_s ha
      obtain ⟨hX, hbl, hbb⟩ := hscr _ hs2
      rw [List.map_cons, List.map_cons, zV_sc, zV_i]
      exact va_sld hx hb hX hbl (fun q => by omega) hS hin hd k
  · rename_i j q r
    rw [Option.bind_eq_some_iff] at h
    obtain ⟨a, ha, h⟩ := h
    obtain ⟨hin, rfl⟩ := xIn_s h
    have hc := xAl_s ha
    rw [List.map_cons, List.map_cons, zV_q (xCe_s hc).1, zV_i]
    exact va_lald hx hb hK.1 (hI.at hc) 0 1 rfl rfl hin hd k
  · rename_i j q r
    rw [Option.bind_eq_some_iff] at h
    obtain ⟨a, ha, h⟩ := h
    obtain ⟨hin, rfl⟩ := xIn_s h
    have hc := xAz_s ha
    rw [List.map_cons, List.map_cons, zV_q (xCe_s hc).1, zV_i]
    exact va_zald hx hb hK.1 (hI.at hc) 0 2 rfl rfl hin hd k
  · rename_i j q r
    rw [Option.bind_eq_some_iff] at h
    obtain ⟨a, ha, h⟩ := h
    split at h
    · rename_i y hy
      split at h
      · cases h
      · rename_i hys
        obtain ⟨hin, rfl⟩ := xIn_s h
        obtain ⟨t, ht, hc⟩ := xAq_s ha
        rw [List.map_cons, List.map_cons, zV_q (xCe_s hc).1, zV_i]
        rw [List.map_cons, zV_q hys] at k
        have hlt : j.toNatClampNeg < a.1 := Nat.not_le.mp fun q => hin (Or.inr q)
        rcases ht with rfl | rfl
        · have hat : H[base + q]? = some (arrV (ac 3) a.1 (fun j => va_rf ((a.2 j).map fun q => base + q))) := hI.at hc 0 _ rfl
          exact W.aald (v := .ref (base + y)) (ty := .array .int) hx hb hat ((hK.1.2 3 _ rfl).1 a.1 (fun j => va_rf ((a.2 j).map fun q => base + q))) rfl (fun q => by cases q) (by show ¬ (j < 0 ∨ (arrV _ _ _).slots.size ≤ _); rw [arrV_size]; exact hin) (by show (arrV _ _ _).slots[_]? = _; rw [arrV_read _ _ hlt, hy]; rfl) rfl rfl hd k
        · have hat : H[base + q]? = some (arrV (ac 4) a.1 (fun j => va_rf ((a.2 j).map fun q => base + q))) := hI.at hc 0 _ rfl
          exact W.aald (v := .ref (base + y)) (ty := .array .long) hx hb hat ((hK.1.2 4 _ rfl).1 a.1 (fun j => va_rf ((a.2 j).map fun q => base + q))) rfl (fun q => by cases q) (by show ¬ (j < 0 ∨ (arrV _ _ _).slots.size ≤ _); rw [arrV_size]; exact hin) (by show (arrV _ _ _).slots[_]? = _; rw [arrV_read _ _ hlt, hy]; rfl) rfl rfl hd k
    · cases h
  · rename_i q r
    rw [Option.map_eq_some_iff] at h
    obtain ⟨a, ha, rfl⟩ := h
    obtain ⟨rfl, hs2⟩ := xSc_s ha
    obtain ⟨hX, hbl, hbb⟩ := hscr _ hs2
    rw [List.map_cons, zV_sc]
    exact va_slen hx hb hX hbl (fun q => by omega) hS hd k
  · rename_i ix q r
    split at h
    · rename_i hc
      have hr := Option.some.inj h
      subst hr
      have hlk := cLk_ok hc.1
      rw [if_pos rfl] at hlk
      refine W.objInit hx hb hown (hts _ hlk) (hts _ obj_words.1) (hts _ obj_words.2) rfl (by rw [hml]; exact hls) (a := if q = scP then b else base + q) (rest := r.map (zV base b)) rfl hd (by omega) ?_ k
      rw [cat_map]
      show 2 * 0 + _ + 12 ≤ _
      omega
    · cases h
  · cases h
end S3
