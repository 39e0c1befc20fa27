/-! THE MACHINE DOES WHAT THE ABSTRACT ONE DOES, 7: every method, by induction on the steps -/
def zRm (j : Nat) : Room := { frames := mF j, cells := mCe j, slots := mSl j, locals := mW j }
def zPc (base b : Nat) (ac : Nat → ClassId) (D : va_G) (as : List Value) (σ : xSt) : Array Value → State → Prop := va_Pc (as.map (zV base b)) (fun U => zI base b ac D σ U.heap ∧ zK D ac U)
def zQx (base b : Nat) (ac : Nat → ClassId) (D : va_G) (r : Option Value) (σ' : xSt) : Array Value → State → Outcome → State → Prop := fun _ st oc t => oc = .returned r ∧ zI base b ac D σ' t.heap ∧ va_F (fun q => base ≤ q) st t
/-- what n steps of the abstract machine say of the machine -/
def zRun (l : Launch) (base b : Nat) (ac : Nat → ClassId) (D : va_G) (n : Nat) : Prop :=
  ∀ (scr : Option (Nat × (Nat → Int32))) (i pc : Nat) (L st : List Value) (σ : xSt) (nc ns : Nat) (r : Option Value) (σ' : xSt), xs n scr i pc L st σ nc ns = some (r, σ') →
  ∀ (p : Program) (e : Env) (R : Room) (s : State) (m : MethodId) (args : Array Value) (below : List Frame) (meth : Method) (c : Code) (H : Heap) (locs : List Loc) (ls : Array Slot) (Q : State → Prop), zC p s m args meth c base D ac i →
  (mF i ≤ R.frames ∧ mW i ≤ R.locals ∧ mCe i ≤ R.cells ∧ mSl i ≤ R.slots) → (mK i = 2 → (mY i).name = "<init>") → (∀ a, scr = some a → va_X b a.1 a.2 s s.heap ∧ b < s.heap.size ∧ b < base) →
  zI base b ac D σ H → s.heap.size + nc = base + σ.length → va_S (fun q => base ≤ q) s.heap H locs → zL base b (mL i) ls L →
  (∀ (H1 : Heap) (locs1 : List Loc) (nc1 ns1 pc1 : Nat) (ls1 : Array Slot), decode (mC i) pc1 = .ok (rI r, 1) → xRk i r → (nc1 = mCe i ∨ (i = 192 ∧ nc1 ≤ mCe i)) → ns1 ≤ mSl i → zI base b ac D σ' H1 → va_S (fun q => base ≤ q) s.heap H1 locs1 → W p l e R s m args below meth c H1 locs1 nc1 ns1 Q (F0 m pc1 ls1 r.toList)) →
  W p l e R s m args below meth c H locs nc ns Q (F0 m pc ls (st.map (zV base b)))
theorem goodA {ws : List Cond} (h : ∀ w ∈ ws, w ∈ wsA) : GoodIn wsA ws := fun w hw => wsA_good w (h w hw)
theorem z_met {l : Launch} {base b : Nat} {ac : Nat → ClassId} {D : va_G} {n : Nat} (IH : zRun l base b ac D n) {j : Nat} (hj : j < 187) {as : List Value} {σ σ' : xSt} {r : Option Value} (hl : (xLay as).length ≤ mL j) (hok : xAok as = true) (h : xs n none j 0 (xEnt (mL j) as) [] σ 0 0 = some (r, σ')) : Met l (mY j) (mCo j :: wsA) (zRm j) (zPc base b ac D as σ) (zQx base b ac D r σ') (mCe j) (mSl j) (fun q => base ≤ q) := by
  have hm := mOK hj
  refine Met.ofW (cc := mC j) (maxL := mL j) (ret := mR j) hm.1 rfl ?_
  intro p e s m args below meth c s₁ B hml hv
  obtain ⟨rfl, hI, hK⟩ := hv
  have hts := atoms_spec (ws := mCo j :: wsA) B.pre
  have hown : s.vm.findClass (mY j).cls = some m.cls := findClass_of_methodNamed B.named
  rw [hm.2.2.2.2.1] at hown
  have hbs : base ≤ s.heap.size := by rw [hI.1]; exact Nat.le_add_right _ _
  have C : zC p s m (as.map (zV base b)).toArray meth c base D ac j := ⟨B.exec, B.bytes, hml, B.returns, hown, B.notSynchronized, fun _ => (name_of_methodNamed B.named B.method).1, fun w hw => hts w (List.mem_cons_of_mem _ hw), hK, hbs⟩
  rw [lg_entry_eq]
  have key := IH none j 0 (xEnt (mL j) as) [] σ 0 0 r σ' h p e (zRm j) s m _ below meth c s.heap [] _ (MQ below (zQx base b ac D r σ') (as.map (zV base b)).toArray s (mCe j) (mSl j) (fun q => base ≤ q)) C ⟨Nat.le_refl _, Nat.le_refl _, Nat.le_refl _, Nat.le_refl _⟩ (fun q => (hm.2.2.2.2.2.2.2 q).2.1) (fun a ha => by cases ha) hI (by rw [hI.1]; rfl) va_S.rf (zL.entry hl hok) ?_
  · exact key
  · intro H1 locs1 nc1 ns1 pc1 ls1 hd hk hnc hns hI1 hS1
    have hnc1 : nc1 ≤ mCe j := by omega
    refine W.widen hnc1 hns ?_
    have hlocks := B.notSynchronized
    unfold xRk at hk
    split at hk
    · exact W.vret B.exec B.bytes (by rw [B.returns]; exact hk) (fun t ht hW => ⟨rfl, by rw [ht]; exact hI1, hS1.F ht⟩) hS1.2.2 hd
    · rename_i z
      unfold xRok at hk
      split at hk
      · rename_i hr
        exact W.zret (ty := .int) B.exec B.bytes (by rw [B.returns]; exact hr) rfl (fun t ht hW => ⟨rfl, by rw [ht]; exact hI1, hS1.F ht⟩) hS1.2.2 hd
      · rename_i hr
        simp only [Bool.or_eq_true, decide_eq_true_eq] at hk
        refine W.zret (ty := .boolean) B.exec B.bytes (by rw [B.returns]; exact hr) ?_ (fun t ht hW => ⟨rfl, by rw [ht]; exact hI1, hS1.F ht⟩) hS1.2.2 hd
        rcases hk with rfl | rfl <;> rfl
      · cases hk
    · exact W.lret B.exec B.bytes (by rw [B.returns]; exact hk) (fun t ht hW => ⟨rfl, by rw [ht]; exact hI1, hS1.F ht⟩) hS1.2.2 hd
    · exact hk.elim
section S7
variable {p : Program} {l : Launch} {e : Env} {R : Room} {s : State} {m : MethodId} {args : Array Value} {below : List Frame} {meth : Method} {c : Code} {H : Heap} {locs : List Loc} {cells slots : Nat} {Q : State → Prop}
variable {base b : Nat} {ac : Nat → ClassId} {D : va_G} {i pc : Nat} {L L' st st' : List Value} {σ σ' : xSt} {ls : Array Slot} {ins : Instr} {len : Nat} {rest : List Value} {scr : Option (Nat × (Nat → Int32))}
theorem s_goon {a : Array Value} {mc ms : Nat} {st0 : List Value} {r : Option Value} (hr : va_Run p l e R s m args below meth c H locs cells slots mc ms (F0 m pc ls st0) rest (zQx base b ac D r σ' a) (fun q => base ≤ q)) (hS : va_S (fun q => base ≤ q) s.heap H locs) (k : ∀ H1 locs1, zI base b ac D σ' H1 → va_S (fun q => base ≤ q) s.heap H1 locs1 → W p l e R s m args below meth c H1 locs1 (cells + mc) (slots + ms) Q (F0 m (pc + 3) ls (r.toList ++ rest))) : W p l e R s m args below meth c H locs cells slots Q (F0 m pc ls st0) := by
  intro T hT X
  obtain ⟨v, st₀, t, T', Lc, h0, X', hL, e1, e2, ⟨hv, hI1, hz, hk⟩, st⟩ := hr T hT X
  cases hv
  rw [h0] at hz hk
  obtain ⟨t2, a1, b1⟩ := k T'.heap (locs ++ Lc) (by rw [e1]; exact hI1) ⟨Nat.le_trans hS.1 (by rw [e1]; exact hz), fun q h1 h2 => by rw [e1, hk q (Nat.lt_of_lt_of_le h1 hS.1) h2]; exact hS.2.1 q h1 h2, fun q hq => by
    rcases List.mem_append.mp hq with h | h
    · exact hS.2.2 q h
    · exact hL q h⟩ T' rfl X'
  exact ⟨t2, st t2 a1, b1⟩
theorem zPc_blind {as : List Value} : FrameBlind (zPc base b ac D as σ) := by
  intro a U g mk q
  obtain ⟨q0, q1, q2⟩ := q
  exact ⟨q0, q1, zK.moved (u := U) (U := U.calling g mk a) (Vm.Alike.refl U.vm) q2⟩
theorem s_call {n : Nat} (IH : zRun l base b ac D n) (C : zC p s m args meth c base D ac i) (hd : decode (mC i) pc = .ok (ins, len)) (hlen : len = xln ins) (hR : mF i ≤ R.frames ∧ mW i ≤ R.locals ∧ mCe i ≤ R.cells ∧ mSl i ≤ R.slots) (hI : zI base b ac D σ H) (hS : va_S (fun q => base ≤ q) s.heap H locs) (hls : ls.size = mL i) {j : Nat} {as : List Value} (h : xCl i ins st σ cells slots = some (j, as, st')) {r : Option Value} (hx1 : xs n none j 0 (xEnt (mL j) as) [] σ 0 0 = some (r, σ')) (k : ∀ H1 locs1, zI base b ac D σ' H1 → va_S (fun q => base ≤ q) s.heap H1 locs1 → W p l e R s m args below meth c H1 locs1 (cells + mCe j) (slots + mSl j) Q (F0 m (pc + len) ls ((r.toList ++ st').map (zV base b)))) : W p l e R s m args below meth c H locs cells slots Q (F0 m pc ls (st.map (zV base b))) := by
  obtain ⟨hx, hb, hml, -, hown, -, hnm, hts, hK, -⟩ := C
  subst hlen
  have S : CallFix p m c (mC i) (mL i) s args wsA (oS (mO i)) := ⟨hx, hb, hml, hown, hts⟩
  unfold xCl at h
  split at h
  · rename_i ix
    obtain ⟨hlk, hj, hkd, ⟨f1, f2, f3, f4⟩, hlen, rfl, hcat, hlay, hok, hrc0, -⟩ := xCa_s h
    have hm := mOK hj
    have hM := z_met IH hj hlay hok hx1
    have hlw := cLk_ok hlk
    rw [if_neg (by omega), if_neg (by omega)] at hlw
    have hrk := (xs_len n _ _ _ _ _ _ _ _ _ _ hx1 (by omega)).2
    have hrc := hrc0 rfl
    clear hrc0
    unfold xRc at hrc
    split at hrc
    · rename_i q tl
      split at hrc
      · rename_i ci fs hce
        have hci : ci = mO j := by simpa using hrc
        subst hci
        have hq := (xCe_s hce).1
        obtain ⟨hin, hsel⟩ := hm.2.2.2.2.2.1 hkd
        have hgood : GoodIn wsA (wsV (oS (mO i)) ix (mY j).cls (mY j) (mCo j :: wsA)) := goodA (fun w hw => by
          unfold wsV at hw
          rcases List.mem_append.mp hw with hw | hw
          · simp only [List.mem_cons, List.not_mem_nil, or_false] at hw
            rcases hw with rfl | rfl | rfl | rfl
            · exact hlw
            · exact hin
            · exact hsel
            · exact hm.2.1
          · rcases List.mem_cons.mp hw with rfl | hw
            · exact cw_all j hj
            · exact hw)
        have cw := cwV (R := R) (rm := zRm j) (mc := mCe j) (ms := mSl j) (bytes := mC j) (maxL := mL j) (ret := mR j) (mN j) hts hgood rfl rfl rfl ⟨rfl, hm.2.2.1.1, hm.2.2.1.2, hm.2.2.2.1⟩ ⟨by show mF j + 1 ≤ _; omega, by show 8 + (mL j + 11) + mW j ≤ _; omega⟩
        have hrecv : ∃ cellB : Cell, H[base + q]? = some cellB ∧ cellB.vm.isStatics = false ∧ s.vm.findClass (mY j).cls = some cellB.cls := by
          have hat := hI.2 q _ (xCe_s hce).2
          obtain ⟨rr, hcl, -⟩ := hat
          have h9 := va_recv hK.1 (hI.at hce) hcl (q0 := 0) rfl
          obtain ⟨C, T, nn⟩ := rr
          rw [hm.2.2.2.2.1, ← (cls_ok hcl).2.2.2.1]
          exact h9
        refine s_goon (va_runV (As := tl.map (zV base b)) (rest := st'.map (zV base b)) (b := base + q) S hM cw ⟨zPc_blind, hrecv, fun U hU hW => ⟨by rw [List.map_cons, zV_q hq], by rw [hU]; exact hI, zK.moved hW.alike hK⟩⟩ rfl ?_ hls ?_ (lv_room (by rw [cat_map]; exact hcat)) hd ⟨by omega, by omega⟩) hS (fun H1 locs1 hI1 hS1 => ?_)
        · have e9 : xNa 0 j = mN j + 1 := rfl
          rw [e9, List.length_cons] at hlen
          rw [List.length_map]
          omega
        · show ((Value.ref q :: tl).reverse ++ st').map (zV base b) = _
          rw [List.reverse_cons, List.map_append, List.map_append, List.map_reverse, List.append_assoc, List.map_cons, List.map_nil, zV_q hq]
          rfl
        · have k1 := k H1 locs1 hI1 hS1
          rw [List.map_append, xRk_map hrk] at k1
          exact k1
      · cases hrc
    · cases hrc
  · rename_i ix
    obtain ⟨hlk, hj, hkd, ⟨f1, f2, f3, f4⟩, hlen, rfl, hcat, hlay, hok, -, -⟩ := xCa_s h
    have hm := mOK hj
    have hM := z_met IH hj hlay hok hx1
    have hlw := cLk_ok hlk
    rw [if_neg (by omega), if_neg (by omega)] at hlw
    have hrk := (xs_len n _ _ _ _ _ _ _ _ _ _ hx1 (by omega)).2
    have hst := hm.2.2.2.2.2.2.1 hkd
    have hgood : GoodIn wsA (va_wsS (oS (mO i)) ix (mY j) (mCo j :: wsA)) := goodA (fun w hw => by
      unfold va_wsS at hw
      rcases List.mem_append.mp hw with hw | hw
      · simp only [List.mem_cons, List.not_mem_nil, or_false] at hw
        rcases hw with rfl | rfl | rfl
        · exact hlw
        · exact hst
        · exact hm.2.1
      · rcases List.mem_cons.mp hw with rfl | hw
        · exact cw_all j hj
        · exact hw)
    have cw := va_cwS (R := R) (rm := zRm j) (mc := mCe j) (ms := mSl j) (bytes := mC j) (maxL := mL j) (ret := mR j) (mN j) hts hgood rfl rfl rfl ⟨hm.2.2.1.1, hm.2.2.1.2, hm.2.2.2.1⟩ ⟨by show mF j + 1 ≤ _; omega, by show 8 + (mL j + 11) + mW j ≤ _; omega⟩
    refine s_goon (va_runS (As := as.map (zV base b)) (rest := st'.map (zV base b)) S hM cw ⟨zPc_blind, fun U hU hW => ⟨rfl, by rw [hU]; exact hI, zK.moved hW.alike hK⟩⟩ rfl ?_ hls ?_ (lv_room (by rw [cat_map]; exact hcat)) hd ⟨by omega, by omega⟩) hS (fun H1 locs1 hI1 hS1 => ?_)
    · rw [List.length_map, hlen]; rfl
    · show (as.reverse ++ st').map (zV base b) = _
      rw [List.map_append, List.map_reverse]
    · have k1 := k H1 locs1 hI1 hS1
      rw [List.map_append, xRk_map hrk] at k1
      exact k1
  · rename_i ix
    obtain ⟨hlk, hj, hkd, ⟨f1, f2, f3, f4⟩, hlen, rfl, hcat, hlay, hok, -, hrf0⟩ := xCa_s h
    have hm := mOK hj
    have hM := z_met IH hj hlay hok hx1
    have hlw := cLk_ok hlk
    rw [if_neg (by omega), if_neg (by omega)] at hlw
    have hrk := (xs_len n _ _ _ _ _ _ _ _ _ _ hx1 (by omega)).2
    obtain ⟨hin, hnm2, hret⟩ := hm.2.2.2.2.2.2.2 hkd
    have hrf := hrf0 rfl
    clear hrf0
    unfold xRf at hrf
    split at hrf
    · rename_i q tl
      have hgood : GoodIn wsA (mCo j :: wsA) := goodA (fun w hw => by
        rcases List.mem_cons.mp hw with rfl | hw
        · exact cw_all j hj
        · exact hw)
      have cw := cwI (R := R) (rm := zRm j) (mc := mCe j) (ms := mSl j) (bytes := mC j) (maxL := mL j) (mN j) hts hgood (by unfold mCo; rw [hret]) rfl rfl (hts _ hm.2.1) (hts _ hlw) (hts _ hin) hnm2 ⟨hm.2.2.1.1, hm.2.2.1.2, hm.2.2.2.1⟩ ⟨by show mF j + 1 ≤ _; omega, by show 8 + (mL j + 11) + mW j ≤ _; omega⟩
      refine s_goon (va_runI (As := tl.map (zV base b)) (rest := st'.map (zV base b)) (b := if q = scP then b else base + q) S hM cw ⟨zPc_blind, fun U hU hW => ⟨by rw [List.map_cons, zV_r], by rw [hU]; exact hI, zK.moved hW.alike hK⟩⟩ rfl ?_ hls ?_ (lv_room (by rw [cat_map]; exact hcat)) hd ⟨by omega, by omega⟩) hS (fun H1 locs1 hI1 hS1 => ?_)
      · have e9 : xNa 2 j = mN j + 1 := rfl
        rw [e9, List.length_cons] at hlen
        rw [List.length_map]
        omega
      · show ((Value.ref q :: tl).reverse ++ st').map (zV base b) = _
        rw [List.reverse_cons, List.map_append, List.map_append, List.map_reverse, List.append_assoc, List.map_cons, List.map_nil, zV_r]
        rfl
      · have k1 := k H1 locs1 hI1 hS1
        rw [List.map_append, xRk_map hrk] at k1
        exact k1
    · cases hrf
  · cases h
end S7
theorem z_run (l : Launch) (base b : Nat) (ac : Nat → ClassId) (D : va_G) : ∀ n, zRun l base b ac D n := by
  intro n
  induction n with
  | zero =>
    intro scr i pc L st σ nc ns r σ' h
    simp [xs] at h
  | succ n ih =>
    intro scr i pc L st σ nc ns r σ' h p e R s m args below meth c H locs ls Q C hR hi hscr hI hz hS hL hret
    have hls : ls.size = mL i := hL.2.1
    rw [xs] at h
    split at h
    · cases h
    · rename_i ins len hd
      split at h
      · cases h
      · rename_i pc' L' st' σ1 nc' ns' hs
        rcases xStep_s hs with ⟨_, _, hw, e9⟩ | ⟨hl, ⟨_, hw, e9⟩ | ⟨_, _, hw, e9⟩ | ⟨_, hw, e9⟩ | ⟨_, _, hw, e9⟩ | ⟨_, hw, e9⟩ | ⟨_, _, _, _, hw, e9⟩ | ⟨_, _, e9⟩ | ⟨_, _, e9⟩⟩
        · cases e9
          exact s_br C hd hw (ih _ _ _ _ _ _ _ _ _ _ h _ _ _ _ _ _ _ _ _ _ _ _ _ C hR hi hscr hI hz hS hL hret)
        · cases e9
          exact s_ld C hd hl hL hw (ih _ _ _ _ _ _ _ _ _ _ h _ _ _ _ _ _ _ _ _ _ _ _ _ C hR hi hscr hI hz hS hL hret)
        · cases e9
          exact s_op C hd hl hL hw (fun ls' hL' => ih _ _ _ _ _ _ _ _ _ _ h _ _ _ _ _ _ _ _ _ _ _ _ _ C hR hi hscr hI hz hS hL' hret)
        · cases e9
          exact s_rd C hd hl ⟨hR.1, hR.2.1⟩ hI hS hscr hls hw (ih _ _ _ _ _ _ _ _ _ _ h _ _ _ _ _ _ _ _ _ _ _ _ _ C hR hi hscr hI hz hS hL hret)
        · cases e9
          exact s_wr C hd hl ⟨hR.1, hR.2.1⟩ hI hz hS hls hi hw (fun H1 locs1 hI1 hS1 => ih _ _ _ _ _ _ _ _ _ _ h _ _ _ _ _ _ _ _ _ _ _ _ _ C hR hi hscr hI1 (by rw [xWr_len hw]; exact hz) hS1 hL hret)
        · cases e9
          exact s_ma C hd hl hR hls hw (ih _ _ _ _ _ _ _ _ _ _ h _ _ _ _ _ _ _ _ _ _ _ _ _ C hR hi hscr hI hz hS hL hret)
        · cases e9
          exact s_nw C hd hl hR.2.2 hI hS hw (fun H1 hI1 hS1 => ih _ _ _ _ _ _ _ _ _ _ h _ _ _ _ _ _ _ _ _ _ _ _ _ C hR hi hscr hI1 (by have := xNw_len hw; omega) hS1 hL hret)
        · cases e9
        · cases e9
      · rename_i j as st' hs
        split at h
        · cases h
        · rename_i r1 σ1 hr1
          rcases xStep_s hs with ⟨_, _, hw, e9⟩ | ⟨hl, ⟨_, hw, e9⟩ | ⟨_, _, hw, e9⟩ | ⟨_, hw, e9⟩ | ⟨_, _, hw, e9⟩ | ⟨_, hw, e9⟩ | ⟨_, _, _, _, hw, e9⟩ | ⟨_, hw, e9⟩ | ⟨_, _, e9⟩⟩ <;> cases e9
          have hj : j < 187 := by
            unfold xCl at hw
            split at hw
            · exact (xCa_s hw).2.1
            · exact (xCa_s hw).2.1
            · exact (xCa_s hw).2.1
            · cases hw
          have hlen := (xs_len n _ _ _ _ _ _ _ _ _ _ hr1 (by omega)).1
          exact s_call ih C hd hl hR hI hS hls hw hr1 (fun H1 locs1 hI1 hS1 => ih _ _ _ _ _ _ _ _ _ _ h _ _ _ _ _ _ _ _ _ _ _ _ _ C hR hi hscr hI1 (by omega) hS1 hL hret)
      · rename_i r1 hs
        cases h
        rcases xStep_s hs with ⟨_, _, hw, e9⟩ | ⟨hl, ⟨_, hw, e9⟩ | ⟨_, _, hw, e9⟩ | ⟨_, hw, e9⟩ | ⟨_, _, hw, e9⟩ | ⟨_, hw, e9⟩ | ⟨_, _, _, _, hw, e9⟩ | ⟨_, hw, e9⟩ | ⟨_, hw, e9⟩⟩ <;> cases e9
        obtain ⟨rfl, rfl, h3, h4, h5⟩ := xRt_s hw
        rw [xRk_map h3]
        have hl1 : len = 1 := by rw [hl]; unfold rI; split <;> rfl
        subst hl1
        exact hret H locs nc ns pc ls hd h3 h4 h5 hI hS
