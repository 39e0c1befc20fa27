/-! THE MACHINE DOES WHAT THE ABSTRACT ONE DOES, 6: calls, and the whole -/
def xRk (i : Nat) (r : Option Value) : Prop := match r with
  | none => mR i = none
  | some (.int z) => xRok (mR i) z = true
  | some (.long _) => mR i = some .long
  | _ => False
def rI (r : Option Value) : Instr := match r with
  | none => .return_
  | some (.long _) => .lreturn
  | _ => .ireturn
theorem xRt_s {i : Nat} {ins : Instr} {st : List Value} {nc ns : Nat} {r : Option Value} (h : xRt i ins st nc ns = some r) : ins = rI r ∧ st = r.toList ∧ xRk i r ∧ (nc = mCe i ∨ (i = 192 ∧ nc ≤ mCe i)) ∧ ns ≤ mSl i := by
  unfold xRt at h
  split at h
  · split at h
    · rename_i hc; cases h; exact ⟨rfl, rfl, hc.1, hc.2.1, hc.2.2⟩
    · cases h
  · split at h
    · rename_i hc; cases h; exact ⟨rfl, rfl, hc.1, hc.2.1, hc.2.2⟩
    · cases h
  · split at h
    · rename_i hc; cases h; exact ⟨rfl, rfl, hc.1, hc.2.1, hc.2.2⟩
    · cases h
  · cases h
theorem xRk_map {i : Nat} {r : Option Value} (h : xRk i r) (base b : Nat) : r.toList.map (zV base b) = r.toList := by
  unfold xRk at h
  split at h
  · rfl
  · rfl
  · rfl
  · exact h.elim
/-- what a step may be -/
theorem xStep_s {scr : Option (Nat × (Nat → Int32))} {i pc : Nat} {ins : Instr} {len : Nat} {L st : List Value} {σ : xSt} {nc ns : Nat} {q : xNx} (h : xStep scr i pc ins len L st σ nc ns = some q) :
    (∃ pc' st', xBr ins len pc st = some (pc', st') ∧ q = .inl (pc', L, st', σ, nc, ns)) ∨ (len = xln ins ∧ (
    (∃ v, xLd (mO i) ins L = some v ∧ q = .inl (pc + len, L, v :: st, σ, nc, ns)) ∨
    (∃ L' st', xOp ins L st = some (L', st') ∧ q = .inl (pc + len, L', st', σ, nc, ns)) ∨
    (∃ st', xRd scr i ins st σ = some st' ∧ q = .inl (pc + len, L, st', σ, nc, ns)) ∨
    (∃ st' σ', xWr i ins st σ = some (st', σ') ∧ q = .inl (pc + len, L, st', σ', nc, ns)) ∨
    (∃ st', xMa i ins st nc ns = some st' ∧ q = .inl (pc + len, L, st', σ, nc, ns)) ∨
    (∃ st' σ' nc' ns', xNw i ins st σ nc ns = some (st', σ', nc', ns') ∧ q = .inl (pc + len, L, st', σ', nc', ns')) ∨
    (∃ w, xCl i ins st σ nc ns = some w ∧ q = .inr (.inl w)) ∨
    (∃ r, xRt i ins st nc ns = some r ∧ q = .inr (.inr r)))) := by
  unfold xStep at h
  rw [Option.or_eq_some_iff, Option.map_eq_some_iff] at h
  rcases h with ⟨a, h1, rfl⟩ | ⟨-, h⟩
  · exact Or.inl ⟨a.1, a.2, h1, rfl⟩
  · split at h
    · rename_i hl
      refine Or.inr ⟨hl, ?_⟩
      unfold xMain at h
      rw [Option.or_eq_some_iff, Option.map_eq_some_iff] at h
      rcases h with ⟨a, h1, rfl⟩ | ⟨-, h⟩
      · exact Or.inl ⟨a, h1, rfl⟩
      rw [Option.or_eq_some_iff, Option.map_eq_some_iff] at h
      rcases h with ⟨a, h1, rfl⟩ | ⟨-, h⟩
      · exact Or.inr (Or.inl ⟨a.1, a.2, h1, rfl⟩)
      rw [Option.or_eq_some_iff, Option.map_eq_some_iff] at h
      rcases h with ⟨a, h1, rfl⟩ | ⟨-, h⟩
      · exact Or.inr (Or.inr (Or.inl ⟨a, h1, rfl⟩))
      rw [Option.or_eq_some_iff, Option.map_eq_some_iff] at h
      rcases h with ⟨a, h1, rfl⟩ | ⟨-, h⟩
      · exact Or.inr (Or.inr (Or.inr (Or.inl ⟨a.1, a.2, h1, rfl⟩)))
      rw [Option.or_eq_some_iff, Option.map_eq_some_iff] at h
      rcases h with ⟨a, h1, rfl⟩ | ⟨-, h⟩
      · exact Or.inr (Or.inr (Or.inr (Or.inr (Or.inl ⟨a, h1, rfl⟩))))
      rw [Option.or_eq_some_iff, Option.map_eq_some_iff] at h
      rcases h with ⟨a, h1, rfl⟩ | ⟨-, h⟩
      · exact Or.inr (Or.inr (Or.inr (Or.inr (Or.inr (Or.inl ⟨a.1, a.2.1, a.2.2.1, a.2.2.2, h1, rfl⟩)))))
      rw [Option.or_eq_some_iff, Option.map_eq_some_iff] at h
      rcases h with ⟨a, h1, rfl⟩ | ⟨-, h⟩
      · exact Or.inr (Or.inr (Or.inr (Or.inr (Or.inr (Or.inr (Or.inl ⟨a, h1, rfl⟩))))))
      rw [Option.map_eq_some_iff] at h
      obtain ⟨a, h1, rfl⟩ := h
      exact Or.inr (Or.inr (Or.inr (Or.inr (Or.inr (Or.inr (Or.inr ⟨a, h1, rfl⟩))))))
    · cases h
theorem xWr_len {i : Nat} {ins : Instr} {st st' : List Value} {σ σ' : xSt} (h : xWr i ins st σ = some (st', σ')) : σ'.length = σ.length := by
  unfold xWr at h
  split at h
  · split at h
    · rw [Option.map_eq_some_iff] at h
      obtain ⟨s1, h1, h2⟩ := h
      cases h2
      obtain ⟨fs, -, -, -, -, rfl⟩ := xPf_s h1
      rw [List.length_set]
    · cases h
  · rw [Option.bind_eq_some_iff] at h
    obtain ⟨a, -, h⟩ := h
    obtain ⟨-, he⟩ := xIn_s h
    cases he
    rw [List.length_set]
  · rw [Option.bind_eq_some_iff] at h
    obtain ⟨a, -, h⟩ := h
    obtain ⟨-, he⟩ := xIn_s h
    cases he
    rw [List.length_set]
  · rw [Option.bind_eq_some_iff] at h
    obtain ⟨a, -, h⟩ := h
    obtain ⟨-, he⟩ := xIn_s h
    cases he
    rw [List.length_set]
  · rw [Option.bind_eq_some_iff] at h
    obtain ⟨a, -, h⟩ := h
    rw [Option.bind_eq_some_iff] at h
    obtain ⟨a1, -, h⟩ := h
    split at h
    · cases h
      rw [List.length_set]
    · cases h
  · cases h
theorem xNw_len {i : Nat} {ins : Instr} {st st' : List Value} {σ σ' : xSt} {nc ns nc' ns' : Nat} (h : xNw i ins st σ nc ns = some (st', σ', nc', ns')) : σ'.length + nc = σ.length + nc' := by
  unfold xNw at h
  split at h
  · split at h
    · split at h
      · cases h; simp; omega
      · cases h
    · cases h
  · split at h
    · split at h
      · cases h; simp; omega
      · cases h
    · cases h
  · split at h
    · split at h
      · cases h; simp; omega
      · cases h
    · cases h
  · cases h
theorem xCa_s {i kd ix : Nat} {st : List Value} {σ : xSt} {nc ns j : Nat} {as st' : List Value} (h : xCa i kd ix st σ nc ns = some (j, as, st')) : cLk (mO i) ix = some j ∧ j < 187 ∧ mK j = kd ∧ (mF j + 1 ≤ mF i ∧ 8 + (mL j + 11) + mW j ≤ mW i ∧ nc + mCe j ≤ mCe i ∧ ns + mSl j ≤ mSl i) ∧ as.length = xNa kd j ∧ st = as.reverse ++ st' ∧ (st'.map fun v => v.category).sum ≤ 8 ∧ (xLay as).length ≤ mL j ∧ xAok as = true ∧ (kd = 0 → xRc σ j as = true) ∧ (kd = 2 → xRf as = true) := by
  unfold xCa at h
  split at h
  · rename_i j' hj
    split at h
    · rename_i hc
      obtain ⟨h1, h2, h3, h4, h5, h6, h7, h8⟩ := hc
      cases h
      refine ⟨hj, h1, h2, h3, ?_, ?_, h5, h6.1, h6.2, h7, h8⟩
      · rw [List.length_reverse, List.length_take]; omega
      · rw [List.reverse_reverse, List.take_append_drop]
    · cases h
  · cases h
theorem xs_len (n : Nat) : ∀ (scr : Option (Nat × (Nat → Int32))) (i pc : Nat) (L st : List Value) (σ : xSt) (nc ns : Nat) (r : Option Value) (σ' : xSt), xs n scr i pc L st σ nc ns = some (r, σ') → ¬ i = 192 → σ'.length + nc = σ.length + mCe i ∧ xRk i r := by
  induction n with
  | zero =>
    intro scr i pc L st σ nc ns r σ' h
    simp [xs] at h
  | succ n ih =>
    intro scr i pc L st σ nc ns r σ' h hi
    rw [xs] at h
    split at h
    · cases h
    · rename_i ins len hd
      split at h
      · cases h
      · rename_i pc' L' st' σ1 nc' ns' hs
        have h1 := ih _ _ _ _ _ _ _ _ _ _ h hi
        rcases xStep_s hs with ⟨_, _, _, e⟩ | ⟨-, ⟨_, _, e⟩ | ⟨_, _, _, e⟩ | ⟨_, _, e⟩ | ⟨_, _, hw, e⟩ | ⟨_, _, e⟩ | ⟨_, _, _, _, hw, e⟩ | ⟨_, _, e⟩ | ⟨_, _, e⟩⟩
        · cases e; exact h1
        · cases e; exact h1
        · cases e; exact h1
        · cases e; exact h1
        · cases e
          have := xWr_len hw
          exact ⟨by omega, h1.2⟩
        · cases e; exact h1
        · cases e
          have := xNw_len hw
          exact ⟨by omega, h1.2⟩
        · cases e
        · cases e
      · rename_i j as st' hs
        split at h
        · cases h
        · rename_i r1 σ1 hr1
          have h1 := ih _ _ _ _ _ _ _ _ _ _ h hi
          rcases xStep_s hs with ⟨_, _, _, e⟩ | ⟨-, ⟨_, _, e⟩ | ⟨_, _, _, e⟩ | ⟨_, _, e⟩ | ⟨_, _, hw, e⟩ | ⟨_, _, e⟩ | ⟨_, _, _, _, hw, e⟩ | ⟨_, hw, e⟩ | ⟨_, _, e⟩⟩ <;> cases e
          have hj : j < 187 := by
            unfold xCl at hw
            split at hw
            · exact (xCa_s hw).2.1
            · exact (xCa_s hw).2.1
            · exact (xCa_s hw).2.1
            · cases hw
          have h2 := ih _ _ _ _ _ _ _ _ _ _ hr1 (by omega)
          exact ⟨by omega, h1.2⟩
      · rename_i r1 hs
        cases h
        rcases xStep_s hs with ⟨_, _, _, e⟩ | ⟨-, ⟨_, _, e⟩ | ⟨_, _, _, e⟩ | ⟨_, _, e⟩ | ⟨_, _, hw, e⟩ | ⟨_, _, e⟩ | ⟨_, _, _, _, hw, e⟩ | ⟨_, hw, e⟩ | ⟨_, hw, e⟩⟩ <;> cases e
        obtain ⟨-, -, h3, h4, -⟩ := xRt_s hw
        exact ⟨by omega, h3⟩
section S6
variable {p : Program} {l : Launch} {e : Env} {R : Room} {s : State} {m : MethodId} {args : Array Value} {below : List Frame} {meth : Method} {c : Code} {H : Heap} {locs : List Loc} {cells slots : Nat} {Q : State → Prop}
variable {base b : Nat} {ac : Nat → ClassId} {D : va_G} {i pc : Nat} {L L' st st' : List Value} {σ σ' : xSt} {ls : Array Slot} {ins : Instr} {len : Nat} {rest : List Value} {scr : Option (Nat × (Nat → Int32))}
theorem s_nw (C : zC p s m args meth c base D ac i) (hd : decode (mC i) pc = .ok (ins, len)) (hlen : len = xln ins) (hR : mCe i ≤ R.cells ∧ mSl i ≤ R.slots) (hI : zI base b ac D σ H) (hS : va_S (fun q => base ≤ q) s.heap H locs) {nc' ns' : Nat} (h : xNw i ins st σ cells slots = some (st', σ', nc', ns')) (k : ∀ H1, zI base b ac D σ' H1 → va_S (fun q => base ≤ q) s.heap H1 locs → W p l e R s m args below meth c H1 locs nc' ns' Q (F0 m (pc + len) ls (st'.map (zV base b)))) : W p l e R s m args below meth c H locs cells slots Q (F0 m pc ls (st.map (zV base b))) := by
  have hK := C.2.2.2.2.2.2.2.2.1
  subst hlen
  unfold xNw at h
  split at h
  · rename_i ix
    split at h
    · rename_i ci hci
      split at h
      · rename_i hc
        cases h
        exact s_new C hd hci (by omega) (by omega) hI hS (by omega) k
      · cases h
    · cases h
  · rename_i t n r
    split at h
    · rename_i kt f hat
      split at h
      · rename_i hc
        obtain ⟨h1, h2, h3, h4, h5⟩ := hc
        cases h
        unfold xAt at hat
        split at hat
        · cases hat
          exact s_arr C (at_ := .int) (ty := .int) rfl arr_words.1 (fun _ => rfl) (hK.1.2 0 _ rfl).2 rfl hd h1 (by show _ * 4 ≤ _; omega) (by omega) (by omega) hI hS (by omega) k
        · cases hat
          exact s_arr C (at_ := .long) (ty := .long) rfl arr_words.2.1 (fun _ => rfl) (hK.1.2 1 _ rfl).2 rfl hd h1 (by show _ * 8 ≤ _; omega) (by omega) (by omega) hI hS (by omega) k
        · cases hat
          exact s_arr C (at_ := .boolean) (ty := .boolean) rfl arr_words.2.2 (fun _ => rfl) (hK.1.2 2 _ rfl).2 rfl hd h1 (by show _ * 1 ≤ _; omega) (by omega) (by omega) hI hS (by omega) k
        · cases hat
      · cases h
    · cases h
  · rename_i ix kk n r
    split at h
    · rename_i t ht
      split at h
      · rename_i hc
        obtain ⟨h1, h2, h3, h4, h5, h6, h7⟩ := hc
        cases h
        rcases rLk_ok ht with ⟨rfl, hw⟩ | ⟨rfl, hw⟩
        · rw [if_pos rfl] at k
          exact s_mna C (ty := .int) (t := 3) (g0 := (kk.toNatClampNeg, .inl fun _ => 0)) hd hw hK.2.1 arr_words.1 (hK.1.2 3 _ rfl).2 (hK.1.2 0 _ rfl).2 (fun _ => arrV_new _ _ _) rfl h1 h2 h3 h4 (by show _ * 4 ≤ _; omega) rfl rfl (by omega) (by omega) hI hS (by omega) k
        · rw [if_neg (by decide)] at k
          exact s_mna C (ty := .long) (t := 4) (g0 := (kk.toNatClampNeg, .inr (.inl fun _ => 0))) hd hw hK.2.2 arr_words.2.1 (hK.1.2 4 _ rfl).2 (hK.1.2 1 _ rfl).2 (fun _ => arrV_new _ _ _) rfl h1 h2 h3 h4 (by show _ * 8 ≤ _; omega) rfl rfl (by omega) (by omega) hI hS (by omega) k
      · cases h
    · cases h
  · cases h
end S6
