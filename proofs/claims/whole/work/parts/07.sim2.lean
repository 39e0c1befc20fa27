/-! THE MACHINE DOES WHAT THE ABSTRACT ONE DOES, 2: instructions of the frame -/
theorem zV_i {base b : Nat} {z : Int32} : zV base b (.int z) = .int z := rfl
theorem zV_l {base b : Nat} {z : Int64} : zV base b (.long z) = .long z := rfl
theorem zV_r {base b q : Nat} : zV base b (.ref q) = .ref (if q = scP then b else base + q) := rfl
theorem xGi_v {L : List Value} {k : Nat} {v : Value} (h : xGi L k = some v) : ∃ z, v = .int z ∧ xVl L k = some (.int z) := by
  unfold xGi at h
  split at h
  · rename_i z hz
    cases h
    exact ⟨z, rfl, by unfold xVl; rw [hz]⟩
  · cases h
theorem xGa_v {L : List Value} {k : Nat} {v : Value} (h : xGa L k = some v) : ∃ z, v = .ref z ∧ xVl L k = some (.ref z) := by
  unfold xGa at h
  split at h
  · rename_i z hz
    cases h
    exact ⟨z, rfl, by unfold xVl; rw [hz]⟩
  · cases h
theorem xGl_v {L : List Value} {k : Nat} {v : Value} (h : xGl L k = some v) : ∃ z, v = .long z ∧ xVl L k = some (.long z) := by
  unfold xGl at h
  split at h
  · rename_i z hz
    split at h
    · rename_i z2 hz2
      cases h
      exact ⟨z, rfl, by unfold xVl; rw [hz]; simp only [hz2]⟩
    · cases h
  · cases h
section S2
variable {p : Program} {l : Launch} {e : Env} {R : Room} {s : State} {m : MethodId} {args : Array Value} {below : List Frame} {meth : Method} {c : Code} {H : Heap} {locs : List Loc} {cells slots : Nat} {Q : State → Prop}
variable {base b : Nat} {ac : Nat → ClassId} {D : va_G} {i pc : Nat} {L L' st st' : List Value} {ls : Array Slot} {ins : Instr} {len : Nat} {rest : List Value}
theorem s_ld (C : zC p s m args meth c base D ac i) (hd : decode (mC i) pc = .ok (ins, len)) (hlen : len = xln ins) (hl : zL base b (mL i) ls L) {v : Value} (h : xLd (mO i) ins L = some v) (k : W p l e R s m args below meth c H locs cells slots Q (F0 m (pc + len) ls (zV base b v :: rest))) : W p l e R s m args below meth c H locs cells slots Q (F0 m pc ls rest) := by
  obtain ⟨hx, hb, -, -, hown, -, -, hts, -, -⟩ := C
  subst hlen
  unfold xLd at h
  split at h
  · cases h; exact lv_iconst hx hb hd rfl k
  · cases h; exact lv_bipush hx hb hd rfl k
  · cases h; exact lv_sipush hx hb hd rfl k
  · cases h; exact lv_lconst hx hb hd rfl k
  · obtain ⟨z, rfl, hz⟩ := xGi_v h; exact lv_iload_n hx hb hd rfl (hl.get hz) k
  · obtain ⟨z, rfl, hz⟩ := xGi_v h; exact lv_iload hx hb hd (hl.get hz) k
  · obtain ⟨z, rfl, hz⟩ := xGl_v h; exact lv_lload_n hx hb hd rfl (hl.get hz) k
  · obtain ⟨z, rfl, hz⟩ := xGl_v h; exact lv_lload hx hb hd (hl.get hz) k
  · obtain ⟨z, rfl, hz⟩ := xGa_v h; exact lv_aload_n hx hb hd rfl (hl.get hz) k
  · split at h
    · rename_i z hz
      cases h
      rcases kLk_ok hz with ⟨y, hy, hw⟩ | ⟨y, hy, hw⟩
      · cases hy; exact lv_ldc hx hb hown (hts _ hw) hd k
      · cases hy
    · cases h
  · split at h
    · rename_i z hz
      cases h
      rcases kLk_ok hz with ⟨y, hy, hw⟩ | ⟨y, hy, hw⟩
      · cases hy
        intro T hT X
        obtain ⟨t, a1, b1⟩ := k T hT X
        exact ⟨t, va_ldcwI X hx hown (hts _ hw) (g := F0 m pc ls rest) rfl (by rw [hb]; exact hd) t a1, b1⟩
      · cases hy
    · cases h
  · split at h
    · rename_i z hz
      cases h
      rcases kLk_ok hz with ⟨y, hy, hw⟩ | ⟨y, hy, hw⟩
      · cases hy
      · cases hy; exact lv_ldc2 hx hb hown (hts _ hw) hd k
    · cases h
  · cases h
theorem s_sto (C : zC p s m args meth c base D ac i) (hd : decode (mC i) pc = .ok (ins, len)) (hlen : len = xln ins) (hl : zL base b (mL i) ls L) (h : xSto ins L st = some (L', st')) (k : ∀ ls', zL base b (mL i) ls' L' → W p l e R s m args below meth c H locs cells slots Q (F0 m (pc + len) ls' (st'.map (zV base b)))) : W p l e R s m args below meth c H locs cells slots Q (F0 m pc ls (st.map (zV base b))) := by
  obtain ⟨hx, hb, -, -, hown, -, -, hts, -, -⟩ := C
  subst hlen
  unfold xSto at h
  split at h
  · unfold xSi at h
    split at h
    · rename_i hk; cases h; exact lv_istore_n hx hb hd rfl hl.2 (by rw [← hl.1]; exact hk) rfl (fun ls' h' => k ls' (zL.set1 hl.1 (by rw [← hl.1]; exact hk) (Or.inl ⟨_, rfl⟩) h'))
    · cases h
  · unfold xSi at h
    split at h
    · rename_i hk; cases h; exact lv_istore hx hb hd hl.2 (by rw [← hl.1]; exact hk) rfl (fun ls' h' => k ls' (zL.set1 hl.1 (by rw [← hl.1]; exact hk) (Or.inl ⟨_, rfl⟩) h'))
    · cases h
  · unfold xSi at h
    split at h
    · rename_i hk; cases h; exact lv_astore_n hx hb hd rfl hl.2 (by rw [← hl.1]; exact hk) rfl (fun ls' h' => k ls' (zL.set1 hl.1 (by rw [← hl.1]; exact hk) (Or.inr ⟨_, rfl⟩) h'))
    · cases h
  · unfold xSl at h
    split at h
    · rename_i hk; cases h; exact lv_lstore_n hx hb hd rfl hl.2 (by rw [← hl.1]; exact hk) rfl (fun ls' h' => k ls' (zL.set2 hl.1 (by rw [← hl.1]; exact hk) h'))
    · cases h
  · unfold xSl at h
    split at h
    · rename_i hk; cases h; exact lv_lstore hx hb hd hl.2 (by rw [← hl.1]; exact hk) rfl (fun ls' h' => k ls' (zL.set2 hl.1 (by rw [← hl.1]; exact hk) h'))
    · cases h
  · cases h
theorem s_inc (C : zC p s m args meth c base D ac i) (hd : decode (mC i) pc = .ok (ins, len)) (hlen : len = xln ins) (hl : zL base b (mL i) ls L) (h : xInc ins L st = some (L', st')) (k : ∀ ls', zL base b (mL i) ls' L' → W p l e R s m args below meth c H locs cells slots Q (F0 m (pc + len) ls' (st'.map (zV base b)))) : W p l e R s m args below meth c H locs cells slots Q (F0 m pc ls (st.map (zV base b))) := by
  obtain ⟨hx, hb, -, -, hown, -, -, hts, -, -⟩ := C
  subst hlen
  unfold xInc at h
  split at h
  · split at h
    · rename_i q n y z hz
      cases h
      have hm : (q, Value.int z) ∈ lvO base b L := lvO_in.mpr ⟨.int z, by unfold xVl; rw [hz], rfl⟩
      obtain ⟨k2, hk2⟩ := List.getElem?_of_mem hm
      have hq : q < L.length := (List.getElem?_eq_some_iff.mp hz).1
      exact lv_iinc hx hb hd hl.2 hk2 rfl (by rw [← hl.1]; exact hq) rfl (fun ls' h' => k ls' (zL.set1 hl.1 (by rw [← hl.1]; exact hq) (Or.inl ⟨_, rfl⟩) h'))
    · cases h
  · cases h
theorem s_un (C : zC p s m args meth c base D ac i) (hd : decode (mC i) pc = .ok (ins, len)) (hlen : len = xln ins) (h : xUn ins st = some st') (k : W p l e R s m args below meth c H locs cells slots Q (F0 m (pc + len) ls (st'.map (zV base b)))) : W p l e R s m args below meth c H locs cells slots Q (F0 m pc ls (st.map (zV base b))) := by
  obtain ⟨hx, hb, -, -, hown, -, -, hts, -, -⟩ := C
  subst hlen
  unfold xUn at h
  split at h
  · cases h; exact lv_ineg hx hb hd k
  · cases h; exact lv_lneg hx hb hd k
  · cases h; exact lv_i2l hx hb hd rfl k
  · cases h; exact lv_l2i hx hb hd rfl k
  · cases h; exact lv_i2b hx hb hd rfl k
  · cases h; exact lv_i2s hx hb hd rfl k
  · cases h; exact lv_dup hx hb hd rfl k
  · cases h; exact lv_dup hx hb hd rfl k
  · cases h; exact lv_dup2_11 hx hb hd rfl rfl k
  · cases h
theorem s_bin (C : zC p s m args meth c base D ac i) (hd : decode (mC i) pc = .ok (ins, len)) (hlen : len = xln ins) (h : xBin ins st = some st') (k : W p l e R s m args below meth c H locs cells slots Q (F0 m (pc + len) ls (st'.map (zV base b)))) : W p l e R s m args below meth c H locs cells slots Q (F0 m pc ls (st.map (zV base b))) := by
  obtain ⟨hx, hb, -, -, hown, -, -, hts, -, -⟩ := C
  subst hlen
  unfold xBin at h
  split at h
  · rw [Option.map_eq_some_iff] at h
    obtain ⟨w, h1, rfl⟩ := h
    unfold xBi at h1
    split at h1
    · cases h1; exact lv_iadd hx hb hd k
    · cases h1; exact lv_isub hx hb hd k
    · cases h1; exact lv_imul hx hb hd k
    · cases h1; exact lv_iand hx hb hd k
    · cases h1; exact lv_ior hx hb hd k
    · cases h1; exact lv_ixor hx hb hd k
    · cases h1; exact lv_ishl hx hb hd k
    · cases h1; exact lv_ishr hx hb hd k
    · cases h1; exact lv_iushr hx hb hd rfl k
    · split at h1
      · cases h1
      · rename_i hz; cases h1; exact lv_idiv hx hb hd hz k
    · split at h1
      · cases h1
      · rename_i hz; cases h1; exact lv_irem hx hb hd hz k
    · cases h1
  · rw [Option.map_eq_some_iff] at h
    obtain ⟨w, h1, rfl⟩ := h
    unfold xBl at h1
    split at h1
    · cases h1; exact lv_ladd hx hb hd k
    · cases h1; exact lv_lsub hx hb hd k
    · cases h1; exact lv_lmul hx hb hd k
    · cases h1; exact lv_land hx hb hd k
    · cases h1; exact lv_lor hx hb hd k
    · cases h1; exact W.lcmp hx hb hd k
    · split at h1
      · cases h1
      · rename_i hz; cases h1; exact lv_ldiv hx hb hd hz k
    · split at h1
      · cases h1
      · rename_i hz; cases h1; exact lv_lrem hx hb hd hz k
    · cases h1
  · split at h
    · cases h; exact lv_lshl hx hb hd rfl k
    · cases h
  · cases h
theorem s_op (C : zC p s m args meth c base D ac i) (hd : decode (mC i) pc = .ok (ins, len)) (hlen : len = xln ins) (hl : zL base b (mL i) ls L) (h : xOp ins L st = some (L', st')) (k : ∀ ls', zL base b (mL i) ls' L' → W p l e R s m args below meth c H locs cells slots Q (F0 m (pc + len) ls' (st'.map (zV base b)))) : W p l e R s m args below meth c H locs cells slots Q (F0 m pc ls (st.map (zV base b))) := by
  unfold xOp at h
  rw [Option.or_eq_some_iff] at h
  rcases h with h | ⟨-, h⟩
  · rw [Option.or_eq_some_iff] at h
    rcases h with h | ⟨-, h⟩
    · exact s_sto C hd hlen hl h k
    · exact s_inc C hd hlen hl h k
  · rw [Option.map_eq_some_iff] at h
    obtain ⟨r, h, hr⟩ := h
    cases hr
    rw [Option.or_eq_some_iff] at h
    rcases h with h | ⟨-, h⟩
    · exact s_un C hd hlen h (k ls hl)
    · exact s_bin C hd hlen h (k ls hl)
theorem xT_spec {off : Int} {r : List Value} {q : Nat × List Value} (h : xT pc off r = some q) : (pc : Int) + off = (q.1 : Int) ∧ q.2 = r := by
  unfold xT at h
  split at h
  · cases h
    refine ⟨?_, rfl⟩
    omega
  · cases h
theorem s_br (C : zC p s m args meth c base D ac i) (hd : decode (mC i) pc = .ok (ins, len)) {pc' : Nat} (h : xBr ins len pc st = some (pc', st')) (k : W p l e R s m args below meth c H locs cells slots Q (F0 m pc' ls (st'.map (zV base b)))) : W p l e R s m args below meth c H locs cells slots Q (F0 m pc ls (st.map (zV base b))) := by
  obtain ⟨hx, hb, -, -, hown, -, -, hts, -, -⟩ := C
  unfold xBr at h
  split at h
  · split at h
    · rename_i hl; subst hl
      obtain ⟨h1, h2⟩ := xT_spec h
      cases h2
      exact lv_goto hx hb hd h1 k
    · cases h
  · rename_i cc off z r
    split at h
    · rename_i hl
      obtain ⟨rfl, h0⟩ := hl
      have ht : (pc : Int) + off = ((((pc : Int) + off).toNat : Nat) : Int) := by omega
      have k1 : xCd cc z 0 = true → W p l e R s m args below meth c H locs cells slots Q (F0 m ((pc : Int) + off).toNat ls (r.map (zV base b))) := fun hc => by
        rw [if_pos hc] at h
        cases h
        exact k
      have k2 : ¬ xCd cc z 0 = true → W p l e R s m args below meth c H locs cells slots Q (F0 m (pc + 3) ls (r.map (zV base b))) := fun hc => by
        rw [if_neg hc] at h
        cases h
        exact k
      cases cc
      · exact lv_if_eq hx hb hd ht (fun q => k1 (decide_eq_true q)) (fun q => k2 (fun w => q (of_decide_eq_true w)))
      · exact lv_if_ne hx hb hd ht (fun q => k1 (decide_eq_true q)) (fun q => k2 (fun w => of_decide_eq_true w q))
      · exact lv_if_lt hx hb hd ht (fun q => k1 (decide_eq_true q)) (fun q => k2 (fun w => q (of_decide_eq_true w)))
      · exact lv_if_ge hx hb hd ht (fun q => k1 (decide_eq_true q)) (fun q => k2 (fun w => q (of_decide_eq_true w)))
      · exact lv_if_gt hx hb hd ht (fun q => k1 (decide_eq_true q)) (fun q => k2 (fun w => q (of_decide_eq_true w)))
      · exact lv_if_le hx hb hd ht (fun q => k1 (decide_eq_true q)) (fun q => k2 (fun w => q (of_decide_eq_true w)))
    · cases h
  · rename_i cc off z y r
    split at h
    · rename_i hl
      obtain ⟨rfl, h0⟩ := hl
      have ht : (pc : Int) + off = ((((pc : Int) + off).toNat : Nat) : Int) := by omega
      have k1 : xCd cc y z = true → W p l e R s m args below meth c H locs cells slots Q (F0 m ((pc : Int) + off).toNat ls (r.map (zV base b))) := fun hc => by
        rw [if_pos hc] at h
        cases h
        exact k
      have k2 : ¬ xCd cc y z = true → W p l e R s m args below meth c H locs cells slots Q (F0 m (pc + 3) ls (r.map (zV base b))) := fun hc => by
        rw [if_neg hc] at h
        cases h
        exact k
      cases cc
      · exact lv_icmp_eq hx hb hd ht (fun q => k1 (decide_eq_true q)) (fun q => k2 (fun w => q (of_decide_eq_true w)))
      · exact lv_icmp_ne hx hb hd ht (fun q => k1 (decide_eq_true q)) (fun q => k2 (fun w => of_decide_eq_true w q))
      · exact lv_icmp_lt hx hb hd ht (fun q => k1 (decide_eq_true q)) (fun q => k2 (fun w => q (of_decide_eq_true w)))
      · exact lv_icmp_ge hx hb hd ht (fun q => k1 (decide_eq_true q)) (fun q => k2 (fun w => q (of_decide_eq_true w)))
      · exact lv_icmp_gt hx hb hd ht (fun q => k1 (decide_eq_true q)) (fun q => k2 (fun w => q (of_decide_eq_true w)))
      · exact lv_icmp_le hx hb hd ht (fun q => k1 (decide_eq_true q)) (fun q => k2 (fun w => q (of_decide_eq_true w)))
    · cases h
  · split at h
    · rename_i ho
      obtain ⟨h1, h2⟩ := xT_spec h
      cases h2
      exact lv_tableOut hx hb hd ho h1 k
    · rename_i ho
      split at h
      · rename_i off hoff
        obtain ⟨h1, h2⟩ := xT_spec h
        cases h2
        exact lv_tableIn hx hb hd (fun q => ho (Or.inl q)) (fun q => ho (Or.inr q)) hoff h1 k
      · cases h
  · split at h
    · rename_i hp
      obtain ⟨h1, h2⟩ := xT_spec h
      cases h2
      exact lv_lookup hx hb hd hp rfl h1 k
    · cases h
  · cases h
end S2
