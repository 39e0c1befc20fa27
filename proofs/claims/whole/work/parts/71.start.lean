/-! THE START -/
theorem mk_start : (([] : xSt) ++ .inr (6, [.ref 1, .ref 9, .ref 15, .ref 26, .ref 42, .ref 50, .ref 54, .int 0, .int 0, .long 0, .long 1]) :: (T61 4 ++ (T52 ++ (T34 ++ (T0 R0 ++ (T19 ++ (T46 ++ [a0 10]))))))) ++ T129 4 = mk ai0 al0 fi0 fl0 := rfl
theorem inv_start : Inv ai0 al0 fi0 fl0 := by
  refine ⟨0, by omega, ⟨rfl, rfl, rfl, rfl, rfl⟩, ?_, ?_, ?_, ?_, ?_, ?_⟩
  · intro t ht
    refine ⟨Or.inl ⟨?_, ?_⟩, fun k hk => ?_⟩
    · show m1f 4 t = -1
      unfold m1f
      rw [if_pos ht]
    · show m1f 4 t = -1
      unfold m1f
      rw [if_pos ht]
    · rw [R4_at ht]
      rfl
  · exact ⟨0, by omega, rfl, rfl, fun s hs => absurd hs (Nat.not_lt_zero s)⟩
  · exact ⟨0, 0, by omega, by omega, rfl, rfl, rfl, rfl, fun p r hp => absurd hp (Nat.not_lt_zero p)⟩
  · refine ⟨0, by omega, rfl, rfl, fun c hc => absurd hc (Nat.not_lt_zero c), fun p c hp hc => ⟨fun q => absurd q.1 (Nat.not_lt_zero p), fun _ => ?_⟩⟩
    rw [R10_at hp]
    unfold ai0
    rw [if_neg (by omega), if_neg (by omega), if_pos (by omega)]
    unfold tnF
    rw [if_pos hc]
  · refine ⟨0, fun _ => 0, fun _ => 0, fun _ => 0, by omega, rfl, rfl, fun j hj => absurd hj (Nat.not_lt_zero j), fun p hp => rfl, Or.inr ⟨rfl, 0, 0, [], ⟨by decide, fun p hp => ?_⟩, ⟨rfl, rfl⟩, by decide, rfl, fun j q hq => ?_⟩⟩
    · have : (al0 43 p).toInt = 0 := by show (0 : Int64).toInt = 0; decide
      simp [this]
    · simp at hq
  · intro p hp
    exact ⟨0, by omega, rfl, fun _ => rfl, fun _ => rfl⟩
theorem law_pure : lawPure := by
  intro n xf hn
  show G (some (n, xf)) 192 0 [.ref scP, .null, .null, .null] [] ([] : xSt) 0 0 _
  rw [g192_0 (by decide)]
  simp only [g192_3]
  rw [g192_4]
  refine ⟨by decide, ?_⟩
  rw [show ([] : xSt).length = 0 from rfl, i73 (σ := []) rfl]
  simp only [Option.toList_none, List.nil_append, g192_7]
  rw [g192_8 (by decide)]
  simp only [g192_11]
  rw [g192_12]
  refine ⟨by decide, ?_⟩
  have z := fun Q => i129 (Q := Q) (σ := .inr (6, [.ref 1, .ref 9, .ref 15, .ref 26, .ref 42, .ref 50, .ref 54, .int 0, .int 0, .long 0, .long 1]) :: (T61 4 ++ (T52 ++ (T34 ++ (T0 R0 ++ (T19 ++ (T46 ++ [a0 10]))))))) rfl
  rw [show (List.length (.inr (6, [.ref 1, .ref 9, .ref 15, .ref 26, .ref 42, .ref 50, .ref 54, .int 0, .int 0, .long 0, .long 1]) :: (T61 4 ++ (T52 ++ (T34 ++ (T0 R0 ++ (T19 ++ (T46 ++ [a0 10]))))) : xSt))) = 55 from rfl, z]
  simp only [Option.toList_none, List.nil_append, g192_15, g192_16, g192_17]
  have e := mk_start
  rw [List.nil_append] at e
  rw [e]
  exact lw_loop hn n 0 ai0 al0 fi0 fl0 (Nat.zero_le n) (Nat.sub_le n 0) inv_start
