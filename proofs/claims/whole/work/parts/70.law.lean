/-! THE LAW -/
section
variable {ai : Nat → Nat → Int32} {al : Nat → Nat → Int64} {fi : Nat → Nat → Int32} {fl : Nat → Nat → Int64} {Q : Option Value → xSt → Prop} {n i : Nat} {xf : Nat → Int32}
theorem lw_0 (hI : Inv ai al fi fl) (hn : n ≤ 3072) (hi : i + 6 ≤ n) (K : ∀ ai al fi fl, Inv ai al fi fl → G (some (n, xf)) 192 1224 [.ref scP, .ref 0, .ref 55, .int (nI i)] [] (mk ai al fi fl) 86 16171 Q) : G (some (n, xf)) 192 180 [.ref scP, .ref 0, .ref 55, .int (nI i)] [] (mk ai al fi fl) 86 16171 Q := by
  obtain ⟨r, a1, l1, f1, g1, a2, l2, f2, g2, X, Y, hI2, hv⟩ := op0 hI 
  rcases hv with ⟨hv, z, rfl⟩ | ⟨hv, z, rfl⟩
  · simp only [g192_180, g192_181, g192_184, g192_185, g192_188, g192_191, g192_192, ↓reduceIte, GV_s, GV_n, List.map_cons, List.map_nil, List.sum_cons, List.sum_nil, cat_i, cat_l, cat_r, Option.toList_some, Option.toList_none, List.cons_append, List.nil_append, true_and, and_true, Nat.reduceAdd, Nat.reduceLeDiff, Nat.zero_le, Nat.le_refl, Nat.add_zero, Nat.zero_add, ne_eq, Nat.reduceEqDiff, not_false_eq_true, not_true_eq_false, if_true, if_false, rc_74]
    refine X _ ?_
    simp only [g192_180, g192_181, g192_184, g192_185, g192_188, g192_191, g192_192, ↓reduceIte, GV_s, GV_n, List.map_cons, List.map_nil, List.sum_cons, List.sum_nil, cat_i, cat_l, cat_r, Option.toList_some, Option.toList_none, List.cons_append, List.nil_append, true_and, and_true, Nat.reduceAdd, Nat.reduceLeDiff, Nat.zero_le, Nat.le_refl, Nat.add_zero, Nat.zero_add, ne_eq, Nat.reduceEqDiff, not_false_eq_true, not_true_eq_false, if_true, if_false, rc_130]
    refine Y _ ?_
    simp only [g192_180, g192_181, g192_184, g192_185, g192_188, g192_191, g192_192, ↓reduceIte, GV_s, GV_n, List.map_cons, List.map_nil, List.sum_cons, List.sum_nil, cat_i, cat_l, cat_r, Option.toList_some, Option.toList_none, List.cons_append, List.nil_append, true_and, and_true, Nat.reduceAdd, Nat.reduceLeDiff, Nat.zero_le, Nat.le_refl, Nat.add_zero, Nat.zero_add, ne_eq, Nat.reduceEqDiff, not_false_eq_true, not_true_eq_false, if_true, if_false]
    exact K _ _ _ _ hI2
  · exact absurd hv (by decide)
theorem lw_1 (hI : Inv ai al fi fl) (hn : n ≤ 3072) (hi : i + 6 ≤ n) (K : ∀ ai al fi fl, Inv ai al fi fl → G (some (n, xf)) 192 1224 [.ref scP, .ref 0, .ref 55, .int (nI i)] [] (mk ai al fi fl) 86 16171 Q) : G (some (n, xf)) 192 193 [.ref scP, .ref 0, .ref 55, .int (nI i)] [] (mk ai al fi fl) 86 16171 Q := by
  obtain ⟨r, a1, l1, f1, g1, a2, l2, f2, g2, X, Y, hI2, hv⟩ := op1 hI (xf (i + 1)) (xf (i + 2)) (xf (i + 3))
  have w1 : i + 1 < 2147483648 := by omega
  have u1 : i + 1 < n := by omega
  have t1 : nI i + 1 = nI (i + 1) := nAd
  have w2 : i + 2 < 2147483648 := by omega
  have u2 : i + 2 < n := by omega
  have t2 : nI i + 2 = nI (i + 2) := nAd
  have w3 : i + 3 < 2147483648 := by omega
  have u3 : i + 3 < n := by omega
  have t3 : nI i + 3 = nI (i + 3) := nAd
  rcases hv with ⟨hv, z, rfl⟩ | ⟨hv, z, rfl⟩
  · simp only [g192_193, g192_194, g192_195, g192_196, g192_197, g192_198, g192_199, g192_200, g192_201, g192_202, g192_203, g192_204, g192_205, g192_206, g192_207, g192_208, g192_209, g192_212, g192_213, g192_214, g192_215, g192_216, g192_217, g192_218, g192_219, g192_220, g192_221, g192_222, g192_223, g192_224, g192_225, g192_226, g192_227, g192_228, g192_231, g192_234, g192_235, ↓reduceIte, GV_s, GV_n, List.map_cons, List.map_nil, List.sum_cons, List.sum_nil, cat_i, cat_l, cat_r, Option.toList_some, Option.toList_none, List.cons_append, List.nil_append, true_and, and_true, Nat.reduceAdd, Nat.reduceLeDiff, Nat.zero_le, Nat.le_refl, Nat.add_zero, Nat.zero_add, ne_eq, Nat.reduceEqDiff, not_false_eq_true, not_true_eq_false, if_true, if_false, t1, vIN w1, nCl w1, u1, t2, vIN w2, nCl w2, u2, t3, vIN w3, nCl w3, u3, rc_75]
    refine X _ ?_
    simp only [g192_193, g192_194, g192_195, g192_196, g192_197, g192_198, g192_199, g192_200, g192_201, g192_202, g192_203, g192_204, g192_205, g192_206, g192_207, g192_208, g192_209, g192_212, g192_213, g192_214, g192_215, g192_216, g192_217, g192_218, g192_219, g192_220, g192_221, g192_222, g192_223, g192_224, g192_225, g192_226, g192_227, g192_228, g192_231, g192_234, g192_235, ↓reduceIte, GV_s, GV_n, List.map_cons, List.map_nil, List.sum_cons, List.sum_nil, cat_i, cat_l, cat_r, Option.toList_some, Option.toList_none, List.cons_append, List.nil_append, true_and, and_true, Nat.reduceAdd, Nat.reduceLeDiff, Nat.zero_le, Nat.le_refl, Nat.add_zero, Nat.zero_add, ne_eq, Nat.reduceEqDiff, not_false_eq_true, not_true_eq_false, if_true, if_false, t1, vIN w1, nCl w1, u1, t2, vIN w2, nCl w2, u2, t3, vIN w3, nCl w3, u3, rc_134]
    refine Y _ ?_
    simp only [g192_193, g192_194, g192_195, g192_196, g192_197, g192_198, g192_199, g192_200, g192_201, g192_202, g192_203, g192_204, g192_205, g192_206, g192_207, g192_208, g192_209, g192_212, g192_213, g192_214, g192_215, g192_216, g192_217, g192_218, g192_219, g192_220, g192_221, g192_222, g192_223, g192_224, g192_225, g192_226, g192_227, g192_228, g192_231, g192_234, g192_235, ↓reduceIte, GV_s, GV_n, List.map_cons, List.map_nil, List.sum_cons, List.sum_nil, cat_i, cat_l, cat_r, Option.toList_some, Option.toList_none, List.cons_append, List.nil_append, true_and, and_true, Nat.reduceAdd, Nat.reduceLeDiff, Nat.zero_le, Nat.le_refl, Nat.add_zero, Nat.zero_add, ne_eq, Nat.reduceEqDiff, not_false_eq_true, not_true_eq_false, if_true, if_false, t1, vIN w1, nCl w1, u1, t2, vIN w2, nCl w2, u2, t3, vIN w3, nCl w3, u3]
    exact K _ _ _ _ hI2
  · exact absurd hv (by decide)
theorem lw_2 (hI : Inv ai al fi fl) (hn : n ≤ 3072) (hi : i + 6 ≤ n) (K : ∀ ai al fi fl, Inv ai al fi fl → G (some (n, xf)) 192 1224 [.ref scP, .ref 0, .ref 55, .int (nI i)] [] (mk ai al fi fl) 86 16171 Q) : G (some (n, xf)) 192 236 [.ref scP, .ref 0, .ref 55, .int (nI i)] [] (mk ai al fi fl) 86 16171 Q := by
  obtain ⟨r, a1, l1, f1, g1, a2, l2, f2, g2, X, Y, hI2, hv⟩ := op2 hI (xf (i + 1)) (xf (i + 2)) ((xf (i + 3)).toInt64 <<< ((32 : Int32).toInt64 &&& 63) ||| (xf (i + 4)).toInt64 &&& 4294967295)
  have w1 : i + 1 < 2147483648 := by omega
  have u1 : i + 1 < n := by omega
  have t1 : nI i + 1 = nI (i + 1) := nAd
  have w2 : i + 2 < 2147483648 := by omega
  have u2 : i + 2 < n := by omega
  have t2 : nI i + 2 = nI (i + 2) := nAd
  have w3 : i + 3 < 2147483648 := by omega
  have u3 : i + 3 < n := by omega
  have t3 : nI i + 3 = nI (i + 3) := nAd
  have w4 : i + 4 < 2147483648 := by omega
  have u4 : i + 4 < n := by omega
  have t4 : nI i + 4 = nI (i + 4) := nAd
  rcases hv with ⟨hv, z, rfl⟩ | ⟨hv, z, rfl⟩
  · simp only [g192_236, g192_237, g192_238, g192_239, g192_240, g192_241, g192_242, g192_243, g192_244, g192_245, g192_246, g192_247, g192_248, g192_249, g192_250, g192_251, g192_252, g192_253, g192_255, g192_256, g192_257, g192_258, g192_259, g192_260, g192_261, g192_262, g192_265, g192_266, g192_267, g192_270, g192_271, g192_272, g192_273, g192_274, g192_275, g192_276, g192_277, g192_278, g192_279, g192_280, g192_281, g192_282, g192_283, g192_284, g192_285, g192_286, g192_287, g192_289, g192_290, g192_291, g192_292, g192_293, g192_294, g192_295, g192_296, g192_299, g192_300, g192_301, g192_304, g192_307, g192_308, ↓reduceIte, GV_s, GV_n, List.map_cons, List.map_nil, List.sum_cons, List.sum_nil, cat_i, cat_l, cat_r, Option.toList_some, Option.toList_none, List.cons_append, List.nil_append, true_and, and_true, Nat.reduceAdd, Nat.reduceLeDiff, Nat.zero_le, Nat.le_refl, Nat.add_zero, Nat.zero_add, ne_eq, Nat.reduceEqDiff, not_false_eq_true, not_true_eq_false, if_true, if_false, t1, vIN w1, nCl w1, u1, t2, vIN w2, nCl w2, u2, t3, vIN w3, nCl w3, u3, t4, vIN w4, nCl w4, u4, rc_76]
    refine X _ ?_
    simp only [g192_236, g192_237, g192_238, g192_239, g192_240, g192_241, g192_242, g192_243, g192_244, g192_245, g192_246, g192_247, g192_248, g192_249, g192_250, g192_251, g192_252, g192_253, g192_255, g192_256, g192_257, g192_258, g192_259, g192_260, g192_261, g192_262, g192_265, g192_266, g192_267, g192_270, g192_271, g192_272, g192_273, g192_274, g192_275, g192_276, g192_277, g192_278, g192_279, g192_280, g192_281, g192_282, g192_283, g192_284, g192_285, g192_286, g192_287, g192_289, g192_290, g192_291, g192_292, g192_293, g192_294, g192_295, g192_296, g192_299, g192_300, g192_301, g192_304, g192_307, g192_308, ↓reduceIte, GV_s, GV_n, List.map_cons, List.map_nil, List.sum_cons, List.sum_nil, cat_i, cat_l, cat_r, Option.toList_some, Option.toList_none, List.cons_append, List.nil_append, true_and, and_true, Nat.reduceAdd, Nat.reduceLeDiff, Nat.zero_le, Nat.le_refl, Nat.add_zero, Nat.zero_add, ne_eq, Nat.reduceEqDiff, not_false_eq_true, not_true_eq_false, if_true, if_false, t1, vIN w1, nCl w1, u1, t2, vIN w2, nCl w2, u2, t3, vIN w3, nCl w3, u3, t4, vIN w4, nCl w4, u4, rc_137]
    refine Y _ ?_
    simp only [g192_236, g192_237, g192_238, g192_239, g192_240, g192_241, g192_242, g192_243, g192_244, g192_245, g192_246, g192_247, g192_248, g192_249, g192_250, g192_251, g192_252, g192_253, g192_255, g192_256, g192_257, g192_258, g192_259, g192_260, g192_261, g192_262, g192_265, g192_266, g192_267, g192_270, g192_271, g192_272, g192_273, g192_274, g192_275, g192_276, g192_277, g192_278, g192_279, g192_280, g192_281, g192_282, g192_283, g192_284, g192_285, g192_286, g192_287, g192_289, g192_290, g192_291, g192_292, g192_293, g192_294, g192_295, g192_296, g192_299, g192_300, g192_301, g192_304, g192_307, g192_308, ↓reduceIte, GV_s, GV_n, List.map_cons, List.map_nil, List.sum_cons, List.sum_nil, cat_i, cat_l, cat_r, Option.toList_some, Option.toList_none, List.cons_append, List.nil_append, true_and, and_true, Nat.reduceAdd, Nat.reduceLeDiff, Nat.zero_le, Nat.le_refl, Nat.add_zero, Nat.zero_add, ne_eq, Nat.reduceEqDiff, not_false_eq_true, not_true_eq_false, if_true, if_false, t1, vIN w1, nCl w1, u1, t2, vIN w2, nCl w2, u2, t3, vIN w3, nCl w3, u3, t4, vIN w4, nCl w4, u4]
    exact K _ _ _ _ hI2
  · exact absurd hv (by decide)
theorem lw_3 (hI : Inv ai al fi fl) (hn : n ≤ 3072) (hi : i + 6 ≤ n) (K : ∀ ai al fi fl, Inv ai al fi fl → G (some (n, xf)) 192 1224 [.ref scP, .ref 0, .ref 55, .int (nI i)] [] (mk ai al fi fl) 86 16171 Q) : G (some (n, xf)) 192 309 [.ref scP, .ref 0, .ref 55, .int (nI i)] [] (mk ai al fi fl) 86 16171 Q := by
  obtain ⟨r, a1, l1, f1, g1, a2, l2, f2, g2, X, Y, hI2, hv⟩ := op3 hI (xf (i + 1)) (xf (i + 2))
  have w1 : i + 1 < 2147483648 := by omega
  have u1 : i + 1 < n := by omega
  have t1 : nI i + 1 = nI (i + 1) := nAd
  have w2 : i + 2 < 2147483648 := by omega
  have u2 : i + 2 < n := by omega
  have t2 : nI i + 2 = nI (i + 2) := nAd
  rcases hv with ⟨hv, z, rfl⟩ | ⟨hv, z, rfl⟩
  · exact absurd hv (by decide)
  · simp only [g192_309, g192_310, g192_311, g192_312, g192_313, g192_314, g192_315, g192_316, g192_317, g192_318, g192_319, g192_320, g192_323, g192_324, g192_325, g192_326, g192_327, g192_328, g192_329, g192_330, g192_331, g192_332, g192_333, g192_334, g192_337, g192_338, g192_341, g192_342, ↓reduceIte, GV_s, GV_n, List.map_cons, List.map_nil, List.sum_cons, List.sum_nil, cat_i, cat_l, cat_r, Option.toList_some, Option.toList_none, List.cons_append, List.nil_append, true_and, and_true, Nat.reduceAdd, Nat.reduceLeDiff, Nat.zero_le, Nat.le_refl, Nat.add_zero, Nat.zero_add, ne_eq, Nat.reduceEqDiff, not_false_eq_true, not_true_eq_false, if_true, if_false, t1, vIN w1, nCl w1, u1, t2, vIN w2, nCl w2, u2, rc_77]
    refine X _ ?_
    simp only [g192_309, g192_310, g192_311, g192_312, g192_313, g192_314, g192_315, g192_316, g192_317, g192_318, g192_319, g192_320, g192_323, g192_324, g192_325, g192_326, g192_327, g192_328, g192_329, g192_330, g192_331, g192_332, g192_333, g192_334, g192_337, g192_338, g192_341, g192_342, ↓reduceIte, GV_s, GV_n, List.map_cons, List.map_nil, List.sum_cons, List.sum_nil, cat_i, cat_l, cat_r, Option.toList_some, Option.toList_none, List.cons_append, List.nil_append, true_and, and_true, Nat.reduceAdd, Nat.reduceLeDiff, Nat.zero_le, Nat.le_refl, Nat.add_zero, Nat.zero_add, ne_eq, Nat.reduceEqDiff, not_false_eq_true, not_true_eq_false, if_true, if_false, t1, vIN w1, nCl w1, u1, t2, vIN w2, nCl w2, u2, rc_138]
    refine Y _ ?_
    simp only [g192_309, g192_310, g192_311, g192_312, g192_313, g192_314, g192_315, g192_316, g192_317, g192_318, g192_319, g192_320, g192_323, g192_324, g192_325, g192_326, g192_327, g192_328, g192_329, g192_330, g192_331, g192_332, g192_333, g192_334, g192_337, g192_338, g192_341, g192_342, ↓reduceIte, GV_s, GV_n, List.map_cons, List.map_nil, List.sum_cons, List.sum_nil, cat_i, cat_l, cat_r, Option.toList_some, Option.toList_none, List.cons_append, List.nil_append, true_and, and_true, Nat.reduceAdd, Nat.reduceLeDiff, Nat.zero_le, Nat.le_refl, Nat.add_zero, Nat.zero_add, ne_eq, Nat.reduceEqDiff, not_false_eq_true, not_true_eq_false, if_true, if_false, t1, vIN w1, nCl w1, u1, t2, vIN w2, nCl w2, u2, lg_cmp_eq]
    exact K _ _ _ _ hI2
theorem lw_4 (hI : Inv ai al fi fl) (hn : n ≤ 3072) (hi : i + 6 ≤ n) (K : ∀ ai al fi fl, Inv ai al fi fl → G (some (n, xf)) 192 1224 [.ref scP, .ref 0, .ref 55, .int (nI i)] [] (mk ai al fi fl) 86 16171 Q) : G (some (n, xf)) 192 343 [.ref scP, .ref 0, .ref 55, .int (nI i)] [] (mk ai al fi fl) 86 16171 Q := by
  obtain ⟨r, a1, l1, f1, g1, a2, l2, f2, g2, X, Y, hI2, hv⟩ := op4 hI (xf (i + 1)) (xf (i + 2)) (xf (i + 3)) (xf (i + 4)) (xf (i + 5))
  have w1 : i + 1 < 2147483648 := by omega
  have u1 : i + 1 < n := by omega
  have t1 : nI i + 1 = nI (i + 1) := nAd
  have w2 : i + 2 < 2147483648 := by omega
  have u2 : i + 2 < n := by omega
  have t2 : nI i + 2 = nI (i + 2) := nAd
  have w3 : i + 3 < 2147483648 := by omega
  have u3 : i + 3 < n := by omega
  have t3 : nI i + 3 = nI (i + 3) := nAd
  have w4 : i + 4 < 2147483648 := by omega
  have u4 : i + 4 < n := by omega
  have t4 : nI i + 4 = nI (i + 4) := nAd
  have w5 : i + 5 < 2147483648 := by omega
  have u5 : i + 5 < n := by omega
  have t5 : nI i + 5 = nI (i + 5) := nAd
  rcases hv with ⟨hv, z, rfl⟩ | ⟨hv, z, rfl⟩
  · simp only [g192_343, g192_344, g192_345, g192_346, g192_347, g192_348, g192_349, g192_350, g192_351, g192_352, g192_353, g192_354, g192_355, g192_356, g192_357, g192_358, g192_359, g192_360, g192_361, g192_362, g192_363, g192_364, g192_365, g192_366, g192_367, g192_368, g192_369, g192_372, g192_373, g192_374, g192_375, g192_376, g192_377, g192_378, g192_379, g192_380, g192_381, g192_382, g192_383, g192_384, g192_385, g192_386, g192_387, g192_388, g192_389, g192_390, g192_391, g192_392, g192_393, g192_394, g192_395, g192_396, g192_397, g192_398, g192_401, g192_404, g192_405, ↓reduceIte, GV_s, GV_n, List.map_cons, List.map_nil, List.sum_cons, List.sum_nil, cat_i, cat_l, cat_r, Option.toList_some, Option.toList_none, List.cons_append, List.nil_append, true_and, and_true, Nat.reduceAdd, Nat.reduceLeDiff, Nat.zero_le, Nat.le_refl, Nat.add_zero, Nat.zero_add, ne_eq, Nat.reduceEqDiff, not_false_eq_true, not_true_eq_false, if_true, if_false, t1, vIN w1, nCl w1, u1, t2, vIN w2, nCl w2, u2, t3, vIN w3, nCl w3, u3, t4, vIN w4, nCl w4, u4, t5, vIN w5, nCl w5, u5, rc_78]
    refine X _ ?_
    simp only [g192_343, g192_344, g192_345, g192_346, g192_347, g192_348, g192_349, g192_350, g192_351, g192_352, g192_353, g192_354, g192_355, g192_356, g192_357, g192_358, g192_359, g192_360, g192_361, g192_362, g192_363, g192_364, g192_365, g192_366, g192_367, g192_368, g192_369, g192_372, g192_373, g192_374, g192_375, g192_376, g192_377, g192_378, g192_379, g192_380, g192_381, g192_382, g192_383, g192_384, g192_385, g192_386, g192_387, g192_388, g192_389, g192_390, g192_391, g192_392, g192_393, g192_394, g192_395, g192_396, g192_397, g192_398, g192_401, g192_404, g192_405, ↓reduceIte, GV_s, GV_n, List.map_cons, List.map_nil, List.sum_cons, List.sum_nil, cat_i, cat_l, cat_r, Option.toList_some, Option.toList_none, List.cons_append, List.nil_append, true_and, and_true, Nat.reduceAdd, Nat.reduceLeDiff, Nat.zero_le, Nat.le_refl, Nat.add_zero, Nat.zero_add, ne_eq, Nat.reduceEqDiff, not_false_eq_true, not_true_eq_false, if_true, if_false, t1, vIN w1, nCl w1, u1, t2, vIN w2, nCl w2, u2, t3, vIN w3, nCl w3, u3, t4, vIN w4, nCl w4, u4, t5, vIN w5, nCl w5, u5, rc_139]
    refine Y _ ?_
    simp only [g192_343, g192_344, g192_345, g192_346, g192_347, g192_348, g192_349, g192_350, g192_351, g192_352, g192_353, g192_354, g192_355, g192_356, g192_357, g192_358, g192_359, g192_360, g192_361, g192_362, g192_363, g192_364, g192_365, g192_366, g192_367, g192_368, g192_369, g192_372, g192_373, g192_374, g192_375, g192_376, g192_377, g192_378, g192_379, g192_380, g192_381, g192_382, g192_383, g192_384, g192_385, g192_386, g192_387, g192_388, g192_389, g192_390, g192_391, g192_392, g192_393, g192_394, g192_395, g192_396, g192_397, g192_398, g192_401, g192_404, g192_405, ↓reduceIte, GV_s, GV_n, List.map_cons, List.map_nil, List.sum_cons, List.sum_nil, cat_i, cat_l, cat_r, Option.toList_some, Option.toList_none, List.cons_append, List.nil_append, true_and, and_true, Nat.reduceAdd, Nat.reduceLeDiff, Nat.zero_le, Nat.le_refl, Nat.add_zero, Nat.zero_add, ne_eq, Nat.reduceEqDiff, not_false_eq_true, not_true_eq_false, if_true, if_false, t1, vIN w1, nCl w1, u1, t2, vIN w2, nCl w2, u2, t3, vIN w3, nCl w3, u3, t4, vIN w4, nCl w4, u4, t5, vIN w5, nCl w5, u5]
    exact K _ _ _ _ hI2
  · exact absurd hv (by decide)
theorem lw_5 (hI : Inv ai al fi fl) (hn : n ≤ 3072) (hi : i + 6 ≤ n) (K : ∀ ai al fi fl, Inv ai al fi fl → G (some (n, xf)) 192 1224 [.ref scP, .ref 0, .ref 55, .int (nI i)] [] (mk ai al fi fl) 86 16171 Q) : G (some (n, xf)) 192 406 [.ref scP, .ref 0, .ref 55, .int (nI i)] [] (mk ai al fi fl) 86 16171 Q := by
  obtain ⟨r, a1, l1, f1, g1, a2, l2, f2, g2, X, Y, hI2, hv⟩ := op5 hI 
  rcases hv with ⟨hv, z, rfl⟩ | ⟨hv, z, rfl⟩
  · simp only [g192_406, g192_407, g192_410, g192_411, g192_414, g192_417, g192_418, ↓reduceIte, GV_s, GV_n, List.map_cons, List.map_nil, List.sum_cons, List.sum_nil, cat_i, cat_l, cat_r, Option.toList_some, Option.toList_none, List.cons_append, List.nil_append, true_and, and_true, Nat.reduceAdd, Nat.reduceLeDiff, Nat.zero_le, Nat.le_refl, Nat.add_zero, Nat.zero_add, ne_eq, Nat.reduceEqDiff, not_false_eq_true, not_true_eq_false, if_true, if_false, rc_79]
    refine X _ ?_
    simp only [g192_406, g192_407, g192_410, g192_411, g192_414, g192_417, g192_418, ↓reduceIte, GV_s, GV_n, List.map_cons, List.map_nil, List.sum_cons, List.sum_nil, cat_i, cat_l, cat_r, Option.toList_some, Option.toList_none, List.cons_append, List.nil_append, true_and, and_true, Nat.reduceAdd, Nat.reduceLeDiff, Nat.zero_le, Nat.le_refl, Nat.add_zero, Nat.zero_add, ne_eq, Nat.reduceEqDiff, not_false_eq_true, not_true_eq_false, if_true, if_false, rc_142]
    refine Y _ ?_
    simp only [g192_406, g192_407, g192_410, g192_411, g192_414, g192_417, g192_418, ↓reduceIte, GV_s, GV_n, List.map_cons, List.map_nil, List.sum_cons, List.sum_nil, cat_i, cat_l, cat_r, Option.toList_some, Option.toList_none, List.cons_append, List.nil_append, true_and, and_true, Nat.reduceAdd, Nat.reduceLeDiff, Nat.zero_le, Nat.le_refl, Nat.add_zero, Nat.zero_add, ne_eq, Nat.reduceEqDiff, not_false_eq_true, not_true_eq_false, if_true, if_false]
    exact K _ _ _ _ hI2
  · exact absurd hv (by decide)
theorem lw_6 (hI : Inv ai al fi fl) (hn : n ≤ 3072) (hi : i + 6 ≤ n) (K : ∀ ai al fi fl, Inv ai al fi fl → G (some (n, xf)) 192 1224 [.ref scP, .ref 0, .ref 55, .int (nI i)] [] (mk ai al fi fl) 86 16171 Q) : G (some (n, xf)) 192 419 [.ref scP, .ref 0, .ref 55, .int (nI i)] [] (mk ai al fi fl) 86 16171 Q := by
  obtain ⟨r, a1, l1, f1, g1, a2, l2, f2, g2, X, Y, hI2, hv⟩ := op6 hI (xf (i + 1)) (xf (i + 2)) (xf (i + 3)) (xf (i + 4))
  have w1 : i + 1 < 2147483648 := by omega
  have u1 : i + 1 < n := by omega
  have t1 : nI i + 1 = nI (i + 1) := nAd
  have w2 : i + 2 < 2147483648 := by omega
  have u2 : i + 2 < n := by omega
  have t2 : nI i + 2 = nI (i + 2) := nAd
  have w3 : i + 3 < 2147483648 := by omega
  have u3 : i + 3 < n := by omega
  have t3 : nI i + 3 = nI (i + 3) := nAd
  have w4 : i + 4 < 2147483648 := by omega
  have u4 : i + 4 < n := by omega
  have t4 : nI i + 4 = nI (i + 4) := nAd
  rcases hv with ⟨hv, z, rfl⟩ | ⟨hv, z, rfl⟩
  · simp only [g192_419, g192_420, g192_421, g192_422, g192_423, g192_424, g192_425, g192_426, g192_427, g192_428, g192_429, g192_430, g192_431, g192_432, g192_433, g192_434, g192_435, g192_436, g192_437, g192_438, g192_439, g192_440, g192_443, g192_444, g192_445, g192_446, g192_447, g192_448, g192_449, g192_450, g192_451, g192_452, g192_453, g192_454, g192_455, g192_456, g192_457, g192_458, g192_459, g192_460, g192_461, g192_462, g192_463, g192_464, g192_467, g192_470, g192_471, ↓reduceIte, GV_s, GV_n, List.map_cons, List.map_nil, List.sum_cons, List.sum_nil, cat_i, cat_l, cat_r, Option.toList_some, Option.toList_none, List.cons_append, List.nil_append, true_and, and_true, Nat.reduceAdd, Nat.reduceLeDiff, Nat.zero_le, Nat.le_refl, Nat.add_zero, Nat.zero_add, ne_eq, Nat.reduceEqDiff, not_false_eq_true, not_true_eq_false, if_true, if_false, t1, vIN w1, nCl w1, u1, t2, vIN w2, nCl w2, u2, t3, vIN w3, nCl w3, u3, t4, vIN w4, nCl w4, u4, rc_80]
    refine X _ ?_
    simp only [g192_419, g192_420, g192_421, g192_422, g192_423, g192_424, g192_425, g192_426, g192_427, g192_428, g192_429, g192_430, g192_431, g192_432, g192_433, g192_434, g192_435, g192_436, g192_437, g192_438, g192_439, g192_440, g192_443, g192_444, g192_445, g192_446, g192_447, g192_448, g192_449, g192_450, g192_451, g192_452, g192_453, g192_454, g192_455, g192_456, g192_457, g192_458, g192_459, g192_460, g192_461, g192_462, g192_463, g192_464, g192_467, g192_470, g192_471, ↓reduceIte, GV_s, GV_n, List.map_cons, List.map_nil, List.sum_cons, List.sum_nil, cat_i, cat_l, cat_r, Option.toList_some, Option.toList_none, List.cons_append, List.nil_append, true_and, and_true, Nat.reduceAdd, Nat.reduceLeDiff, Nat.zero_le, Nat.le_refl, Nat.add_zero, Nat.zero_add, ne_eq, Nat.reduceEqDiff, not_false_eq_true, not_true_eq_false, if_true, if_false, t1, vIN w1, nCl w1, u1, t2, vIN w2, nCl w2, u2, t3, vIN w3, nCl w3, u3, t4, vIN w4, nCl w4, u4, rc_143]
    refine Y _ ?_
    simp only [g192_419, g192_420, g192_421, g192_422, g192_423, g192_424, g192_425, g192_426, g192_427, g192_428, g192_429, g192_430, g192_431, g192_432, g192_433, g192_434, g192_435, g192_436, g192_437, g192_438, g192_439, g192_440, g192_443, g192_444, g192_445, g192_446, g192_447, g192_448, g192_449, g192_450, g192_451, g192_452, g192_453, g192_454, g192_455, g192_456, g192_457, g192_458, g192_459, g192_460, g192_461, g192_462, g192_463, g192_464, g192_467, g192_470, g192_471, ↓reduceIte, GV_s, GV_n, List.map_cons, List.map_nil, List.sum_cons, List.sum_nil, cat_i, cat_l, cat_r, Option.toList_some, Option.toList_none, List.cons_append, List.nil_append, true_and, and_true, Nat.reduceAdd, Nat.reduceLeDiff, Nat.zero_le, Nat.le_refl, Nat.add_zero, Nat.zero_add, ne_eq, Nat.reduceEqDiff, not_false_eq_true, not_true_eq_false, if_true, if_false, t1, vIN w1, nCl w1, u1, t2, vIN w2, nCl w2, u2, t3, vIN w3, nCl w3, u3, t4, vIN w4, nCl w4, u4]
    exact K _ _ _ _ hI2
  · exact absurd hv (by decide)
theorem lw_7 (hI : Inv ai al fi fl) (hn : n ≤ 3072) (hi : i + 6 ≤ n) (K : ∀ ai al fi fl, Inv ai al fi fl → G (some (n, xf)) 192 1224 [.ref scP, .ref 0, .ref 55, .int (nI i)] [] (mk ai al fi fl) 86 16171 Q) : G (some (n, xf)) 192 472 [.ref scP, .ref 0, .ref 55, .int (nI i)] [] (mk ai al fi fl) 86 16171 Q := by
  obtain ⟨r, a1, l1, f1, g1, a2, l2, f2, g2, X, Y, hI2, hv⟩ := op7 hI (xf (i + 1)) (xf (i + 2))
  have w1 : i + 1 < 2147483648 := by omega
  have u1 : i + 1 < n := by omega
  have t1 : nI i + 1 = nI (i + 1) := nAd
  have w2 : i + 2 < 2147483648 := by omega
  have u2 : i + 2 < n := by omega
  have t2 : nI i + 2 = nI (i + 2) := nAd
  rcases hv with ⟨hv, z, rfl⟩ | ⟨hv, z, rfl⟩
  · simp only [g192_472, g192_473, g192_474, g192_475, g192_476, g192_477, g192_478, g192_479, g192_480, g192_481, g192_482, g192_483, g192_486, g192_487, g192_488, g192_489, g192_490, g192_491, g192_492, g192_493, g192_494, g192_495, g192_496, g192_497, g192_500, g192_503, g192_504, ↓reduceIte, GV_s, GV_n, List.map_cons, List.map_nil, List.sum_cons, List.sum_nil, cat_i, cat_l, cat_r, Option.toList_some, Option.toList_none, List.cons_append, List.nil_append, true_and, and_true, Nat.reduceAdd, Nat.reduceLeDiff, Nat.zero_le, Nat.le_refl, Nat.add_zero, Nat.zero_add, ne_eq, Nat.reduceEqDiff, not_false_eq_true, not_true_eq_false, if_true, if_false, t1, vIN w1, nCl w1, u1, t2, vIN w2, nCl w2, u2, rc_81]
    refine X _ ?_
    simp only [g192_472, g192_473, g192_474, g192_475, g192_476, g192_477, g192_478, g192_479, g192_480, g192_481, g192_482, g192_483, g192_486, g192_487, g192_488, g192_489, g192_490, g192_491, g192_492, g192_493, g192_494, g192_495, g192_496, g192_497, g192_500, g192_503, g192_504, ↓reduceIte, GV_s, GV_n, List.map_cons, List.map_nil, List.sum_cons, List.sum_nil, cat_i, cat_l, cat_r, Option.toList_some, Option.toList_none, List.cons_append, List.nil_append, true_and, and_true, Nat.reduceAdd, Nat.reduceLeDiff, Nat.zero_le, Nat.le_refl, Nat.add_zero, Nat.zero_add, ne_eq, Nat.reduceEqDiff, not_false_eq_true, not_true_eq_false, if_true, if_false, t1, vIN w1, nCl w1, u1, t2, vIN w2, nCl w2, u2, rc_144]
    refine Y _ ?_
    simp only [g192_472, g192_473, g192_474, g192_475, g192_476, g192_477, g192_478, g192_479, g192_480, g192_481, g192_482, g192_483, g192_486, g192_487, g192_488, g192_489, g192_490, g192_491, g192_492, g192_493, g192_494, g192_495, g192_496, g192_497, g192_500, g192_503, g192_504, ↓reduceIte, GV_s, GV_n, List.map_cons, List.map_nil, List.sum_cons, List.sum_nil, cat_i, cat_l, cat_r, Option.toList_some, Option.toList_none, List.cons_append, List.nil_append, true_and, and_true, Nat.reduceAdd, Nat.reduceLeDiff, Nat.zero_le, Nat.le_refl, Nat.add_zero, Nat.zero_add, ne_eq, Nat.reduceEqDiff, not_false_eq_true, not_true_eq_false, if_true, if_false, t1, vIN w1, nCl w1, u1, t2, vIN w2, nCl w2, u2]
    exact K _ _ _ _ hI2
  · exact absurd hv (by decide)
theorem lw_8 (hI : Inv ai al fi fl) (hn : n ≤ 3072) (hi : i + 6 ≤ n) (K : ∀ ai al fi fl, Inv ai al fi fl → G (some (n, xf)) 192 1224 [.ref scP, .ref 0, .ref 55, .int (nI i)] [] (mk ai al fi fl) 86 16171 Q) : G (some (n, xf)) 192 505 [.ref scP, .ref 0, .ref 55, .int (nI i)] [] (mk ai al fi fl) 86 16171 Q := by
  obtain ⟨r, a1, l1, f1, g1, a2, l2, f2, g2, X, Y, hI2, hv⟩ := op8 hI (xf (i + 1)) (xf (i + 2)) (xf (i + 3))
  have w1 : i + 1 < 2147483648 := by omega
  have u1 : i + 1 < n := by omega
  have t1 : nI i + 1 = nI (i + 1) := nAd
  have w2 : i + 2 < 2147483648 := by omega
  have u2 : i + 2 < n := by omega
  have t2 : nI i + 2 = nI (i + 2) := nAd
  have w3 : i + 3 < 2147483648 := by omega
  have u3 : i + 3 < n := by omega
  have t3 : nI i + 3 = nI (i + 3) := nAd
  rcases hv with ⟨hv, z, rfl⟩ | ⟨hv, z, rfl⟩
  · simp only [g192_505, g192_506, g192_507, g192_508, g192_509, g192_510, g192_511, g192_512, g192_513, g192_514, g192_515, g192_516, g192_517, g192_518, g192_519, g192_520, g192_521, g192_524, g192_525, g192_526, g192_527, g192_528, g192_529, g192_530, g192_531, g192_532, g192_533, g192_534, g192_535, g192_536, g192_537, g192_538, g192_539, g192_540, g192_543, g192_546, g192_547, ↓reduceIte, GV_s, GV_n, List.map_cons, List.map_nil, List.sum_cons, List.sum_nil, cat_i, cat_l, cat_r, Option.toList_some, Option.toList_none, List.cons_append, List.nil_append, true_and, and_true, Nat.reduceAdd, Nat.reduceLeDiff, Nat.zero_le, Nat.le_refl, Nat.add_zero, Nat.zero_add, ne_eq, Nat.reduceEqDiff, not_false_eq_true, not_true_eq_false, if_true, if_false, t1, vIN w1, nCl w1, u1, t2, vIN w2, nCl w2, u2, t3, vIN w3, nCl w3, u3, rc_82]
    refine X _ ?_
    simp only [g192_505, g192_506, g192_507, g192_508, g192_509, g192_510, g192_511, g192_512, g192_513, g192_514, g192_515, g192_516, g192_517, g192_518, g192_519, g192_520, g192_521, g192_524, g192_525, g192_526, g192_527, g192_528, g192_529, g192_530, g192_531, g192_532, g192_533, g192_534, g192_535, g192_536, g192_537, g192_538, g192_539, g192_540, g192_543, g192_546, g192_547, ↓reduceIte, GV_s, GV_n, List.map_cons, List.map_nil, List.sum_cons, List.sum_nil, cat_i, cat_l, cat_r, Option.toList_some, Option.toList_none, List.cons_append, List.nil_append, true_and, and_true, Nat.reduceAdd, Nat.reduceLeDiff, Nat.zero_le, Nat.le_refl, Nat.add_zero, Nat.zero_add, ne_eq, Nat.reduceEqDiff, not_false_eq_true, not_true_eq_false, if_true, if_false, t1, vIN w1, nCl w1, u1, t2, vIN w2, nCl w2, u2, t3, vIN w3, nCl w3, u3, rc_146]
    refine Y _ ?_
    simp only [g192_505, g192_506, g192_507, g192_508, g192_509, g192_510, g192_511, g192_512, g192_513, g192_514, g192_515, g192_516, g192_517, g192_518, g192_519, g192_520, g192_521, g192_524, g192_525, g192_526, g192_527, g192_528, g192_529, g192_530, g192_531, g192_532, g192_533, g192_534, g192_535, g192_536, g192_537, g192_538, g192_539, g192_540, g192_543, g192_546, g192_547, ↓reduceIte, GV_s, GV_n, List.map_cons, List.map_nil, List.sum_cons, List.sum_nil, cat_i, cat_l, cat_r, Option.toList_some, Option.toList_none, List.cons_append, List.nil_append, true_and, and_true, Nat.reduceAdd, Nat.reduceLeDiff, Nat.zero_le, Nat.le_refl, Nat.add_zero, Nat.zero_add, ne_eq, Nat.reduceEqDiff, not_false_eq_true, not_true_eq_false, if_true, if_false, t1, vIN w1, nCl w1, u1, t2, vIN w2, nCl w2, u2, t3, vIN w3, nCl w3, u3]
    exact K _ _ _ _ hI2
  · exact absurd hv (by decide)
theorem lw_9 (hI : Inv ai al fi fl) (hn : n ≤ 3072) (hi : i + 6 ≤ n) (K : ∀ ai al fi fl, Inv ai al fi fl → G (some (n, xf)) 192 1224 [.ref scP, .ref 0, .ref 55, .int (nI i)] [] (mk ai al fi fl) 86 16171 Q) : G (some (n, xf)) 192 548 [.ref scP, .ref 0, .ref 55, .int (nI i)] [] (mk ai al fi fl) 86 16171 Q := by
  obtain ⟨r, a1, l1, f1, g1, a2, l2, f2, g2, X, Y, hI2, hv⟩ := op9 hI (xf (i + 1)) (xf (i + 2))
  have w1 : i + 1 < 2147483648 := by omega
  have u1 : i + 1 < n := by omega
  have t1 : nI i + 1 = nI (i + 1) := nAd
  have w2 : i + 2 < 2147483648 := by omega
  have u2 : i + 2 < n := by omega
  have t2 : nI i + 2 = nI (i + 2) := nAd
  rcases hv with ⟨hv, z, rfl⟩ | ⟨hv, z, rfl⟩
  · simp only [g192_548, g192_549, g192_550, g192_551, g192_552, g192_553, g192_554, g192_555, g192_556, g192_557, g192_558, g192_559, g192_562, g192_563, g192_564, g192_565, g192_566, g192_567, g192_568, g192_569, g192_570, g192_571, g192_572, g192_573, g192_576, g192_579, g192_580, ↓reduceIte, GV_s, GV_n, List.map_cons, List.map_nil, List.sum_cons, List.sum_nil, cat_i, cat_l, cat_r, Option.toList_some, Option.toList_none, List.cons_append, List.nil_append, true_and, and_true, Nat.reduceAdd, Nat.reduceLeDiff, Nat.zero_le, Nat.le_refl, Nat.add_zero, Nat.zero_add, ne_eq, Nat.reduceEqDiff, not_false_eq_true, not_true_eq_false, if_true, if_false, t1, vIN w1, nCl w1, u1, t2, vIN w2, nCl w2, u2, rc_83]
    refine X _ ?_
    simp only [g192_548, g192_549, g192_550, g192_551, g192_552, g192_553, g192_554, g192_555, g192_556, g192_557, g192_558, g192_559, g192_562, g192_563, g192_564, g192_565, g192_566, g192_567, g192_568, g192_569, g192_570, g192_571, g192_572, g192_573, g192_576, g192_579, g192_580, ↓reduceIte, GV_s, GV_n, List.map_cons, List.map_nil, List.sum_cons, List.sum_nil, cat_i, cat_l, cat_r, Option.toList_some, Option.toList_none, List.cons_append, List.nil_append, true_and, and_true, Nat.reduceAdd, Nat.reduceLeDiff, Nat.zero_le, Nat.le_refl, Nat.add_zero, Nat.zero_add, ne_eq, Nat.reduceEqDiff, not_false_eq_true, not_true_eq_false, if_true, if_false, t1, vIN w1, nCl w1, u1, t2, vIN w2, nCl w2, u2, rc_148]
    refine Y _ ?_
    simp only [g192_548, g192_549, g192_550, g192_551, g192_552, g192_553, g192_554, g192_555, g192_556, g192_557, g192_558, g192_559, g192_562, g192_563, g192_564, g192_565, g192_566, g192_567, g192_568, g192_569, g192_570, g192_571, g192_572, g192_573, g192_576, g192_579, g192_580, ↓reduceIte, GV_s, GV_n, List.map_cons, List.map_nil, List.sum_cons, List.sum_nil, cat_i, cat_l, cat_r, Option.toList_some, Option.toList_none, List.cons_append, List.nil_append, true_and, and_true, Nat.reduceAdd, Nat.reduceLeDiff, Nat.zero_le, Nat.le_refl, Nat.add_zero, Nat.zero_add, ne_eq, Nat.reduceEqDiff, not_false_eq_true, not_true_eq_false, if_true, if_false, t1, vIN w1, nCl w1, u1, t2, vIN w2, nCl w2, u2]
    exact K _ _ _ _ hI2
  · exact absurd hv (by decide)
theorem lw_10 (hI : Inv ai al fi fl) (hn : n ≤ 3072) (hi : i + 6 ≤ n) (K : ∀ ai al fi fl, Inv ai al fi fl → G (some (n, xf)) 192 1224 [.ref scP, .ref 0, .ref 55, .int (nI i)] [] (mk ai al fi fl) 86 16171 Q) : G (some (n, xf)) 192 581 [.ref scP, .ref 0, .ref 55, .int (nI i)] [] (mk ai al fi fl) 86 16171 Q := by
  obtain ⟨r, a1, l1, f1, g1, a2, l2, f2, g2, X, Y, hI2, hv⟩ := op10 hI (xf (i + 1)) (xf (i + 2)) (xf (i + 3))
  have w1 : i + 1 < 2147483648 := by omega
  have u1 : i + 1 < n := by omega
  have t1 : nI i + 1 = nI (i + 1) := nAd
  have w2 : i + 2 < 2147483648 := by omega
  have u2 : i + 2 < n := by omega
  have t2 : nI i + 2 = nI (i + 2) := nAd
  have w3 : i + 3 < 2147483648 := by omega
  have u3 : i + 3 < n := by omega
  have t3 : nI i + 3 = nI (i + 3) := nAd
  rcases hv with ⟨hv, z, rfl⟩ | ⟨hv, z, rfl⟩
  · simp only [g192_581, g192_582, g192_583, g192_584, g192_585, g192_586, g192_587, g192_588, g192_589, g192_590, g192_591, g192_592, g192_593, g192_594, g192_595, g192_596, g192_597, g192_600, g192_601, g192_602, g192_603, g192_604, g192_605, g192_606, g192_607, g192_608, g192_609, g192_610, g192_611, g192_612, g192_613, g192_614, g192_615, g192_616, g192_619, g192_622, g192_623, ↓reduceIte, GV_s, GV_n, List.map_cons, List.map_nil, List.sum_cons, List.sum_nil, cat_i, cat_l, cat_r, Option.toList_some, Option.toList_none, List.cons_append, List.nil_append, true_and, and_true, Nat.reduceAdd, Nat.reduceLeDiff, Nat.zero_le, Nat.le_refl, Nat.add_zero, Nat.zero_add, ne_eq, Nat.reduceEqDiff, not_false_eq_true, not_true_eq_false, if_true, if_false, t1, vIN w1, nCl w1, u1, t2, vIN w2, nCl w2, u2, t3, vIN w3, nCl w3, u3, rc_84]
    refine X _ ?_
    simp only [g192_581, g192_582, g192_583, g192_584, g192_585, g192_586, g192_587, g192_588, g192_589, g192_590, g192_591, g192_592, g192_593, g192_594, g192_595, g192_596, g192_597, g192_600, g192_601, g192_602, g192_603, g192_604, g192_605, g192_606, g192_607, g192_608, g192_609, g192_610, g192_611, g192_612, g192_613, g192_614, g192_615, g192_616, g192_619, g192_622, g192_623, ↓reduceIte, GV_s, GV_n, List.map_cons, List.map_nil, List.sum_cons, List.sum_nil, cat_i, cat_l, cat_r, Option.toList_some, Option.toList_none, List.cons_append, List.nil_append, true_and, and_true, Nat.reduceAdd, Nat.reduceLeDiff, Nat.zero_le, Nat.le_refl, Nat.add_zero, Nat.zero_add, ne_eq, Nat.reduceEqDiff, not_false_eq_true, not_true_eq_false, if_true, if_false, t1, vIN w1, nCl w1, u1, t2, vIN w2, nCl w2, u2, t3, vIN w3, nCl w3, u3, rc_150]
    refine Y _ ?_
    simp only [g192_581, g192_582, g192_583, g192_584, g192_585, g192_586, g192_587, g192_588, g192_589, g192_590, g192_591, g192_592, g192_593, g192_594, g192_595, g192_596, g192_597, g192_600, g192_601, g192_602, g192_603, g192_604, g192_605, g192_606, g192_607, g192_608, g192_609, g192_610, g192_611, g192_612, g192_613, g192_614, g192_615, g192_616, g192_619, g192_622, g192_623, ↓reduceIte, GV_s, GV_n, List.map_cons, List.map_nil, List.sum_cons, List.sum_nil, cat_i, cat_l, cat_r, Option.toList_some, Option.toList_none, List.cons_append, List.nil_append, true_and, and_true, Nat.reduceAdd, Nat.reduceLeDiff, Nat.zero_le, Nat.le_refl, Nat.add_zero, Nat.zero_add, ne_eq, Nat.reduceEqDiff, not_false_eq_true, not_true_eq_false, if_true, if_false, t1, vIN w1, nCl w1, u1, t2, vIN w2, nCl w2, u2, t3, vIN w3, nCl w3, u3]
    exact K _ _ _ _ hI2
  · exact absurd hv (by decide)
theorem lw_11 (hI : Inv ai al fi fl) (hn : n ≤ 3072) (hi : i + 6 ≤ n) (K : ∀ ai al fi fl, Inv ai al fi fl → G (some (n, xf)) 192 1224 [.ref scP, .ref 0, .ref 55, .int (nI i)] [] (mk ai al fi fl) 86 16171 Q) : G (some (n, xf)) 192 624 [.ref scP, .ref 0, .ref 55, .int (nI i)] [] (mk ai al fi fl) 86 16171 Q := by
  obtain ⟨r, a1, l1, f1, g1, a2, l2, f2, g2, X, Y, hI2, hv⟩ := op11 hI (xf (i + 1))
  have w1 : i + 1 < 2147483648 := by omega
  have u1 : i + 1 < n := by omega
  have t1 : nI i + 1 = nI (i + 1) := nAd
  rcases hv with ⟨hv, z, rfl⟩ | ⟨hv, z, rfl⟩
  · simp only [g192_624, g192_625, g192_626, g192_627, g192_628, g192_629, g192_630, g192_633, g192_634, g192_635, g192_636, g192_637, g192_638, g192_639, g192_642, g192_645, g192_646, ↓reduceIte, GV_s, GV_n, List.map_cons, List.map_nil, List.sum_cons, List.sum_nil, cat_i, cat_l, cat_r, Option.toList_some, Option.toList_none, List.cons_append, List.nil_append, true_and, and_true, Nat.reduceAdd, Nat.reduceLeDiff, Nat.zero_le, Nat.le_refl, Nat.add_zero, Nat.zero_add, ne_eq, Nat.reduceEqDiff, not_false_eq_true, not_true_eq_false, if_true, if_false, t1, vIN w1, nCl w1, u1, rc_85]
    refine X _ ?_
    simp only [g192_624, g192_625, g192_626, g192_627, g192_628, g192_629, g192_630, g192_633, g192_634, g192_635, g192_636, g192_637, g192_638, g192_639, g192_642, g192_645, g192_646, ↓reduceIte, GV_s, GV_n, List.map_cons, List.map_nil, List.sum_cons, List.sum_nil, cat_i, cat_l, cat_r, Option.toList_some, Option.toList_none, List.cons_append, List.nil_append, true_and, and_true, Nat.reduceAdd, Nat.reduceLeDiff, Nat.zero_le, Nat.le_refl, Nat.add_zero, Nat.zero_add, ne_eq, Nat.reduceEqDiff, not_false_eq_true, not_true_eq_false, if_true, if_false, t1, vIN w1, nCl w1, u1, rc_152]
    refine Y _ ?_
    simp only [g192_624, g192_625, g192_626, g192_627, g192_628, g192_629, g192_630, g192_633, g192_634, g192_635, g192_636, g192_637, g192_638, g192_639, g192_642, g192_645, g192_646, ↓reduceIte, GV_s, GV_n, List.map_cons, List.map_nil, List.sum_cons, List.sum_nil, cat_i, cat_l, cat_r, Option.toList_some, Option.toList_none, List.cons_append, List.nil_append, true_and, and_true, Nat.reduceAdd, Nat.reduceLeDiff, Nat.zero_le, Nat.le_refl, Nat.add_zero, Nat.zero_add, ne_eq, Nat.reduceEqDiff, not_false_eq_true, not_true_eq_false, if_true, if_false, t1, vIN w1, nCl w1, u1]
    exact K _ _ _ _ hI2
  · exact absurd hv (by decide)
theorem lw_12 (hI : Inv ai al fi fl) (hn : n ≤ 3072) (hi : i + 6 ≤ n) (K : ∀ ai al fi fl, Inv ai al fi fl → G (some (n, xf)) 192 1224 [.ref scP, .ref 0, .ref 55, .int (nI i)] [] (mk ai al fi fl) 86 16171 Q) : G (some (n, xf)) 192 647 [.ref scP, .ref 0, .ref 55, .int (nI i)] [] (mk ai al fi fl) 86 16171 Q := by
  obtain ⟨r, a1, l1, f1, g1, a2, l2, f2, g2, X, Y, hI2, hv⟩ := op12 hI (xf (i + 1))
  have w1 : i + 1 < 2147483648 := by omega
  have u1 : i + 1 < n := by omega
  have t1 : nI i + 1 = nI (i + 1) := nAd
  rcases hv with ⟨hv, z, rfl⟩ | ⟨hv, z, rfl⟩
  · simp only [g192_647, g192_648, g192_649, g192_650, g192_651, g192_652, g192_653, g192_656, g192_657, g192_658, g192_659, g192_660, g192_661, g192_662, g192_665, g192_668, g192_669, ↓reduceIte, GV_s, GV_n, List.map_cons, List.map_nil, List.sum_cons, List.sum_nil, cat_i, cat_l, cat_r, Option.toList_some, Option.toList_none, List.cons_append, List.nil_append, true_and, and_true, Nat.reduceAdd, Nat.reduceLeDiff, Nat.zero_le, Nat.le_refl, Nat.add_zero, Nat.zero_add, ne_eq, Nat.reduceEqDiff, not_false_eq_true, not_true_eq_false, if_true, if_false, t1, vIN w1, nCl w1, u1, rc_86]
    refine X _ ?_
    simp only [g192_647, g192_648, g192_649, g192_650, g192_651, g192_652, g192_653, g192_656, g192_657, g192_658, g192_659, g192_660, g192_661, g192_662, g192_665, g192_668, g192_669, ↓reduceIte, GV_s, GV_n, List.map_cons, List.map_nil, List.sum_cons, List.sum_nil, cat_i, cat_l, cat_r, Option.toList_some, Option.toList_none, List.cons_append, List.nil_append, true_and, and_true, Nat.reduceAdd, Nat.reduceLeDiff, Nat.zero_le, Nat.le_refl, Nat.add_zero, Nat.zero_add, ne_eq, Nat.reduceEqDiff, not_false_eq_true, not_true_eq_false, if_true, if_false, t1, vIN w1, nCl w1, u1, rc_154]
    refine Y _ ?_
    simp only [g192_647, g192_648, g192_649, g192_650, g192_651, g192_652, g192_653, g192_656, g192_657, g192_658, g192_659, g192_660, g192_661, g192_662, g192_665, g192_668, g192_669, ↓reduceIte, GV_s, GV_n, List.map_cons, List.map_nil, List.sum_cons, List.sum_nil, cat_i, cat_l, cat_r, Option.toList_some, Option.toList_none, List.cons_append, List.nil_append, true_and, and_true, Nat.reduceAdd, Nat.reduceLeDiff, Nat.zero_le, Nat.le_refl, Nat.add_zero, Nat.zero_add, ne_eq, Nat.reduceEqDiff, not_false_eq_true, not_true_eq_false, if_true, if_false, t1, vIN w1, nCl w1, u1]
    exact K _ _ _ _ hI2
  · exact absurd hv (by decide)
theorem lw_13 (hI : Inv ai al fi fl) (hn : n ≤ 3072) (hi : i + 6 ≤ n) (K : ∀ ai al fi fl, Inv ai al fi fl → G (some (n, xf)) 192 1224 [.ref scP, .ref 0, .ref 55, .int (nI i)] [] (mk ai al fi fl) 86 16171 Q) : G (some (n, xf)) 192 670 [.ref scP, .ref 0, .ref 55, .int (nI i)] [] (mk ai al fi fl) 86 16171 Q := by
  obtain ⟨r, a1, l1, f1, g1, a2, l2, f2, g2, X, Y, hI2, hv⟩ := op13 hI 
  rcases hv with ⟨hv, z, rfl⟩ | ⟨hv, z, rfl⟩
  · exact absurd hv (by decide)
  · simp only [g192_670, g192_671, g192_674, g192_675, g192_678, g192_679, g192_682, g192_683, ↓reduceIte, GV_s, GV_n, List.map_cons, List.map_nil, List.sum_cons, List.sum_nil, cat_i, cat_l, cat_r, Option.toList_some, Option.toList_none, List.cons_append, List.nil_append, true_and, and_true, Nat.reduceAdd, Nat.reduceLeDiff, Nat.zero_le, Nat.le_refl, Nat.add_zero, Nat.zero_add, ne_eq, Nat.reduceEqDiff, not_false_eq_true, not_true_eq_false, if_true, if_false, rc_87]
    refine X _ ?_
    simp only [g192_670, g192_671, g192_674, g192_675, g192_678, g192_679, g192_682, g192_683, ↓reduceIte, GV_s, GV_n, List.map_cons, List.map_nil, List.sum_cons, List.sum_nil, cat_i, cat_l, cat_r, Option.toList_some, Option.toList_none, List.cons_append, List.nil_append, true_and, and_true, Nat.reduceAdd, Nat.reduceLeDiff, Nat.zero_le, Nat.le_refl, Nat.add_zero, Nat.zero_add, ne_eq, Nat.reduceEqDiff, not_false_eq_true, not_true_eq_false, if_true, if_false, rc_155]
    refine Y _ ?_
    simp only [g192_670, g192_671, g192_674, g192_675, g192_678, g192_679, g192_682, g192_683, ↓reduceIte, GV_s, GV_n, List.map_cons, List.map_nil, List.sum_cons, List.sum_nil, cat_i, cat_l, cat_r, Option.toList_some, Option.toList_none, List.cons_append, List.nil_append, true_and, and_true, Nat.reduceAdd, Nat.reduceLeDiff, Nat.zero_le, Nat.le_refl, Nat.add_zero, Nat.zero_add, ne_eq, Nat.reduceEqDiff, not_false_eq_true, not_true_eq_false, if_true, if_false, lg_cmp_eq]
    exact K _ _ _ _ hI2
theorem lw_14 (hI : Inv ai al fi fl) (hn : n ≤ 3072) (hi : i + 6 ≤ n) (K : ∀ ai al fi fl, Inv ai al fi fl → G (some (n, xf)) 192 1224 [.ref scP, .ref 0, .ref 55, .int (nI i)] [] (mk ai al fi fl) 86 16171 Q) : G (some (n, xf)) 192 684 [.ref scP, .ref 0, .ref 55, .int (nI i)] [] (mk ai al fi fl) 86 16171 Q := by
  obtain ⟨r, a1, l1, f1, g1, a2, l2, f2, g2, X, Y, hI2, hv⟩ := op14 hI 
  rcases hv with ⟨hv, z, rfl⟩ | ⟨hv, z, rfl⟩
  · exact absurd hv (by decide)
  · simp only [g192_684, g192_685, g192_688, g192_689, g192_692, g192_693, g192_696, g192_697, ↓reduceIte, GV_s, GV_n, List.map_cons, List.map_nil, List.sum_cons, List.sum_nil, cat_i, cat_l, cat_r, Option.toList_some, Option.toList_none, List.cons_append, List.nil_append, true_and, and_true, Nat.reduceAdd, Nat.reduceLeDiff, Nat.zero_le, Nat.le_refl, Nat.add_zero, Nat.zero_add, ne_eq, Nat.reduceEqDiff, not_false_eq_true, not_true_eq_false, if_true, if_false, rc_88]
    refine X _ ?_
    simp only [g192_684, g192_685, g192_688, g192_689, g192_692, g192_693, g192_696, g192_697, ↓reduceIte, GV_s, GV_n, List.map_cons, List.map_nil, List.sum_cons, List.sum_nil, cat_i, cat_l, cat_r, Option.toList_some, Option.toList_none, List.cons_append, List.nil_append, true_and, and_true, Nat.reduceAdd, Nat.reduceLeDiff, Nat.zero_le, Nat.le_refl, Nat.add_zero, Nat.zero_add, ne_eq, Nat.reduceEqDiff, not_false_eq_true, not_true_eq_false, if_true, if_false, rc_156]
    refine Y _ ?_
    simp only [g192_684, g192_685, g192_688, g192_689, g192_692, g192_693, g192_696, g192_697, ↓reduceIte, GV_s, GV_n, List.map_cons, List.map_nil, List.sum_cons, List.sum_nil, cat_i, cat_l, cat_r, Option.toList_some, Option.toList_none, List.cons_append, List.nil_append, true_and, and_true, Nat.reduceAdd, Nat.reduceLeDiff, Nat.zero_le, Nat.le_refl, Nat.add_zero, Nat.zero_add, ne_eq, Nat.reduceEqDiff, not_false_eq_true, not_true_eq_false, if_true, if_false, lg_cmp_eq]
    exact K _ _ _ _ hI2
theorem lw_15 (hI : Inv ai al fi fl) (hn : n ≤ 3072) (hi : i + 6 ≤ n) (K : ∀ ai al fi fl, Inv ai al fi fl → G (some (n, xf)) 192 1224 [.ref scP, .ref 0, .ref 55, .int (nI i)] [] (mk ai al fi fl) 86 16171 Q) : G (some (n, xf)) 192 698 [.ref scP, .ref 0, .ref 55, .int (nI i)] [] (mk ai al fi fl) 86 16171 Q := by
  obtain ⟨r, a1, l1, f1, g1, a2, l2, f2, g2, X, Y, hI2, hv⟩ := op15 hI 
  rcases hv with ⟨hv, z, rfl⟩ | ⟨hv, z, rfl⟩
  · simp only [g192_698, g192_699, g192_702, g192_703, g192_706, g192_709, g192_710, ↓reduceIte, GV_s, GV_n, List.map_cons, List.map_nil, List.sum_cons, List.sum_nil, cat_i, cat_l, cat_r, Option.toList_some, Option.toList_none, List.cons_append, List.nil_append, true_and, and_true, Nat.reduceAdd, Nat.reduceLeDiff, Nat.zero_le, Nat.le_refl, Nat.add_zero, Nat.zero_add, ne_eq, Nat.reduceEqDiff, not_false_eq_true, not_true_eq_false, if_true, if_false, rc_89]
    refine X _ ?_
    simp only [g192_698, g192_699, g192_702, g192_703, g192_706, g192_709, g192_710, ↓reduceIte, GV_s, GV_n, List.map_cons, List.map_nil, List.sum_cons, List.sum_nil, cat_i, cat_l, cat_r, Option.toList_some, Option.toList_none, List.cons_append, List.nil_append, true_and, and_true, Nat.reduceAdd, Nat.reduceLeDiff, Nat.zero_le, Nat.le_refl, Nat.add_zero, Nat.zero_add, ne_eq, Nat.reduceEqDiff, not_false_eq_true, not_true_eq_false, if_true, if_false, rc_158]
    refine Y _ ?_
    simp only [g192_698, g192_699, g192_702, g192_703, g192_706, g192_709, g192_710, ↓reduceIte, GV_s, GV_n, List.map_cons, List.map_nil, List.sum_cons, List.sum_nil, cat_i, cat_l, cat_r, Option.toList_some, Option.toList_none, List.cons_append, List.nil_append, true_and, and_true, Nat.reduceAdd, Nat.reduceLeDiff, Nat.zero_le, Nat.le_refl, Nat.add_zero, Nat.zero_add, ne_eq, Nat.reduceEqDiff, not_false_eq_true, not_true_eq_false, if_true, if_false]
    exact K _ _ _ _ hI2
  · exact absurd hv (by decide)
theorem lw_16 (hI : Inv ai al fi fl) (hn : n ≤ 3072) (hi : i + 6 ≤ n) (K : ∀ ai al fi fl, Inv ai al fi fl → G (some (n, xf)) 192 1224 [.ref scP, .ref 0, .ref 55, .int (nI i)] [] (mk ai al fi fl) 86 16171 Q) : G (some (n, xf)) 192 711 [.ref scP, .ref 0, .ref 55, .int (nI i)] [] (mk ai al fi fl) 86 16171 Q := by
  obtain ⟨r, a1, l1, f1, g1, a2, l2, f2, g2, X, Y, hI2, hv⟩ := op16 hI (xf (i + 1)) (xf (i + 2)) (xf (i + 3))
  have w1 : i + 1 < 2147483648 := by omega
  have u1 : i + 1 < n := by omega
  have t1 : nI i + 1 = nI (i + 1) := nAd
  have w2 : i + 2 < 2147483648 := by omega
  have u2 : i + 2 < n := by omega
  have t2 : nI i + 2 = nI (i + 2) := nAd
  have w3 : i + 3 < 2147483648 := by omega
  have u3 : i + 3 < n := by omega
  have t3 : nI i + 3 = nI (i + 3) := nAd
  rcases hv with ⟨hv, z, rfl⟩ | ⟨hv, z, rfl⟩
  · simp only [g192_711, g192_712, g192_713, g192_714, g192_715, g192_716, g192_717, g192_718, g192_719, g192_720, g192_721, g192_722, g192_723, g192_724, g192_725, g192_726, g192_727, g192_730, g192_731, g192_732, g192_733, g192_734, g192_735, g192_736, g192_737, g192_738, g192_739, g192_740, g192_741, g192_742, g192_743, g192_744, g192_745, g192_746, g192_749, g192_752, g192_753, ↓reduceIte, GV_s, GV_n, List.map_cons, List.map_nil, List.sum_cons, List.sum_nil, cat_i, cat_l, cat_r, Option.toList_some, Option.toList_none, List.cons_append, List.nil_append, true_and, and_true, Nat.reduceAdd, Nat.reduceLeDiff, Nat.zero_le, Nat.le_refl, Nat.add_zero, Nat.zero_add, ne_eq, Nat.reduceEqDiff, not_false_eq_true, not_true_eq_false, if_true, if_false, t1, vIN w1, nCl w1, u1, t2, vIN w2, nCl w2, u2, t3, vIN w3, nCl w3, u3, rc_90]
    refine X _ ?_
    simp only [g192_711, g192_712, g192_713, g192_714, g192_715, g192_716, g192_717, g192_718, g192_719, g192_720, g192_721, g192_722, g192_723, g192_724, g192_725, g192_726, g192_727, g192_730, g192_731, g192_732, g192_733, g192_734, g192_735, g192_736, g192_737, g192_738, g192_739, g192_740, g192_741, g192_742, g192_743, g192_744, g192_745, g192_746, g192_749, g192_752, g192_753, ↓reduceIte, GV_s, GV_n, List.map_cons, List.map_nil, List.sum_cons, List.sum_nil, cat_i, cat_l, cat_r, Option.toList_some, Option.toList_none, List.cons_append, List.nil_append, true_and, and_true, Nat.reduceAdd, Nat.reduceLeDiff, Nat.zero_le, Nat.le_refl, Nat.add_zero, Nat.zero_add, ne_eq, Nat.reduceEqDiff, not_false_eq_true, not_true_eq_false, if_true, if_false, t1, vIN w1, nCl w1, u1, t2, vIN w2, nCl w2, u2, t3, vIN w3, nCl w3, u3, rc_159]
    refine Y _ ?_
    simp only [g192_711, g192_712, g192_713, g192_714, g192_715, g192_716, g192_717, g192_718, g192_719, g192_720, g192_721, g192_722, g192_723, g192_724, g192_725, g192_726, g192_727, g192_730, g192_731, g192_732, g192_733, g192_734, g192_735, g192_736, g192_737, g192_738, g192_739, g192_740, g192_741, g192_742, g192_743, g192_744, g192_745, g192_746, g192_749, g192_752, g192_753, ↓reduceIte, GV_s, GV_n, List.map_cons, List.map_nil, List.sum_cons, List.sum_nil, cat_i, cat_l, cat_r, Option.toList_some, Option.toList_none, List.cons_append, List.nil_append, true_and, and_true, Nat.reduceAdd, Nat.reduceLeDiff, Nat.zero_le, Nat.le_refl, Nat.add_zero, Nat.zero_add, ne_eq, Nat.reduceEqDiff, not_false_eq_true, not_true_eq_false, if_true, if_false, t1, vIN w1, nCl w1, u1, t2, vIN w2, nCl w2, u2, t3, vIN w3, nCl w3, u3]
    exact K _ _ _ _ hI2
  · exact absurd hv (by decide)
theorem lw_17 (hI : Inv ai al fi fl) (hn : n ≤ 3072) (hi : i + 6 ≤ n) (K : ∀ ai al fi fl, Inv ai al fi fl → G (some (n, xf)) 192 1224 [.ref scP, .ref 0, .ref 55, .int (nI i)] [] (mk ai al fi fl) 86 16171 Q) : G (some (n, xf)) 192 754 [.ref scP, .ref 0, .ref 55, .int (nI i)] [] (mk ai al fi fl) 86 16171 Q := by
  obtain ⟨r, a1, l1, f1, g1, a2, l2, f2, g2, X, Y, hI2, hv⟩ := op17 hI (xf (i + 1)) (xf (i + 2))
  have w1 : i + 1 < 2147483648 := by omega
  have u1 : i + 1 < n := by omega
  have t1 : nI i + 1 = nI (i + 1) := nAd
  have w2 : i + 2 < 2147483648 := by omega
  have u2 : i + 2 < n := by omega
  have t2 : nI i + 2 = nI (i + 2) := nAd
  rcases hv with ⟨hv, z, rfl⟩ | ⟨hv, z, rfl⟩
  · simp only [g192_754, g192_755, g192_756, g192_757, g192_758, g192_759, g192_760, g192_761, g192_762, g192_763, g192_764, g192_765, g192_768, g192_769, g192_770, g192_771, g192_772, g192_773, g192_774, g192_775, g192_776, g192_777, g192_778, g192_779, g192_782, g192_785, g192_786, ↓reduceIte, GV_s, GV_n, List.map_cons, List.map_nil, List.sum_cons, List.sum_nil, cat_i, cat_l, cat_r, Option.toList_some, Option.toList_none, List.cons_append, List.nil_append, true_and, and_true, Nat.reduceAdd, Nat.reduceLeDiff, Nat.zero_le, Nat.le_refl, Nat.add_zero, Nat.zero_add, ne_eq, Nat.reduceEqDiff, not_false_eq_true, not_true_eq_false, if_true, if_false, t1, vIN w1, nCl w1, u1, t2, vIN w2, nCl w2, u2, rc_91]
    refine X _ ?_
    simp only [g192_754, g192_755, g192_756, g192_757, g192_758, g192_759, g192_760, g192_761, g192_762, g192_763, g192_764, g192_765, g192_768, g192_769, g192_770, g192_771, g192_772, g192_773, g192_774, g192_775, g192_776, g192_777, g192_778, g192_779, g192_782, g192_785, g192_786, ↓reduceIte, GV_s, GV_n, List.map_cons, List.map_nil, List.sum_cons, List.sum_nil, cat_i, cat_l, cat_r, Option.toList_some, Option.toList_none, List.cons_append, List.nil_append, true_and, and_true, Nat.reduceAdd, Nat.reduceLeDiff, Nat.zero_le, Nat.le_refl, Nat.add_zero, Nat.zero_add, ne_eq, Nat.reduceEqDiff, not_false_eq_true, not_true_eq_false, if_true, if_false, t1, vIN w1, nCl w1, u1, t2, vIN w2, nCl w2, u2, rc_160]
    refine Y _ ?_
    simp only [g192_754, g192_755, g192_756, g192_757, g192_758, g192_759, g192_760, g192_761, g192_762, g192_763, g192_764, g192_765, g192_768, g192_769, g192_770, g192_771, g192_772, g192_773, g192_774, g192_775, g192_776, g192_777, g192_778, g192_779, g192_782, g192_785, g192_786, ↓reduceIte, GV_s, GV_n, List.map_cons, List.map_nil, List.sum_cons, List.sum_nil, cat_i, cat_l, cat_r, Option.toList_some, Option.toList_none, List.cons_append, List.nil_append, true_and, and_true, Nat.reduceAdd, Nat.reduceLeDiff, Nat.zero_le, Nat.le_refl, Nat.add_zero, Nat.zero_add, ne_eq, Nat.reduceEqDiff, not_false_eq_true, not_true_eq_false, if_true, if_false, t1, vIN w1, nCl w1, u1, t2, vIN w2, nCl w2, u2]
    exact K _ _ _ _ hI2
  · exact absurd hv (by decide)
theorem lw_18 (hI : Inv ai al fi fl) (hn : n ≤ 3072) (hi : i + 6 ≤ n) (K : ∀ ai al fi fl, Inv ai al fi fl → G (some (n, xf)) 192 1224 [.ref scP, .ref 0, .ref 55, .int (nI i)] [] (mk ai al fi fl) 86 16171 Q) : G (some (n, xf)) 192 787 [.ref scP, .ref 0, .ref 55, .int (nI i)] [] (mk ai al fi fl) 86 16171 Q := by
  obtain ⟨r, a1, l1, f1, g1, a2, l2, f2, g2, X, Y, hI2, hv⟩ := op18 hI (xf (i + 1))
  have w1 : i + 1 < 2147483648 := by omega
  have u1 : i + 1 < n := by omega
  have t1 : nI i + 1 = nI (i + 1) := nAd
  rcases hv with ⟨hv, z, rfl⟩ | ⟨hv, z, rfl⟩
  · simp only [g192_787, g192_788, g192_789, g192_790, g192_791, g192_792, g192_793, g192_796, g192_797, g192_798, g192_799, g192_800, g192_801, g192_802, g192_805, g192_808, g192_809, ↓reduceIte, GV_s, GV_n, List.map_cons, List.map_nil, List.sum_cons, List.sum_nil, cat_i, cat_l, cat_r, Option.toList_some, Option.toList_none, List.cons_append, List.nil_append, true_and, and_true, Nat.reduceAdd, Nat.reduceLeDiff, Nat.zero_le, Nat.le_refl, Nat.add_zero, Nat.zero_add, ne_eq, Nat.reduceEqDiff, not_false_eq_true, not_true_eq_false, if_true, if_false, t1, vIN w1, nCl w1, u1, rc_92]
    refine X _ ?_
    simp only [g192_787, g192_788, g192_789, g192_790, g192_791, g192_792, g192_793, g192_796, g192_797, g192_798, g192_799, g192_800, g192_801, g192_802, g192_805, g192_808, g192_809, ↓reduceIte, GV_s, GV_n, List.map_cons, List.map_nil, List.sum_cons, List.sum_nil, cat_i, cat_l, cat_r, Option.toList_some, Option.toList_none, List.cons_append, List.nil_append, true_and, and_true, Nat.reduceAdd, Nat.reduceLeDiff, Nat.zero_le, Nat.le_refl, Nat.add_zero, Nat.zero_add, ne_eq, Nat.reduceEqDiff, not_false_eq_true, not_true_eq_false, if_true, if_false, t1, vIN w1, nCl w1, u1, rc_161]
    refine Y _ ?_
    simp only [g192_787, g192_788, g192_789, g192_790, g192_791, g192_792, g192_793, g192_796, g192_797, g192_798, g192_799, g192_800, g192_801, g192_802, g192_805, g192_808, g192_809, ↓reduceIte, GV_s, GV_n, List.map_cons, List.map_nil, List.sum_cons, List.sum_nil, cat_i, cat_l, cat_r, Option.toList_some, Option.toList_none, List.cons_append, List.nil_append, true_and, and_true, Nat.reduceAdd, Nat.reduceLeDiff, Nat.zero_le, Nat.le_refl, Nat.add_zero, Nat.zero_add, ne_eq, Nat.reduceEqDiff, not_false_eq_true, not_true_eq_false, if_true, if_false, t1, vIN w1, nCl w1, u1]
    exact K _ _ _ _ hI2
  · exact absurd hv (by decide)
theorem lw_19 (hI : Inv ai al fi fl) (hn : n ≤ 3072) (hi : i + 6 ≤ n) (K : ∀ ai al fi fl, Inv ai al fi fl → G (some (n, xf)) 192 1224 [.ref scP, .ref 0, .ref 55, .int (nI i)] [] (mk ai al fi fl) 86 16171 Q) : G (some (n, xf)) 192 810 [.ref scP, .ref 0, .ref 55, .int (nI i)] [] (mk ai al fi fl) 86 16171 Q := by
  obtain ⟨r, a1, l1, f1, g1, a2, l2, f2, g2, X, Y, hI2, hv⟩ := op19 hI (xf (i + 1))
  have w1 : i + 1 < 2147483648 := by omega
  have u1 : i + 1 < n := by omega
  have t1 : nI i + 1 = nI (i + 1) := nAd
  rcases hv with ⟨hv, z, rfl⟩ | ⟨hv, z, rfl⟩
  · simp only [g192_810, g192_811, g192_812, g192_813, g192_814, g192_815, g192_816, g192_819, g192_820, g192_821, g192_822, g192_823, g192_824, g192_825, g192_828, g192_831, g192_832, ↓reduceIte, GV_s, GV_n, List.map_cons, List.map_nil, List.sum_cons, List.sum_nil, cat_i, cat_l, cat_r, Option.toList_some, Option.toList_none, List.cons_append, List.nil_append, true_and, and_true, Nat.reduceAdd, Nat.reduceLeDiff, Nat.zero_le, Nat.le_refl, Nat.add_zero, Nat.zero_add, ne_eq, Nat.reduceEqDiff, not_false_eq_true, not_true_eq_false, if_true, if_false, t1, vIN w1, nCl w1, u1, rc_93]
    refine X _ ?_
    simp only [g192_810, g192_811, g192_812, g192_813, g192_814, g192_815, g192_816, g192_819, g192_820, g192_821, g192_822, g192_823, g192_824, g192_825, g192_828, g192_831, g192_832, ↓reduceIte, GV_s, GV_n, List.map_cons, List.map_nil, List.sum_cons, List.sum_nil, cat_i, cat_l, cat_r, Option.toList_some, Option.toList_none, List.cons_append, List.nil_append, true_and, and_true, Nat.reduceAdd, Nat.reduceLeDiff, Nat.zero_le, Nat.le_refl, Nat.add_zero, Nat.zero_add, ne_eq, Nat.reduceEqDiff, not_false_eq_true, not_true_eq_false, if_true, if_false, t1, vIN w1, nCl w1, u1, rc_163]
    refine Y _ ?_
    simp only [g192_810, g192_811, g192_812, g192_813, g192_814, g192_815, g192_816, g192_819, g192_820, g192_821, g192_822, g192_823, g192_824, g192_825, g192_828, g192_831, g192_832, ↓reduceIte, GV_s, GV_n, List.map_cons, List.map_nil, List.sum_cons, List.sum_nil, cat_i, cat_l, cat_r, Option.toList_some, Option.toList_none, List.cons_append, List.nil_append, true_and, and_true, Nat.reduceAdd, Nat.reduceLeDiff, Nat.zero_le, Nat.le_refl, Nat.add_zero, Nat.zero_add, ne_eq, Nat.reduceEqDiff, not_false_eq_true, not_true_eq_false, if_true, if_false, t1, vIN w1, nCl w1, u1]
    exact K _ _ _ _ hI2
  · exact absurd hv (by decide)
theorem lw_20 (hI : Inv ai al fi fl) (hn : n ≤ 3072) (hi : i + 6 ≤ n) (K : ∀ ai al fi fl, Inv ai al fi fl → G (some (n, xf)) 192 1224 [.ref scP, .ref 0, .ref 55, .int (nI i)] [] (mk ai al fi fl) 86 16171 Q) : G (some (n, xf)) 192 833 [.ref scP, .ref 0, .ref 55, .int (nI i)] [] (mk ai al fi fl) 86 16171 Q := by
  obtain ⟨r, a1, l1, f1, g1, a2, l2, f2, g2, X, Y, hI2, hv⟩ := op20 hI (xf (i + 1)) (xf (i + 2))
  have w1 : i + 1 < 2147483648 := by omega
  have u1 : i + 1 < n := by omega
  have t1 : nI i + 1 = nI (i + 1) := nAd
  have w2 : i + 2 < 2147483648 := by omega
  have u2 : i + 2 < n := by omega
  have t2 : nI i + 2 = nI (i + 2) := nAd
  rcases hv with ⟨hv, z, rfl⟩ | ⟨hv, z, rfl⟩
  · simp only [g192_833, g192_834, g192_835, g192_836, g192_837, g192_838, g192_839, g192_840, g192_841, g192_842, g192_843, g192_844, g192_847, g192_848, g192_849, g192_850, g192_851, g192_852, g192_853, g192_854, g192_855, g192_856, g192_857, g192_858, g192_861, g192_864, g192_865, ↓reduceIte, GV_s, GV_n, List.map_cons, List.map_nil, List.sum_cons, List.sum_nil, cat_i, cat_l, cat_r, Option.toList_some, Option.toList_none, List.cons_append, List.nil_append, true_and, and_true, Nat.reduceAdd, Nat.reduceLeDiff, Nat.zero_le, Nat.le_refl, Nat.add_zero, Nat.zero_add, ne_eq, Nat.reduceEqDiff, not_false_eq_true, not_true_eq_false, if_true, if_false, t1, vIN w1, nCl w1, u1, t2, vIN w2, nCl w2, u2, rc_94]
    refine X _ ?_
    simp only [g192_833, g192_834, g192_835, g192_836, g192_837, g192_838, g192_839, g192_840, g192_841, g192_842, g192_843, g192_844, g192_847, g192_848, g192_849, g192_850, g192_851, g192_852, g192_853, g192_854, g192_855, g192_856, g192_857, g192_858, g192_861, g192_864, g192_865, ↓reduceIte, GV_s, GV_n, List.map_cons, List.map_nil, List.sum_cons, List.sum_nil, cat_i, cat_l, cat_r, Option.toList_some, Option.toList_none, List.cons_append, List.nil_append, true_and, and_true, Nat.reduceAdd, Nat.reduceLeDiff, Nat.zero_le, Nat.le_refl, Nat.add_zero, Nat.zero_add, ne_eq, Nat.reduceEqDiff, not_false_eq_true, not_true_eq_false, if_true, if_false, t1, vIN w1, nCl w1, u1, t2, vIN w2, nCl w2, u2, rc_164]
    refine Y _ ?_
    simp only [g192_833, g192_834, g192_835, g192_836, g192_837, g192_838, g192_839, g192_840, g192_841, g192_842, g192_843, g192_844, g192_847, g192_848, g192_849, g192_850, g192_851, g192_852, g192_853, g192_854, g192_855, g192_856, g192_857, g192_858, g192_861, g192_864, g192_865, ↓reduceIte, GV_s, GV_n, List.map_cons, List.map_nil, List.sum_cons, List.sum_nil, cat_i, cat_l, cat_r, Option.toList_some, Option.toList_none, List.cons_append, List.nil_append, true_and, and_true, Nat.reduceAdd, Nat.reduceLeDiff, Nat.zero_le, Nat.le_refl, Nat.add_zero, Nat.zero_add, ne_eq, Nat.reduceEqDiff, not_false_eq_true, not_true_eq_false, if_true, if_false, t1, vIN w1, nCl w1, u1, t2, vIN w2, nCl w2, u2]
    exact K _ _ _ _ hI2
  · exact absurd hv (by decide)
theorem lw_21 (hI : Inv ai al fi fl) (hn : n ≤ 3072) (hi : i + 6 ≤ n) (K : ∀ ai al fi fl, Inv ai al fi fl → G (some (n, xf)) 192 1224 [.ref scP, .ref 0, .ref 55, .int (nI i)] [] (mk ai al fi fl) 86 16171 Q) : G (some (n, xf)) 192 866 [.ref scP, .ref 0, .ref 55, .int (nI i)] [] (mk ai al fi fl) 86 16171 Q := by
  obtain ⟨r, a1, l1, f1, g1, a2, l2, f2, g2, X, Y, hI2, hv⟩ := op21 hI 
  rcases hv with ⟨hv, z, rfl⟩ | ⟨hv, z, rfl⟩
  · simp only [g192_866, g192_867, g192_870, g192_871, g192_874, g192_877, g192_878, ↓reduceIte, GV_s, GV_n, List.map_cons, List.map_nil, List.sum_cons, List.sum_nil, cat_i, cat_l, cat_r, Option.toList_some, Option.toList_none, List.cons_append, List.nil_append, true_and, and_true, Nat.reduceAdd, Nat.reduceLeDiff, Nat.zero_le, Nat.le_refl, Nat.add_zero, Nat.zero_add, ne_eq, Nat.reduceEqDiff, not_false_eq_true, not_true_eq_false, if_true, if_false, rc_95]
    refine X _ ?_
    simp only [g192_866, g192_867, g192_870, g192_871, g192_874, g192_877, g192_878, ↓reduceIte, GV_s, GV_n, List.map_cons, List.map_nil, List.sum_cons, List.sum_nil, cat_i, cat_l, cat_r, Option.toList_some, Option.toList_none, List.cons_append, List.nil_append, true_and, and_true, Nat.reduceAdd, Nat.reduceLeDiff, Nat.zero_le, Nat.le_refl, Nat.add_zero, Nat.zero_add, ne_eq, Nat.reduceEqDiff, not_false_eq_true, not_true_eq_false, if_true, if_false, rc_168]
    refine Y _ ?_
    simp only [g192_866, g192_867, g192_870, g192_871, g192_874, g192_877, g192_878, ↓reduceIte, GV_s, GV_n, List.map_cons, List.map_nil, List.sum_cons, List.sum_nil, cat_i, cat_l, cat_r, Option.toList_some, Option.toList_none, List.cons_append, List.nil_append, true_and, and_true, Nat.reduceAdd, Nat.reduceLeDiff, Nat.zero_le, Nat.le_refl, Nat.add_zero, Nat.zero_add, ne_eq, Nat.reduceEqDiff, not_false_eq_true, not_true_eq_false, if_true, if_false]
    exact K _ _ _ _ hI2
  · exact absurd hv (by decide)
theorem lw_22 (hI : Inv ai al fi fl) (hn : n ≤ 3072) (hi : i + 6 ≤ n) (K : ∀ ai al fi fl, Inv ai al fi fl → G (some (n, xf)) 192 1224 [.ref scP, .ref 0, .ref 55, .int (nI i)] [] (mk ai al fi fl) 86 16171 Q) : G (some (n, xf)) 192 879 [.ref scP, .ref 0, .ref 55, .int (nI i)] [] (mk ai al fi fl) 86 16171 Q := by
  obtain ⟨r, a1, l1, f1, g1, a2, l2, f2, g2, X, Y, hI2, hv⟩ := op22 hI (xf (i + 1)) (xf (i + 2))
  have w1 : i + 1 < 2147483648 := by omega
  have u1 : i + 1 < n := by omega
  have t1 : nI i + 1 = nI (i + 1) := nAd
  have w2 : i + 2 < 2147483648 := by omega
  have u2 : i + 2 < n := by omega
  have t2 : nI i + 2 = nI (i + 2) := nAd
  rcases hv with ⟨hv, z, rfl⟩ | ⟨hv, z, rfl⟩
  · simp only [g192_879, g192_880, g192_881, g192_882, g192_883, g192_884, g192_885, g192_886, g192_887, g192_888, g192_889, g192_890, g192_893, g192_894, g192_895, g192_896, g192_897, g192_898, g192_899, g192_900, g192_901, g192_902, g192_903, g192_904, g192_907, g192_910, g192_911, ↓reduceIte, GV_s, GV_n, List.map_cons, List.map_nil, List.sum_cons, List.sum_nil, cat_i, cat_l, cat_r, Option.toList_some, Option.toList_none, List.cons_append, List.nil_append, true_and, and_true, Nat.reduceAdd, Nat.reduceLeDiff, Nat.zero_le, Nat.le_refl, Nat.add_zero, Nat.zero_add, ne_eq, Nat.reduceEqDiff, not_false_eq_true, not_true_eq_false, if_true, if_false, t1, vIN w1, nCl w1, u1, t2, vIN w2, nCl w2, u2, rc_96]
    refine X _ ?_
    simp only [g192_879, g192_880, g192_881, g192_882, g192_883, g192_884, g192_885, g192_886, g192_887, g192_888, g192_889, g192_890, g192_893, g192_894, g192_895, g192_896, g192_897, g192_898, g192_899, g192_900, g192_901, g192_902, g192_903, g192_904, g192_907, g192_910, g192_911, ↓reduceIte, GV_s, GV_n, List.map_cons, List.map_nil, List.sum_cons, List.sum_nil, cat_i, cat_l, cat_r, Option.toList_some, Option.toList_none, List.cons_append, List.nil_append, true_and, and_true, Nat.reduceAdd, Nat.reduceLeDiff, Nat.zero_le, Nat.le_refl, Nat.add_zero, Nat.zero_add, ne_eq, Nat.reduceEqDiff, not_false_eq_true, not_true_eq_false, if_true, if_false, t1, vIN w1, nCl w1, u1, t2, vIN w2, nCl w2, u2, rc_169]
    refine Y _ ?_
    simp only [g192_879, g192_880, g192_881, g192_882, g192_883, g192_884, g192_885, g192_886, g192_887, g192_888, g192_889, g192_890, g192_893, g192_894, g192_895, g192_896, g192_897, g192_898, g192_899, g192_900, g192_901, g192_902, g192_903, g192_904, g192_907, g192_910, g192_911, ↓reduceIte, GV_s, GV_n, List.map_cons, List.map_nil, List.sum_cons, List.sum_nil, cat_i, cat_l, cat_r, Option.toList_some, Option.toList_none, List.cons_append, List.nil_append, true_and, and_true, Nat.reduceAdd, Nat.reduceLeDiff, Nat.zero_le, Nat.le_refl, Nat.add_zero, Nat.zero_add, ne_eq, Nat.reduceEqDiff, not_false_eq_true, not_true_eq_false, if_true, if_false, t1, vIN w1, nCl w1, u1, t2, vIN w2, nCl w2, u2]
    exact K _ _ _ _ hI2
  · exact absurd hv (by decide)
theorem lw_23 (hI : Inv ai al fi fl) (hn : n ≤ 3072) (hi : i + 6 ≤ n) (K : ∀ ai al fi fl, Inv ai al fi fl → G (some (n, xf)) 192 1224 [.ref scP, .ref 0, .ref 55, .int (nI i)] [] (mk ai al fi fl) 86 16171 Q) : G (some (n, xf)) 192 912 [.ref scP, .ref 0, .ref 55, .int (nI i)] [] (mk ai al fi fl) 86 16171 Q := by
  obtain ⟨r, a1, l1, f1, g1, a2, l2, f2, g2, X, Y, hI2, hv⟩ := op23 hI (xf (i + 1)) (xf (i + 2)) (xf (i + 3))
  have w1 : i + 1 < 2147483648 := by omega
  have u1 : i + 1 < n := by omega
  have t1 : nI i + 1 = nI (i + 1) := nAd
  have w2 : i + 2 < 2147483648 := by omega
  have u2 : i + 2 < n := by omega
  have t2 : nI i + 2 = nI (i + 2) := nAd
  have w3 : i + 3 < 2147483648 := by omega
  have u3 : i + 3 < n := by omega
  have t3 : nI i + 3 = nI (i + 3) := nAd
  rcases hv with ⟨hv, z, rfl⟩ | ⟨hv, z, rfl⟩
  · simp only [g192_912, g192_913, g192_914, g192_915, g192_916, g192_917, g192_918, g192_919, g192_920, g192_921, g192_922, g192_923, g192_924, g192_925, g192_926, g192_927, g192_928, g192_931, g192_932, g192_933, g192_934, g192_935, g192_936, g192_937, g192_938, g192_939, g192_940, g192_941, g192_942, g192_943, g192_944, g192_945, g192_946, g192_947, g192_950, g192_953, g192_954, ↓reduceIte, GV_s, GV_n, List.map_cons, List.map_nil, List.sum_cons, List.sum_nil, cat_i, cat_l, cat_r, Option.toList_some, Option.toList_none, List.cons_append, List.nil_append, true_and, and_true, Nat.reduceAdd, Nat.reduceLeDiff, Nat.zero_le, Nat.le_refl, Nat.add_zero, Nat.zero_add, ne_eq, Nat.reduceEqDiff, not_false_eq_true, not_true_eq_false, if_true, if_false, t1, vIN w1, nCl w1, u1, t2, vIN w2, nCl w2, u2, t3, vIN w3, nCl w3, u3, rc_97]
    refine X _ ?_
    simp only [g192_912, g192_913, g192_914, g192_915, g192_916, g192_917, g192_918, g192_919, g192_920, g192_921, g192_922, g192_923, g192_924, g192_925, g192_926, g192_927, g192_928, g192_931, g192_932, g192_933, g192_934, g192_935, g192_936, g192_937, g192_938, g192_939, g192_940, g192_941, g192_942, g192_943, g192_944, g192_945, g192_946, g192_947, g192_950, g192_953, g192_954, ↓reduceIte, GV_s, GV_n, List.map_cons, List.map_nil, List.sum_cons, List.sum_nil, cat_i, cat_l, cat_r, Option.toList_some, Option.toList_none, List.cons_append, List.nil_append, true_and, and_true, Nat.reduceAdd, Nat.reduceLeDiff, Nat.zero_le, Nat.le_refl, Nat.add_zero, Nat.zero_add, ne_eq, Nat.reduceEqDiff, not_false_eq_true, not_true_eq_false, if_true, if_false, t1, vIN w1, nCl w1, u1, t2, vIN w2, nCl w2, u2, t3, vIN w3, nCl w3, u3, rc_170]
    refine Y _ ?_
    simp only [g192_912, g192_913, g192_914, g192_915, g192_916, g192_917, g192_918, g192_919, g192_920, g192_921, g192_922, g192_923, g192_924, g192_925, g192_926, g192_927, g192_928, g192_931, g192_932, g192_933, g192_934, g192_935, g192_936, g192_937, g192_938, g192_939, g192_940, g192_941, g192_942, g192_943, g192_944, g192_945, g192_946, g192_947, g192_950, g192_953, g192_954, ↓reduceIte, GV_s, GV_n, List.map_cons, List.map_nil, List.sum_cons, List.sum_nil, cat_i, cat_l, cat_r, Option.toList_some, Option.toList_none, List.cons_append, List.nil_append, true_and, and_true, Nat.reduceAdd, Nat.reduceLeDiff, Nat.zero_le, Nat.le_refl, Nat.add_zero, Nat.zero_add, ne_eq, Nat.reduceEqDiff, not_false_eq_true, not_true_eq_false, if_true, if_false, t1, vIN w1, nCl w1, u1, t2, vIN w2, nCl w2, u2, t3, vIN w3, nCl w3, u3]
    exact K _ _ _ _ hI2
  · exact absurd hv (by decide)
theorem lw_24 (hI : Inv ai al fi fl) (hn : n ≤ 3072) (hi : i + 6 ≤ n) (K : ∀ ai al fi fl, Inv ai al fi fl → G (some (n, xf)) 192 1224 [.ref scP, .ref 0, .ref 55, .int (nI i)] [] (mk ai al fi fl) 86 16171 Q) : G (some (n, xf)) 192 955 [.ref scP, .ref 0, .ref 55, .int (nI i)] [] (mk ai al fi fl) 86 16171 Q := by
  obtain ⟨r, a1, l1, f1, g1, a2, l2, f2, g2, X, Y, hI2, hv⟩ := op24 hI (xf (i + 1))
  have w1 : i + 1 < 2147483648 := by omega
  have u1 : i + 1 < n := by omega
  have t1 : nI i + 1 = nI (i + 1) := nAd
  rcases hv with ⟨hv, z, rfl⟩ | ⟨hv, z, rfl⟩
  · exact absurd hv (by decide)
  · simp only [g192_955, g192_956, g192_957, g192_958, g192_959, g192_960, g192_961, g192_964, g192_965, g192_966, g192_967, g192_968, g192_969, g192_970, g192_973, g192_974, g192_977, g192_978, ↓reduceIte, GV_s, GV_n, List.map_cons, List.map_nil, List.sum_cons, List.sum_nil, cat_i, cat_l, cat_r, Option.toList_some, Option.toList_none, List.cons_append, List.nil_append, true_and, and_true, Nat.reduceAdd, Nat.reduceLeDiff, Nat.zero_le, Nat.le_refl, Nat.add_zero, Nat.zero_add, ne_eq, Nat.reduceEqDiff, not_false_eq_true, not_true_eq_false, if_true, if_false, t1, vIN w1, nCl w1, u1, rc_98]
    refine X _ ?_
    simp only [g192_955, g192_956, g192_957, g192_958, g192_959, g192_960, g192_961, g192_964, g192_965, g192_966, g192_967, g192_968, g192_969, g192_970, g192_973, g192_974, g192_977, g192_978, ↓reduceIte, GV_s, GV_n, List.map_cons, List.map_nil, List.sum_cons, List.sum_nil, cat_i, cat_l, cat_r, Option.toList_some, Option.toList_none, List.cons_append, List.nil_append, true_and, and_true, Nat.reduceAdd, Nat.reduceLeDiff, Nat.zero_le, Nat.le_refl, Nat.add_zero, Nat.zero_add, ne_eq, Nat.reduceEqDiff, not_false_eq_true, not_true_eq_false, if_true, if_false, t1, vIN w1, nCl w1, u1, rc_172]
    refine Y _ ?_
    simp only [g192_955, g192_956, g192_957, g192_958, g192_959, g192_960, g192_961, g192_964, g192_965, g192_966, g192_967, g192_968, g192_969, g192_970, g192_973, g192_974, g192_977, g192_978, ↓reduceIte, GV_s, GV_n, List.map_cons, List.map_nil, List.sum_cons, List.sum_nil, cat_i, cat_l, cat_r, Option.toList_some, Option.toList_none, List.cons_append, List.nil_append, true_and, and_true, Nat.reduceAdd, Nat.reduceLeDiff, Nat.zero_le, Nat.le_refl, Nat.add_zero, Nat.zero_add, ne_eq, Nat.reduceEqDiff, not_false_eq_true, not_true_eq_false, if_true, if_false, t1, vIN w1, nCl w1, u1, lg_cmp_eq]
    exact K _ _ _ _ hI2
theorem lw_25 (hI : Inv ai al fi fl) (hn : n ≤ 3072) (hi : i + 6 ≤ n) (K : ∀ ai al fi fl, Inv ai al fi fl → G (some (n, xf)) 192 1224 [.ref scP, .ref 0, .ref 55, .int (nI i)] [] (mk ai al fi fl) 86 16171 Q) : G (some (n, xf)) 192 979 [.ref scP, .ref 0, .ref 55, .int (nI i)] [] (mk ai al fi fl) 86 16171 Q := by
  obtain ⟨r, a1, l1, f1, g1, a2, l2, f2, g2, X, Y, hI2, hv⟩ := op25 hI 
  rcases hv with ⟨hv, z, rfl⟩ | ⟨hv, z, rfl⟩
  · simp only [g192_979, g192_980, g192_983, g192_984, g192_987, g192_990, g192_991, ↓reduceIte, GV_s, GV_n, List.map_cons, List.map_nil, List.sum_cons, List.sum_nil, cat_i, cat_l, cat_r, Option.toList_some, Option.toList_none, List.cons_append, List.nil_append, true_and, and_true, Nat.reduceAdd, Nat.reduceLeDiff, Nat.zero_le, Nat.le_refl, Nat.add_zero, Nat.zero_add, ne_eq, Nat.reduceEqDiff, not_false_eq_true, not_true_eq_false, if_true, if_false, rc_99]
    refine X _ ?_
    simp only [g192_979, g192_980, g192_983, g192_984, g192_987, g192_990, g192_991, ↓reduceIte, GV_s, GV_n, List.map_cons, List.map_nil, List.sum_cons, List.sum_nil, cat_i, cat_l, cat_r, Option.toList_some, Option.toList_none, List.cons_append, List.nil_append, true_and, and_true, Nat.reduceAdd, Nat.reduceLeDiff, Nat.zero_le, Nat.le_refl, Nat.add_zero, Nat.zero_add, ne_eq, Nat.reduceEqDiff, not_false_eq_true, not_true_eq_false, if_true, if_false, rc_176]
    refine Y _ ?_
    simp only [g192_979, g192_980, g192_983, g192_984, g192_987, g192_990, g192_991, ↓reduceIte, GV_s, GV_n, List.map_cons, List.map_nil, List.sum_cons, List.sum_nil, cat_i, cat_l, cat_r, Option.toList_some, Option.toList_none, List.cons_append, List.nil_append, true_and, and_true, Nat.reduceAdd, Nat.reduceLeDiff, Nat.zero_le, Nat.le_refl, Nat.add_zero, Nat.zero_add, ne_eq, Nat.reduceEqDiff, not_false_eq_true, not_true_eq_false, if_true, if_false]
    exact K _ _ _ _ hI2
  · exact absurd hv (by decide)
theorem lw_26 (hI : Inv ai al fi fl) (hn : n ≤ 3072) (hi : i + 6 ≤ n) (K : ∀ ai al fi fl, Inv ai al fi fl → G (some (n, xf)) 192 1224 [.ref scP, .ref 0, .ref 55, .int (nI i)] [] (mk ai al fi fl) 86 16171 Q) : G (some (n, xf)) 192 992 [.ref scP, .ref 0, .ref 55, .int (nI i)] [] (mk ai al fi fl) 86 16171 Q := by
  obtain ⟨r, a1, l1, f1, g1, a2, l2, f2, g2, X, Y, hI2, hv⟩ := op26 hI (xf (i + 1)) (xf (i + 2))
  have w1 : i + 1 < 2147483648 := by omega
  have u1 : i + 1 < n := by omega
  have t1 : nI i + 1 = nI (i + 1) := nAd
  have w2 : i + 2 < 2147483648 := by omega
  have u2 : i + 2 < n := by omega
  have t2 : nI i + 2 = nI (i + 2) := nAd
  rcases hv with ⟨hv, z, rfl⟩ | ⟨hv, z, rfl⟩
  · exact absurd hv (by decide)
  · simp only [g192_992, g192_993, g192_994, g192_995, g192_996, g192_997, g192_998, g192_999, g192_1000, g192_1001, g192_1002, g192_1003, g192_1006, g192_1007, g192_1008, g192_1009, g192_1010, g192_1011, g192_1012, g192_1013, g192_1014, g192_1015, g192_1016, g192_1017, g192_1020, g192_1021, g192_1024, g192_1025, ↓reduceIte, GV_s, GV_n, List.map_cons, List.map_nil, List.sum_cons, List.sum_nil, cat_i, cat_l, cat_r, Option.toList_some, Option.toList_none, List.cons_append, List.nil_append, true_and, and_true, Nat.reduceAdd, Nat.reduceLeDiff, Nat.zero_le, Nat.le_refl, Nat.add_zero, Nat.zero_add, ne_eq, Nat.reduceEqDiff, not_false_eq_true, not_true_eq_false, if_true, if_false, t1, vIN w1, nCl w1, u1, t2, vIN w2, nCl w2, u2, rc_100]
    refine X _ ?_
    simp only [g192_992, g192_993, g192_994, g192_995, g192_996, g192_997, g192_998, g192_999, g192_1000, g192_1001, g192_1002, g192_1003, g192_1006, g192_1007, g192_1008, g192_1009, g192_1010, g192_1011, g192_1012, g192_1013, g192_1014, g192_1015, g192_1016, g192_1017, g192_1020, g192_1021, g192_1024, g192_1025, ↓reduceIte, GV_s, GV_n, List.map_cons, List.map_nil, List.sum_cons, List.sum_nil, cat_i, cat_l, cat_r, Option.toList_some, Option.toList_none, List.cons_append, List.nil_append, true_and, and_true, Nat.reduceAdd, Nat.reduceLeDiff, Nat.zero_le, Nat.le_refl, Nat.add_zero, Nat.zero_add, ne_eq, Nat.reduceEqDiff, not_false_eq_true, not_true_eq_false, if_true, if_false, t1, vIN w1, nCl w1, u1, t2, vIN w2, nCl w2, u2, rc_177]
    refine Y _ ?_
    simp only [g192_992, g192_993, g192_994, g192_995, g192_996, g192_997, g192_998, g192_999, g192_1000, g192_1001, g192_1002, g192_1003, g192_1006, g192_1007, g192_1008, g192_1009, g192_1010, g192_1011, g192_1012, g192_1013, g192_1014, g192_1015, g192_1016, g192_1017, g192_1020, g192_1021, g192_1024, g192_1025, ↓reduceIte, GV_s, GV_n, List.map_cons, List.map_nil, List.sum_cons, List.sum_nil, cat_i, cat_l, cat_r, Option.toList_some, Option.toList_none, List.cons_append, List.nil_append, true_and, and_true, Nat.reduceAdd, Nat.reduceLeDiff, Nat.zero_le, Nat.le_refl, Nat.add_zero, Nat.zero_add, ne_eq, Nat.reduceEqDiff, not_false_eq_true, not_true_eq_false, if_true, if_false, t1, vIN w1, nCl w1, u1, t2, vIN w2, nCl w2, u2, lg_cmp_eq]
    exact K _ _ _ _ hI2
theorem lw_27 (hI : Inv ai al fi fl) (hn : n ≤ 3072) (hi : i + 6 ≤ n) (K : ∀ ai al fi fl, Inv ai al fi fl → G (some (n, xf)) 192 1224 [.ref scP, .ref 0, .ref 55, .int (nI i)] [] (mk ai al fi fl) 86 16171 Q) : G (some (n, xf)) 192 1026 [.ref scP, .ref 0, .ref 55, .int (nI i)] [] (mk ai al fi fl) 86 16171 Q := by
  obtain ⟨r, a1, l1, f1, g1, a2, l2, f2, g2, X, Y, hI2, hv⟩ := op27 hI 
  rcases hv with ⟨hv, z, rfl⟩ | ⟨hv, z, rfl⟩
  · simp only [g192_1026, g192_1027, g192_1030, g192_1031, g192_1034, g192_1037, g192_1038, ↓reduceIte, GV_s, GV_n, List.map_cons, List.map_nil, List.sum_cons, List.sum_nil, cat_i, cat_l, cat_r, Option.toList_some, Option.toList_none, List.cons_append, List.nil_append, true_and, and_true, Nat.reduceAdd, Nat.reduceLeDiff, Nat.zero_le, Nat.le_refl, Nat.add_zero, Nat.zero_add, ne_eq, Nat.reduceEqDiff, not_false_eq_true, not_true_eq_false, if_true, if_false, rc_101]
    refine X _ ?_
    simp only [g192_1026, g192_1027, g192_1030, g192_1031, g192_1034, g192_1037, g192_1038, ↓reduceIte, GV_s, GV_n, List.map_cons, List.map_nil, List.sum_cons, List.sum_nil, cat_i, cat_l, cat_r, Option.toList_some, Option.toList_none, List.cons_append, List.nil_append, true_and, and_true, Nat.reduceAdd, Nat.reduceLeDiff, Nat.zero_le, Nat.le_refl, Nat.add_zero, Nat.zero_add, ne_eq, Nat.reduceEqDiff, not_false_eq_true, not_true_eq_false, if_true, if_false, rc_178]
    refine Y _ ?_
    simp only [g192_1026, g192_1027, g192_1030, g192_1031, g192_1034, g192_1037, g192_1038, ↓reduceIte, GV_s, GV_n, List.map_cons, List.map_nil, List.sum_cons, List.sum_nil, cat_i, cat_l, cat_r, Option.toList_some, Option.toList_none, List.cons_append, List.nil_append, true_and, and_true, Nat.reduceAdd, Nat.reduceLeDiff, Nat.zero_le, Nat.le_refl, Nat.add_zero, Nat.zero_add, ne_eq, Nat.reduceEqDiff, not_false_eq_true, not_true_eq_false, if_true, if_false]
    exact K _ _ _ _ hI2
  · exact absurd hv (by decide)
theorem lw_28 (hI : Inv ai al fi fl) (hn : n ≤ 3072) (hi : i + 6 ≤ n) (K : ∀ ai al fi fl, Inv ai al fi fl → G (some (n, xf)) 192 1224 [.ref scP, .ref 0, .ref 55, .int (nI i)] [] (mk ai al fi fl) 86 16171 Q) : G (some (n, xf)) 192 1039 [.ref scP, .ref 0, .ref 55, .int (nI i)] [] (mk ai al fi fl) 86 16171 Q := by
  obtain ⟨r, a1, l1, f1, g1, a2, l2, f2, g2, X, Y, hI2, hv⟩ := op28 hI (xf (i + 1)) (xf (i + 2)) (xf (i + 3))
  have w1 : i + 1 < 2147483648 := by omega
  have u1 : i + 1 < n := by omega
  have t1 : nI i + 1 = nI (i + 1) := nAd
  have w2 : i + 2 < 2147483648 := by omega
  have u2 : i + 2 < n := by omega
  have t2 : nI i + 2 = nI (i + 2) := nAd
  have w3 : i + 3 < 2147483648 := by omega
  have u3 : i + 3 < n := by omega
  have t3 : nI i + 3 = nI (i + 3) := nAd
  rcases hv with ⟨hv, z, rfl⟩ | ⟨hv, z, rfl⟩
  · simp only [g192_1039, g192_1040, g192_1041, g192_1042, g192_1043, g192_1044, g192_1045, g192_1046, g192_1047, g192_1048, g192_1049, g192_1050, g192_1051, g192_1052, g192_1053, g192_1054, g192_1055, g192_1058, g192_1059, g192_1060, g192_1061, g192_1062, g192_1063, g192_1064, g192_1065, g192_1066, g192_1067, g192_1068, g192_1069, g192_1070, g192_1071, g192_1072, g192_1073, g192_1074, g192_1077, g192_1080, g192_1081, ↓reduceIte, GV_s, GV_n, List.map_cons, List.map_nil, List.sum_cons, List.sum_nil, cat_i, cat_l, cat_r, Option.toList_some, Option.toList_none, List.cons_append, List.nil_append, true_and, and_true, Nat.reduceAdd, Nat.reduceLeDiff, Nat.zero_le, Nat.le_refl, Nat.add_zero, Nat.zero_add, ne_eq, Nat.reduceEqDiff, not_false_eq_true, not_true_eq_false, if_true, if_false, t1, vIN w1, nCl w1, u1, t2, vIN w2, nCl w2, u2, t3, vIN w3, nCl w3, u3, rc_102]
    refine X _ ?_
    simp only [g192_1039, g192_1040, g192_1041, g192_1042, g192_1043, g192_1044, g192_1045, g192_1046, g192_1047, g192_1048, g192_1049, g192_1050, g192_1051, g192_1052, g192_1053, g192_1054, g192_1055, g192_1058, g192_1059, g192_1060, g192_1061, g192_1062, g192_1063, g192_1064, g192_1065, g192_1066, g192_1067, g192_1068, g192_1069, g192_1070, g192_1071, g192_1072, g192_1073, g192_1074, g192_1077, g192_1080, g192_1081, ↓reduceIte, GV_s, GV_n, List.map_cons, List.map_nil, List.sum_cons, List.sum_nil, cat_i, cat_l, cat_r, Option.toList_some, Option.toList_none, List.cons_append, List.nil_append, true_and, and_true, Nat.reduceAdd, Nat.reduceLeDiff, Nat.zero_le, Nat.le_refl, Nat.add_zero, Nat.zero_add, ne_eq, Nat.reduceEqDiff, not_false_eq_true, not_true_eq_false, if_true, if_false, t1, vIN w1, nCl w1, u1, t2, vIN w2, nCl w2, u2, t3, vIN w3, nCl w3, u3, rc_180]
    refine Y _ ?_
    simp only [g192_1039, g192_1040, g192_1041, g192_1042, g192_1043, g192_1044, g192_1045, g192_1046, g192_1047, g192_1048, g192_1049, g192_1050, g192_1051, g192_1052, g192_1053, g192_1054, g192_1055, g192_1058, g192_1059, g192_1060, g192_1061, g192_1062, g192_1063, g192_1064, g192_1065, g192_1066, g192_1067, g192_1068, g192_1069, g192_1070, g192_1071, g192_1072, g192_1073, g192_1074, g192_1077, g192_1080, g192_1081, ↓reduceIte, GV_s, GV_n, List.map_cons, List.map_nil, List.sum_cons, List.sum_nil, cat_i, cat_l, cat_r, Option.toList_some, Option.toList_none, List.cons_append, List.nil_append, true_and, and_true, Nat.reduceAdd, Nat.reduceLeDiff, Nat.zero_le, Nat.le_refl, Nat.add_zero, Nat.zero_add, ne_eq, Nat.reduceEqDiff, not_false_eq_true, not_true_eq_false, if_true, if_false, t1, vIN w1, nCl w1, u1, t2, vIN w2, nCl w2, u2, t3, vIN w3, nCl w3, u3]
    exact K _ _ _ _ hI2
  · exact absurd hv (by decide)
theorem lw_29 (hI : Inv ai al fi fl) (hn : n ≤ 3072) (hi : i + 6 ≤ n) (K : ∀ ai al fi fl, Inv ai al fi fl → G (some (n, xf)) 192 1224 [.ref scP, .ref 0, .ref 55, .int (nI i)] [] (mk ai al fi fl) 86 16171 Q) : G (some (n, xf)) 192 1082 [.ref scP, .ref 0, .ref 55, .int (nI i)] [] (mk ai al fi fl) 86 16171 Q := by
  obtain ⟨r, a1, l1, f1, g1, a2, l2, f2, g2, X, Y, hI2, hv⟩ := op29 hI (xf (i + 1)) (xf (i + 2)) (xf (i + 3)) (xf (i + 4)) (xf (i + 5))
  have w1 : i + 1 < 2147483648 := by omega
  have u1 : i + 1 < n := by omega
  have t1 : nI i + 1 = nI (i + 1) := nAd
  have w2 : i + 2 < 2147483648 := by omega
  have u2 : i + 2 < n := by omega
  have t2 : nI i + 2 = nI (i + 2) := nAd
  have w3 : i + 3 < 2147483648 := by omega
  have u3 : i + 3 < n := by omega
  have t3 : nI i + 3 = nI (i + 3) := nAd
  have w4 : i + 4 < 2147483648 := by omega
  have u4 : i + 4 < n := by omega
  have t4 : nI i + 4 = nI (i + 4) := nAd
  have w5 : i + 5 < 2147483648 := by omega
  have u5 : i + 5 < n := by omega
  have t5 : nI i + 5 = nI (i + 5) := nAd
  rcases hv with ⟨hv, z, rfl⟩ | ⟨hv, z, rfl⟩
  · simp only [g192_1082, g192_1083, g192_1084, g192_1085, g192_1086, g192_1087, g192_1088, g192_1089, g192_1090, g192_1091, g192_1092, g192_1093, g192_1094, g192_1095, g192_1096, g192_1097, g192_1098, g192_1099, g192_1100, g192_1101, g192_1102, g192_1103, g192_1104, g192_1105, g192_1106, g192_1107, g192_1108, g192_1111, g192_1112, g192_1113, g192_1114, g192_1115, g192_1116, g192_1117, g192_1118, g192_1119, g192_1120, g192_1121, g192_1122, g192_1123, g192_1124, g192_1125, g192_1126, g192_1127, g192_1128, g192_1129, g192_1130, g192_1131, g192_1132, g192_1133, g192_1134, g192_1135, g192_1136, g192_1137, g192_1140, g192_1143, g192_1144, ↓reduceIte, GV_s, GV_n, List.map_cons, List.map_nil, List.sum_cons, List.sum_nil, cat_i, cat_l, cat_r, Option.toList_some, Option.toList_none, List.cons_append, List.nil_append, true_and, and_true, Nat.reduceAdd, Nat.reduceLeDiff, Nat.zero_le, Nat.le_refl, Nat.add_zero, Nat.zero_add, ne_eq, Nat.reduceEqDiff, not_false_eq_true, not_true_eq_false, if_true, if_false, t1, vIN w1, nCl w1, u1, t2, vIN w2, nCl w2, u2, t3, vIN w3, nCl w3, u3, t4, vIN w4, nCl w4, u4, t5, vIN w5, nCl w5, u5, rc_103]
    refine X _ ?_
    simp only [g192_1082, g192_1083, g192_1084, g192_1085, g192_1086, g192_1087, g192_1088, g192_1089, g192_1090, g192_1091, g192_1092, g192_1093, g192_1094, g192_1095, g192_1096, g192_1097, g192_1098, g192_1099, g192_1100, g192_1101, g192_1102, g192_1103, g192_1104, g192_1105, g192_1106, g192_1107, g192_1108, g192_1111, g192_1112, g192_1113, g192_1114, g192_1115, g192_1116, g192_1117, g192_1118, g192_1119, g192_1120, g192_1121, g192_1122, g192_1123, g192_1124, g192_1125, g192_1126, g192_1127, g192_1128, g192_1129, g192_1130, g192_1131, g192_1132, g192_1133, g192_1134, g192_1135, g192_1136, g192_1137, g192_1140, g192_1143, g192_1144, ↓reduceIte, GV_s, GV_n, List.map_cons, List.map_nil, List.sum_cons, List.sum_nil, cat_i, cat_l, cat_r, Option.toList_some, Option.toList_none, List.cons_append, List.nil_append, true_and, and_true, Nat.reduceAdd, Nat.reduceLeDiff, Nat.zero_le, Nat.le_refl, Nat.add_zero, Nat.zero_add, ne_eq, Nat.reduceEqDiff, not_false_eq_true, not_true_eq_false, if_true, if_false, t1, vIN w1, nCl w1, u1, t2, vIN w2, nCl w2, u2, t3, vIN w3, nCl w3, u3, t4, vIN w4, nCl w4, u4, t5, vIN w5, nCl w5, u5, rc_181]
    refine Y _ ?_
    simp only [g192_1082, g192_1083, g192_1084, g192_1085, g192_1086, g192_1087, g192_1088, g192_1089, g192_1090, g192_1091, g192_1092, g192_1093, g192_1094, g192_1095, g192_1096, g192_1097, g192_1098, g192_1099, g192_1100, g192_1101, g192_1102, g192_1103, g192_1104, g192_1105, g192_1106, g192_1107, g192_1108, g192_1111, g192_1112, g192_1113, g192_1114, g192_1115, g192_1116, g192_1117, g192_1118, g192_1119, g192_1120, g192_1121, g192_1122, g192_1123, g192_1124, g192_1125, g192_1126, g192_1127, g192_1128, g192_1129, g192_1130, g192_1131, g192_1132, g192_1133, g192_1134, g192_1135, g192_1136, g192_1137, g192_1140, g192_1143, g192_1144, ↓reduceIte, GV_s, GV_n, List.map_cons, List.map_nil, List.sum_cons, List.sum_nil, cat_i, cat_l, cat_r, Option.toList_some, Option.toList_none, List.cons_append, List.nil_append, true_and, and_true, Nat.reduceAdd, Nat.reduceLeDiff, Nat.zero_le, Nat.le_refl, Nat.add_zero, Nat.zero_add, ne_eq, Nat.reduceEqDiff, not_false_eq_true, not_true_eq_false, if_true, if_false, t1, vIN w1, nCl w1, u1, t2, vIN w2, nCl w2, u2, t3, vIN w3, nCl w3, u3, t4, vIN w4, nCl w4, u4, t5, vIN w5, nCl w5, u5]
    exact K _ _ _ _ hI2
  · exact absurd hv (by decide)
theorem lw_30 (hI : Inv ai al fi fl) (hn : n ≤ 3072) (hi : i + 6 ≤ n) (K : ∀ ai al fi fl, Inv ai al fi fl → G (some (n, xf)) 192 1224 [.ref scP, .ref 0, .ref 55, .int (nI i)] [] (mk ai al fi fl) 86 16171 Q) : G (some (n, xf)) 192 1145 [.ref scP, .ref 0, .ref 55, .int (nI i)] [] (mk ai al fi fl) 86 16171 Q := by
  obtain ⟨r, a1, l1, f1, g1, a2, l2, f2, g2, X, Y, hI2, hv⟩ := op30 hI (xf (i + 1)) (xf (i + 2))
  have w1 : i + 1 < 2147483648 := by omega
  have u1 : i + 1 < n := by omega
  have t1 : nI i + 1 = nI (i + 1) := nAd
  have w2 : i + 2 < 2147483648 := by omega
  have u2 : i + 2 < n := by omega
  have t2 : nI i + 2 = nI (i + 2) := nAd
  rcases hv with ⟨hv, z, rfl⟩ | ⟨hv, z, rfl⟩
  · simp only [g192_1145, g192_1146, g192_1147, g192_1148, g192_1149, g192_1150, g192_1151, g192_1152, g192_1153, g192_1154, g192_1155, g192_1156, g192_1159, g192_1160, g192_1161, g192_1162, g192_1163, g192_1164, g192_1165, g192_1166, g192_1167, g192_1168, g192_1169, g192_1170, g192_1173, g192_1176, g192_1177, ↓reduceIte, GV_s, GV_n, List.map_cons, List.map_nil, List.sum_cons, List.sum_nil, cat_i, cat_l, cat_r, Option.toList_some, Option.toList_none, List.cons_append, List.nil_append, true_and, and_true, Nat.reduceAdd, Nat.reduceLeDiff, Nat.zero_le, Nat.le_refl, Nat.add_zero, Nat.zero_add, ne_eq, Nat.reduceEqDiff, not_false_eq_true, not_true_eq_false, if_true, if_false, t1, vIN w1, nCl w1, u1, t2, vIN w2, nCl w2, u2, rc_104]
    refine X _ ?_
    simp only [g192_1145, g192_1146, g192_1147, g192_1148, g192_1149, g192_1150, g192_1151, g192_1152, g192_1153, g192_1154, g192_1155, g192_1156, g192_1159, g192_1160, g192_1161, g192_1162, g192_1163, g192_1164, g192_1165, g192_1166, g192_1167, g192_1168, g192_1169, g192_1170, g192_1173, g192_1176, g192_1177, ↓reduceIte, GV_s, GV_n, List.map_cons, List.map_nil, List.sum_cons, List.sum_nil, cat_i, cat_l, cat_r, Option.toList_some, Option.toList_none, List.cons_append, List.nil_append, true_and, and_true, Nat.reduceAdd, Nat.reduceLeDiff, Nat.zero_le, Nat.le_refl, Nat.add_zero, Nat.zero_add, ne_eq, Nat.reduceEqDiff, not_false_eq_true, not_true_eq_false, if_true, if_false, t1, vIN w1, nCl w1, u1, t2, vIN w2, nCl w2, u2, rc_182]
    refine Y _ ?_
    simp only [g192_1145, g192_1146, g192_1147, g192_1148, g192_1149, g192_1150, g192_1151, g192_1152, g192_1153, g192_1154, g192_1155, g192_1156, g192_1159, g192_1160, g192_1161, g192_1162, g192_1163, g192_1164, g192_1165, g192_1166, g192_1167, g192_1168, g192_1169, g192_1170, g192_1173, g192_1176, g192_1177, ↓reduceIte, GV_s, GV_n, List.map_cons, List.map_nil, List.sum_cons, List.sum_nil, cat_i, cat_l, cat_r, Option.toList_some, Option.toList_none, List.cons_append, List.nil_append, true_and, and_true, Nat.reduceAdd, Nat.reduceLeDiff, Nat.zero_le, Nat.le_refl, Nat.add_zero, Nat.zero_add, ne_eq, Nat.reduceEqDiff, not_false_eq_true, not_true_eq_false, if_true, if_false, t1, vIN w1, nCl w1, u1, t2, vIN w2, nCl w2, u2]
    exact K _ _ _ _ hI2
  · exact absurd hv (by decide)
theorem lw_31 (hI : Inv ai al fi fl) (hn : n ≤ 3072) (hi : i + 6 ≤ n) (K : ∀ ai al fi fl, Inv ai al fi fl → G (some (n, xf)) 192 1224 [.ref scP, .ref 0, .ref 55, .int (nI i)] [] (mk ai al fi fl) 86 16171 Q) : G (some (n, xf)) 192 1178 [.ref scP, .ref 0, .ref 55, .int (nI i)] [] (mk ai al fi fl) 86 16171 Q := by
  obtain ⟨r, a1, l1, f1, g1, a2, l2, f2, g2, X, Y, hI2, hv⟩ := op31 hI (xf (i + 1))
  have w1 : i + 1 < 2147483648 := by omega
  have u1 : i + 1 < n := by omega
  have t1 : nI i + 1 = nI (i + 1) := nAd
  rcases hv with ⟨hv, z, rfl⟩ | ⟨hv, z, rfl⟩
  · simp only [g192_1178, g192_1179, g192_1180, g192_1181, g192_1182, g192_1183, g192_1184, g192_1187, g192_1188, g192_1189, g192_1190, g192_1191, g192_1192, g192_1193, g192_1196, g192_1199, g192_1200, ↓reduceIte, GV_s, GV_n, List.map_cons, List.map_nil, List.sum_cons, List.sum_nil, cat_i, cat_l, cat_r, Option.toList_some, Option.toList_none, List.cons_append, List.nil_append, true_and, and_true, Nat.reduceAdd, Nat.reduceLeDiff, Nat.zero_le, Nat.le_refl, Nat.add_zero, Nat.zero_add, ne_eq, Nat.reduceEqDiff, not_false_eq_true, not_true_eq_false, if_true, if_false, t1, vIN w1, nCl w1, u1, rc_105]
    refine X _ ?_
    simp only [g192_1178, g192_1179, g192_1180, g192_1181, g192_1182, g192_1183, g192_1184, g192_1187, g192_1188, g192_1189, g192_1190, g192_1191, g192_1192, g192_1193, g192_1196, g192_1199, g192_1200, ↓reduceIte, GV_s, GV_n, List.map_cons, List.map_nil, List.sum_cons, List.sum_nil, cat_i, cat_l, cat_r, Option.toList_some, Option.toList_none, List.cons_append, List.nil_append, true_and, and_true, Nat.reduceAdd, Nat.reduceLeDiff, Nat.zero_le, Nat.le_refl, Nat.add_zero, Nat.zero_add, ne_eq, Nat.reduceEqDiff, not_false_eq_true, not_true_eq_false, if_true, if_false, t1, vIN w1, nCl w1, u1, rc_183]
    refine Y _ ?_
    simp only [g192_1178, g192_1179, g192_1180, g192_1181, g192_1182, g192_1183, g192_1184, g192_1187, g192_1188, g192_1189, g192_1190, g192_1191, g192_1192, g192_1193, g192_1196, g192_1199, g192_1200, ↓reduceIte, GV_s, GV_n, List.map_cons, List.map_nil, List.sum_cons, List.sum_nil, cat_i, cat_l, cat_r, Option.toList_some, Option.toList_none, List.cons_append, List.nil_append, true_and, and_true, Nat.reduceAdd, Nat.reduceLeDiff, Nat.zero_le, Nat.le_refl, Nat.add_zero, Nat.zero_add, ne_eq, Nat.reduceEqDiff, not_false_eq_true, not_true_eq_false, if_true, if_false, t1, vIN w1, nCl w1, u1]
    exact K _ _ _ _ hI2
  · exact absurd hv (by decide)
theorem lw_32 (hI : Inv ai al fi fl) (hn : n ≤ 3072) (hi : i + 6 ≤ n) (K : ∀ ai al fi fl, Inv ai al fi fl → G (some (n, xf)) 192 1224 [.ref scP, .ref 0, .ref 55, .int (nI i)] [] (mk ai al fi fl) 86 16171 Q) : G (some (n, xf)) 192 1201 [.ref scP, .ref 0, .ref 55, .int (nI i)] [] (mk ai al fi fl) 86 16171 Q := by
  obtain ⟨r, a1, l1, f1, g1, a2, l2, f2, g2, X, Y, hI2, hv⟩ := op32 hI (xf (i + 1))
  have w1 : i + 1 < 2147483648 := by omega
  have u1 : i + 1 < n := by omega
  have t1 : nI i + 1 = nI (i + 1) := nAd
  rcases hv with ⟨hv, z, rfl⟩ | ⟨hv, z, rfl⟩
  · simp only [g192_1201, g192_1202, g192_1203, g192_1204, g192_1205, g192_1206, g192_1207, g192_1210, g192_1211, g192_1212, g192_1213, g192_1214, g192_1215, g192_1216, g192_1219, g192_1222, g192_1223, ↓reduceIte, GV_s, GV_n, List.map_cons, List.map_nil, List.sum_cons, List.sum_nil, cat_i, cat_l, cat_r, Option.toList_some, Option.toList_none, List.cons_append, List.nil_append, true_and, and_true, Nat.reduceAdd, Nat.reduceLeDiff, Nat.zero_le, Nat.le_refl, Nat.add_zero, Nat.zero_add, ne_eq, Nat.reduceEqDiff, not_false_eq_true, not_true_eq_false, if_true, if_false, t1, vIN w1, nCl w1, u1, rc_106]
    refine X _ ?_
    simp only [g192_1201, g192_1202, g192_1203, g192_1204, g192_1205, g192_1206, g192_1207, g192_1210, g192_1211, g192_1212, g192_1213, g192_1214, g192_1215, g192_1216, g192_1219, g192_1222, g192_1223, ↓reduceIte, GV_s, GV_n, List.map_cons, List.map_nil, List.sum_cons, List.sum_nil, cat_i, cat_l, cat_r, Option.toList_some, Option.toList_none, List.cons_append, List.nil_append, true_and, and_true, Nat.reduceAdd, Nat.reduceLeDiff, Nat.zero_le, Nat.le_refl, Nat.add_zero, Nat.zero_add, ne_eq, Nat.reduceEqDiff, not_false_eq_true, not_true_eq_false, if_true, if_false, t1, vIN w1, nCl w1, u1, rc_184]
    refine Y _ ?_
    simp only [g192_1201, g192_1202, g192_1203, g192_1204, g192_1205, g192_1206, g192_1207, g192_1210, g192_1211, g192_1212, g192_1213, g192_1214, g192_1215, g192_1216, g192_1219, g192_1222, g192_1223, ↓reduceIte, GV_s, GV_n, List.map_cons, List.map_nil, List.sum_cons, List.sum_nil, cat_i, cat_l, cat_r, Option.toList_some, Option.toList_none, List.cons_append, List.nil_append, true_and, and_true, Nat.reduceAdd, Nat.reduceLeDiff, Nat.zero_le, Nat.le_refl, Nat.add_zero, Nat.zero_add, ne_eq, Nat.reduceEqDiff, not_false_eq_true, not_true_eq_false, if_true, if_false, t1, vIN w1, nCl w1, u1]
    exact K _ _ _ _ hI2
  · exact absurd hv (by decide)
theorem lw_sw (hI : Inv ai al fi fl) (hn : n ≤ 3072) (hi : i + 6 ≤ n) (K : ∀ ai al fi fl, Inv ai al fi fl → G (some (n, xf)) 192 1224 [.ref scP, .ref 0, .ref 55, .int (nI i)] [] (mk ai al fi fl) 86 16171 Q) : ∀ c, c < 64 → G (some (n, xf)) 192 33 [.ref scP, .ref 0, .ref 55, .int (nI i)] [.int (nI c)] (mk ai al fi fl) 86 16171 Q
  | 0, _ => by rw [show nI 0 = (0 : Int32) from rfl, g192_33_0]; exact lw_0 hI hn hi K
  | 1, _ => by rw [show nI 1 = (1 : Int32) from rfl, g192_33_1]; exact lw_1 hI hn hi K
  | 2, _ => by rw [show nI 2 = (2 : Int32) from rfl, g192_33_2]; exact lw_2 hI hn hi K
  | 3, _ => by rw [show nI 3 = (3 : Int32) from rfl, g192_33_3]; exact lw_3 hI hn hi K
  | 4, _ => by rw [show nI 4 = (4 : Int32) from rfl, g192_33_4]; exact lw_4 hI hn hi K
  | 5, _ => by rw [show nI 5 = (5 : Int32) from rfl, g192_33_5]; exact lw_5 hI hn hi K
  | 6, _ => by rw [show nI 6 = (6 : Int32) from rfl, g192_33_6]; exact lw_6 hI hn hi K
  | 7, _ => by rw [show nI 7 = (7 : Int32) from rfl, g192_33_7]; exact lw_7 hI hn hi K
  | 8, _ => by rw [show nI 8 = (8 : Int32) from rfl, g192_33_8]; exact lw_8 hI hn hi K
  | 9, _ => by rw [show nI 9 = (9 : Int32) from rfl, g192_33_9]; exact lw_9 hI hn hi K
  | 10, _ => by rw [show nI 10 = (10 : Int32) from rfl, g192_33_10]; exact lw_10 hI hn hi K
  | 11, _ => by rw [show nI 11 = (11 : Int32) from rfl, g192_33_11]; exact lw_11 hI hn hi K
  | 12, _ => by rw [show nI 12 = (12 : Int32) from rfl, g192_33_12]; exact lw_12 hI hn hi K
  | 13, _ => by rw [show nI 13 = (13 : Int32) from rfl, g192_33_13]; exact lw_13 hI hn hi K
  | 14, _ => by rw [show nI 14 = (14 : Int32) from rfl, g192_33_14]; exact lw_14 hI hn hi K
  | 15, _ => by rw [show nI 15 = (15 : Int32) from rfl, g192_33_15]; exact lw_15 hI hn hi K
  | 16, _ => by rw [show nI 16 = (16 : Int32) from rfl, g192_33_16]; exact lw_16 hI hn hi K
  | 17, _ => by rw [show nI 17 = (17 : Int32) from rfl, g192_33_17]; exact lw_17 hI hn hi K
  | 18, _ => by rw [show nI 18 = (18 : Int32) from rfl, g192_33_18]; exact lw_18 hI hn hi K
  | 19, _ => by rw [show nI 19 = (19 : Int32) from rfl, g192_33_19]; exact lw_19 hI hn hi K
  | 20, _ => by rw [show nI 20 = (20 : Int32) from rfl, g192_33_20]; exact lw_20 hI hn hi K
  | 21, _ => by rw [show nI 21 = (21 : Int32) from rfl, g192_33_21]; exact lw_21 hI hn hi K
  | 22, _ => by rw [show nI 22 = (22 : Int32) from rfl, g192_33_22]; exact lw_22 hI hn hi K
  | 23, _ => by rw [show nI 23 = (23 : Int32) from rfl, g192_33_23]; exact lw_23 hI hn hi K
  | 24, _ => by rw [show nI 24 = (24 : Int32) from rfl, g192_33_24]; exact lw_24 hI hn hi K
  | 25, _ => by rw [show nI 25 = (25 : Int32) from rfl, g192_33_25]; exact lw_25 hI hn hi K
  | 26, _ => by rw [show nI 26 = (26 : Int32) from rfl, g192_33_26]; exact lw_26 hI hn hi K
  | 27, _ => by rw [show nI 27 = (27 : Int32) from rfl, g192_33_27]; exact lw_27 hI hn hi K
  | 28, _ => by rw [show nI 28 = (28 : Int32) from rfl, g192_33_28]; exact lw_28 hI hn hi K
  | 29, _ => by rw [show nI 29 = (29 : Int32) from rfl, g192_33_29]; exact lw_29 hI hn hi K
  | 30, _ => by rw [show nI 30 = (30 : Int32) from rfl, g192_33_30]; exact lw_30 hI hn hi K
  | 31, _ => by rw [show nI 31 = (31 : Int32) from rfl, g192_33_31]; exact lw_31 hI hn hi K
  | 32, _ => by rw [show nI 32 = (32 : Int32) from rfl, g192_33_32]; exact lw_32 hI hn hi K
  | 33, _ => by rw [show nI 33 = (33 : Int32) from rfl, g192_33_33]; exact K _ _ _ _ hI
  | 34, _ => by rw [show nI 34 = (34 : Int32) from rfl, g192_33_34]; exact K _ _ _ _ hI
  | 35, _ => by rw [show nI 35 = (35 : Int32) from rfl, g192_33_35]; exact K _ _ _ _ hI
  | 36, _ => by rw [show nI 36 = (36 : Int32) from rfl, g192_33_36]; exact K _ _ _ _ hI
  | 37, _ => by rw [show nI 37 = (37 : Int32) from rfl, g192_33_37]; exact K _ _ _ _ hI
  | 38, _ => by rw [show nI 38 = (38 : Int32) from rfl, g192_33_38]; exact K _ _ _ _ hI
  | 39, _ => by rw [show nI 39 = (39 : Int32) from rfl, g192_33_39]; exact K _ _ _ _ hI
  | 40, _ => by rw [show nI 40 = (40 : Int32) from rfl, g192_33_40]; exact K _ _ _ _ hI
  | 41, _ => by rw [show nI 41 = (41 : Int32) from rfl, g192_33_41]; exact K _ _ _ _ hI
  | 42, _ => by rw [show nI 42 = (42 : Int32) from rfl, g192_33_42]; exact K _ _ _ _ hI
  | 43, _ => by rw [show nI 43 = (43 : Int32) from rfl, g192_33_43]; exact K _ _ _ _ hI
  | 44, _ => by rw [show nI 44 = (44 : Int32) from rfl, g192_33_44]; exact K _ _ _ _ hI
  | 45, _ => by rw [show nI 45 = (45 : Int32) from rfl, g192_33_45]; exact K _ _ _ _ hI
  | 46, _ => by rw [show nI 46 = (46 : Int32) from rfl, g192_33_46]; exact K _ _ _ _ hI
  | 47, _ => by rw [show nI 47 = (47 : Int32) from rfl, g192_33_47]; exact K _ _ _ _ hI
  | 48, _ => by rw [show nI 48 = (48 : Int32) from rfl, g192_33_48]; exact K _ _ _ _ hI
  | 49, _ => by rw [show nI 49 = (49 : Int32) from rfl, g192_33_49]; exact K _ _ _ _ hI
  | 50, _ => by rw [show nI 50 = (50 : Int32) from rfl, g192_33_50]; exact K _ _ _ _ hI
  | 51, _ => by rw [show nI 51 = (51 : Int32) from rfl, g192_33_51]; exact K _ _ _ _ hI
  | 52, _ => by rw [show nI 52 = (52 : Int32) from rfl, g192_33_52]; exact K _ _ _ _ hI
  | 53, _ => by rw [show nI 53 = (53 : Int32) from rfl, g192_33_53]; exact K _ _ _ _ hI
  | 54, _ => by rw [show nI 54 = (54 : Int32) from rfl, g192_33_54]; exact K _ _ _ _ hI
  | 55, _ => by rw [show nI 55 = (55 : Int32) from rfl, g192_33_55]; exact K _ _ _ _ hI
  | 56, _ => by rw [show nI 56 = (56 : Int32) from rfl, g192_33_56]; exact K _ _ _ _ hI
  | 57, _ => by rw [show nI 57 = (57 : Int32) from rfl, g192_33_57]; exact K _ _ _ _ hI
  | 58, _ => by rw [show nI 58 = (58 : Int32) from rfl, g192_33_58]; exact K _ _ _ _ hI
  | 59, _ => by rw [show nI 59 = (59 : Int32) from rfl, g192_33_59]; exact K _ _ _ _ hI
  | 60, _ => by rw [show nI 60 = (60 : Int32) from rfl, g192_33_60]; exact K _ _ _ _ hI
  | 61, _ => by rw [show nI 61 = (61 : Int32) from rfl, g192_33_61]; exact K _ _ _ _ hI
  | 62, _ => by rw [show nI 62 = (62 : Int32) from rfl, g192_33_62]; exact K _ _ _ _ hI
  | 63, _ => by rw [show nI 63 = (63 : Int32) from rfl, g192_33_63]; exact K _ _ _ _ hI
  | c + 64, hc => by omega
theorem lw_cmp (hn : n ≤ 3072) (hi : i ≤ n) : (nI n - 6 < nI i) = (n < i + 6) := by
  have h6 : (6 : Int32).toInt = 6 := by decide
  apply propext
  rw [fa_lt, fb_subI (by rw [nI_toInt (by omega), h6]; omega) (by rw [nI_toInt (by omega), h6]; omega), nI_toInt (by omega), nI_toInt (by omega), h6]
  omega
theorem lw_loop (hn : n ≤ 3072) : ∀ (m i : Nat) (ai : Nat → Nat → Int32) (al : Nat → Nat → Int64) (fi : Nat → Nat → Int32) (fl : Nat → Nat → Int64), i ≤ n → n - i ≤ m → Inv ai al fi fl → G (some (n, xf)) 192 18 [.ref scP, .ref 0, .ref 55, .int (nI i)] [] (mk ai al fi fl) 86 16171 (fun r _ => r = some (.int 1)) := by
  intro m
  induction m with
  | zero =>
    intro i ai al fi fl hi hm hI
    have q : n < i + 6 := by omega
    rw [g192_18]
    simp only [g192_19, g192_20, g192_21, g192_23, g192_24, lw_cmp hn hi, q, if_true, g192_1230, g192_1231, or_true, and_self]
  | succ m ih =>
    intro i ai al fi fl hi hm hI
    rw [g192_18]
    by_cases q : n < i + 6
    · simp only [g192_19, g192_20, g192_21, g192_23, g192_24, lw_cmp hn hi, q, if_true, g192_1230, g192_1231, or_true, and_self]
    · have i1 : i < 2147483648 := by omega
      have i2 : i < n := by omega
      obtain ⟨c, hc, e⟩ := pk_andE (xf i) (m := 63) 6 (by decide)
      simp only [g192_19, g192_20, g192_21, g192_23, g192_24, lw_cmp hn hi, q, if_false, g192_27, g192_28, g192_29, vIN i1, nCl i1, i2, true_and, g192_30, g192_32, e]
      refine lw_sw  hI hn (by omega) (fun ai al fi fl hI => ?_) c hc
      rw [g192_1224, g192_1227, nAd_6]
      exact ih (i + 6) ai al fi fl (by omega) (by omega) hI
/-- the families at the start -/
def ai0 : Nat → Nat → Int32 := fun j => if j = 7 then m1f 4 else if j = 57 then m1f 4 else if 28 ≤ j ∧ j ≤ 37 then tnF 24 else fun _ => 0
def al0 : Nat → Nat → Int64 := fun _ _ => 0
def fi0 : Nat → Nat → Int32 := fun o f => if o = 42 ∧ f = 10 then 1 else 0
def fl0 : Nat → Nat → Int64 := fun _ f => if f = 10 ∨ f = 3 then 1 else 0
end
