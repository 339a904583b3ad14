/-! the law, case by case (written by wip/whole/gen/law.py) -/
theorem lw_c0 {L x : Nat} {xs : Nat → Int32} {h : zH} (I : Inv h) (C : Sc L xs h) (hx : x + 6 ≤ L) (hL : L ≤ 384) : ∃ h2, zX 40 tb_L_law 144 [some (.inr (.inr (some 0))), some (.inr (.inr (some 1))), some (.inr (.inr (some 37))), some (.inl (nI x))] [] h = zX 40 tb_L_law 1030 [some (.inr (.inr (some 0))), some (.inr (.inr (some 1))), some (.inr (.inr (some 37))), some (.inl (nI x))] [] h2 ∧ Inv h2 ∧ Sc L xs h2 ∧ zn h2 ≤ zn h + 8 ∧ zu h2 ≤ zu h + 40 := by
  have x1 : zix (nI (x + 1)) L = some (x + 1) := zix_nI (by omega) (by omega)
  have x2 : zix (nI (x + 2)) L = some (x + 2) := zix_nI (by omega) (by omega)
  have n2 : nI x + 2 = nI (x + 2) := nI_add x 2
  have x3 : zix (nI (x + 3)) L = some (x + 3) := zix_nI (by omega) (by omega)
  have n3 : nI x + 3 = nI (x + 3) := nI_add x 3
  have x4 : zix (nI (x + 4)) L = some (x + 4) := zix_nI (by omega) (by omega)
  have n4 : nI x + 4 = nI (x + 4) := nI_add x 4
  obtain ⟨r, h1, h2, c1, c2, I2, m2, u2⟩ : Stq 53 101 [.inl (xs (x + 1)), .inl (xs (x + 2)), .inl (xs (x + 3)), .inl (xs (x + 4))] h := st_forest I
  obtain ⟨v, hv⟩ := call_int (mid := 53) (by decide +kernel) c1
  cases hv
  have C1 : Sc L xs h1 := sc_call Clo_Sc _ _ _ _ _ c1 C
  have C2 : Sc L xs h2 := sc_call Clo_Sc _ _ _ _ _ c2 C1
  have F1 : Rf h1 := sc_call Clo_Rf _ _ _ _ _ c1 ⟨by have := I.2.1; omega, K37 I.1⟩
  refine ⟨h2, ?_, I2, C2, m2, u2⟩
  simp +decide only [u_L_law_144, u_L_law_145, u_L_law_146, u_L_law_147, u_L_law_148, u_L_law_149, u_L_law_150, u_L_law_151, u_L_law_152, u_L_law_153, u_L_law_154, u_L_law_155, u_L_law_156, u_L_law_157, u_L_law_158, u_L_law_159, u_L_law_160, u_L_law_161, u_L_law_162, u_L_law_163, u_L_law_164, u_L_law_165, u_L_law_168, u_L_law_169, u_L_law_170, u_L_law_171, u_L_law_172, u_L_law_173, u_L_law_174, u_L_law_175, u_L_law_176, u_L_law_177, u_L_law_178, u_L_law_179, u_L_law_180, u_L_law_181, u_L_law_182, u_L_law_183, u_L_law_184, u_L_law_185, u_L_law_186, u_L_law_187, u_L_law_188, u_L_law_189, u_L_law_192, u_L_law_195, u_L_law_196, zcl_i, zcl_r, zcl_l, zcl_0, Option.bind_some, Option.bind_none, Option.toList_some, Option.toList_none, List.cons_append, List.nil_append, zk_wI, zk_wR, zk_wC, zr_wI, zr_wC, zi_wR, zn_wI, zn_wR, zn_wC, if_true, if_false, true_or, or_true, or_false, false_or, true_and, and_true, ↓reduceIte, reduceCtorEq, Nat.reduceEqDiff, Nat.reduceLT, Nat.reduceLeDiff, Nat.reduceAdd, Nat.reduceSub, Nat.reduceMul, Int32.reduceLT, Int32.reduceLE, Int32.reduceAdd, Int32.reduceMul, Int32.reduceSub, Int32.reduceToNatClampNeg, and_self, or_self, and_false, false_and, not_true_eq_false, not_false_eq_true, C.2.1, C1.2.1, C.2.2, C1.2.2, K1 I.1, F1.2, x1, x2, x3, x4, nI_1, n2, n3, n4, c1, c2, eq_self]
theorem lw_c1 {L x : Nat} {xs : Nat → Int32} {h : zH} (I : Inv h) (C : Sc L xs h) (hx : x + 6 ≤ L) (hL : L ≤ 384) : ∃ h2, zX 40 tb_L_law 197 [some (.inr (.inr (some 0))), some (.inr (.inr (some 1))), some (.inr (.inr (some 37))), some (.inl (nI x))] [] h = zX 40 tb_L_law 1030 [some (.inr (.inr (some 0))), some (.inr (.inr (some 1))), some (.inr (.inr (some 37))), some (.inl (nI x))] [] h2 ∧ Inv h2 ∧ Sc L xs h2 ∧ zn h2 ≤ zn h + 8 ∧ zu h2 ≤ zu h + 40 := by
  have x1 : zix (nI (x + 1)) L = some (x + 1) := zix_nI (by omega) (by omega)
  have x2 : zix (nI (x + 2)) L = some (x + 2) := zix_nI (by omega) (by omega)
  have n2 : nI x + 2 = nI (x + 2) := nI_add x 2
  obtain ⟨r, h1, h2, c1, c2, I2, m2, u2⟩ : Stq 54 103 [.inl (xs (x + 1)), .inl (xs (x + 2))] h := st_ofTale I
  obtain ⟨v, hv⟩ := call_int (mid := 54) (by decide +kernel) c1
  cases hv
  have C1 : Sc L xs h1 := sc_call Clo_Sc _ _ _ _ _ c1 C
  have C2 : Sc L xs h2 := sc_call Clo_Sc _ _ _ _ _ c2 C1
  have F1 : Rf h1 := sc_call Clo_Rf _ _ _ _ _ c1 ⟨by have := I.2.1; omega, K37 I.1⟩
  refine ⟨h2, ?_, I2, C2, m2, u2⟩
  simp +decide only [u_L_law_197, u_L_law_198, u_L_law_199, u_L_law_200, u_L_law_201, u_L_law_202, u_L_law_203, u_L_law_204, u_L_law_205, u_L_law_206, u_L_law_207, u_L_law_208, u_L_law_211, u_L_law_212, u_L_law_213, u_L_law_214, u_L_law_215, u_L_law_216, u_L_law_217, u_L_law_218, u_L_law_219, u_L_law_220, u_L_law_221, u_L_law_222, u_L_law_225, u_L_law_228, u_L_law_229, zcl_i, zcl_r, zcl_l, zcl_0, Option.bind_some, Option.bind_none, Option.toList_some, Option.toList_none, List.cons_append, List.nil_append, zk_wI, zk_wR, zk_wC, zr_wI, zr_wC, zi_wR, zn_wI, zn_wR, zn_wC, if_true, if_false, true_or, or_true, or_false, false_or, true_and, and_true, ↓reduceIte, reduceCtorEq, Nat.reduceEqDiff, Nat.reduceLT, Nat.reduceLeDiff, Nat.reduceAdd, Nat.reduceSub, Nat.reduceMul, Int32.reduceLT, Int32.reduceLE, Int32.reduceAdd, Int32.reduceMul, Int32.reduceSub, Int32.reduceToNatClampNeg, and_self, or_self, and_false, false_and, not_true_eq_false, not_false_eq_true, C.2.1, C1.2.1, C.2.2, C1.2.2, K1 I.1, F1.2, x1, x2, nI_1, n2, c1, c2, eq_self]
theorem lw_c2 {L x : Nat} {xs : Nat → Int32} {h : zH} (I : Inv h) (C : Sc L xs h) (hx : x + 6 ≤ L) (hL : L ≤ 384) : ∃ h2, zX 40 tb_L_law 230 [some (.inr (.inr (some 0))), some (.inr (.inr (some 1))), some (.inr (.inr (some 37))), some (.inl (nI x))] [] h = zX 40 tb_L_law 1030 [some (.inr (.inr (some 0))), some (.inr (.inr (some 1))), some (.inr (.inr (some 37))), some (.inl (nI x))] [] h2 ∧ Inv h2 ∧ Sc L xs h2 ∧ zn h2 ≤ zn h + 8 ∧ zu h2 ≤ zu h + 40 := by
  have x1 : zix (nI (x + 1)) L = some (x + 1) := zix_nI (by omega) (by omega)
  have x2 : zix (nI (x + 2)) L = some (x + 2) := zix_nI (by omega) (by omega)
  have n2 : nI x + 2 = nI (x + 2) := nI_add x 2
  by_cases z : xs (x + 2) = 0
  · skip
    obtain ⟨r, h1, h2, c1, c2, I2, m2, u2⟩ : Stq 55 104 [.inl (xs (x + 1)), .inl 0] h := st_know I (Or.inl rfl)
    obtain ⟨v, hv⟩ := call_int (mid := 55) (by decide +kernel) c1
    cases hv
    have C1 : Sc L xs h1 := sc_call Clo_Sc _ _ _ _ _ c1 C
    have C2 : Sc L xs h2 := sc_call Clo_Sc _ _ _ _ _ c2 C1
    have F1 : Rf h1 := sc_call Clo_Rf _ _ _ _ _ c1 ⟨by have := I.2.1; omega, K37 I.1⟩
    refine ⟨h2, ?_, I2, C2, m2, u2⟩
    simp +decide only [u_L_law_230, u_L_law_231, u_L_law_232, u_L_law_233, u_L_law_234, u_L_law_235, u_L_law_236, u_L_law_237, u_L_law_238, u_L_law_239, u_L_law_240, u_L_law_241, u_L_law_244, u_L_law_245, u_L_law_248, u_L_law_249, u_L_law_252, u_L_law_253, u_L_law_254, u_L_law_255, u_L_law_256, u_L_law_257, u_L_law_258, u_L_law_259, u_L_law_260, u_L_law_261, u_L_law_262, u_L_law_263, u_L_law_266, u_L_law_267, u_L_law_270, u_L_law_271, u_L_law_274, u_L_law_277, u_L_law_278, zcl_i, zcl_r, zcl_l, zcl_0, Option.bind_some, Option.bind_none, Option.toList_some, Option.toList_none, List.cons_append, List.nil_append, zk_wI, zk_wR, zk_wC, zr_wI, zr_wC, zi_wR, zn_wI, zn_wR, zn_wC, if_true, if_false, true_or, or_true, or_false, false_or, true_and, and_true, ↓reduceIte, reduceCtorEq, Nat.reduceEqDiff, Nat.reduceLT, Nat.reduceLeDiff, Nat.reduceAdd, Nat.reduceSub, Nat.reduceMul, Int32.reduceLT, Int32.reduceLE, Int32.reduceAdd, Int32.reduceMul, Int32.reduceSub, Int32.reduceToNatClampNeg, and_self, or_self, and_false, false_and, not_true_eq_false, not_false_eq_true, C.2.1, C1.2.1, C.2.2, C1.2.2, K1 I.1, F1.2, x1, x2, nI_1, n2, c1, c2, eq_self, z]
  · skip
    obtain ⟨r, h1, h2, c1, c2, I2, m2, u2⟩ : Stq 55 104 [.inl (xs (x + 1)), .inl 1] h := st_know I (Or.inr rfl)
    obtain ⟨v, hv⟩ := call_int (mid := 55) (by decide +kernel) c1
    cases hv
    have C1 : Sc L xs h1 := sc_call Clo_Sc _ _ _ _ _ c1 C
    have C2 : Sc L xs h2 := sc_call Clo_Sc _ _ _ _ _ c2 C1
    have F1 : Rf h1 := sc_call Clo_Rf _ _ _ _ _ c1 ⟨by have := I.2.1; omega, K37 I.1⟩
    refine ⟨h2, ?_, I2, C2, m2, u2⟩
    simp +decide only [u_L_law_230, u_L_law_231, u_L_law_232, u_L_law_233, u_L_law_234, u_L_law_235, u_L_law_236, u_L_law_237, u_L_law_238, u_L_law_239, u_L_law_240, u_L_law_241, u_L_law_244, u_L_law_245, u_L_law_248, u_L_law_249, u_L_law_252, u_L_law_253, u_L_law_254, u_L_law_255, u_L_law_256, u_L_law_257, u_L_law_258, u_L_law_259, u_L_law_260, u_L_law_261, u_L_law_262, u_L_law_263, u_L_law_266, u_L_law_267, u_L_law_270, u_L_law_271, u_L_law_274, u_L_law_277, u_L_law_278, zcl_i, zcl_r, zcl_l, zcl_0, Option.bind_some, Option.bind_none, Option.toList_some, Option.toList_none, List.cons_append, List.nil_append, zk_wI, zk_wR, zk_wC, zr_wI, zr_wC, zi_wR, zn_wI, zn_wR, zn_wC, if_true, if_false, true_or, or_true, or_false, false_or, true_and, and_true, ↓reduceIte, reduceCtorEq, Nat.reduceEqDiff, Nat.reduceLT, Nat.reduceLeDiff, Nat.reduceAdd, Nat.reduceSub, Nat.reduceMul, Int32.reduceLT, Int32.reduceLE, Int32.reduceAdd, Int32.reduceMul, Int32.reduceSub, Int32.reduceToNatClampNeg, and_self, or_self, and_false, false_and, not_true_eq_false, not_false_eq_true, C.2.1, C1.2.1, C.2.2, C1.2.2, K1 I.1, F1.2, x1, x2, nI_1, n2, c1, c2, eq_self, z]
theorem lw_c3 {L x : Nat} {xs : Nat → Int32} {h : zH} (I : Inv h) (C : Sc L xs h) (hx : x + 6 ≤ L) (hL : L ≤ 384) : ∃ h2, zX 40 tb_L_law 279 [some (.inr (.inr (some 0))), some (.inr (.inr (some 1))), some (.inr (.inr (some 37))), some (.inl (nI x))] [] h = zX 40 tb_L_law 1030 [some (.inr (.inr (some 0))), some (.inr (.inr (some 1))), some (.inr (.inr (some 37))), some (.inl (nI x))] [] h2 ∧ Inv h2 ∧ Sc L xs h2 ∧ zn h2 ≤ zn h + 8 ∧ zu h2 ≤ zu h + 40 := by
  have x1 : zix (nI (x + 1)) L = some (x + 1) := zix_nI (by omega) (by omega)
  have x2 : zix (nI (x + 2)) L = some (x + 2) := zix_nI (by omega) (by omega)
  have n2 : nI x + 2 = nI (x + 2) := nI_add x 2
  by_cases z : xs (x + 2) = 0
  · skip
    obtain ⟨r, h1, h2, c1, c2, I2, m2, u2⟩ : Stq 56 105 [.inl (xs (x + 1)), .inl 0] h := st_believe I (Or.inl rfl)
    obtain ⟨v, hv⟩ := call_int (mid := 56) (by decide +kernel) c1
    cases hv
    have C1 : Sc L xs h1 := sc_call Clo_Sc _ _ _ _ _ c1 C
    have C2 : Sc L xs h2 := sc_call Clo_Sc _ _ _ _ _ c2 C1
    have F1 : Rf h1 := sc_call Clo_Rf _ _ _ _ _ c1 ⟨by have := I.2.1; omega, K37 I.1⟩
    refine ⟨h2, ?_, I2, C2, m2, u2⟩
    simp +decide only [u_L_law_279, u_L_law_280, u_L_law_281, u_L_law_282, u_L_law_283, u_L_law_284, u_L_law_285, u_L_law_286, u_L_law_287, u_L_law_288, u_L_law_289, u_L_law_290, u_L_law_293, u_L_law_294, u_L_law_297, u_L_law_298, u_L_law_301, u_L_law_302, u_L_law_303, u_L_law_304, u_L_law_305, u_L_law_306, u_L_law_307, u_L_law_308, u_L_law_309, u_L_law_310, u_L_law_311, u_L_law_312, u_L_law_315, u_L_law_316, u_L_law_319, u_L_law_320, u_L_law_323, u_L_law_326, u_L_law_327, zcl_i, zcl_r, zcl_l, zcl_0, Option.bind_some, Option.bind_none, Option.toList_some, Option.toList_none, List.cons_append, List.nil_append, zk_wI, zk_wR, zk_wC, zr_wI, zr_wC, zi_wR, zn_wI, zn_wR, zn_wC, if_true, if_false, true_or, or_true, or_false, false_or, true_and, and_true, ↓reduceIte, reduceCtorEq, Nat.reduceEqDiff, Nat.reduceLT, Nat.reduceLeDiff, Nat.reduceAdd, Nat.reduceSub, Nat.reduceMul, Int32.reduceLT, Int32.reduceLE, Int32.reduceAdd, Int32.reduceMul, Int32.reduceSub, Int32.reduceToNatClampNeg, and_self, or_self, and_false, false_and, not_true_eq_false, not_false_eq_true, C.2.1, C1.2.1, C.2.2, C1.2.2, K1 I.1, F1.2, x1, x2, nI_1, n2, c1, c2, eq_self, z]
  · skip
    obtain ⟨r, h1, h2, c1, c2, I2, m2, u2⟩ : Stq 56 105 [.inl (xs (x + 1)), .inl 1] h := st_believe I (Or.inr rfl)
    obtain ⟨v, hv⟩ := call_int (mid := 56) (by decide +kernel) c1
    cases hv
    have C1 : Sc L xs h1 := sc_call Clo_Sc _ _ _ _ _ c1 C
    have C2 : Sc L xs h2 := sc_call Clo_Sc _ _ _ _ _ c2 C1
    have F1 : Rf h1 := sc_call Clo_Rf _ _ _ _ _ c1 ⟨by have := I.2.1; omega, K37 I.1⟩
    refine ⟨h2, ?_, I2, C2, m2, u2⟩
    simp +decide only [u_L_law_279, u_L_law_280, u_L_law_281, u_L_law_282, u_L_law_283, u_L_law_284, u_L_law_285, u_L_law_286, u_L_law_287, u_L_law_288, u_L_law_289, u_L_law_290, u_L_law_293, u_L_law_294, u_L_law_297, u_L_law_298, u_L_law_301, u_L_law_302, u_L_law_303, u_L_law_304, u_L_law_305, u_L_law_306, u_L_law_307, u_L_law_308, u_L_law_309, u_L_law_310, u_L_law_311, u_L_law_312, u_L_law_315, u_L_law_316, u_L_law_319, u_L_law_320, u_L_law_323, u_L_law_326, u_L_law_327, zcl_i, zcl_r, zcl_l, zcl_0, Option.bind_some, Option.bind_none, Option.toList_some, Option.toList_none, List.cons_append, List.nil_append, zk_wI, zk_wR, zk_wC, zr_wI, zr_wC, zi_wR, zn_wI, zn_wR, zn_wC, if_true, if_false, true_or, or_true, or_false, false_or, true_and, and_true, ↓reduceIte, reduceCtorEq, Nat.reduceEqDiff, Nat.reduceLT, Nat.reduceLeDiff, Nat.reduceAdd, Nat.reduceSub, Nat.reduceMul, Int32.reduceLT, Int32.reduceLE, Int32.reduceAdd, Int32.reduceMul, Int32.reduceSub, Int32.reduceToNatClampNeg, and_self, or_self, and_false, false_and, not_true_eq_false, not_false_eq_true, C.2.1, C1.2.1, C.2.2, C1.2.2, K1 I.1, F1.2, x1, x2, nI_1, n2, c1, c2, eq_self, z]
theorem lw_c4 {L x : Nat} {xs : Nat → Int32} {h : zH} (I : Inv h) (C : Sc L xs h) (hx : x + 6 ≤ L) (hL : L ≤ 384) : ∃ h2, zX 40 tb_L_law 328 [some (.inr (.inr (some 0))), some (.inr (.inr (some 1))), some (.inr (.inr (some 37))), some (.inl (nI x))] [] h = zX 40 tb_L_law 1030 [some (.inr (.inr (some 0))), some (.inr (.inr (some 1))), some (.inr (.inr (some 37))), some (.inl (nI x))] [] h2 ∧ Inv h2 ∧ Sc L xs h2 ∧ zn h2 ≤ zn h + 8 ∧ zu h2 ≤ zu h + 40 := by
  have x1 : zix (nI (x + 1)) L = some (x + 1) := zix_nI (by omega) (by omega)
  have x2 : zix (nI (x + 2)) L = some (x + 2) := zix_nI (by omega) (by omega)
  have n2 : nI x + 2 = nI (x + 2) := nI_add x 2
  have x3 : zix (nI (x + 3)) L = some (x + 3) := zix_nI (by omega) (by omega)
  have n3 : nI x + 3 = nI (x + 3) := nI_add x 3
  have x4 : zix (nI (x + 4)) L = some (x + 4) := zix_nI (by omega) (by omega)
  have n4 : nI x + 4 = nI (x + 4) := nI_add x 4
  have x5 : zix (nI (x + 5)) L = some (x + 5) := zix_nI (by omega) (by omega)
  have n5 : nI x + 5 = nI (x + 5) := nI_add x 5
  obtain ⟨r, h1, h2, c1, c2, I2, m2, u2⟩ : Stq 57 112 [.inl (xs (x + 1)), .inl (xs (x + 2)), .inl (xs (x + 3)), .inl (xs (x + 4)), .inl (xs (x + 5))] h := st_night I
  obtain ⟨v, hv⟩ := call_int (mid := 57) (by decide +kernel) c1
  cases hv
  have C1 : Sc L xs h1 := sc_call Clo_Sc _ _ _ _ _ c1 C
  have C2 : Sc L xs h2 := sc_call Clo_Sc _ _ _ _ _ c2 C1
  have F1 : Rf h1 := sc_call Clo_Rf _ _ _ _ _ c1 ⟨by have := I.2.1; omega, K37 I.1⟩
  refine ⟨h2, ?_, I2, C2, m2, u2⟩
  simp +decide only [u_L_law_328, u_L_law_329, u_L_law_330, u_L_law_331, u_L_law_332, u_L_law_333, u_L_law_334, u_L_law_335, u_L_law_336, u_L_law_337, u_L_law_338, u_L_law_339, u_L_law_340, u_L_law_341, u_L_law_342, u_L_law_343, u_L_law_344, u_L_law_345, u_L_law_346, u_L_law_347, u_L_law_348, u_L_law_349, u_L_law_350, u_L_law_351, u_L_law_352, u_L_law_353, u_L_law_354, u_L_law_357, u_L_law_358, u_L_law_359, u_L_law_360, u_L_law_361, u_L_law_362, u_L_law_363, u_L_law_364, u_L_law_365, u_L_law_366, u_L_law_367, u_L_law_368, u_L_law_369, u_L_law_370, u_L_law_371, u_L_law_372, u_L_law_373, u_L_law_374, u_L_law_375, u_L_law_376, u_L_law_377, u_L_law_378, u_L_law_379, u_L_law_380, u_L_law_381, u_L_law_382, u_L_law_383, u_L_law_386, u_L_law_389, u_L_law_390, zcl_i, zcl_r, zcl_l, zcl_0, Option.bind_some, Option.bind_none, Option.toList_some, Option.toList_none, List.cons_append, List.nil_append, zk_wI, zk_wR, zk_wC, zr_wI, zr_wC, zi_wR, zn_wI, zn_wR, zn_wC, if_true, if_false, true_or, or_true, or_false, false_or, true_and, and_true, ↓reduceIte, reduceCtorEq, Nat.reduceEqDiff, Nat.reduceLT, Nat.reduceLeDiff, Nat.reduceAdd, Nat.reduceSub, Nat.reduceMul, Int32.reduceLT, Int32.reduceLE, Int32.reduceAdd, Int32.reduceMul, Int32.reduceSub, Int32.reduceToNatClampNeg, and_self, or_self, and_false, false_and, not_true_eq_false, not_false_eq_true, C.2.1, C1.2.1, C.2.2, C1.2.2, K1 I.1, F1.2, x1, x2, x3, x4, x5, nI_1, n2, n3, n4, n5, c1, c2, eq_self]
theorem lw_c5 {L x : Nat} {xs : Nat → Int32} {h : zH} (I : Inv h) (C : Sc L xs h) (hx : x + 6 ≤ L) (hL : L ≤ 384) : ∃ h2, zX 40 tb_L_law 391 [some (.inr (.inr (some 0))), some (.inr (.inr (some 1))), some (.inr (.inr (some 37))), some (.inl (nI x))] [] h = zX 40 tb_L_law 1030 [some (.inr (.inr (some 0))), some (.inr (.inr (some 1))), some (.inr (.inr (some 37))), some (.inl (nI x))] [] h2 ∧ Inv h2 ∧ Sc L xs h2 ∧ zn h2 ≤ zn h + 8 ∧ zu h2 ≤ zu h + 40 := by
  have x1 : zix (nI (x + 1)) L = some (x + 1) := zix_nI (by omega) (by omega)
  have x2 : zix (nI (x + 2)) L = some (x + 2) := zix_nI (by omega) (by omega)
  have n2 : nI x + 2 = nI (x + 2) := nI_add x 2
  have x3 : zix (nI (x + 3)) L = some (x + 3) := zix_nI (by omega) (by omega)
  have n3 : nI x + 3 = nI (x + 3) := nI_add x 3
  have x4 : zix (nI (x + 4)) L = some (x + 4) := zix_nI (by omega) (by omega)
  have n4 : nI x + 4 = nI (x + 4) := nI_add x 4
  obtain ⟨r, h1, h2, c1, c2, I2, m2, u2⟩ : Stq 58 113 [.inl (xs (x + 1)), .inl (xs (x + 2)), .inl (xs (x + 3)), .inl (xs (x + 4))] h := st_comes I
  obtain ⟨v, hv⟩ := call_int (mid := 58) (by decide +kernel) c1
  cases hv
  have C1 : Sc L xs h1 := sc_call Clo_Sc _ _ _ _ _ c1 C
  have C2 : Sc L xs h2 := sc_call Clo_Sc _ _ _ _ _ c2 C1
  have F1 : Rf h1 := sc_call Clo_Rf _ _ _ _ _ c1 ⟨by have := I.2.1; omega, K37 I.1⟩
  refine ⟨h2, ?_, I2, C2, m2, u2⟩
  simp +decide only [u_L_law_391, u_L_law_392, u_L_law_393, u_L_law_394, u_L_law_395, u_L_law_396, u_L_law_397, u_L_law_398, u_L_law_399, u_L_law_400, u_L_law_401, u_L_law_402, u_L_law_403, u_L_law_404, u_L_law_405, u_L_law_406, u_L_law_407, u_L_law_408, u_L_law_409, u_L_law_410, u_L_law_411, u_L_law_412, u_L_law_415, u_L_law_416, u_L_law_417, u_L_law_418, u_L_law_419, u_L_law_420, u_L_law_421, u_L_law_422, u_L_law_423, u_L_law_424, u_L_law_425, u_L_law_426, u_L_law_427, u_L_law_428, u_L_law_429, u_L_law_430, u_L_law_431, u_L_law_432, u_L_law_433, u_L_law_434, u_L_law_435, u_L_law_436, u_L_law_439, u_L_law_442, u_L_law_443, zcl_i, zcl_r, zcl_l, zcl_0, Option.bind_some, Option.bind_none, Option.toList_some, Option.toList_none, List.cons_append, List.nil_append, zk_wI, zk_wR, zk_wC, zr_wI, zr_wC, zi_wR, zn_wI, zn_wR, zn_wC, if_true, if_false, true_or, or_true, or_false, false_or, true_and, and_true, ↓reduceIte, reduceCtorEq, Nat.reduceEqDiff, Nat.reduceLT, Nat.reduceLeDiff, Nat.reduceAdd, Nat.reduceSub, Nat.reduceMul, Int32.reduceLT, Int32.reduceLE, Int32.reduceAdd, Int32.reduceMul, Int32.reduceSub, Int32.reduceToNatClampNeg, and_self, or_self, and_false, false_and, not_true_eq_false, not_false_eq_true, C.2.1, C1.2.1, C.2.2, C1.2.2, K1 I.1, F1.2, x1, x2, x3, x4, nI_1, n2, n3, n4, c1, c2, eq_self]
theorem lw_c6 {L x : Nat} {xs : Nat → Int32} {h : zH} (I : Inv h) (C : Sc L xs h) (hx : x + 6 ≤ L) (hL : L ≤ 384) : ∃ h2, zX 40 tb_L_law 444 [some (.inr (.inr (some 0))), some (.inr (.inr (some 1))), some (.inr (.inr (some 37))), some (.inl (nI x))] [] h = zX 40 tb_L_law 1030 [some (.inr (.inr (some 0))), some (.inr (.inr (some 1))), some (.inr (.inr (some 37))), some (.inl (nI x))] [] h2 ∧ Inv h2 ∧ Sc L xs h2 ∧ zn h2 ≤ zn h + 8 ∧ zu h2 ≤ zu h + 40 := by
  have x1 : zix (nI (x + 1)) L = some (x + 1) := zix_nI (by omega) (by omega)
  have x2 : zix (nI (x + 2)) L = some (x + 2) := zix_nI (by omega) (by omega)
  have n2 : nI x + 2 = nI (x + 2) := nI_add x 2
  obtain ⟨r, h1, h2, c1, c2, I2, m2, u2⟩ : Stq 61 117 [.inl (xs (x + 1)), .inl (xs (x + 2))] h := st_never I
  obtain ⟨v, hv⟩ := call_int (mid := 61) (by decide +kernel) c1
  cases hv
  have C1 : Sc L xs h1 := sc_call Clo_Sc _ _ _ _ _ c1 C
  have C2 : Sc L xs h2 := sc_call Clo_Sc _ _ _ _ _ c2 C1
  have F1 : Rf h1 := sc_call Clo_Rf _ _ _ _ _ c1 ⟨by have := I.2.1; omega, K37 I.1⟩
  refine ⟨h2, ?_, I2, C2, m2, u2⟩
  simp +decide only [u_L_law_444, u_L_law_445, u_L_law_446, u_L_law_447, u_L_law_448, u_L_law_449, u_L_law_450, u_L_law_451, u_L_law_452, u_L_law_453, u_L_law_454, u_L_law_455, u_L_law_458, u_L_law_459, u_L_law_460, u_L_law_461, u_L_law_462, u_L_law_463, u_L_law_464, u_L_law_465, u_L_law_466, u_L_law_467, u_L_law_468, u_L_law_469, u_L_law_472, u_L_law_475, u_L_law_476, zcl_i, zcl_r, zcl_l, zcl_0, Option.bind_some, Option.bind_none, Option.toList_some, Option.toList_none, List.cons_append, List.nil_append, zk_wI, zk_wR, zk_wC, zr_wI, zr_wC, zi_wR, zn_wI, zn_wR, zn_wC, if_true, if_false, true_or, or_true, or_false, false_or, true_and, and_true, ↓reduceIte, reduceCtorEq, Nat.reduceEqDiff, Nat.reduceLT, Nat.reduceLeDiff, Nat.reduceAdd, Nat.reduceSub, Nat.reduceMul, Int32.reduceLT, Int32.reduceLE, Int32.reduceAdd, Int32.reduceMul, Int32.reduceSub, Int32.reduceToNatClampNeg, and_self, or_self, and_false, false_and, not_true_eq_false, not_false_eq_true, C.2.1, C1.2.1, C.2.2, C1.2.2, K1 I.1, F1.2, x1, x2, nI_1, n2, c1, c2, eq_self]
theorem lw_c7 {L x : Nat} {xs : Nat → Int32} {h : zH} (I : Inv h) (C : Sc L xs h) (hx : x + 6 ≤ L) (hL : L ≤ 384) : ∃ h2, zX 40 tb_L_law 477 [some (.inr (.inr (some 0))), some (.inr (.inr (some 1))), some (.inr (.inr (some 37))), some (.inl (nI x))] [] h = zX 40 tb_L_law 1030 [some (.inr (.inr (some 0))), some (.inr (.inr (some 1))), some (.inr (.inr (some 37))), some (.inl (nI x))] [] h2 ∧ Inv h2 ∧ Sc L xs h2 ∧ zn h2 ≤ zn h + 8 ∧ zu h2 ≤ zu h + 40 := by
  have x1 : zix (nI (x + 1)) L = some (x + 1) := zix_nI (by omega) (by omega)
  have x2 : zix (nI (x + 2)) L = some (x + 2) := zix_nI (by omega) (by omega)
  have n2 : nI x + 2 = nI (x + 2) := nI_add x 2
  have x3 : zix (nI (x + 3)) L = some (x + 3) := zix_nI (by omega) (by omega)
  have n3 : nI x + 3 = nI (x + 3) := nI_add x 3
  have x4 : zix (nI (x + 4)) L = some (x + 4) := zix_nI (by omega) (by omega)
  have n4 : nI x + 4 = nI (x + 4) := nI_add x 4
  obtain ⟨r, h1, h2, c1, c2, I2, m2, u2⟩ : Stq 62 118 [.inl (xs (x + 1)), .inl (xs (x + 2)), .inl (xs (x + 3)), .inl (xs (x + 4))] h := st_study I
  obtain ⟨v, hv⟩ := call_int (mid := 62) (by decide +kernel) c1
  cases hv
  have C1 : Sc L xs h1 := sc_call Clo_Sc _ _ _ _ _ c1 C
  have C2 : Sc L xs h2 := sc_call Clo_Sc _ _ _ _ _ c2 C1
  have F1 : Rf h1 := sc_call Clo_Rf _ _ _ _ _ c1 ⟨by have := I.2.1; omega, K37 I.1⟩
  refine ⟨h2, ?_, I2, C2, m2, u2⟩
  simp +decide only [u_L_law_477, u_L_law_478, u_L_law_479, u_L_law_480, u_L_law_481, u_L_law_482, u_L_law_483, u_L_law_484, u_L_law_485, u_L_law_486, u_L_law_487, u_L_law_488, u_L_law_489, u_L_law_490, u_L_law_491, u_L_law_492, u_L_law_493, u_L_law_494, u_L_law_495, u_L_law_496, u_L_law_497, u_L_law_498, u_L_law_501, u_L_law_502, u_L_law_503, u_L_law_504, u_L_law_505, u_L_law_506, u_L_law_507, u_L_law_508, u_L_law_509, u_L_law_510, u_L_law_511, u_L_law_512, u_L_law_513, u_L_law_514, u_L_law_515, u_L_law_516, u_L_law_517, u_L_law_518, u_L_law_519, u_L_law_520, u_L_law_521, u_L_law_522, u_L_law_525, u_L_law_528, u_L_law_529, zcl_i, zcl_r, zcl_l, zcl_0, Option.bind_some, Option.bind_none, Option.toList_some, Option.toList_none, List.cons_append, List.nil_append, zk_wI, zk_wR, zk_wC, zr_wI, zr_wC, zi_wR, zn_wI, zn_wR, zn_wC, if_true, if_false, true_or, or_true, or_false, false_or, true_and, and_true, ↓reduceIte, reduceCtorEq, Nat.reduceEqDiff, Nat.reduceLT, Nat.reduceLeDiff, Nat.reduceAdd, Nat.reduceSub, Nat.reduceMul, Int32.reduceLT, Int32.reduceLE, Int32.reduceAdd, Int32.reduceMul, Int32.reduceSub, Int32.reduceToNatClampNeg, and_self, or_self, and_false, false_and, not_true_eq_false, not_false_eq_true, C.2.1, C1.2.1, C.2.2, C1.2.2, K1 I.1, F1.2, x1, x2, x3, x4, nI_1, n2, n3, n4, c1, c2, eq_self]
theorem lw_c8 {L x : Nat} {xs : Nat → Int32} {h : zH} (I : Inv h) (C : Sc L xs h) (hx : x + 6 ≤ L) (hL : L ≤ 384) : ∃ h2, zX 40 tb_L_law 530 [some (.inr (.inr (some 0))), some (.inr (.inr (some 1))), some (.inr (.inr (some 37))), some (.inl (nI x))] [] h = zX 40 tb_L_law 1030 [some (.inr (.inr (some 0))), some (.inr (.inr (some 1))), some (.inr (.inr (some 37))), some (.inl (nI x))] [] h2 ∧ Inv h2 ∧ Sc L xs h2 ∧ zn h2 ≤ zn h + 8 ∧ zu h2 ≤ zu h + 40 := by
  have x1 : zix (nI (x + 1)) L = some (x + 1) := zix_nI (by omega) (by omega)
  obtain ⟨r, h1, h2, c1, c2, I2, m2, u2⟩ : Stq 63 122 [.inl (xs (x + 1))] h := st_game I
  obtain ⟨v, hv⟩ := call_int (mid := 63) (by decide +kernel) c1
  cases hv
  have C1 : Sc L xs h1 := sc_call Clo_Sc _ _ _ _ _ c1 C
  have C2 : Sc L xs h2 := sc_call Clo_Sc _ _ _ _ _ c2 C1
  have F1 : Rf h1 := sc_call Clo_Rf _ _ _ _ _ c1 ⟨by have := I.2.1; omega, K37 I.1⟩
  refine ⟨h2, ?_, I2, C2, m2, u2⟩
  simp +decide only [u_L_law_530, u_L_law_531, u_L_law_532, u_L_law_533, u_L_law_534, u_L_law_535, u_L_law_536, u_L_law_539, u_L_law_540, u_L_law_541, u_L_law_542, u_L_law_543, u_L_law_544, u_L_law_545, u_L_law_548, u_L_law_551, u_L_law_552, zcl_i, zcl_r, zcl_l, zcl_0, Option.bind_some, Option.bind_none, Option.toList_some, Option.toList_none, List.cons_append, List.nil_append, zk_wI, zk_wR, zk_wC, zr_wI, zr_wC, zi_wR, zn_wI, zn_wR, zn_wC, if_true, if_false, true_or, or_true, or_false, false_or, true_and, and_true, ↓reduceIte, reduceCtorEq, Nat.reduceEqDiff, Nat.reduceLT, Nat.reduceLeDiff, Nat.reduceAdd, Nat.reduceSub, Nat.reduceMul, Int32.reduceLT, Int32.reduceLE, Int32.reduceAdd, Int32.reduceMul, Int32.reduceSub, Int32.reduceToNatClampNeg, and_self, or_self, and_false, false_and, not_true_eq_false, not_false_eq_true, C.2.1, C1.2.1, C.2.2, C1.2.2, K1 I.1, F1.2, x1, nI_1, c1, c2, eq_self]
theorem lw_c9 {L x : Nat} {xs : Nat → Int32} {h : zH} (I : Inv h) (C : Sc L xs h) (hx : x + 6 ≤ L) (hL : L ≤ 384) : ∃ h2, zX 40 tb_L_law 553 [some (.inr (.inr (some 0))), some (.inr (.inr (some 1))), some (.inr (.inr (some 37))), some (.inl (nI x))] [] h = zX 40 tb_L_law 1030 [some (.inr (.inr (some 0))), some (.inr (.inr (some 1))), some (.inr (.inr (some 37))), some (.inl (nI x))] [] h2 ∧ Inv h2 ∧ Sc L xs h2 ∧ zn h2 ≤ zn h + 8 ∧ zu h2 ≤ zu h + 40 := by
  have x1 : zix (nI (x + 1)) L = some (x + 1) := zix_nI (by omega) (by omega)
  have x2 : zix (nI (x + 2)) L = some (x + 2) := zix_nI (by omega) (by omega)
  have n2 : nI x + 2 = nI (x + 2) := nI_add x 2
  have x3 : zix (nI (x + 3)) L = some (x + 3) := zix_nI (by omega) (by omega)
  have n3 : nI x + 3 = nI (x + 3) := nI_add x 3
  obtain ⟨r, h1, h2, c1, c2, I2, m2, u2⟩ : Stq 64 123 [.inl (xs (x + 1)), .inl (xs (x + 2)), .inl (xs (x + 3))] h := st_porter I
  obtain ⟨v, hv⟩ := call_long (mid := 64) (by decide +kernel) c1
  cases hv
  have C1 : Sc L xs h1 := sc_call Clo_Sc _ _ _ _ _ c1 C
  have C2 : Sc L xs h2 := sc_call Clo_Sc _ _ _ _ _ c2 C1
  have F1 : Rf h1 := sc_call Clo_Rf _ _ _ _ _ c1 ⟨by have := I.2.1; omega, K37 I.1⟩
  refine ⟨h2, ?_, I2, C2, m2, u2⟩
  have vv : lg_cmp v v = 0 := (lg_cmp_eq v v).mpr rfl
  simp +decide only [u_L_law_553, u_L_law_554, u_L_law_555, u_L_law_556, u_L_law_557, u_L_law_558, u_L_law_559, u_L_law_560, u_L_law_561, u_L_law_562, u_L_law_563, u_L_law_564, u_L_law_565, u_L_law_566, u_L_law_567, u_L_law_568, u_L_law_569, u_L_law_572, u_L_law_573, u_L_law_574, u_L_law_575, u_L_law_576, u_L_law_577, u_L_law_578, u_L_law_579, u_L_law_580, u_L_law_581, u_L_law_582, u_L_law_583, u_L_law_584, u_L_law_585, u_L_law_586, u_L_law_587, u_L_law_588, u_L_law_591, u_L_law_592, u_L_law_595, u_L_law_596, zcl_i, zcl_r, zcl_l, zcl_0, Option.bind_some, Option.bind_none, Option.toList_some, Option.toList_none, List.cons_append, List.nil_append, zk_wI, zk_wR, zk_wC, zr_wI, zr_wC, zi_wR, zn_wI, zn_wR, zn_wC, if_true, if_false, true_or, or_true, or_false, false_or, true_and, and_true, ↓reduceIte, reduceCtorEq, Nat.reduceEqDiff, Nat.reduceLT, Nat.reduceLeDiff, Nat.reduceAdd, Nat.reduceSub, Nat.reduceMul, Int32.reduceLT, Int32.reduceLE, Int32.reduceAdd, Int32.reduceMul, Int32.reduceSub, Int32.reduceToNatClampNeg, and_self, or_self, and_false, false_and, not_true_eq_false, not_false_eq_true, C.2.1, C1.2.1, C.2.2, C1.2.2, K1 I.1, F1.2, x1, x2, x3, nI_1, n2, n3, c1, c2, eq_self, vv]
theorem lw_c10 {L x : Nat} {xs : Nat → Int32} {h : zH} (I : Inv h) (C : Sc L xs h) (hx : x + 6 ≤ L) (hL : L ≤ 384) : ∃ h2, zX 40 tb_L_law 597 [some (.inr (.inr (some 0))), some (.inr (.inr (some 1))), some (.inr (.inr (some 37))), some (.inl (nI x))] [] h = zX 40 tb_L_law 1030 [some (.inr (.inr (some 0))), some (.inr (.inr (some 1))), some (.inr (.inr (some 37))), some (.inl (nI x))] [] h2 ∧ Inv h2 ∧ Sc L xs h2 ∧ zn h2 ≤ zn h + 8 ∧ zu h2 ≤ zu h + 40 := by
  have x1 : zix (nI (x + 1)) L = some (x + 1) := zix_nI (by omega) (by omega)
  have x2 : zix (nI (x + 2)) L = some (x + 2) := zix_nI (by omega) (by omega)
  have n2 : nI x + 2 = nI (x + 2) := nI_add x 2
  have x3 : zix (nI (x + 3)) L = some (x + 3) := zix_nI (by omega) (by omega)
  have n3 : nI x + 3 = nI (x + 3) := nI_add x 3
  obtain ⟨r, h1, h2, c1, c2, I2, m2, u2⟩ : Stq 65 124 [.inl (xs (x + 1)), .inl (xs (x + 2)), .inl (xs (x + 3))] h := st_reading I
  obtain ⟨v, hv⟩ := call_int (mid := 65) (by decide +kernel) c1
  cases hv
  have C1 : Sc L xs h1 := sc_call Clo_Sc _ _ _ _ _ c1 C
  have C2 : Sc L xs h2 := sc_call Clo_Sc _ _ _ _ _ c2 C1
  have F1 : Rf h1 := sc_call Clo_Rf _ _ _ _ _ c1 ⟨by have := I.2.1; omega, K37 I.1⟩
  refine ⟨h2, ?_, I2, C2, m2, u2⟩
  simp +decide only [u_L_law_597, u_L_law_598, u_L_law_599, u_L_law_600, u_L_law_601, u_L_law_602, u_L_law_603, u_L_law_604, u_L_law_605, u_L_law_606, u_L_law_607, u_L_law_608, u_L_law_609, u_L_law_610, u_L_law_611, u_L_law_612, u_L_law_613, u_L_law_616, u_L_law_617, u_L_law_618, u_L_law_619, u_L_law_620, u_L_law_621, u_L_law_622, u_L_law_623, u_L_law_624, u_L_law_625, u_L_law_626, u_L_law_627, u_L_law_628, u_L_law_629, u_L_law_630, u_L_law_631, u_L_law_632, u_L_law_635, u_L_law_638, u_L_law_639, zcl_i, zcl_r, zcl_l, zcl_0, Option.bind_some, Option.bind_none, Option.toList_some, Option.toList_none, List.cons_append, List.nil_append, zk_wI, zk_wR, zk_wC, zr_wI, zr_wC, zi_wR, zn_wI, zn_wR, zn_wC, if_true, if_false, true_or, or_true, or_false, false_or, true_and, and_true, ↓reduceIte, reduceCtorEq, Nat.reduceEqDiff, Nat.reduceLT, Nat.reduceLeDiff, Nat.reduceAdd, Nat.reduceSub, Nat.reduceMul, Int32.reduceLT, Int32.reduceLE, Int32.reduceAdd, Int32.reduceMul, Int32.reduceSub, Int32.reduceToNatClampNeg, and_self, or_self, and_false, false_and, not_true_eq_false, not_false_eq_true, C.2.1, C1.2.1, C.2.2, C1.2.2, K1 I.1, F1.2, x1, x2, x3, nI_1, n2, n3, c1, c2, eq_self]
theorem lw_c11 {L x : Nat} {xs : Nat → Int32} {h : zH} (I : Inv h) (C : Sc L xs h) (hx : x + 6 ≤ L) (hL : L ≤ 384) : ∃ h2, zX 40 tb_L_law 640 [some (.inr (.inr (some 0))), some (.inr (.inr (some 1))), some (.inr (.inr (some 37))), some (.inl (nI x))] [] h = zX 40 tb_L_law 1030 [some (.inr (.inr (some 0))), some (.inr (.inr (some 1))), some (.inr (.inr (some 37))), some (.inl (nI x))] [] h2 ∧ Inv h2 ∧ Sc L xs h2 ∧ zn h2 ≤ zn h + 8 ∧ zu h2 ≤ zu h + 40 := by
  have x1 : zix (nI (x + 1)) L = some (x + 1) := zix_nI (by omega) (by omega)
  obtain ⟨r, h1, h2, c1, c2, I2, m2, u2⟩ : Stq 66 125 [.inl (xs (x + 1))] h := st_back I
  obtain ⟨v, hv⟩ := call_int (mid := 66) (by decide +kernel) c1
  cases hv
  have C1 : Sc L xs h1 := sc_call Clo_Sc _ _ _ _ _ c1 C
  have C2 : Sc L xs h2 := sc_call Clo_Sc _ _ _ _ _ c2 C1
  have F1 : Rf h1 := sc_call Clo_Rf _ _ _ _ _ c1 ⟨by have := I.2.1; omega, K37 I.1⟩
  refine ⟨h2, ?_, I2, C2, m2, u2⟩
  simp +decide only [u_L_law_640, u_L_law_641, u_L_law_642, u_L_law_643, u_L_law_644, u_L_law_645, u_L_law_646, u_L_law_649, u_L_law_650, u_L_law_651, u_L_law_652, u_L_law_653, u_L_law_654, u_L_law_655, u_L_law_658, u_L_law_661, u_L_law_662, zcl_i, zcl_r, zcl_l, zcl_0, Option.bind_some, Option.bind_none, Option.toList_some, Option.toList_none, List.cons_append, List.nil_append, zk_wI, zk_wR, zk_wC, zr_wI, zr_wC, zi_wR, zn_wI, zn_wR, zn_wC, if_true, if_false, true_or, or_true, or_false, false_or, true_and, and_true, ↓reduceIte, reduceCtorEq, Nat.reduceEqDiff, Nat.reduceLT, Nat.reduceLeDiff, Nat.reduceAdd, Nat.reduceSub, Nat.reduceMul, Int32.reduceLT, Int32.reduceLE, Int32.reduceAdd, Int32.reduceMul, Int32.reduceSub, Int32.reduceToNatClampNeg, and_self, or_self, and_false, false_and, not_true_eq_false, not_false_eq_true, C.2.1, C1.2.1, C.2.2, C1.2.2, K1 I.1, F1.2, x1, nI_1, c1, c2, eq_self]
theorem lw_c12 {L x : Nat} {xs : Nat → Int32} {h : zH} (I : Inv h) (C : Sc L xs h) (hx : x + 6 ≤ L) (hL : L ≤ 384) : ∃ h2, zX 40 tb_L_law 663 [some (.inr (.inr (some 0))), some (.inr (.inr (some 1))), some (.inr (.inr (some 37))), some (.inl (nI x))] [] h = zX 40 tb_L_law 1030 [some (.inr (.inr (some 0))), some (.inr (.inr (some 1))), some (.inr (.inr (some 37))), some (.inl (nI x))] [] h2 ∧ Inv h2 ∧ Sc L xs h2 ∧ zn h2 ≤ zn h + 8 ∧ zu h2 ≤ zu h + 40 := by
  have x1 : zix (nI (x + 1)) L = some (x + 1) := zix_nI (by omega) (by omega)
  obtain ⟨r, h1, h2, c1, c2, I2, m2, u2⟩ : Stq 67 127 [.inl (xs (x + 1))] h := st_fits I
  obtain ⟨v, hv⟩ := call_int (mid := 67) (by decide +kernel) c1
  cases hv
  have C1 : Sc L xs h1 := sc_call Clo_Sc _ _ _ _ _ c1 C
  have C2 : Sc L xs h2 := sc_call Clo_Sc _ _ _ _ _ c2 C1
  have F1 : Rf h1 := sc_call Clo_Rf _ _ _ _ _ c1 ⟨by have := I.2.1; omega, K37 I.1⟩
  refine ⟨h2, ?_, I2, C2, m2, u2⟩
  simp +decide only [u_L_law_663, u_L_law_664, u_L_law_665, u_L_law_666, u_L_law_667, u_L_law_668, u_L_law_669, u_L_law_672, u_L_law_673, u_L_law_674, u_L_law_675, u_L_law_676, u_L_law_677, u_L_law_678, u_L_law_681, u_L_law_684, u_L_law_685, zcl_i, zcl_r, zcl_l, zcl_0, Option.bind_some, Option.bind_none, Option.toList_some, Option.toList_none, List.cons_append, List.nil_append, zk_wI, zk_wR, zk_wC, zr_wI, zr_wC, zi_wR, zn_wI, zn_wR, zn_wC, if_true, if_false, true_or, or_true, or_false, false_or, true_and, and_true, ↓reduceIte, reduceCtorEq, Nat.reduceEqDiff, Nat.reduceLT, Nat.reduceLeDiff, Nat.reduceAdd, Nat.reduceSub, Nat.reduceMul, Int32.reduceLT, Int32.reduceLE, Int32.reduceAdd, Int32.reduceMul, Int32.reduceSub, Int32.reduceToNatClampNeg, and_self, or_self, and_false, false_and, not_true_eq_false, not_false_eq_true, C.2.1, C1.2.1, C.2.2, C1.2.2, K1 I.1, F1.2, x1, nI_1, c1, c2, eq_self]
theorem lw_c13 {L x : Nat} {xs : Nat → Int32} {h : zH} (I : Inv h) (C : Sc L xs h) (hx : x + 6 ≤ L) (hL : L ≤ 384) : ∃ h2, zX 40 tb_L_law 686 [some (.inr (.inr (some 0))), some (.inr (.inr (some 1))), some (.inr (.inr (some 37))), some (.inl (nI x))] [] h = zX 40 tb_L_law 1030 [some (.inr (.inr (some 0))), some (.inr (.inr (some 1))), some (.inr (.inr (some 37))), some (.inl (nI x))] [] h2 ∧ Inv h2 ∧ Sc L xs h2 ∧ zn h2 ≤ zn h + 8 ∧ zu h2 ≤ zu h + 40 := by
  have x1 : zix (nI (x + 1)) L = some (x + 1) := zix_nI (by omega) (by omega)
  have x2 : zix (nI (x + 2)) L = some (x + 2) := zix_nI (by omega) (by omega)
  have n2 : nI x + 2 = nI (x + 2) := nI_add x 2
  have x3 : zix (nI (x + 3)) L = some (x + 3) := zix_nI (by omega) (by omega)
  have n3 : nI x + 3 = nI (x + 3) := nI_add x 3
  obtain ⟨r, h1, h2, c1, c2, I2, m2, u2⟩ : Stq 69 129 [.inl (xs (x + 1)), .inl (xs (x + 2)), .inl (xs (x + 3))] h := st_sheet I
  obtain ⟨v, hv⟩ := call_int (mid := 69) (by decide +kernel) c1
  cases hv
  have C1 : Sc L xs h1 := sc_call Clo_Sc _ _ _ _ _ c1 C
  have C2 : Sc L xs h2 := sc_call Clo_Sc _ _ _ _ _ c2 C1
  have F1 : Rf h1 := sc_call Clo_Rf _ _ _ _ _ c1 ⟨by have := I.2.1; omega, K37 I.1⟩
  refine ⟨h2, ?_, I2, C2, m2, u2⟩
  simp +decide only [u_L_law_686, u_L_law_687, u_L_law_688, u_L_law_689, u_L_law_690, u_L_law_691, u_L_law_692, u_L_law_693, u_L_law_694, u_L_law_695, u_L_law_696, u_L_law_697, u_L_law_698, u_L_law_699, u_L_law_700, u_L_law_701, u_L_law_702, u_L_law_705, u_L_law_706, u_L_law_707, u_L_law_708, u_L_law_709, u_L_law_710, u_L_law_711, u_L_law_712, u_L_law_713, u_L_law_714, u_L_law_715, u_L_law_716, u_L_law_717, u_L_law_718, u_L_law_719, u_L_law_720, u_L_law_721, u_L_law_724, u_L_law_727, u_L_law_728, zcl_i, zcl_r, zcl_l, zcl_0, Option.bind_some, Option.bind_none, Option.toList_some, Option.toList_none, List.cons_append, List.nil_append, zk_wI, zk_wR, zk_wC, zr_wI, zr_wC, zi_wR, zn_wI, zn_wR, zn_wC, if_true, if_false, true_or, or_true, or_false, false_or, true_and, and_true, ↓reduceIte, reduceCtorEq, Nat.reduceEqDiff, Nat.reduceLT, Nat.reduceLeDiff, Nat.reduceAdd, Nat.reduceSub, Nat.reduceMul, Int32.reduceLT, Int32.reduceLE, Int32.reduceAdd, Int32.reduceMul, Int32.reduceSub, Int32.reduceToNatClampNeg, and_self, or_self, and_false, false_and, not_true_eq_false, not_false_eq_true, C.2.1, C1.2.1, C.2.2, C1.2.2, K1 I.1, F1.2, x1, x2, x3, nI_1, n2, n3, c1, c2, eq_self]
theorem lw_c14 {L x : Nat} {xs : Nat → Int32} {h : zH} (I : Inv h) (C : Sc L xs h) (hx : x + 6 ≤ L) (hL : L ≤ 384) : ∃ h2, zX 40 tb_L_law 729 [some (.inr (.inr (some 0))), some (.inr (.inr (some 1))), some (.inr (.inr (some 37))), some (.inl (nI x))] [] h = zX 40 tb_L_law 1030 [some (.inr (.inr (some 0))), some (.inr (.inr (some 1))), some (.inr (.inr (some 37))), some (.inl (nI x))] [] h2 ∧ Inv h2 ∧ Sc L xs h2 ∧ zn h2 ≤ zn h + 8 ∧ zu h2 ≤ zu h + 40 := by
  have x1 : zix (nI (x + 1)) L = some (x + 1) := zix_nI (by omega) (by omega)
  obtain ⟨r, h1, h2, c1, c2, I2, m2, u2⟩ : Stq 70 130 [.inl (xs (x + 1))] h := st_lose I
  obtain ⟨v, hv⟩ := call_int (mid := 70) (by decide +kernel) c1
  cases hv
  have C1 : Sc L xs h1 := sc_call Clo_Sc _ _ _ _ _ c1 C
  have C2 : Sc L xs h2 := sc_call Clo_Sc _ _ _ _ _ c2 C1
  have F1 : Rf h1 := sc_call Clo_Rf _ _ _ _ _ c1 ⟨by have := I.2.1; omega, K37 I.1⟩
  refine ⟨h2, ?_, I2, C2, m2, u2⟩
  simp +decide only [u_L_law_729, u_L_law_730, u_L_law_731, u_L_law_732, u_L_law_733, u_L_law_734, u_L_law_735, u_L_law_738, u_L_law_739, u_L_law_740, u_L_law_741, u_L_law_742, u_L_law_743, u_L_law_744, u_L_law_747, u_L_law_750, u_L_law_751, zcl_i, zcl_r, zcl_l, zcl_0, Option.bind_some, Option.bind_none, Option.toList_some, Option.toList_none, List.cons_append, List.nil_append, zk_wI, zk_wR, zk_wC, zr_wI, zr_wC, zi_wR, zn_wI, zn_wR, zn_wC, if_true, if_false, true_or, or_true, or_false, false_or, true_and, and_true, ↓reduceIte, reduceCtorEq, Nat.reduceEqDiff, Nat.reduceLT, Nat.reduceLeDiff, Nat.reduceAdd, Nat.reduceSub, Nat.reduceMul, Int32.reduceLT, Int32.reduceLE, Int32.reduceAdd, Int32.reduceMul, Int32.reduceSub, Int32.reduceToNatClampNeg, and_self, or_self, and_false, false_and, not_true_eq_false, not_false_eq_true, C.2.1, C1.2.1, C.2.2, C1.2.2, K1 I.1, F1.2, x1, nI_1, c1, c2, eq_self]
theorem lw_c15 {L x : Nat} {xs : Nat → Int32} {h : zH} (I : Inv h) (C : Sc L xs h) (hx : x + 6 ≤ L) (hL : L ≤ 384) : ∃ h2, zX 40 tb_L_law 752 [some (.inr (.inr (some 0))), some (.inr (.inr (some 1))), some (.inr (.inr (some 37))), some (.inl (nI x))] [] h = zX 40 tb_L_law 1030 [some (.inr (.inr (some 0))), some (.inr (.inr (some 1))), some (.inr (.inr (some 37))), some (.inl (nI x))] [] h2 ∧ Inv h2 ∧ Sc L xs h2 ∧ zn h2 ≤ zn h + 8 ∧ zu h2 ≤ zu h + 40 := by
  have x1 : zix (nI (x + 1)) L = some (x + 1) := zix_nI (by omega) (by omega)
  have x2 : zix (nI (x + 2)) L = some (x + 2) := zix_nI (by omega) (by omega)
  have n2 : nI x + 2 = nI (x + 2) := nI_add x 2
  have x3 : zix (nI (x + 3)) L = some (x + 3) := zix_nI (by omega) (by omega)
  have n3 : nI x + 3 = nI (x + 3) := nI_add x 3
  obtain ⟨r, h1, h2, c1, c2, I2, m2, u2⟩ : Stq 71 132 [.inl (xs (x + 1)), .inl (xs (x + 2)), .inl (xs (x + 3))] h := st_put I
  obtain ⟨v, hv⟩ := call_int (mid := 71) (by decide +kernel) c1
  cases hv
  have C1 : Sc L xs h1 := sc_call Clo_Sc _ _ _ _ _ c1 C
  have C2 : Sc L xs h2 := sc_call Clo_Sc _ _ _ _ _ c2 C1
  have F1 : Rf h1 := sc_call Clo_Rf _ _ _ _ _ c1 ⟨by have := I.2.1; omega, K37 I.1⟩
  refine ⟨h2, ?_, I2, C2, m2, u2⟩
  simp +decide only [u_L_law_752, u_L_law_753, u_L_law_754, u_L_law_755, u_L_law_756, u_L_law_757, u_L_law_758, u_L_law_759, u_L_law_760, u_L_law_761, u_L_law_762, u_L_law_763, u_L_law_764, u_L_law_765, u_L_law_766, u_L_law_767, u_L_law_768, u_L_law_771, u_L_law_772, u_L_law_773, u_L_law_774, u_L_law_775, u_L_law_776, u_L_law_777, u_L_law_778, u_L_law_779, u_L_law_780, u_L_law_781, u_L_law_782, u_L_law_783, u_L_law_784, u_L_law_785, u_L_law_786, u_L_law_787, u_L_law_790, u_L_law_793, u_L_law_794, zcl_i, zcl_r, zcl_l, zcl_0, Option.bind_some, Option.bind_none, Option.toList_some, Option.toList_none, List.cons_append, List.nil_append, zk_wI, zk_wR, zk_wC, zr_wI, zr_wC, zi_wR, zn_wI, zn_wR, zn_wC, if_true, if_false, true_or, or_true, or_false, false_or, true_and, and_true, ↓reduceIte, reduceCtorEq, Nat.reduceEqDiff, Nat.reduceLT, Nat.reduceLeDiff, Nat.reduceAdd, Nat.reduceSub, Nat.reduceMul, Int32.reduceLT, Int32.reduceLE, Int32.reduceAdd, Int32.reduceMul, Int32.reduceSub, Int32.reduceToNatClampNeg, and_self, or_self, and_false, false_and, not_true_eq_false, not_false_eq_true, C.2.1, C1.2.1, C.2.2, C1.2.2, K1 I.1, F1.2, x1, x2, x3, nI_1, n2, n3, c1, c2, eq_self]
theorem lw_c16 {L x : Nat} {xs : Nat → Int32} {h : zH} (I : Inv h) (C : Sc L xs h) (hx : x + 6 ≤ L) (hL : L ≤ 384) : ∃ h2, zX 40 tb_L_law 795 [some (.inr (.inr (some 0))), some (.inr (.inr (some 1))), some (.inr (.inr (some 37))), some (.inl (nI x))] [] h = zX 40 tb_L_law 1030 [some (.inr (.inr (some 0))), some (.inr (.inr (some 1))), some (.inr (.inr (some 37))), some (.inl (nI x))] [] h2 ∧ Inv h2 ∧ Sc L xs h2 ∧ zn h2 ≤ zn h + 8 ∧ zu h2 ≤ zu h + 40 := by
  have x1 : zix (nI (x + 1)) L = some (x + 1) := zix_nI (by omega) (by omega)
  have x2 : zix (nI (x + 2)) L = some (x + 2) := zix_nI (by omega) (by omega)
  have n2 : nI x + 2 = nI (x + 2) := nI_add x 2
  have x3 : zix (nI (x + 3)) L = some (x + 3) := zix_nI (by omega) (by omega)
  have n3 : nI x + 3 = nI (x + 3) := nI_add x 3
  obtain ⟨r, h1, h2, c1, c2, I2, m2, u2⟩ : Stq 72 133 [.inl (xs (x + 1)), .inl (xs (x + 2)), .inl (xs (x + 3))] h := st_cell I
  obtain ⟨v, hv⟩ := call_long (mid := 72) (by decide +kernel) c1
  cases hv
  have C1 : Sc L xs h1 := sc_call Clo_Sc _ _ _ _ _ c1 C
  have C2 : Sc L xs h2 := sc_call Clo_Sc _ _ _ _ _ c2 C1
  have F1 : Rf h1 := sc_call Clo_Rf _ _ _ _ _ c1 ⟨by have := I.2.1; omega, K37 I.1⟩
  refine ⟨h2, ?_, I2, C2, m2, u2⟩
  have vv : lg_cmp v v = 0 := (lg_cmp_eq v v).mpr rfl
  simp +decide only [u_L_law_795, u_L_law_796, u_L_law_797, u_L_law_798, u_L_law_799, u_L_law_800, u_L_law_801, u_L_law_802, u_L_law_803, u_L_law_804, u_L_law_805, u_L_law_806, u_L_law_807, u_L_law_808, u_L_law_809, u_L_law_810, u_L_law_811, u_L_law_814, u_L_law_815, u_L_law_816, u_L_law_817, u_L_law_818, u_L_law_819, u_L_law_820, u_L_law_821, u_L_law_822, u_L_law_823, u_L_law_824, u_L_law_825, u_L_law_826, u_L_law_827, u_L_law_828, u_L_law_829, u_L_law_830, u_L_law_833, u_L_law_834, u_L_law_837, u_L_law_838, zcl_i, zcl_r, zcl_l, zcl_0, Option.bind_some, Option.bind_none, Option.toList_some, Option.toList_none, List.cons_append, List.nil_append, zk_wI, zk_wR, zk_wC, zr_wI, zr_wC, zi_wR, zn_wI, zn_wR, zn_wC, if_true, if_false, true_or, or_true, or_false, false_or, true_and, and_true, ↓reduceIte, reduceCtorEq, Nat.reduceEqDiff, Nat.reduceLT, Nat.reduceLeDiff, Nat.reduceAdd, Nat.reduceSub, Nat.reduceMul, Int32.reduceLT, Int32.reduceLE, Int32.reduceAdd, Int32.reduceMul, Int32.reduceSub, Int32.reduceToNatClampNeg, and_self, or_self, and_false, false_and, not_true_eq_false, not_false_eq_true, C.2.1, C1.2.1, C.2.2, C1.2.2, K1 I.1, F1.2, x1, x2, x3, nI_1, n2, n3, c1, c2, eq_self, vv]
theorem lw_c17 {L x : Nat} {xs : Nat → Int32} {h : zH} (I : Inv h) (C : Sc L xs h) (hx : x + 6 ≤ L) (hL : L ≤ 384) : ∃ h2, zX 40 tb_L_law 839 [some (.inr (.inr (some 0))), some (.inr (.inr (some 1))), some (.inr (.inr (some 37))), some (.inl (nI x))] [] h = zX 40 tb_L_law 1030 [some (.inr (.inr (some 0))), some (.inr (.inr (some 1))), some (.inr (.inr (some 37))), some (.inl (nI x))] [] h2 ∧ Inv h2 ∧ Sc L xs h2 ∧ zn h2 ≤ zn h + 8 ∧ zu h2 ≤ zu h + 40 := by
  have x1 : zix (nI (x + 1)) L = some (x + 1) := zix_nI (by omega) (by omega)
  have x2 : zix (nI (x + 2)) L = some (x + 2) := zix_nI (by omega) (by omega)
  have n2 : nI x + 2 = nI (x + 2) := nI_add x 2
  have x3 : zix (nI (x + 3)) L = some (x + 3) := zix_nI (by omega) (by omega)
  have n3 : nI x + 3 = nI (x + 3) := nI_add x 3
  have x4 : zix (nI (x + 4)) L = some (x + 4) := zix_nI (by omega) (by omega)
  have n4 : nI x + 4 = nI (x + 4) := nI_add x 4
  have x5 : zix (nI (x + 5)) L = some (x + 5) := zix_nI (by omega) (by omega)
  have n5 : nI x + 5 = nI (x + 5) := nI_add x 5
  obtain ⟨r, h1, h2, c1, c2, I2, m2, u2⟩ : Stq 73 135 [.inl (xs (x + 1)), .inl (xs (x + 2)), .inl (xs (x + 3)), .inl (xs (x + 4)), .inl (xs (x + 5))] h := st_copy I
  obtain ⟨v, hv⟩ := call_int (mid := 73) (by decide +kernel) c1
  cases hv
  have C1 : Sc L xs h1 := sc_call Clo_Sc _ _ _ _ _ c1 C
  have C2 : Sc L xs h2 := sc_call Clo_Sc _ _ _ _ _ c2 C1
  have F1 : Rf h1 := sc_call Clo_Rf _ _ _ _ _ c1 ⟨by have := I.2.1; omega, K37 I.1⟩
  refine ⟨h2, ?_, I2, C2, m2, u2⟩
  simp +decide only [u_L_law_839, u_L_law_840, u_L_law_841, u_L_law_842, u_L_law_843, u_L_law_844, u_L_law_845, u_L_law_846, u_L_law_847, u_L_law_848, u_L_law_849, u_L_law_850, u_L_law_851, u_L_law_852, u_L_law_853, u_L_law_854, u_L_law_855, u_L_law_856, u_L_law_857, u_L_law_858, u_L_law_859, u_L_law_860, u_L_law_861, u_L_law_862, u_L_law_863, u_L_law_864, u_L_law_865, u_L_law_868, u_L_law_869, u_L_law_870, u_L_law_871, u_L_law_872, u_L_law_873, u_L_law_874, u_L_law_875, u_L_law_876, u_L_law_877, u_L_law_878, u_L_law_879, u_L_law_880, u_L_law_881, u_L_law_882, u_L_law_883, u_L_law_884, u_L_law_885, u_L_law_886, u_L_law_887, u_L_law_888, u_L_law_889, u_L_law_890, u_L_law_891, u_L_law_892, u_L_law_893, u_L_law_894, u_L_law_897, u_L_law_900, u_L_law_901, zcl_i, zcl_r, zcl_l, zcl_0, Option.bind_some, Option.bind_none, Option.toList_some, Option.toList_none, List.cons_append, List.nil_append, zk_wI, zk_wR, zk_wC, zr_wI, zr_wC, zi_wR, zn_wI, zn_wR, zn_wC, if_true, if_false, true_or, or_true, or_false, false_or, true_and, and_true, ↓reduceIte, reduceCtorEq, Nat.reduceEqDiff, Nat.reduceLT, Nat.reduceLeDiff, Nat.reduceAdd, Nat.reduceSub, Nat.reduceMul, Int32.reduceLT, Int32.reduceLE, Int32.reduceAdd, Int32.reduceMul, Int32.reduceSub, Int32.reduceToNatClampNeg, and_self, or_self, and_false, false_and, not_true_eq_false, not_false_eq_true, C.2.1, C1.2.1, C.2.2, C1.2.2, K1 I.1, F1.2, x1, x2, x3, x4, x5, nI_1, n2, n3, n4, n5, c1, c2, eq_self]
theorem lw_c18 {L x : Nat} {xs : Nat → Int32} {h : zH} (I : Inv h) (C : Sc L xs h) (hx : x + 6 ≤ L) (hL : L ≤ 384) : ∃ h2, zX 40 tb_L_law 902 [some (.inr (.inr (some 0))), some (.inr (.inr (some 1))), some (.inr (.inr (some 37))), some (.inl (nI x))] [] h = zX 40 tb_L_law 1030 [some (.inr (.inr (some 0))), some (.inr (.inr (some 1))), some (.inr (.inr (some 37))), some (.inl (nI x))] [] h2 ∧ Inv h2 ∧ Sc L xs h2 ∧ zn h2 ≤ zn h + 8 ∧ zu h2 ≤ zu h + 40 := by
  have x1 : zix (nI (x + 1)) L = some (x + 1) := zix_nI (by omega) (by omega)
  obtain ⟨r, h1, h2, c1, c2, I2, m2, u2⟩ : Stq 74 137 [.inl (xs (x + 1))] h := st_tell I
  obtain ⟨v, hv⟩ := call_int (mid := 74) (by decide +kernel) c1
  cases hv
  have C1 : Sc L xs h1 := sc_call Clo_Sc _ _ _ _ _ c1 C
  have C2 : Sc L xs h2 := sc_call Clo_Sc _ _ _ _ _ c2 C1
  have F1 : Rf h1 := sc_call Clo_Rf _ _ _ _ _ c1 ⟨by have := I.2.1; omega, K37 I.1⟩
  refine ⟨h2, ?_, I2, C2, m2, u2⟩
  simp +decide only [u_L_law_902, u_L_law_903, u_L_law_904, u_L_law_905, u_L_law_906, u_L_law_907, u_L_law_908, u_L_law_911, u_L_law_912, u_L_law_913, u_L_law_914, u_L_law_915, u_L_law_916, u_L_law_917, u_L_law_920, u_L_law_923, u_L_law_924, zcl_i, zcl_r, zcl_l, zcl_0, Option.bind_some, Option.bind_none, Option.toList_some, Option.toList_none, List.cons_append, List.nil_append, zk_wI, zk_wR, zk_wC, zr_wI, zr_wC, zi_wR, zn_wI, zn_wR, zn_wC, if_true, if_false, true_or, or_true, or_false, false_or, true_and, and_true, ↓reduceIte, reduceCtorEq, Nat.reduceEqDiff, Nat.reduceLT, Nat.reduceLeDiff, Nat.reduceAdd, Nat.reduceSub, Nat.reduceMul, Int32.reduceLT, Int32.reduceLE, Int32.reduceAdd, Int32.reduceMul, Int32.reduceSub, Int32.reduceToNatClampNeg, and_self, or_self, and_false, false_and, not_true_eq_false, not_false_eq_true, C.2.1, C1.2.1, C.2.2, C1.2.2, K1 I.1, F1.2, x1, nI_1, c1, c2, eq_self]
theorem lw_c19 {L x : Nat} {xs : Nat → Int32} {h : zH} (I : Inv h) (C : Sc L xs h) (hx : x + 6 ≤ L) (hL : L ≤ 384) : ∃ h2, zX 40 tb_L_law 925 [some (.inr (.inr (some 0))), some (.inr (.inr (some 1))), some (.inr (.inr (some 37))), some (.inl (nI x))] [] h = zX 40 tb_L_law 1030 [some (.inr (.inr (some 0))), some (.inr (.inr (some 1))), some (.inr (.inr (some 37))), some (.inl (nI x))] [] h2 ∧ Inv h2 ∧ Sc L xs h2 ∧ zn h2 ≤ zn h + 8 ∧ zu h2 ≤ zu h + 40 := by
  have x1 : zix (nI (x + 1)) L = some (x + 1) := zix_nI (by omega) (by omega)
  obtain ⟨r, h1, h2, c1, c2, I2, m2, u2⟩ : Stq 75 138 [.inl (xs (x + 1))] h := st_whisper I
  obtain ⟨v, hv⟩ := call_int (mid := 75) (by decide +kernel) c1
  cases hv
  have C1 : Sc L xs h1 := sc_call Clo_Sc _ _ _ _ _ c1 C
  have C2 : Sc L xs h2 := sc_call Clo_Sc _ _ _ _ _ c2 C1
  have F1 : Rf h1 := sc_call Clo_Rf _ _ _ _ _ c1 ⟨by have := I.2.1; omega, K37 I.1⟩
  refine ⟨h2, ?_, I2, C2, m2, u2⟩
  simp +decide only [u_L_law_925, u_L_law_926, u_L_law_927, u_L_law_928, u_L_law_929, u_L_law_930, u_L_law_931, u_L_law_934, u_L_law_935, u_L_law_936, u_L_law_937, u_L_law_938, u_L_law_939, u_L_law_940, u_L_law_943, u_L_law_946, u_L_law_947, zcl_i, zcl_r, zcl_l, zcl_0, Option.bind_some, Option.bind_none, Option.toList_some, Option.toList_none, List.cons_append, List.nil_append, zk_wI, zk_wR, zk_wC, zr_wI, zr_wC, zi_wR, zn_wI, zn_wR, zn_wC, if_true, if_false, true_or, or_true, or_false, false_or, true_and, and_true, ↓reduceIte, reduceCtorEq, Nat.reduceEqDiff, Nat.reduceLT, Nat.reduceLeDiff, Nat.reduceAdd, Nat.reduceSub, Nat.reduceMul, Int32.reduceLT, Int32.reduceLE, Int32.reduceAdd, Int32.reduceMul, Int32.reduceSub, Int32.reduceToNatClampNeg, and_self, or_self, and_false, false_and, not_true_eq_false, not_false_eq_true, C.2.1, C1.2.1, C.2.2, C1.2.2, K1 I.1, F1.2, x1, nI_1, c1, c2, eq_self]
theorem lw_c20 {L x : Nat} {xs : Nat → Int32} {h : zH} (I : Inv h) (C : Sc L xs h) (hx : x + 6 ≤ L) (hL : L ≤ 384) : ∃ h2, zX 40 tb_L_law 948 [some (.inr (.inr (some 0))), some (.inr (.inr (some 1))), some (.inr (.inr (some 37))), some (.inl (nI x))] [] h = zX 40 tb_L_law 1030 [some (.inr (.inr (some 0))), some (.inr (.inr (some 1))), some (.inr (.inr (some 37))), some (.inl (nI x))] [] h2 ∧ Inv h2 ∧ Sc L xs h2 ∧ zn h2 ≤ zn h + 8 ∧ zu h2 ≤ zu h + 40 := by
  have x1 : zix (nI (x + 1)) L = some (x + 1) := zix_nI (by omega) (by omega)
  have x2 : zix (nI (x + 2)) L = some (x + 2) := zix_nI (by omega) (by omega)
  have n2 : nI x + 2 = nI (x + 2) := nI_add x 2
  obtain ⟨r, h1, h2, c1, c2, I2, m2, u2⟩ : Stq 76 139 [.inl (xs (x + 1)), .inl (xs (x + 2))] h := st_as I
  obtain ⟨v, hv⟩ := call_int (mid := 76) (by decide +kernel) c1
  cases hv
  have C1 : Sc L xs h1 := sc_call Clo_Sc _ _ _ _ _ c1 C
  have C2 : Sc L xs h2 := sc_call Clo_Sc _ _ _ _ _ c2 C1
  have F1 : Rf h1 := sc_call Clo_Rf _ _ _ _ _ c1 ⟨by have := I.2.1; omega, K37 I.1⟩
  refine ⟨h2, ?_, I2, C2, m2, u2⟩
  simp +decide only [u_L_law_948, u_L_law_949, u_L_law_950, u_L_law_951, u_L_law_952, u_L_law_953, u_L_law_954, u_L_law_955, u_L_law_956, u_L_law_957, u_L_law_958, u_L_law_959, u_L_law_962, u_L_law_963, u_L_law_964, u_L_law_965, u_L_law_966, u_L_law_967, u_L_law_968, u_L_law_969, u_L_law_970, u_L_law_971, u_L_law_972, u_L_law_973, u_L_law_976, u_L_law_979, u_L_law_980, zcl_i, zcl_r, zcl_l, zcl_0, Option.bind_some, Option.bind_none, Option.toList_some, Option.toList_none, List.cons_append, List.nil_append, zk_wI, zk_wR, zk_wC, zr_wI, zr_wC, zi_wR, zn_wI, zn_wR, zn_wC, if_true, if_false, true_or, or_true, or_false, false_or, true_and, and_true, ↓reduceIte, reduceCtorEq, Nat.reduceEqDiff, Nat.reduceLT, Nat.reduceLeDiff, Nat.reduceAdd, Nat.reduceSub, Nat.reduceMul, Int32.reduceLT, Int32.reduceLE, Int32.reduceAdd, Int32.reduceMul, Int32.reduceSub, Int32.reduceToNatClampNeg, and_self, or_self, and_false, false_and, not_true_eq_false, not_false_eq_true, C.2.1, C1.2.1, C.2.2, C1.2.2, K1 I.1, F1.2, x1, x2, nI_1, n2, c1, c2, eq_self]
theorem lw_c21 {L x : Nat} {xs : Nat → Int32} {h : zH} (I : Inv h) (C : Sc L xs h) (hx : x + 6 ≤ L) (hL : L ≤ 384) : ∃ h2, zX 40 tb_L_law 981 [some (.inr (.inr (some 0))), some (.inr (.inr (some 1))), some (.inr (.inr (some 37))), some (.inl (nI x))] [] h = zX 40 tb_L_law 1030 [some (.inr (.inr (some 0))), some (.inr (.inr (some 1))), some (.inr (.inr (some 37))), some (.inl (nI x))] [] h2 ∧ Inv h2 ∧ Sc L xs h2 ∧ zn h2 ≤ zn h + 8 ∧ zu h2 ≤ zu h + 40 := by
  obtain ⟨r, h1, h2, c1, c2, I2, m2, u2⟩ : Stq 77 140 [] h := st_trace I
  obtain ⟨v, hv⟩ := call_int (mid := 77) (by decide +kernel) c1
  cases hv
  have C1 : Sc L xs h1 := sc_call Clo_Sc _ _ _ _ _ c1 C
  have C2 : Sc L xs h2 := sc_call Clo_Sc _ _ _ _ _ c2 C1
  have F1 : Rf h1 := sc_call Clo_Rf _ _ _ _ _ c1 ⟨by have := I.2.1; omega, K37 I.1⟩
  refine ⟨h2, ?_, I2, C2, m2, u2⟩
  simp +decide only [u_L_law_981, u_L_law_982, u_L_law_985, u_L_law_986, u_L_law_989, u_L_law_992, u_L_law_993, zcl_i, zcl_r, zcl_l, zcl_0, Option.bind_some, Option.bind_none, Option.toList_some, Option.toList_none, List.cons_append, List.nil_append, zk_wI, zk_wR, zk_wC, zr_wI, zr_wC, zi_wR, zn_wI, zn_wR, zn_wC, if_true, if_false, true_or, or_true, or_false, false_or, true_and, and_true, ↓reduceIte, reduceCtorEq, Nat.reduceEqDiff, Nat.reduceLT, Nat.reduceLeDiff, Nat.reduceAdd, Nat.reduceSub, Nat.reduceMul, Int32.reduceLT, Int32.reduceLE, Int32.reduceAdd, Int32.reduceMul, Int32.reduceSub, Int32.reduceToNatClampNeg, and_self, or_self, and_false, false_and, not_true_eq_false, not_false_eq_true, C.2.1, C1.2.1, C.2.2, C1.2.2, K1 I.1, F1.2, c1, c2, eq_self]
theorem lw_c22 {L x : Nat} {xs : Nat → Int32} {h : zH} (I : Inv h) (C : Sc L xs h) (hx : x + 6 ≤ L) (hL : L ≤ 384) : ∃ h2, zX 40 tb_L_law 994 [some (.inr (.inr (some 0))), some (.inr (.inr (some 1))), some (.inr (.inr (some 37))), some (.inl (nI x))] [] h = zX 40 tb_L_law 1030 [some (.inr (.inr (some 0))), some (.inr (.inr (some 1))), some (.inr (.inr (some 37))), some (.inl (nI x))] [] h2 ∧ Inv h2 ∧ Sc L xs h2 ∧ zn h2 ≤ zn h + 8 ∧ zu h2 ≤ zu h + 40 := by
  obtain ⟨r, h1, h2, c1, c2, I2, m2, u2⟩ : Stq 78 141 [] h := st_fault I
  obtain ⟨v, hv⟩ := call_int (mid := 78) (by decide +kernel) c1
  cases hv
  have C1 : Sc L xs h1 := sc_call Clo_Sc _ _ _ _ _ c1 C
  have C2 : Sc L xs h2 := sc_call Clo_Sc _ _ _ _ _ c2 C1
  have F1 : Rf h1 := sc_call Clo_Rf _ _ _ _ _ c1 ⟨by have := I.2.1; omega, K37 I.1⟩
  refine ⟨h2, ?_, I2, C2, m2, u2⟩
  simp +decide only [u_L_law_994, u_L_law_995, u_L_law_998, u_L_law_999, u_L_law_1002, u_L_law_1005, u_L_law_1006, zcl_i, zcl_r, zcl_l, zcl_0, Option.bind_some, Option.bind_none, Option.toList_some, Option.toList_none, List.cons_append, List.nil_append, zk_wI, zk_wR, zk_wC, zr_wI, zr_wC, zi_wR, zn_wI, zn_wR, zn_wC, if_true, if_false, true_or, or_true, or_false, false_or, true_and, and_true, ↓reduceIte, reduceCtorEq, Nat.reduceEqDiff, Nat.reduceLT, Nat.reduceLeDiff, Nat.reduceAdd, Nat.reduceSub, Nat.reduceMul, Int32.reduceLT, Int32.reduceLE, Int32.reduceAdd, Int32.reduceMul, Int32.reduceSub, Int32.reduceToNatClampNeg, and_self, or_self, and_false, false_and, not_true_eq_false, not_false_eq_true, C.2.1, C1.2.1, C.2.2, C1.2.2, K1 I.1, F1.2, c1, c2, eq_self]
theorem lw_c23 {L x : Nat} {xs : Nat → Int32} {h : zH} (I : Inv h) (C : Sc L xs h) (hx : x + 6 ≤ L) (hL : L ≤ 384) : ∃ h2, zX 40 tb_L_law 1007 [some (.inr (.inr (some 0))), some (.inr (.inr (some 1))), some (.inr (.inr (some 37))), some (.inl (nI x))] [] h = zX 40 tb_L_law 1030 [some (.inr (.inr (some 0))), some (.inr (.inr (some 1))), some (.inr (.inr (some 37))), some (.inl (nI x))] [] h2 ∧ Inv h2 ∧ Sc L xs h2 ∧ zn h2 ≤ zn h + 8 ∧ zu h2 ≤ zu h + 40 := by
  have x1 : zix (nI (x + 1)) L = some (x + 1) := zix_nI (by omega) (by omega)
  obtain ⟨r, h1, h2, c1, c2, I2, m2, u2⟩ : Stq 79 142 [.inl (xs (x + 1))] h := st_many I
  obtain ⟨v, hv⟩ := call_int (mid := 79) (by decide +kernel) c1
  cases hv
  have C1 : Sc L xs h1 := sc_call Clo_Sc _ _ _ _ _ c1 C
  have C2 : Sc L xs h2 := sc_call Clo_Sc _ _ _ _ _ c2 C1
  have F1 : Rf h1 := sc_call Clo_Rf _ _ _ _ _ c1 ⟨by have := I.2.1; omega, K37 I.1⟩
  refine ⟨h2, ?_, I2, C2, m2, u2⟩
  simp +decide only [u_L_law_1007, u_L_law_1008, u_L_law_1009, u_L_law_1010, u_L_law_1011, u_L_law_1012, u_L_law_1013, u_L_law_1016, u_L_law_1017, u_L_law_1018, u_L_law_1019, u_L_law_1020, u_L_law_1021, u_L_law_1022, u_L_law_1025, u_L_law_1028, u_L_law_1029, zcl_i, zcl_r, zcl_l, zcl_0, Option.bind_some, Option.bind_none, Option.toList_some, Option.toList_none, List.cons_append, List.nil_append, zk_wI, zk_wR, zk_wC, zr_wI, zr_wC, zi_wR, zn_wI, zn_wR, zn_wC, if_true, if_false, true_or, or_true, or_false, false_or, true_and, and_true, ↓reduceIte, reduceCtorEq, Nat.reduceEqDiff, Nat.reduceLT, Nat.reduceLeDiff, Nat.reduceAdd, Nat.reduceSub, Nat.reduceMul, Int32.reduceLT, Int32.reduceLE, Int32.reduceAdd, Int32.reduceMul, Int32.reduceSub, Int32.reduceToNatClampNeg, and_self, or_self, and_false, false_and, not_true_eq_false, not_false_eq_true, C.2.1, C1.2.1, C.2.2, C1.2.2, K1 I.1, F1.2, x1, nI_1, c1, c2, eq_self]
