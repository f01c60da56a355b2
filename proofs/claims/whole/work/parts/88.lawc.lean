/-! ===== the law: case by case ===== -/
theorem lg_r (a : Int64) : (lg_cmp a a = 0) = True := by rw [propext (lg_cmp_eq _ _)]; exact eq_self a
theorem c_0 {d L i : Nat} {xs : Nat → Int32} {h : mMem} (k : INV xs h) (hi : i + 6 ≤ L) (hL : L ≤ 384) : ∃ h', INV xs h' ∧ ∀ Q, Wp (d + 9) M_L none 212 [.ref 0, .ref 4, .ref 106, .int (nI i)] [] (S0 L, h) Q = Wp (d + 9) M_L none 1476 [.ref 0, .ref 4, .ref 106, .int (nI i)] [] (S0 L, h') Q := by
  have q : Eqm (d + 9) M_X7_row M_X8_row [.int (xs (i + 1)), .int (xs (i + 2)), .int (xs (i + 3))] L xs h := q_row k
  obtain ⟨v, h1, h2, k2, e1, e2⟩ := q
  obtain ⟨z1, z2, z3⟩ := WP_k e1
  obtain ⟨a, rfl⟩ := z2 rfl
  have p1 : h 0 (i + 1) = xs (i + 1) := k.1.1 _
  have r1 : h1 0 (i + 1) = xs (i + 1) := by rw [z1]; exact p1
  have p2 : h 0 (i + 2) = xs (i + 2) := k.1.1 _
  have r2 : h1 0 (i + 2) = xs (i + 2) := by rw [z1]; exact p2
  have p3 : h 0 (i + 3) = xs (i + 3) := k.1.1 _
  have r3 : h1 0 (i + 3) = xs (i + 3) := by rw [z1]; exact p3
  refine ⟨h2, k2, fun Q => ?_⟩
  simp only [s_L_law_212, s_L_law_213, s_L_law_214, s_L_law_215, s_L_law_216, s_L_law_217o, s_L_law_218, s_L_law_219, s_L_law_220, s_L_law_221, s_L_law_222o, s_L_law_223, s_L_law_224, s_L_law_225, s_L_law_226, s_L_law_227o, s_L_law_228, s_L_law_231, s_L_law_232, s_L_law_233, s_L_law_234, s_L_law_235, s_L_law_236o, s_L_law_237, s_L_law_238, s_L_law_239, s_L_law_240, s_L_law_241o, s_L_law_242, s_L_law_243, s_L_law_244, s_L_law_245, s_L_law_246o, s_L_law_247, s_L_law_250, s_L_law_253, s_L_law_254, kS_0, lS_0, kS_4, kS_106, show L < 2147483648 by omega, p1, r1, show i + 1 < L by omega, p2, r2, show i + 2 < L by omega, p3, r3, show i + 3 < L by omega, e1, e2, nI_add, lg_r, Option.toList_none, Option.toList_some, List.cons_append, List.nil_append, cl_tl0, cl_tl1, rfv_some, if_true, if_false, or_true, true_or, eq_self, ite_true, ite_false, and_true, true_and, not_true_eq_false, not_false_eq_true]
theorem c_1 {d L i : Nat} {xs : Nat → Int32} {h : mMem} (k : INV xs h) (hi : i + 6 ≤ L) (hL : L ≤ 384) : ∃ h', INV xs h' ∧ ∀ Q, Wp (d + 9) M_L none 255 [.ref 0, .ref 4, .ref 106, .int (nI i)] [] (S0 L, h) Q = Wp (d + 9) M_L none 1476 [.ref 0, .ref 4, .ref 106, .int (nI i)] [] (S0 L, h') Q := by
  have q : Eqm (d + 9) M_X7_set M_X8_set [.int (xs (i + 1)), .int (xs (i + 2)), .int (xs (i + 3))] L xs h := q_set k
  obtain ⟨v, h1, h2, k2, e1, e2⟩ := q
  obtain ⟨z1, z2, z3⟩ := WP_k e1
  obtain ⟨a, rfl⟩ := z2 rfl
  have p1 : h 0 (i + 1) = xs (i + 1) := k.1.1 _
  have r1 : h1 0 (i + 1) = xs (i + 1) := by rw [z1]; exact p1
  have p2 : h 0 (i + 2) = xs (i + 2) := k.1.1 _
  have r2 : h1 0 (i + 2) = xs (i + 2) := by rw [z1]; exact p2
  have p3 : h 0 (i + 3) = xs (i + 3) := k.1.1 _
  have r3 : h1 0 (i + 3) = xs (i + 3) := by rw [z1]; exact p3
  refine ⟨h2, k2, fun Q => ?_⟩
  simp only [s_L_law_255, s_L_law_256, s_L_law_257, s_L_law_258, s_L_law_259, s_L_law_260o, s_L_law_261, s_L_law_262, s_L_law_263, s_L_law_264, s_L_law_265o, s_L_law_266, s_L_law_267, s_L_law_268, s_L_law_269, s_L_law_270o, s_L_law_271, s_L_law_274, s_L_law_275, s_L_law_276, s_L_law_277, s_L_law_278, s_L_law_279o, s_L_law_280, s_L_law_281, s_L_law_282, s_L_law_283, s_L_law_284o, s_L_law_285, s_L_law_286, s_L_law_287, s_L_law_288, s_L_law_289o, s_L_law_290, s_L_law_293, s_L_law_296, s_L_law_297, kS_0, lS_0, kS_4, kS_106, show L < 2147483648 by omega, p1, r1, show i + 1 < L by omega, p2, r2, show i + 2 < L by omega, p3, r3, show i + 3 < L by omega, e1, e2, nI_add, lg_r, Option.toList_none, Option.toList_some, List.cons_append, List.nil_append, cl_tl0, cl_tl1, rfv_some, if_true, if_false, or_true, true_or, eq_self, ite_true, ite_false, and_true, true_and, not_true_eq_false, not_false_eq_true]
theorem c_2 {d L i : Nat} {xs : Nat → Int32} {h : mMem} (k : INV xs h) (hi : i + 6 ≤ L) (hL : L ≤ 384) : ∃ h', INV xs h' ∧ ∀ Q, Wp (d + 9) M_L none 298 [.ref 0, .ref 4, .ref 106, .int (nI i)] [] (S0 L, h) Q = Wp (d + 9) M_L none 1476 [.ref 0, .ref 4, .ref 106, .int (nI i)] [] (S0 L, h') Q := by
  have q : Eqm (d + 9) M_X7_copy M_X8_copy [.int (xs (i + 1)), .int (xs (i + 2)), .int (xs (i + 3)), .int (xs (i + 4)), .int (xs (i + 5))] L xs h := q_copy k
  obtain ⟨v, h1, h2, k2, e1, e2⟩ := q
  obtain ⟨z1, z2, z3⟩ := WP_k e1
  obtain ⟨a, rfl⟩ := z2 rfl
  have p1 : h 0 (i + 1) = xs (i + 1) := k.1.1 _
  have r1 : h1 0 (i + 1) = xs (i + 1) := by rw [z1]; exact p1
  have p2 : h 0 (i + 2) = xs (i + 2) := k.1.1 _
  have r2 : h1 0 (i + 2) = xs (i + 2) := by rw [z1]; exact p2
  have p3 : h 0 (i + 3) = xs (i + 3) := k.1.1 _
  have r3 : h1 0 (i + 3) = xs (i + 3) := by rw [z1]; exact p3
  have p4 : h 0 (i + 4) = xs (i + 4) := k.1.1 _
  have r4 : h1 0 (i + 4) = xs (i + 4) := by rw [z1]; exact p4
  have p5 : h 0 (i + 5) = xs (i + 5) := k.1.1 _
  have r5 : h1 0 (i + 5) = xs (i + 5) := by rw [z1]; exact p5
  refine ⟨h2, k2, fun Q => ?_⟩
  simp only [s_L_law_298, s_L_law_299, s_L_law_300, s_L_law_301, s_L_law_302, s_L_law_303o, s_L_law_304, s_L_law_305, s_L_law_306, s_L_law_307, s_L_law_308o, s_L_law_309, s_L_law_310, s_L_law_311, s_L_law_312, s_L_law_313o, s_L_law_314, s_L_law_315, s_L_law_316, s_L_law_317, s_L_law_318o, s_L_law_319, s_L_law_320, s_L_law_321, s_L_law_322, s_L_law_323o, s_L_law_324, s_L_law_327, s_L_law_328, s_L_law_329, s_L_law_330, s_L_law_331, s_L_law_332o, s_L_law_333, s_L_law_334, s_L_law_335, s_L_law_336, s_L_law_337o, s_L_law_338, s_L_law_339, s_L_law_340, s_L_law_341, s_L_law_342o, s_L_law_343, s_L_law_344, s_L_law_345, s_L_law_346, s_L_law_347o, s_L_law_348, s_L_law_349, s_L_law_350, s_L_law_351, s_L_law_352o, s_L_law_353, s_L_law_356, s_L_law_359, s_L_law_360, kS_0, lS_0, kS_4, kS_106, show L < 2147483648 by omega, p1, r1, show i + 1 < L by omega, p2, r2, show i + 2 < L by omega, p3, r3, show i + 3 < L by omega, p4, r4, show i + 4 < L by omega, p5, r5, show i + 5 < L by omega, e1, e2, nI_add, lg_r, Option.toList_none, Option.toList_some, List.cons_append, List.nil_append, cl_tl0, cl_tl1, rfv_some, if_true, if_false, or_true, true_or, eq_self, ite_true, ite_false, and_true, true_and, not_true_eq_false, not_false_eq_true]
theorem c_3 {d L i : Nat} {xs : Nat → Int32} {h : mMem} (k : INV xs h) (hi : i + 6 ≤ L) (hL : L ≤ 384) : ∃ h', INV xs h' ∧ ∀ Q, Wp (d + 9) M_L none 361 [.ref 0, .ref 4, .ref 106, .int (nI i)] [] (S0 L, h) Q = Wp (d + 9) M_L none 1476 [.ref 0, .ref 4, .ref 106, .int (nI i)] [] (S0 L, h') Q := by
  have q : Eqm (d + 9) M_X7_drop M_X8_drop [.int (xs (i + 1))] L xs h := q_drop k
  obtain ⟨v, h1, h2, k2, e1, e2⟩ := q
  obtain ⟨z1, z2, z3⟩ := WP_k e1
  obtain ⟨a, rfl⟩ := z2 rfl
  have p1 : h 0 (i + 1) = xs (i + 1) := k.1.1 _
  have r1 : h1 0 (i + 1) = xs (i + 1) := by rw [z1]; exact p1
  refine ⟨h2, k2, fun Q => ?_⟩
  simp only [s_L_law_361, s_L_law_362, s_L_law_363, s_L_law_364, s_L_law_365, s_L_law_366o, s_L_law_367, s_L_law_370, s_L_law_371, s_L_law_372, s_L_law_373, s_L_law_374, s_L_law_375o, s_L_law_376, s_L_law_379, s_L_law_382, s_L_law_383, kS_0, lS_0, kS_4, kS_106, show L < 2147483648 by omega, p1, r1, show i + 1 < L by omega, e1, e2, nI_add, lg_r, Option.toList_none, Option.toList_some, List.cons_append, List.nil_append, cl_tl0, cl_tl1, rfv_some, if_true, if_false, or_true, true_or, eq_self, ite_true, ite_false, and_true, true_and, not_true_eq_false, not_false_eq_true]
theorem c_4 {d L i : Nat} {xs : Nat → Int32} {h : mMem} (k : INV xs h) (hi : i + 6 ≤ L) (hL : L ≤ 384) : ∃ h', INV xs h' ∧ ∀ Q, Wp (d + 9) M_L none 384 [.ref 0, .ref 4, .ref 106, .int (nI i)] [] (S0 L, h) Q = Wp (d + 9) M_L none 1476 [.ref 0, .ref 4, .ref 106, .int (nI i)] [] (S0 L, h') Q := by
  have q : Eqm (d + 9) M_X7_feed M_X8_feed [.int (xs (i + 1))] L xs h := q_feed k
  obtain ⟨v, h1, h2, k2, e1, e2⟩ := q
  obtain ⟨z1, z2, z3⟩ := WP_k e1
  obtain ⟨a, rfl⟩ := z2 rfl
  have p1 : h 0 (i + 1) = xs (i + 1) := k.1.1 _
  have r1 : h1 0 (i + 1) = xs (i + 1) := by rw [z1]; exact p1
  refine ⟨h2, k2, fun Q => ?_⟩
  simp only [s_L_law_384, s_L_law_385, s_L_law_386, s_L_law_387, s_L_law_388, s_L_law_389o, s_L_law_390, s_L_law_393, s_L_law_394, s_L_law_395, s_L_law_396, s_L_law_397, s_L_law_398o, s_L_law_399, s_L_law_402, s_L_law_405, s_L_law_406, kS_0, lS_0, kS_4, kS_106, show L < 2147483648 by omega, p1, r1, show i + 1 < L by omega, e1, e2, nI_add, lg_r, Option.toList_none, Option.toList_some, List.cons_append, List.nil_append, cl_tl0, cl_tl1, rfv_some, if_true, if_false, or_true, true_or, eq_self, ite_true, ite_false, and_true, true_and, not_true_eq_false, not_false_eq_true]
theorem c_5 {d L i : Nat} {xs : Nat → Int32} {h : mMem} (k : INV xs h) (hi : i + 6 ≤ L) (hL : L ≤ 384) : ∃ h', INV xs h' ∧ ∀ Q, Wp (d + 9) M_L none 407 [.ref 0, .ref 4, .ref 106, .int (nI i)] [] (S0 L, h) Q = Wp (d + 9) M_L none 1476 [.ref 0, .ref 4, .ref 106, .int (nI i)] [] (S0 L, h') Q := by
  have q : Eqm (d + 9) M_X7_house M_X8_house [] L xs h := q_house k
  obtain ⟨v, h1, h2, k2, e1, e2⟩ := q
  obtain ⟨z1, z2, z3⟩ := WP_k e1
  obtain ⟨a, rfl⟩ := z2 rfl
  refine ⟨h2, k2, fun Q => ?_⟩
  simp only [s_L_law_407, s_L_law_408, s_L_law_411, s_L_law_412, s_L_law_415, s_L_law_418, s_L_law_419, kS_0, lS_0, kS_4, kS_106, show L < 2147483648 by omega, e1, e2, nI_add, lg_r, Option.toList_none, Option.toList_some, List.cons_append, List.nil_append, cl_tl0, cl_tl1, rfv_some, if_true, if_false, or_true, true_or, eq_self, ite_true, ite_false, and_true, true_and, not_true_eq_false, not_false_eq_true]
theorem c_6 {d L i : Nat} {xs : Nat → Int32} {h : mMem} (k : INV xs h) (hi : i + 6 ≤ L) (hL : L ≤ 384) : ∃ h', INV xs h' ∧ ∀ Q, Wp (d + 9) M_L none 420 [.ref 0, .ref 4, .ref 106, .int (nI i)] [] (S0 L, h) Q = Wp (d + 9) M_L none 1476 [.ref 0, .ref 4, .ref 106, .int (nI i)] [] (S0 L, h') Q := by
  have q : Eqm (d + 9) M_X7_fault M_X8_fault [] L xs h := q_fault k
  obtain ⟨v, h1, h2, k2, e1, e2⟩ := q
  obtain ⟨z1, z2, z3⟩ := WP_k e1
  obtain ⟨a, rfl⟩ := z2 rfl
  refine ⟨h2, k2, fun Q => ?_⟩
  simp only [s_L_law_420, s_L_law_421, s_L_law_424, s_L_law_425, s_L_law_428, s_L_law_431, s_L_law_432, kS_0, lS_0, kS_4, kS_106, show L < 2147483648 by omega, e1, e2, nI_add, lg_r, Option.toList_none, Option.toList_some, List.cons_append, List.nil_append, cl_tl0, cl_tl1, rfv_some, if_true, if_false, or_true, true_or, eq_self, ite_true, ite_false, and_true, true_and, not_true_eq_false, not_false_eq_true]
theorem c_7 {d L i : Nat} {xs : Nat → Int32} {h : mMem} (k : INV xs h) (hi : i + 6 ≤ L) (hL : L ≤ 384) : ∃ h', INV xs h' ∧ ∀ Q, Wp (d + 9) M_L none 433 [.ref 0, .ref 4, .ref 106, .int (nI i)] [] (S0 L, h) Q = Wp (d + 9) M_L none 1476 [.ref 0, .ref 4, .ref 106, .int (nI i)] [] (S0 L, h') Q := by
  have q : Eqm (d + 9) M_X7_undo M_X8_undo [] L xs h := q_undo k
  obtain ⟨v, h1, h2, k2, e1, e2⟩ := q
  obtain ⟨z1, z2, z3⟩ := WP_k e1
  obtain ⟨a, rfl⟩ := z2 rfl
  refine ⟨h2, k2, fun Q => ?_⟩
  simp only [s_L_law_433, s_L_law_434, s_L_law_437, s_L_law_438, s_L_law_441, s_L_law_444, s_L_law_445, kS_0, lS_0, kS_4, kS_106, show L < 2147483648 by omega, e1, e2, nI_add, lg_r, Option.toList_none, Option.toList_some, List.cons_append, List.nil_append, cl_tl0, cl_tl1, rfv_some, if_true, if_false, or_true, true_or, eq_self, ite_true, ite_false, and_true, true_and, not_true_eq_false, not_false_eq_true]
theorem c_8 {d L i : Nat} {xs : Nat → Int32} {h : mMem} (k : INV xs h) (hi : i + 6 ≤ L) (hL : L ≤ 384) : ∃ h', INV xs h' ∧ ∀ Q, Wp (d + 9) M_L none 446 [.ref 0, .ref 4, .ref 106, .int (nI i)] [] (S0 L, h) Q = Wp (d + 9) M_L none 1476 [.ref 0, .ref 4, .ref 106, .int (nI i)] [] (S0 L, h') Q := by
  have q : Eqm (d + 9) M_X7_days M_X8_days [.int (xs (i + 1))] L xs h := q_days k
  obtain ⟨v, h1, h2, k2, e1, e2⟩ := q
  obtain ⟨z1, z2, z3⟩ := WP_k e1
  obtain ⟨a, rfl⟩ := z2 rfl
  have p1 : h 0 (i + 1) = xs (i + 1) := k.1.1 _
  have r1 : h1 0 (i + 1) = xs (i + 1) := by rw [z1]; exact p1
  refine ⟨h2, k2, fun Q => ?_⟩
  simp only [s_L_law_446, s_L_law_447, s_L_law_448, s_L_law_449, s_L_law_450, s_L_law_451o, s_L_law_452, s_L_law_455, s_L_law_456, s_L_law_457, s_L_law_458, s_L_law_459, s_L_law_460o, s_L_law_461, s_L_law_464, s_L_law_467, s_L_law_468, kS_0, lS_0, kS_4, kS_106, show L < 2147483648 by omega, p1, r1, show i + 1 < L by omega, e1, e2, nI_add, lg_r, Option.toList_none, Option.toList_some, List.cons_append, List.nil_append, cl_tl0, cl_tl1, rfv_some, if_true, if_false, or_true, true_or, eq_self, ite_true, ite_false, and_true, true_and, not_true_eq_false, not_false_eq_true]
theorem c_9 {d L i : Nat} {xs : Nat → Int32} {h : mMem} (k : INV xs h) (hi : i + 6 ≤ L) (hL : L ≤ 384) : ∃ h', INV xs h' ∧ ∀ Q, Wp (d + 9) M_L none 469 [.ref 0, .ref 4, .ref 106, .int (nI i)] [] (S0 L, h) Q = Wp (d + 9) M_L none 1476 [.ref 0, .ref 4, .ref 106, .int (nI i)] [] (S0 L, h') Q := by
  have q : Eqm (d + 9) M_X7_sell M_X8_sell [.int (xs (i + 1)), .int (xs (i + 2)), .int (xs (i + 3))] L xs h := q_sell k
  obtain ⟨v, h1, h2, k2, e1, e2⟩ := q
  obtain ⟨z1, z2, z3⟩ := WP_k e1
  obtain ⟨a, rfl⟩ := z2 rfl
  have p1 : h 0 (i + 1) = xs (i + 1) := k.1.1 _
  have r1 : h1 0 (i + 1) = xs (i + 1) := by rw [z1]; exact p1
  have p2 : h 0 (i + 2) = xs (i + 2) := k.1.1 _
  have r2 : h1 0 (i + 2) = xs (i + 2) := by rw [z1]; exact p2
  have p3 : h 0 (i + 3) = xs (i + 3) := k.1.1 _
  have r3 : h1 0 (i + 3) = xs (i + 3) := by rw [z1]; exact p3
  refine ⟨h2, k2, fun Q => ?_⟩
  simp only [s_L_law_469, s_L_law_470, s_L_law_471, s_L_law_472, s_L_law_473, s_L_law_474o, s_L_law_475, s_L_law_476, s_L_law_477, s_L_law_478, s_L_law_479o, s_L_law_480, s_L_law_481, s_L_law_482, s_L_law_483, s_L_law_484o, s_L_law_485, s_L_law_488, s_L_law_489, s_L_law_490, s_L_law_491, s_L_law_492, s_L_law_493o, s_L_law_494, s_L_law_495, s_L_law_496, s_L_law_497, s_L_law_498o, s_L_law_499, s_L_law_500, s_L_law_501, s_L_law_502, s_L_law_503o, s_L_law_504, s_L_law_507, s_L_law_510, s_L_law_511, kS_0, lS_0, kS_4, kS_106, show L < 2147483648 by omega, p1, r1, show i + 1 < L by omega, p2, r2, show i + 2 < L by omega, p3, r3, show i + 3 < L by omega, e1, e2, nI_add, lg_r, Option.toList_none, Option.toList_some, List.cons_append, List.nil_append, cl_tl0, cl_tl1, rfv_some, if_true, if_false, or_true, true_or, eq_self, ite_true, ite_false, and_true, true_and, not_true_eq_false, not_false_eq_true]
theorem c_10 {d L i : Nat} {xs : Nat → Int32} {h : mMem} (k : INV xs h) (hi : i + 6 ≤ L) (hL : L ≤ 384) : ∃ h', INV xs h' ∧ ∀ Q, Wp (d + 9) M_L none 512 [.ref 0, .ref 4, .ref 106, .int (nI i)] [] (S0 L, h) Q = Wp (d + 9) M_L none 1476 [.ref 0, .ref 4, .ref 106, .int (nI i)] [] (S0 L, h') Q := by
  have q : Eqm (d + 9) M_X7_bind M_X8_bind [.int (xs (i + 1)), .int (xs (i + 2))] L xs h := q_bind k
  obtain ⟨v, h1, h2, k2, e1, e2⟩ := q
  obtain ⟨z1, z2, z3⟩ := WP_k e1
  obtain ⟨a, rfl⟩ := z2 rfl
  have p1 : h 0 (i + 1) = xs (i + 1) := k.1.1 _
  have r1 : h1 0 (i + 1) = xs (i + 1) := by rw [z1]; exact p1
  have p2 : h 0 (i + 2) = xs (i + 2) := k.1.1 _
  have r2 : h1 0 (i + 2) = xs (i + 2) := by rw [z1]; exact p2
  refine ⟨h2, k2, fun Q => ?_⟩
  simp only [s_L_law_512, s_L_law_513, s_L_law_514, s_L_law_515, s_L_law_516, s_L_law_517o, s_L_law_518, s_L_law_519, s_L_law_520, s_L_law_521, s_L_law_522o, s_L_law_523, s_L_law_526, s_L_law_527, s_L_law_528, s_L_law_529, s_L_law_530, s_L_law_531o, s_L_law_532, s_L_law_533, s_L_law_534, s_L_law_535, s_L_law_536o, s_L_law_537, s_L_law_540, s_L_law_543, s_L_law_544, kS_0, lS_0, kS_4, kS_106, show L < 2147483648 by omega, p1, r1, show i + 1 < L by omega, p2, r2, show i + 2 < L by omega, e1, e2, nI_add, lg_r, Option.toList_none, Option.toList_some, List.cons_append, List.nil_append, cl_tl0, cl_tl1, rfv_some, if_true, if_false, or_true, true_or, eq_self, ite_true, ite_false, and_true, true_and, not_true_eq_false, not_false_eq_true]
theorem c_11 {d L i : Nat} {xs : Nat → Int32} {h : mMem} (k : INV xs h) (hi : i + 6 ≤ L) (hL : L ≤ 384) : ∃ h', INV xs h' ∧ ∀ Q, Wp (d + 9) M_L none 545 [.ref 0, .ref 4, .ref 106, .int (nI i)] [] (S0 L, h) Q = Wp (d + 9) M_L none 1476 [.ref 0, .ref 4, .ref 106, .int (nI i)] [] (S0 L, h') Q := by
  have q : Eqm (d + 9) M_X7_give M_X8_give [.int (xs (i + 1)), .int (xs (i + 2)), .int (xs (i + 3))] L xs h := q_give k
  obtain ⟨v, h1, h2, k2, e1, e2⟩ := q
  obtain ⟨z1, z2, z3⟩ := WP_k e1
  obtain ⟨a, rfl⟩ := z2 rfl
  have p1 : h 0 (i + 1) = xs (i + 1) := k.1.1 _
  have r1 : h1 0 (i + 1) = xs (i + 1) := by rw [z1]; exact p1
  have p2 : h 0 (i + 2) = xs (i + 2) := k.1.1 _
  have r2 : h1 0 (i + 2) = xs (i + 2) := by rw [z1]; exact p2
  have p3 : h 0 (i + 3) = xs (i + 3) := k.1.1 _
  have r3 : h1 0 (i + 3) = xs (i + 3) := by rw [z1]; exact p3
  refine ⟨h2, k2, fun Q => ?_⟩
  simp only [s_L_law_545, s_L_law_546, s_L_law_547, s_L_law_548, s_L_law_549, s_L_law_550o, s_L_law_551, s_L_law_552, s_L_law_553, s_L_law_554, s_L_law_555o, s_L_law_556, s_L_law_557, s_L_law_558, s_L_law_559, s_L_law_560o, s_L_law_561, s_L_law_564, s_L_law_565, s_L_law_566, s_L_law_567, s_L_law_568, s_L_law_569o, s_L_law_570, s_L_law_571, s_L_law_572, s_L_law_573, s_L_law_574o, s_L_law_575, s_L_law_576, s_L_law_577, s_L_law_578, s_L_law_579o, s_L_law_580, s_L_law_583, s_L_law_586, s_L_law_587, kS_0, lS_0, kS_4, kS_106, show L < 2147483648 by omega, p1, r1, show i + 1 < L by omega, p2, r2, show i + 2 < L by omega, p3, r3, show i + 3 < L by omega, e1, e2, nI_add, lg_r, Option.toList_none, Option.toList_some, List.cons_append, List.nil_append, cl_tl0, cl_tl1, rfv_some, if_true, if_false, or_true, true_or, eq_self, ite_true, ite_false, and_true, true_and, not_true_eq_false, not_false_eq_true]
theorem c_12 {d L i : Nat} {xs : Nat → Int32} {h : mMem} (k : INV xs h) (hi : i + 6 ≤ L) (hL : L ≤ 384) : ∃ h', INV xs h' ∧ ∀ Q, Wp (d + 9) M_L none 588 [.ref 0, .ref 4, .ref 106, .int (nI i)] [] (S0 L, h) Q = Wp (d + 9) M_L none 1476 [.ref 0, .ref 4, .ref 106, .int (nI i)] [] (S0 L, h') Q := by
  have q : Eqm (d + 9) M_X7_wolves M_X8_wolves [.int (xs (i + 1))] L xs h := q_wolves k
  obtain ⟨v, h1, h2, k2, e1, e2⟩ := q
  obtain ⟨z1, z2, z3⟩ := WP_k e1
  obtain ⟨a, rfl⟩ := z2 rfl
  have p1 : h 0 (i + 1) = xs (i + 1) := k.1.1 _
  have r1 : h1 0 (i + 1) = xs (i + 1) := by rw [z1]; exact p1
  refine ⟨h2, k2, fun Q => ?_⟩
  simp only [s_L_law_588, s_L_law_589, s_L_law_590, s_L_law_591, s_L_law_592, s_L_law_593o, s_L_law_594, s_L_law_597, s_L_law_598, s_L_law_599, s_L_law_600, s_L_law_601, s_L_law_602o, s_L_law_603, s_L_law_606, s_L_law_609, s_L_law_610, kS_0, lS_0, kS_4, kS_106, show L < 2147483648 by omega, p1, r1, show i + 1 < L by omega, e1, e2, nI_add, lg_r, Option.toList_none, Option.toList_some, List.cons_append, List.nil_append, cl_tl0, cl_tl1, rfv_some, if_true, if_false, or_true, true_or, eq_self, ite_true, ite_false, and_true, true_and, not_true_eq_false, not_false_eq_true]
theorem c_13 {d L i : Nat} {xs : Nat → Int32} {h : mMem} (k : INV xs h) (hi : i + 6 ≤ L) (hL : L ≤ 384) : ∃ h', INV xs h' ∧ ∀ Q, Wp (d + 9) M_L none 611 [.ref 0, .ref 4, .ref 106, .int (nI i)] [] (S0 L, h) Q = Wp (d + 9) M_L none 1476 [.ref 0, .ref 4, .ref 106, .int (nI i)] [] (S0 L, h') Q := by
  have q : Eqm (d + 9) M_X7_right M_X8_right [.int (xs (i + 1)), .int (xs (i + 2))] L xs h := q_right k
  obtain ⟨v, h1, h2, k2, e1, e2⟩ := q
  obtain ⟨z1, z2, z3⟩ := WP_k e1
  obtain ⟨a, rfl⟩ := z2 rfl
  have p1 : h 0 (i + 1) = xs (i + 1) := k.1.1 _
  have r1 : h1 0 (i + 1) = xs (i + 1) := by rw [z1]; exact p1
  have p2 : h 0 (i + 2) = xs (i + 2) := k.1.1 _
  have r2 : h1 0 (i + 2) = xs (i + 2) := by rw [z1]; exact p2
  refine ⟨h2, k2, fun Q => ?_⟩
  simp only [s_L_law_611, s_L_law_612, s_L_law_613, s_L_law_614, s_L_law_615, s_L_law_616o, s_L_law_617, s_L_law_618, s_L_law_619, s_L_law_620, s_L_law_621o, s_L_law_622, s_L_law_625, s_L_law_626, s_L_law_627, s_L_law_628, s_L_law_629, s_L_law_630o, s_L_law_631, s_L_law_632, s_L_law_633, s_L_law_634, s_L_law_635o, s_L_law_636, s_L_law_639, s_L_law_642, s_L_law_643, kS_0, lS_0, kS_4, kS_106, show L < 2147483648 by omega, p1, r1, show i + 1 < L by omega, p2, r2, show i + 2 < L by omega, e1, e2, nI_add, lg_r, Option.toList_none, Option.toList_some, List.cons_append, List.nil_append, cl_tl0, cl_tl1, rfv_some, if_true, if_false, or_true, true_or, eq_self, ite_true, ite_false, and_true, true_and, not_true_eq_false, not_false_eq_true]
theorem c_14 {d L i : Nat} {xs : Nat → Int32} {h : mMem} (k : INV xs h) (hi : i + 6 ≤ L) (hL : L ≤ 384) : ∃ h', INV xs h' ∧ ∀ Q, Wp (d + 9) M_L none 644 [.ref 0, .ref 4, .ref 106, .int (nI i)] [] (S0 L, h) Q = Wp (d + 9) M_L none 1476 [.ref 0, .ref 4, .ref 106, .int (nI i)] [] (S0 L, h') Q := by
  have q : Eqm (d + 9) M_X7_heir M_X8_heir [.int (xs (i + 1)), .int (xs (i + 2))] L xs h := q_heir k
  obtain ⟨v, h1, h2, k2, e1, e2⟩ := q
  obtain ⟨z1, z2, z3⟩ := WP_k e1
  obtain ⟨a, rfl⟩ := z2 rfl
  have p1 : h 0 (i + 1) = xs (i + 1) := k.1.1 _
  have r1 : h1 0 (i + 1) = xs (i + 1) := by rw [z1]; exact p1
  have p2 : h 0 (i + 2) = xs (i + 2) := k.1.1 _
  have r2 : h1 0 (i + 2) = xs (i + 2) := by rw [z1]; exact p2
  refine ⟨h2, k2, fun Q => ?_⟩
  simp only [s_L_law_644, s_L_law_645, s_L_law_646, s_L_law_647, s_L_law_648, s_L_law_649o, s_L_law_650, s_L_law_651, s_L_law_652, s_L_law_653, s_L_law_654o, s_L_law_655, s_L_law_658, s_L_law_659, s_L_law_660, s_L_law_661, s_L_law_662, s_L_law_663o, s_L_law_664, s_L_law_665, s_L_law_666, s_L_law_667, s_L_law_668o, s_L_law_669, s_L_law_672, s_L_law_675, s_L_law_676, kS_0, lS_0, kS_4, kS_106, show L < 2147483648 by omega, p1, r1, show i + 1 < L by omega, p2, r2, show i + 2 < L by omega, e1, e2, nI_add, lg_r, Option.toList_none, Option.toList_some, List.cons_append, List.nil_append, cl_tl0, cl_tl1, rfv_some, if_true, if_false, or_true, true_or, eq_self, ite_true, ite_false, and_true, true_and, not_true_eq_false, not_false_eq_true]
theorem c_15 {d L i : Nat} {xs : Nat → Int32} {h : mMem} (k : INV xs h) (hi : i + 6 ≤ L) (hL : L ≤ 384) : ∃ h', INV xs h' ∧ ∀ Q, Wp (d + 9) M_L none 677 [.ref 0, .ref 4, .ref 106, .int (nI i)] [] (S0 L, h) Q = Wp (d + 9) M_L none 1476 [.ref 0, .ref 4, .ref 106, .int (nI i)] [] (S0 L, h') Q := by
  have q : Eqm (d + 9) M_X7_worth M_X8_worth [.int (xs (i + 1)), .int (xs (i + 2))] L xs h := q_worth k
  obtain ⟨v, h1, h2, k2, e1, e2⟩ := q
  obtain ⟨z1, z2, z3⟩ := WP_k e1
  obtain ⟨a, rfl⟩ := z2 rfl
  have p1 : h 0 (i + 1) = xs (i + 1) := k.1.1 _
  have r1 : h1 0 (i + 1) = xs (i + 1) := by rw [z1]; exact p1
  have p2 : h 0 (i + 2) = xs (i + 2) := k.1.1 _
  have r2 : h1 0 (i + 2) = xs (i + 2) := by rw [z1]; exact p2
  refine ⟨h2, k2, fun Q => ?_⟩
  simp only [s_L_law_677, s_L_law_678, s_L_law_679, s_L_law_680, s_L_law_681, s_L_law_682o, s_L_law_683, s_L_law_684, s_L_law_685, s_L_law_686, s_L_law_687o, s_L_law_688, s_L_law_691, s_L_law_692, s_L_law_693, s_L_law_694, s_L_law_695, s_L_law_696o, s_L_law_697, s_L_law_698, s_L_law_699, s_L_law_700, s_L_law_701o, s_L_law_702, s_L_law_705, s_L_law_708, s_L_law_709, kS_0, lS_0, kS_4, kS_106, show L < 2147483648 by omega, p1, r1, show i + 1 < L by omega, p2, r2, show i + 2 < L by omega, e1, e2, nI_add, lg_r, Option.toList_none, Option.toList_some, List.cons_append, List.nil_append, cl_tl0, cl_tl1, rfv_some, if_true, if_false, or_true, true_or, eq_self, ite_true, ite_false, and_true, true_and, not_true_eq_false, not_false_eq_true]
theorem c_16 {d L i : Nat} {xs : Nat → Int32} {h : mMem} (k : INV xs h) (hi : i + 6 ≤ L) (hL : L ≤ 384) : ∃ h', INV xs h' ∧ ∀ Q, Wp (d + 9) M_L none 710 [.ref 0, .ref 4, .ref 106, .int (nI i)] [] (S0 L, h) Q = Wp (d + 9) M_L none 1476 [.ref 0, .ref 4, .ref 106, .int (nI i)] [] (S0 L, h') Q := by
  have q : Eqm (d + 9) M_X7_ahead M_X8_ahead [.int (xs (i + 1)), .int (xs (i + 2)), .int (xs (i + 3))] L xs h := q_ahead k
  obtain ⟨v, h1, h2, k2, e1, e2⟩ := q
  obtain ⟨z1, z2, z3⟩ := WP_k e1
  obtain ⟨a, rfl⟩ := z2 rfl
  have p1 : h 0 (i + 1) = xs (i + 1) := k.1.1 _
  have r1 : h1 0 (i + 1) = xs (i + 1) := by rw [z1]; exact p1
  have p2 : h 0 (i + 2) = xs (i + 2) := k.1.1 _
  have r2 : h1 0 (i + 2) = xs (i + 2) := by rw [z1]; exact p2
  have p3 : h 0 (i + 3) = xs (i + 3) := k.1.1 _
  have r3 : h1 0 (i + 3) = xs (i + 3) := by rw [z1]; exact p3
  refine ⟨h2, k2, fun Q => ?_⟩
  simp only [s_L_law_710, s_L_law_711, s_L_law_712, s_L_law_713, s_L_law_714, s_L_law_715o, s_L_law_716, s_L_law_717, s_L_law_718, s_L_law_719, s_L_law_720o, s_L_law_721, s_L_law_722, s_L_law_723, s_L_law_724, s_L_law_725o, s_L_law_726, s_L_law_729, s_L_law_730, s_L_law_731, s_L_law_732, s_L_law_733, s_L_law_734o, s_L_law_735, s_L_law_736, s_L_law_737, s_L_law_738, s_L_law_739o, s_L_law_740, s_L_law_741, s_L_law_742, s_L_law_743, s_L_law_744o, s_L_law_745, s_L_law_748, s_L_law_751, s_L_law_752, kS_0, lS_0, kS_4, kS_106, show L < 2147483648 by omega, p1, r1, show i + 1 < L by omega, p2, r2, show i + 2 < L by omega, p3, r3, show i + 3 < L by omega, e1, e2, nI_add, lg_r, Option.toList_none, Option.toList_some, List.cons_append, List.nil_append, cl_tl0, cl_tl1, rfv_some, if_true, if_false, or_true, true_or, eq_self, ite_true, ite_false, and_true, true_and, not_true_eq_false, not_false_eq_true]
theorem c_17 {d L i : Nat} {xs : Nat → Int32} {h : mMem} (k : INV xs h) (hi : i + 6 ≤ L) (hL : L ≤ 384) : ∃ h', INV xs h' ∧ ∀ Q, Wp (d + 9) M_L none 753 [.ref 0, .ref 4, .ref 106, .int (nI i)] [] (S0 L, h) Q = Wp (d + 9) M_L none 1476 [.ref 0, .ref 4, .ref 106, .int (nI i)] [] (S0 L, h') Q := by
  have q : Eqm (d + 9) M_X7_whose M_X8_whose [.int (xs (i + 1)), .int (xs (i + 2))] L xs h := q_whose k
  obtain ⟨v, h1, h2, k2, e1, e2⟩ := q
  obtain ⟨z1, z2, z3⟩ := WP_k e1
  obtain ⟨a, rfl⟩ := z2 rfl
  have p1 : h 0 (i + 1) = xs (i + 1) := k.1.1 _
  have r1 : h1 0 (i + 1) = xs (i + 1) := by rw [z1]; exact p1
  have p2 : h 0 (i + 2) = xs (i + 2) := k.1.1 _
  have r2 : h1 0 (i + 2) = xs (i + 2) := by rw [z1]; exact p2
  refine ⟨h2, k2, fun Q => ?_⟩
  simp only [s_L_law_753, s_L_law_754, s_L_law_755, s_L_law_756, s_L_law_757, s_L_law_758o, s_L_law_759, s_L_law_760, s_L_law_761, s_L_law_762, s_L_law_763o, s_L_law_764, s_L_law_767, s_L_law_768, s_L_law_769, s_L_law_770, s_L_law_771, s_L_law_772o, s_L_law_773, s_L_law_774, s_L_law_775, s_L_law_776, s_L_law_777o, s_L_law_778, s_L_law_781, s_L_law_784, s_L_law_785, kS_0, lS_0, kS_4, kS_106, show L < 2147483648 by omega, p1, r1, show i + 1 < L by omega, p2, r2, show i + 2 < L by omega, e1, e2, nI_add, lg_r, Option.toList_none, Option.toList_some, List.cons_append, List.nil_append, cl_tl0, cl_tl1, rfv_some, if_true, if_false, or_true, true_or, eq_self, ite_true, ite_false, and_true, true_and, not_true_eq_false, not_false_eq_true]
theorem c_18 {d L i : Nat} {xs : Nat → Int32} {h : mMem} (k : INV xs h) (hi : i + 6 ≤ L) (hL : L ≤ 384) : ∃ h', INV xs h' ∧ ∀ Q, Wp (d + 9) M_L none 786 [.ref 0, .ref 4, .ref 106, .int (nI i)] [] (S0 L, h) Q = Wp (d + 9) M_L none 1476 [.ref 0, .ref 4, .ref 106, .int (nI i)] [] (S0 L, h') Q := by
  have q : Eqm (d + 9) M_X7_eats M_X8_eats [.int (xs (i + 1)), .int (xs (i + 2))] L xs h := q_eats k
  obtain ⟨v, h1, h2, k2, e1, e2⟩ := q
  obtain ⟨z1, z2, z3⟩ := WP_k e1
  obtain ⟨a, rfl⟩ := z2 rfl
  have p1 : h 0 (i + 1) = xs (i + 1) := k.1.1 _
  have r1 : h1 0 (i + 1) = xs (i + 1) := by rw [z1]; exact p1
  have p2 : h 0 (i + 2) = xs (i + 2) := k.1.1 _
  have r2 : h1 0 (i + 2) = xs (i + 2) := by rw [z1]; exact p2
  refine ⟨h2, k2, fun Q => ?_⟩
  simp only [s_L_law_786, s_L_law_787, s_L_law_788, s_L_law_789, s_L_law_790, s_L_law_791o, s_L_law_792, s_L_law_793, s_L_law_794, s_L_law_795, s_L_law_796o, s_L_law_797, s_L_law_800, s_L_law_801, s_L_law_802, s_L_law_803, s_L_law_804, s_L_law_805o, s_L_law_806, s_L_law_807, s_L_law_808, s_L_law_809, s_L_law_810o, s_L_law_811, s_L_law_814, s_L_law_817, s_L_law_818, kS_0, lS_0, kS_4, kS_106, show L < 2147483648 by omega, p1, r1, show i + 1 < L by omega, p2, r2, show i + 2 < L by omega, e1, e2, nI_add, lg_r, Option.toList_none, Option.toList_some, List.cons_append, List.nil_append, cl_tl0, cl_tl1, rfv_some, if_true, if_false, or_true, true_or, eq_self, ite_true, ite_false, and_true, true_and, not_true_eq_false, not_false_eq_true]
theorem c_19 {d L i : Nat} {xs : Nat → Int32} {h : mMem} (k : INV xs h) (hi : i + 6 ≤ L) (hL : L ≤ 384) : ∃ h', INV xs h' ∧ ∀ Q, Wp (d + 9) M_L none 819 [.ref 0, .ref 4, .ref 106, .int (nI i)] [] (S0 L, h) Q = Wp (d + 9) M_L none 1476 [.ref 0, .ref 4, .ref 106, .int (nI i)] [] (S0 L, h') Q := by
  have q : Eqm (d + 9) M_X7_starves M_X8_starves [.int (xs (i + 1))] L xs h := q_starves k
  obtain ⟨v, h1, h2, k2, e1, e2⟩ := q
  obtain ⟨z1, z2, z3⟩ := WP_k e1
  obtain ⟨a, rfl⟩ := z2 rfl
  have p1 : h 0 (i + 1) = xs (i + 1) := k.1.1 _
  have r1 : h1 0 (i + 1) = xs (i + 1) := by rw [z1]; exact p1
  refine ⟨h2, k2, fun Q => ?_⟩
  simp only [s_L_law_819, s_L_law_820, s_L_law_821, s_L_law_822, s_L_law_823, s_L_law_824o, s_L_law_825, s_L_law_828, s_L_law_829, s_L_law_830, s_L_law_831, s_L_law_832, s_L_law_833o, s_L_law_834, s_L_law_837, s_L_law_840, s_L_law_841, kS_0, lS_0, kS_4, kS_106, show L < 2147483648 by omega, p1, r1, show i + 1 < L by omega, e1, e2, nI_add, lg_r, Option.toList_none, Option.toList_some, List.cons_append, List.nil_append, cl_tl0, cl_tl1, rfv_some, if_true, if_false, or_true, true_or, eq_self, ite_true, ite_false, and_true, true_and, not_true_eq_false, not_false_eq_true]
theorem c_20 {d L i : Nat} {xs : Nat → Int32} {h : mMem} (k : INV xs h) (hi : i + 6 ≤ L) (hL : L ≤ 384) : ∃ h', INV xs h' ∧ ∀ Q, Wp (d + 9) M_L none 842 [.ref 0, .ref 4, .ref 106, .int (nI i)] [] (S0 L, h) Q = Wp (d + 9) M_L none 1476 [.ref 0, .ref 4, .ref 106, .int (nI i)] [] (S0 L, h') Q := by
  have q : Eqm (d + 9) M_X7_richest M_X8_richest [.int (xs (i + 1))] L xs h := q_richest k
  obtain ⟨v, h1, h2, k2, e1, e2⟩ := q
  obtain ⟨z1, z2, z3⟩ := WP_k e1
  obtain ⟨a, rfl⟩ := z2 rfl
  have p1 : h 0 (i + 1) = xs (i + 1) := k.1.1 _
  have r1 : h1 0 (i + 1) = xs (i + 1) := by rw [z1]; exact p1
  refine ⟨h2, k2, fun Q => ?_⟩
  simp only [s_L_law_842, s_L_law_843, s_L_law_844, s_L_law_845, s_L_law_846, s_L_law_847o, s_L_law_848, s_L_law_851, s_L_law_852, s_L_law_853, s_L_law_854, s_L_law_855, s_L_law_856o, s_L_law_857, s_L_law_860, s_L_law_863, s_L_law_864, kS_0, lS_0, kS_4, kS_106, show L < 2147483648 by omega, p1, r1, show i + 1 < L by omega, e1, e2, nI_add, lg_r, Option.toList_none, Option.toList_some, List.cons_append, List.nil_append, cl_tl0, cl_tl1, rfv_some, if_true, if_false, or_true, true_or, eq_self, ite_true, ite_false, and_true, true_and, not_true_eq_false, not_false_eq_true]
theorem c_21 {d L i : Nat} {xs : Nat → Int32} {h : mMem} (k : INV xs h) (hi : i + 6 ≤ L) (hL : L ≤ 384) : ∃ h', INV xs h' ∧ ∀ Q, Wp (d + 9) M_L none 865 [.ref 0, .ref 4, .ref 106, .int (nI i)] [] (S0 L, h) Q = Wp (d + 9) M_L none 1476 [.ref 0, .ref 4, .ref 106, .int (nI i)] [] (S0 L, h') Q := by
  have q : Eqm (d + 9) M_X7_price M_X8_price [.int (xs (i + 1))] L xs h := q_price k
  obtain ⟨v, h1, h2, k2, e1, e2⟩ := q
  obtain ⟨z1, z2, z3⟩ := WP_k e1
  obtain ⟨a, rfl⟩ := z2 rfl
  have p1 : h 0 (i + 1) = xs (i + 1) := k.1.1 _
  have r1 : h1 0 (i + 1) = xs (i + 1) := by rw [z1]; exact p1
  refine ⟨h2, k2, fun Q => ?_⟩
  simp only [s_L_law_865, s_L_law_866, s_L_law_867, s_L_law_868, s_L_law_869, s_L_law_870o, s_L_law_871, s_L_law_874, s_L_law_875, s_L_law_876, s_L_law_877, s_L_law_878, s_L_law_879o, s_L_law_880, s_L_law_883, s_L_law_886, s_L_law_887, kS_0, lS_0, kS_4, kS_106, show L < 2147483648 by omega, p1, r1, show i + 1 < L by omega, e1, e2, nI_add, lg_r, Option.toList_none, Option.toList_some, List.cons_append, List.nil_append, cl_tl0, cl_tl1, rfv_some, if_true, if_false, or_true, true_or, eq_self, ite_true, ite_false, and_true, true_and, not_true_eq_false, not_false_eq_true]
theorem c_22 {d L i : Nat} {xs : Nat → Int32} {h : mMem} (k : INV xs h) (hi : i + 6 ≤ L) (hL : L ≤ 384) : ∃ h', INV xs h' ∧ ∀ Q, Wp (d + 9) M_L none 888 [.ref 0, .ref 4, .ref 106, .int (nI i)] [] (S0 L, h) Q = Wp (d + 9) M_L none 1476 [.ref 0, .ref 4, .ref 106, .int (nI i)] [] (S0 L, h') Q := by
  have q : Eqm (d + 9) M_X7_cheap M_X8_cheap [.int (xs (i + 1)), .int (xs (i + 2)), .int (xs (i + 3))] L xs h := q_cheap k
  obtain ⟨v, h1, h2, k2, e1, e2⟩ := q
  obtain ⟨z1, z2, z3⟩ := WP_k e1
  obtain ⟨a, rfl⟩ := z2 rfl
  have p1 : h 0 (i + 1) = xs (i + 1) := k.1.1 _
  have r1 : h1 0 (i + 1) = xs (i + 1) := by rw [z1]; exact p1
  have p2 : h 0 (i + 2) = xs (i + 2) := k.1.1 _
  have r2 : h1 0 (i + 2) = xs (i + 2) := by rw [z1]; exact p2
  have p3 : h 0 (i + 3) = xs (i + 3) := k.1.1 _
  have r3 : h1 0 (i + 3) = xs (i + 3) := by rw [z1]; exact p3
  refine ⟨h2, k2, fun Q => ?_⟩
  simp only [s_L_law_888, s_L_law_889, s_L_law_890, s_L_law_891, s_L_law_892, s_L_law_893o, s_L_law_894, s_L_law_895, s_L_law_896, s_L_law_897, s_L_law_898o, s_L_law_899, s_L_law_900, s_L_law_901, s_L_law_902, s_L_law_903o, s_L_law_904, s_L_law_907, s_L_law_908, s_L_law_909, s_L_law_910, s_L_law_911, s_L_law_912o, s_L_law_913, s_L_law_914, s_L_law_915, s_L_law_916, s_L_law_917o, s_L_law_918, s_L_law_919, s_L_law_920, s_L_law_921, s_L_law_922o, s_L_law_923, s_L_law_926, s_L_law_929, s_L_law_930, kS_0, lS_0, kS_4, kS_106, show L < 2147483648 by omega, p1, r1, show i + 1 < L by omega, p2, r2, show i + 2 < L by omega, p3, r3, show i + 3 < L by omega, e1, e2, nI_add, lg_r, Option.toList_none, Option.toList_some, List.cons_append, List.nil_append, cl_tl0, cl_tl1, rfv_some, if_true, if_false, or_true, true_or, eq_self, ite_true, ite_false, and_true, true_and, not_true_eq_false, not_false_eq_true]
theorem c_23 {d L i : Nat} {xs : Nat → Int32} {h : mMem} (k : INV xs h) (hi : i + 6 ≤ L) (hL : L ≤ 384) : ∃ h', INV xs h' ∧ ∀ Q, Wp (d + 9) M_L none 931 [.ref 0, .ref 4, .ref 106, .int (nI i)] [] (S0 L, h) Q = Wp (d + 9) M_L none 1476 [.ref 0, .ref 4, .ref 106, .int (nI i)] [] (S0 L, h') Q := by
  have q : Eqm (d + 9) M_X7_sales M_X8_sales [.int (xs (i + 1))] L xs h := q_sales k
  obtain ⟨v, h1, h2, k2, e1, e2⟩ := q
  obtain ⟨z1, z2, z3⟩ := WP_k e1
  obtain ⟨a, rfl⟩ := z2 rfl
  have p1 : h 0 (i + 1) = xs (i + 1) := k.1.1 _
  have r1 : h1 0 (i + 1) = xs (i + 1) := by rw [z1]; exact p1
  refine ⟨h2, k2, fun Q => ?_⟩
  simp only [s_L_law_931, s_L_law_932, s_L_law_933, s_L_law_934, s_L_law_935, s_L_law_936o, s_L_law_937, s_L_law_940, s_L_law_941, s_L_law_942, s_L_law_943, s_L_law_944, s_L_law_945o, s_L_law_946, s_L_law_949, s_L_law_952, s_L_law_953, kS_0, lS_0, kS_4, kS_106, show L < 2147483648 by omega, p1, r1, show i + 1 < L by omega, e1, e2, nI_add, lg_r, Option.toList_none, Option.toList_some, List.cons_append, List.nil_append, cl_tl0, cl_tl1, rfv_some, if_true, if_false, or_true, true_or, eq_self, ite_true, ite_false, and_true, true_and, not_true_eq_false, not_false_eq_true]
theorem c_24 {d L i : Nat} {xs : Nat → Int32} {h : mMem} (k : INV xs h) (hi : i + 6 ≤ L) (hL : L ≤ 384) : ∃ h', INV xs h' ∧ ∀ Q, Wp (d + 9) M_L none 954 [.ref 0, .ref 4, .ref 106, .int (nI i)] [] (S0 L, h) Q = Wp (d + 9) M_L none 1476 [.ref 0, .ref 4, .ref 106, .int (nI i)] [] (S0 L, h') Q := by
  have q : Eqm (d + 9) M_X7_surplus M_X8_surplus [.int (xs (i + 1)), .int (xs (i + 2))] L xs h := q_surplus k
  obtain ⟨v, h1, h2, k2, e1, e2⟩ := q
  obtain ⟨z1, z2, z3⟩ := WP_k e1
  obtain ⟨a, rfl⟩ := z2 rfl
  have p1 : h 0 (i + 1) = xs (i + 1) := k.1.1 _
  have r1 : h1 0 (i + 1) = xs (i + 1) := by rw [z1]; exact p1
  have p2 : h 0 (i + 2) = xs (i + 2) := k.1.1 _
  have r2 : h1 0 (i + 2) = xs (i + 2) := by rw [z1]; exact p2
  refine ⟨h2, k2, fun Q => ?_⟩
  simp only [s_L_law_954, s_L_law_955, s_L_law_956, s_L_law_957, s_L_law_958, s_L_law_959o, s_L_law_960, s_L_law_961, s_L_law_962, s_L_law_963, s_L_law_964o, s_L_law_965, s_L_law_968, s_L_law_969, s_L_law_970, s_L_law_971, s_L_law_972, s_L_law_973o, s_L_law_974, s_L_law_975, s_L_law_976, s_L_law_977, s_L_law_978o, s_L_law_979, s_L_law_982, s_L_law_985, s_L_law_986, kS_0, lS_0, kS_4, kS_106, show L < 2147483648 by omega, p1, r1, show i + 1 < L by omega, p2, r2, show i + 2 < L by omega, e1, e2, nI_add, lg_r, Option.toList_none, Option.toList_some, List.cons_append, List.nil_append, cl_tl0, cl_tl1, rfv_some, if_true, if_false, or_true, true_or, eq_self, ite_true, ite_false, and_true, true_and, not_true_eq_false, not_false_eq_true]
theorem c_25 {d L i : Nat} {xs : Nat → Int32} {h : mMem} (k : INV xs h) (hi : i + 6 ≤ L) (hL : L ≤ 384) : ∃ h', INV xs h' ∧ ∀ Q, Wp (d + 9) M_L none 987 [.ref 0, .ref 4, .ref 106, .int (nI i)] [] (S0 L, h) Q = Wp (d + 9) M_L none 1476 [.ref 0, .ref 4, .ref 106, .int (nI i)] [] (S0 L, h') Q := by
  have q : Eqm (d + 9) M_X7_bonds M_X8_bonds [.int (xs (i + 1)), .int (xs (i + 2))] L xs h := q_bonds k
  obtain ⟨v, h1, h2, k2, e1, e2⟩ := q
  obtain ⟨z1, z2, z3⟩ := WP_k e1
  obtain ⟨a, rfl⟩ := z2 rfl
  have p1 : h 0 (i + 1) = xs (i + 1) := k.1.1 _
  have r1 : h1 0 (i + 1) = xs (i + 1) := by rw [z1]; exact p1
  have p2 : h 0 (i + 2) = xs (i + 2) := k.1.1 _
  have r2 : h1 0 (i + 2) = xs (i + 2) := by rw [z1]; exact p2
  refine ⟨h2, k2, fun Q => ?_⟩
  simp only [s_L_law_987, s_L_law_988, s_L_law_989, s_L_law_990, s_L_law_991, s_L_law_992o, s_L_law_993, s_L_law_994, s_L_law_995, s_L_law_996, s_L_law_997o, s_L_law_998, s_L_law_1001, s_L_law_1002, s_L_law_1003, s_L_law_1004, s_L_law_1005, s_L_law_1006o, s_L_law_1007, s_L_law_1008, s_L_law_1009, s_L_law_1010, s_L_law_1011o, s_L_law_1012, s_L_law_1015, s_L_law_1018, s_L_law_1019, kS_0, lS_0, kS_4, kS_106, show L < 2147483648 by omega, p1, r1, show i + 1 < L by omega, p2, r2, show i + 2 < L by omega, e1, e2, nI_add, lg_r, Option.toList_none, Option.toList_some, List.cons_append, List.nil_append, cl_tl0, cl_tl1, rfv_some, if_true, if_false, or_true, true_or, eq_self, ite_true, ite_false, and_true, true_and, not_true_eq_false, not_false_eq_true]
theorem c_26 {d L i : Nat} {xs : Nat → Int32} {h : mMem} (k : INV xs h) (hi : i + 6 ≤ L) (hL : L ≤ 384) : ∃ h', INV xs h' ∧ ∀ Q, Wp (d + 9) M_L none 1020 [.ref 0, .ref 4, .ref 106, .int (nI i)] [] (S0 L, h) Q = Wp (d + 9) M_L none 1476 [.ref 0, .ref 4, .ref 106, .int (nI i)] [] (S0 L, h') Q := by
  have q : Eqm (d + 9) M_X7_barter M_X8_barter [.int (xs (i + 1)), .int (xs (i + 2))] L xs h := q_barter k
  obtain ⟨v, h1, h2, k2, e1, e2⟩ := q
  obtain ⟨z1, z2, z3⟩ := WP_k e1
  obtain ⟨a, rfl⟩ := z2 rfl
  have p1 : h 0 (i + 1) = xs (i + 1) := k.1.1 _
  have r1 : h1 0 (i + 1) = xs (i + 1) := by rw [z1]; exact p1
  have p2 : h 0 (i + 2) = xs (i + 2) := k.1.1 _
  have r2 : h1 0 (i + 2) = xs (i + 2) := by rw [z1]; exact p2
  refine ⟨h2, k2, fun Q => ?_⟩
  simp only [s_L_law_1020, s_L_law_1021, s_L_law_1022, s_L_law_1023, s_L_law_1024, s_L_law_1025o, s_L_law_1026, s_L_law_1027, s_L_law_1028, s_L_law_1029, s_L_law_1030o, s_L_law_1031, s_L_law_1034, s_L_law_1035, s_L_law_1036, s_L_law_1037, s_L_law_1038, s_L_law_1039o, s_L_law_1040, s_L_law_1041, s_L_law_1042, s_L_law_1043, s_L_law_1044o, s_L_law_1045, s_L_law_1048, s_L_law_1051, s_L_law_1052, kS_0, lS_0, kS_4, kS_106, show L < 2147483648 by omega, p1, r1, show i + 1 < L by omega, p2, r2, show i + 2 < L by omega, e1, e2, nI_add, lg_r, Option.toList_none, Option.toList_some, List.cons_append, List.nil_append, cl_tl0, cl_tl1, rfv_some, if_true, if_false, or_true, true_or, eq_self, ite_true, ite_false, and_true, true_and, not_true_eq_false, not_false_eq_true]
theorem c_27 {d L i : Nat} {xs : Nat → Int32} {h : mMem} (k : INV xs h) (hi : i + 6 ≤ L) (hL : L ≤ 384) : ∃ h', INV xs h' ∧ ∀ Q, Wp (d + 9) M_L none 1053 [.ref 0, .ref 4, .ref 106, .int (nI i)] [] (S0 L, h) Q = Wp (d + 9) M_L none 1476 [.ref 0, .ref 4, .ref 106, .int (nI i)] [] (S0 L, h') Q := by
  have q : Eqm (d + 9) M_X7_whatSold M_X8_whatSold [.int (xs (i + 1)), .int (xs (i + 2)), .int (xs (i + 3))] L xs h := q_whatSold k
  obtain ⟨v, h1, h2, k2, e1, e2⟩ := q
  obtain ⟨z1, z2, z3⟩ := WP_k e1
  obtain ⟨a, rfl⟩ := z2 rfl
  have p1 : h 0 (i + 1) = xs (i + 1) := k.1.1 _
  have r1 : h1 0 (i + 1) = xs (i + 1) := by rw [z1]; exact p1
  have p2 : h 0 (i + 2) = xs (i + 2) := k.1.1 _
  have r2 : h1 0 (i + 2) = xs (i + 2) := by rw [z1]; exact p2
  have p3 : h 0 (i + 3) = xs (i + 3) := k.1.1 _
  have r3 : h1 0 (i + 3) = xs (i + 3) := by rw [z1]; exact p3
  refine ⟨h2, k2, fun Q => ?_⟩
  simp only [s_L_law_1053, s_L_law_1054, s_L_law_1055, s_L_law_1056, s_L_law_1057, s_L_law_1058o, s_L_law_1059, s_L_law_1060, s_L_law_1061, s_L_law_1062, s_L_law_1063o, s_L_law_1064, s_L_law_1065, s_L_law_1066, s_L_law_1067, s_L_law_1068o, s_L_law_1069, s_L_law_1072, s_L_law_1073, s_L_law_1074, s_L_law_1075, s_L_law_1076, s_L_law_1077o, s_L_law_1078, s_L_law_1079, s_L_law_1080, s_L_law_1081, s_L_law_1082o, s_L_law_1083, s_L_law_1084, s_L_law_1085, s_L_law_1086, s_L_law_1087o, s_L_law_1088, s_L_law_1091, s_L_law_1094, s_L_law_1095, kS_0, lS_0, kS_4, kS_106, show L < 2147483648 by omega, p1, r1, show i + 1 < L by omega, p2, r2, show i + 2 < L by omega, p3, r3, show i + 3 < L by omega, e1, e2, nI_add, lg_r, Option.toList_none, Option.toList_some, List.cons_append, List.nil_append, cl_tl0, cl_tl1, rfv_some, if_true, if_false, or_true, true_or, eq_self, ite_true, ite_false, and_true, true_and, not_true_eq_false, not_false_eq_true]
theorem c_28 {d L i : Nat} {xs : Nat → Int32} {h : mMem} (k : INV xs h) (hi : i + 6 ≤ L) (hL : L ≤ 384) : ∃ h', INV xs h' ∧ ∀ Q, Wp (d + 9) M_L none 1096 [.ref 0, .ref 4, .ref 106, .int (nI i)] [] (S0 L, h) Q = Wp (d + 9) M_L none 1476 [.ref 0, .ref 4, .ref 106, .int (nI i)] [] (S0 L, h') Q := by
  have q : Eqm (d + 9) M_X7_who M_X8_who [.int (xs (i + 1)), .int (xs (i + 2)), .int (xs (i + 3)), .int (xs (i + 4))] L xs h := q_who k
  obtain ⟨v, h1, h2, k2, e1, e2⟩ := q
  obtain ⟨z1, z2, z3⟩ := WP_k e1
  obtain ⟨a, rfl⟩ := z2 rfl
  have p1 : h 0 (i + 1) = xs (i + 1) := k.1.1 _
  have r1 : h1 0 (i + 1) = xs (i + 1) := by rw [z1]; exact p1
  have p2 : h 0 (i + 2) = xs (i + 2) := k.1.1 _
  have r2 : h1 0 (i + 2) = xs (i + 2) := by rw [z1]; exact p2
  have p3 : h 0 (i + 3) = xs (i + 3) := k.1.1 _
  have r3 : h1 0 (i + 3) = xs (i + 3) := by rw [z1]; exact p3
  have p4 : h 0 (i + 4) = xs (i + 4) := k.1.1 _
  have r4 : h1 0 (i + 4) = xs (i + 4) := by rw [z1]; exact p4
  refine ⟨h2, k2, fun Q => ?_⟩
  simp only [s_L_law_1096, s_L_law_1097, s_L_law_1098, s_L_law_1099, s_L_law_1100, s_L_law_1101o, s_L_law_1102, s_L_law_1103, s_L_law_1104, s_L_law_1105, s_L_law_1106o, s_L_law_1107, s_L_law_1108, s_L_law_1109, s_L_law_1110, s_L_law_1111o, s_L_law_1112, s_L_law_1113, s_L_law_1114, s_L_law_1115, s_L_law_1116o, s_L_law_1117, s_L_law_1120, s_L_law_1121, s_L_law_1122, s_L_law_1123, s_L_law_1124, s_L_law_1125o, s_L_law_1126, s_L_law_1127, s_L_law_1128, s_L_law_1129, s_L_law_1130o, s_L_law_1131, s_L_law_1132, s_L_law_1133, s_L_law_1134, s_L_law_1135o, s_L_law_1136, s_L_law_1137, s_L_law_1138, s_L_law_1139, s_L_law_1140o, s_L_law_1141, s_L_law_1144, s_L_law_1147, s_L_law_1148, kS_0, lS_0, kS_4, kS_106, show L < 2147483648 by omega, p1, r1, show i + 1 < L by omega, p2, r2, show i + 2 < L by omega, p3, r3, show i + 3 < L by omega, p4, r4, show i + 4 < L by omega, e1, e2, nI_add, lg_r, Option.toList_none, Option.toList_some, List.cons_append, List.nil_append, cl_tl0, cl_tl1, rfv_some, if_true, if_false, or_true, true_or, eq_self, ite_true, ite_false, and_true, true_and, not_true_eq_false, not_false_eq_true]
theorem c_29 {d L i : Nat} {xs : Nat → Int32} {h : mMem} (k : INV xs h) (hi : i + 6 ≤ L) (hL : L ≤ 384) : ∃ h', INV xs h' ∧ ∀ Q, Wp (d + 9) M_L none 1149 [.ref 0, .ref 4, .ref 106, .int (nI i)] [] (S0 L, h) Q = Wp (d + 9) M_L none 1476 [.ref 0, .ref 4, .ref 106, .int (nI i)] [] (S0 L, h') Q := by
  have q : Eqm (d + 9) M_X7_claims M_X8_claims [] L xs h := q_claims k
  obtain ⟨v, h1, h2, k2, e1, e2⟩ := q
  obtain ⟨z1, z2, z3⟩ := WP_k e1
  obtain ⟨a, rfl⟩ := z2 rfl
  refine ⟨h2, k2, fun Q => ?_⟩
  simp only [s_L_law_1149, s_L_law_1150, s_L_law_1153, s_L_law_1154, s_L_law_1157, s_L_law_1160, s_L_law_1161, kS_0, lS_0, kS_4, kS_106, show L < 2147483648 by omega, e1, e2, nI_add, lg_r, Option.toList_none, Option.toList_some, List.cons_append, List.nil_append, cl_tl0, cl_tl1, rfv_some, if_true, if_false, or_true, true_or, eq_self, ite_true, ite_false, and_true, true_and, not_true_eq_false, not_false_eq_true]
theorem c_30 {d L i : Nat} {xs : Nat → Int32} {h : mMem} (k : INV xs h) (hi : i + 6 ≤ L) (hL : L ≤ 384) : ∃ h', INV xs h' ∧ ∀ Q, Wp (d + 9) M_L none 1162 [.ref 0, .ref 4, .ref 106, .int (nI i)] [] (S0 L, h) Q = Wp (d + 9) M_L none 1476 [.ref 0, .ref 4, .ref 106, .int (nI i)] [] (S0 L, h') Q := by
  have q : Eqm (d + 9) M_X7_peace M_X8_peace [.int (xs (i + 1)), .int (xs (i + 2))] L xs h := q_peace k
  obtain ⟨v, h1, h2, k2, e1, e2⟩ := q
  obtain ⟨z1, z2, z3⟩ := WP_k e1
  obtain ⟨a, rfl⟩ := z2 rfl
  have p1 : h 0 (i + 1) = xs (i + 1) := k.1.1 _
  have r1 : h1 0 (i + 1) = xs (i + 1) := by rw [z1]; exact p1
  have p2 : h 0 (i + 2) = xs (i + 2) := k.1.1 _
  have r2 : h1 0 (i + 2) = xs (i + 2) := by rw [z1]; exact p2
  refine ⟨h2, k2, fun Q => ?_⟩
  simp only [s_L_law_1162, s_L_law_1163, s_L_law_1164, s_L_law_1165, s_L_law_1166, s_L_law_1167o, s_L_law_1168, s_L_law_1169, s_L_law_1170, s_L_law_1171, s_L_law_1172o, s_L_law_1173, s_L_law_1176, s_L_law_1177, s_L_law_1178, s_L_law_1179, s_L_law_1180, s_L_law_1181o, s_L_law_1182, s_L_law_1183, s_L_law_1184, s_L_law_1185, s_L_law_1186o, s_L_law_1187, s_L_law_1190, s_L_law_1193, s_L_law_1194, kS_0, lS_0, kS_4, kS_106, show L < 2147483648 by omega, p1, r1, show i + 1 < L by omega, p2, r2, show i + 2 < L by omega, e1, e2, nI_add, lg_r, Option.toList_none, Option.toList_some, List.cons_append, List.nil_append, cl_tl0, cl_tl1, rfv_some, if_true, if_false, or_true, true_or, eq_self, ite_true, ite_false, and_true, true_and, not_true_eq_false, not_false_eq_true]
theorem c_31 {d L i : Nat} {xs : Nat → Int32} {h : mMem} (k : INV xs h) (hi : i + 6 ≤ L) (hL : L ≤ 384) : ∃ h', INV xs h' ∧ ∀ Q, Wp (d + 9) M_L none 1195 [.ref 0, .ref 4, .ref 106, .int (nI i)] [] (S0 L, h) Q = Wp (d + 9) M_L none 1476 [.ref 0, .ref 4, .ref 106, .int (nI i)] [] (S0 L, h') Q := by
  have q : Eqm (d + 9) M_X7_prowl M_X8_prowl [.int (xs (i + 1)), .int (xs (i + 2)), .int (xs (i + 3))] L xs h := q_prowl k
  obtain ⟨v, h1, h2, k2, e1, e2⟩ := q
  obtain ⟨z1, z2, z3⟩ := WP_k e1
  obtain ⟨a, rfl⟩ := z3 rfl
  have p1 : h 0 (i + 1) = xs (i + 1) := k.1.1 _
  have r1 : h1 0 (i + 1) = xs (i + 1) := by rw [z1]; exact p1
  have p2 : h 0 (i + 2) = xs (i + 2) := k.1.1 _
  have r2 : h1 0 (i + 2) = xs (i + 2) := by rw [z1]; exact p2
  have p3 : h 0 (i + 3) = xs (i + 3) := k.1.1 _
  have r3 : h1 0 (i + 3) = xs (i + 3) := by rw [z1]; exact p3
  refine ⟨h2, k2, fun Q => ?_⟩
  simp only [s_L_law_1195, s_L_law_1196, s_L_law_1197, s_L_law_1198, s_L_law_1199, s_L_law_1200o, s_L_law_1201, s_L_law_1202, s_L_law_1203, s_L_law_1204, s_L_law_1205o, s_L_law_1206, s_L_law_1207, s_L_law_1208, s_L_law_1209, s_L_law_1210o, s_L_law_1211, s_L_law_1214, s_L_law_1215, s_L_law_1216, s_L_law_1217, s_L_law_1218, s_L_law_1219o, s_L_law_1220, s_L_law_1221, s_L_law_1222, s_L_law_1223, s_L_law_1224o, s_L_law_1225, s_L_law_1226, s_L_law_1227, s_L_law_1228, s_L_law_1229o, s_L_law_1230, s_L_law_1233, s_L_law_1234, s_L_law_1237, s_L_law_1238, kS_0, lS_0, kS_4, kS_106, show L < 2147483648 by omega, p1, r1, show i + 1 < L by omega, p2, r2, show i + 2 < L by omega, p3, r3, show i + 3 < L by omega, e1, e2, nI_add, lg_r, Option.toList_none, Option.toList_some, List.cons_append, List.nil_append, cl_tl0, cl_tl1, rfv_some, if_true, if_false, or_true, true_or, eq_self, ite_true, ite_false, and_true, true_and, not_true_eq_false, not_false_eq_true]
theorem c_32 {d L i : Nat} {xs : Nat → Int32} {h : mMem} (k : INV xs h) (hi : i + 6 ≤ L) (hL : L ≤ 384) : ∃ h', INV xs h' ∧ ∀ Q, Wp (d + 9) M_L none 1239 [.ref 0, .ref 4, .ref 106, .int (nI i)] [] (S0 L, h) Q = Wp (d + 9) M_L none 1476 [.ref 0, .ref 4, .ref 106, .int (nI i)] [] (S0 L, h') Q := by
  have q : Eqm (d + 9) M_X7_drawn M_X8_drawn [.int (xs (i + 1)), .int (xs (i + 2)), .int (xs (i + 3))] L xs h := q_drawn k
  obtain ⟨v, h1, h2, k2, e1, e2⟩ := q
  obtain ⟨z1, z2, z3⟩ := WP_k e1
  obtain ⟨a, rfl⟩ := z2 rfl
  have p1 : h 0 (i + 1) = xs (i + 1) := k.1.1 _
  have r1 : h1 0 (i + 1) = xs (i + 1) := by rw [z1]; exact p1
  have p2 : h 0 (i + 2) = xs (i + 2) := k.1.1 _
  have r2 : h1 0 (i + 2) = xs (i + 2) := by rw [z1]; exact p2
  have p3 : h 0 (i + 3) = xs (i + 3) := k.1.1 _
  have r3 : h1 0 (i + 3) = xs (i + 3) := by rw [z1]; exact p3
  refine ⟨h2, k2, fun Q => ?_⟩
  simp only [s_L_law_1239, s_L_law_1240, s_L_law_1241, s_L_law_1242, s_L_law_1243, s_L_law_1244o, s_L_law_1245, s_L_law_1246, s_L_law_1247, s_L_law_1248, s_L_law_1249o, s_L_law_1250, s_L_law_1251, s_L_law_1252, s_L_law_1253, s_L_law_1254o, s_L_law_1255, s_L_law_1258, s_L_law_1259, s_L_law_1260, s_L_law_1261, s_L_law_1262, s_L_law_1263o, s_L_law_1264, s_L_law_1265, s_L_law_1266, s_L_law_1267, s_L_law_1268o, s_L_law_1269, s_L_law_1270, s_L_law_1271, s_L_law_1272, s_L_law_1273o, s_L_law_1274, s_L_law_1277, s_L_law_1280, s_L_law_1281, kS_0, lS_0, kS_4, kS_106, show L < 2147483648 by omega, p1, r1, show i + 1 < L by omega, p2, r2, show i + 2 < L by omega, p3, r3, show i + 3 < L by omega, e1, e2, nI_add, lg_r, Option.toList_none, Option.toList_some, List.cons_append, List.nil_append, cl_tl0, cl_tl1, rfv_some, if_true, if_false, or_true, true_or, eq_self, ite_true, ite_false, and_true, true_and, not_true_eq_false, not_false_eq_true]
theorem c_33 {d L i : Nat} {xs : Nat → Int32} {h : mMem} (k : INV xs h) (hi : i + 6 ≤ L) (hL : L ≤ 384) : ∃ h', INV xs h' ∧ ∀ Q, Wp (d + 9) M_L none 1282 [.ref 0, .ref 4, .ref 106, .int (nI i)] [] (S0 L, h) Q = Wp (d + 9) M_L none 1476 [.ref 0, .ref 4, .ref 106, .int (nI i)] [] (S0 L, h') Q := by
  have q : Eqm (d + 9) M_X7_image M_X8_image [.int (xs (i + 1))] L xs h := q_image k
  obtain ⟨v, h1, h2, k2, e1, e2⟩ := q
  obtain ⟨z1, z2, z3⟩ := WP_k e1
  obtain ⟨a, rfl⟩ := z2 rfl
  have p1 : h 0 (i + 1) = xs (i + 1) := k.1.1 _
  have r1 : h1 0 (i + 1) = xs (i + 1) := by rw [z1]; exact p1
  refine ⟨h2, k2, fun Q => ?_⟩
  simp only [s_L_law_1282, s_L_law_1283, s_L_law_1284, s_L_law_1285, s_L_law_1286, s_L_law_1287o, s_L_law_1288, s_L_law_1291, s_L_law_1292, s_L_law_1293, s_L_law_1294, s_L_law_1295, s_L_law_1296o, s_L_law_1297, s_L_law_1300, s_L_law_1303, s_L_law_1304, kS_0, lS_0, kS_4, kS_106, show L < 2147483648 by omega, p1, r1, show i + 1 < L by omega, e1, e2, nI_add, lg_r, Option.toList_none, Option.toList_some, List.cons_append, List.nil_append, cl_tl0, cl_tl1, rfv_some, if_true, if_false, or_true, true_or, eq_self, ite_true, ite_false, and_true, true_and, not_true_eq_false, not_false_eq_true]
theorem c_34 {d L i : Nat} {xs : Nat → Int32} {h : mMem} (k : INV xs h) (hi : i + 6 ≤ L) (hL : L ≤ 384) : ∃ h', INV xs h' ∧ ∀ Q, Wp (d + 9) M_L none 1305 [.ref 0, .ref 4, .ref 106, .int (nI i)] [] (S0 L, h) Q = Wp (d + 9) M_L none 1476 [.ref 0, .ref 4, .ref 106, .int (nI i)] [] (S0 L, h') Q := by
  have q : Eqm (d + 9) M_X7_restore M_X8_restore [.int (xs (i + 1))] L xs h := q_restore k
  obtain ⟨v, h1, h2, k2, e1, e2⟩ := q
  obtain ⟨z1, z2, z3⟩ := WP_k e1
  obtain ⟨a, rfl⟩ := z2 rfl
  have p1 : h 0 (i + 1) = xs (i + 1) := k.1.1 _
  have r1 : h1 0 (i + 1) = xs (i + 1) := by rw [z1]; exact p1
  refine ⟨h2, k2, fun Q => ?_⟩
  simp only [s_L_law_1305, s_L_law_1306, s_L_law_1307, s_L_law_1308, s_L_law_1309, s_L_law_1310o, s_L_law_1311, s_L_law_1314, s_L_law_1315, s_L_law_1316, s_L_law_1317, s_L_law_1318, s_L_law_1319o, s_L_law_1320, s_L_law_1323, s_L_law_1326, s_L_law_1327, kS_0, lS_0, kS_4, kS_106, show L < 2147483648 by omega, p1, r1, show i + 1 < L by omega, e1, e2, nI_add, lg_r, Option.toList_none, Option.toList_some, List.cons_append, List.nil_append, cl_tl0, cl_tl1, rfv_some, if_true, if_false, or_true, true_or, eq_self, ite_true, ite_false, and_true, true_and, not_true_eq_false, not_false_eq_true]
theorem c_35 {d L i : Nat} {xs : Nat → Int32} {h : mMem} (k : INV xs h) (hi : i + 6 ≤ L) (hL : L ≤ 384) : ∃ h', INV xs h' ∧ ∀ Q, Wp (d + 9) M_L none 1328 [.ref 0, .ref 4, .ref 106, .int (nI i)] [] (S0 L, h) Q = Wp (d + 9) M_L none 1476 [.ref 0, .ref 4, .ref 106, .int (nI i)] [] (S0 L, h') Q := by
  have q : Eqm (d + 9) M_X7_kind M_X8_kind [.int (xs (i + 1))] L xs h := q_kind k
  obtain ⟨v, h1, h2, k2, e1, e2⟩ := q
  obtain ⟨z1, z2, z3⟩ := WP_k e1
  obtain ⟨a, rfl⟩ := z2 rfl
  have p1 : h 0 (i + 1) = xs (i + 1) := k.1.1 _
  have r1 : h1 0 (i + 1) = xs (i + 1) := by rw [z1]; exact p1
  refine ⟨h2, k2, fun Q => ?_⟩
  simp only [s_L_law_1328, s_L_law_1329, s_L_law_1330, s_L_law_1331, s_L_law_1332, s_L_law_1333o, s_L_law_1334, s_L_law_1337, s_L_law_1338, s_L_law_1339, s_L_law_1340, s_L_law_1341, s_L_law_1342o, s_L_law_1343, s_L_law_1346, s_L_law_1349, s_L_law_1350, kS_0, lS_0, kS_4, kS_106, show L < 2147483648 by omega, p1, r1, show i + 1 < L by omega, e1, e2, nI_add, lg_r, Option.toList_none, Option.toList_some, List.cons_append, List.nil_append, cl_tl0, cl_tl1, rfv_some, if_true, if_false, or_true, true_or, eq_self, ite_true, ite_false, and_true, true_and, not_true_eq_false, not_false_eq_true]
theorem c_36 {d L i : Nat} {xs : Nat → Int32} {h : mMem} (k : INV xs h) (hi : i + 6 ≤ L) (hL : L ≤ 384) : ∃ h', INV xs h' ∧ ∀ Q, Wp (d + 9) M_L none 1351 [.ref 0, .ref 4, .ref 106, .int (nI i)] [] (S0 L, h) Q = Wp (d + 9) M_L none 1476 [.ref 0, .ref 4, .ref 106, .int (nI i)] [] (S0 L, h') Q := by
  have q : Eqm (d + 9) M_X7_as M_X8_as [.int (xs (i + 1)), .int (xs (i + 2))] L xs h := q_as k
  obtain ⟨v, h1, h2, k2, e1, e2⟩ := q
  obtain ⟨z1, z2, z3⟩ := WP_k e1
  obtain ⟨a, rfl⟩ := z2 rfl
  have p1 : h 0 (i + 1) = xs (i + 1) := k.1.1 _
  have r1 : h1 0 (i + 1) = xs (i + 1) := by rw [z1]; exact p1
  have p2 : h 0 (i + 2) = xs (i + 2) := k.1.1 _
  have r2 : h1 0 (i + 2) = xs (i + 2) := by rw [z1]; exact p2
  refine ⟨h2, k2, fun Q => ?_⟩
  simp only [s_L_law_1351, s_L_law_1352, s_L_law_1353, s_L_law_1354, s_L_law_1355, s_L_law_1356o, s_L_law_1357, s_L_law_1358, s_L_law_1359, s_L_law_1360, s_L_law_1361o, s_L_law_1362, s_L_law_1365, s_L_law_1366, s_L_law_1367, s_L_law_1368, s_L_law_1369, s_L_law_1370o, s_L_law_1371, s_L_law_1372, s_L_law_1373, s_L_law_1374, s_L_law_1375o, s_L_law_1376, s_L_law_1379, s_L_law_1382, s_L_law_1383, kS_0, lS_0, kS_4, kS_106, show L < 2147483648 by omega, p1, r1, show i + 1 < L by omega, p2, r2, show i + 2 < L by omega, e1, e2, nI_add, lg_r, Option.toList_none, Option.toList_some, List.cons_append, List.nil_append, cl_tl0, cl_tl1, rfv_some, if_true, if_false, or_true, true_or, eq_self, ite_true, ite_false, and_true, true_and, not_true_eq_false, not_false_eq_true]
theorem c_37 {d L i : Nat} {xs : Nat → Int32} {h : mMem} (k : INV xs h) (hi : i + 6 ≤ L) (hL : L ≤ 384) : ∃ h', INV xs h' ∧ ∀ Q, Wp (d + 9) M_L none 1384 [.ref 0, .ref 4, .ref 106, .int (nI i)] [] (S0 L, h) Q = Wp (d + 9) M_L none 1476 [.ref 0, .ref 4, .ref 106, .int (nI i)] [] (S0 L, h') Q := by
  have q : Eqm (d + 9) M_X7_ask M_X8_ask [.int (xs (i + 1)), .int (xs (i + 2))] L xs h := q_ask k
  obtain ⟨v, h1, h2, k2, e1, e2⟩ := q
  obtain ⟨z1, z2, z3⟩ := WP_k e1
  obtain ⟨a, rfl⟩ := z2 rfl
  have p1 : h 0 (i + 1) = xs (i + 1) := k.1.1 _
  have r1 : h1 0 (i + 1) = xs (i + 1) := by rw [z1]; exact p1
  have p2 : h 0 (i + 2) = xs (i + 2) := k.1.1 _
  have r2 : h1 0 (i + 2) = xs (i + 2) := by rw [z1]; exact p2
  refine ⟨h2, k2, fun Q => ?_⟩
  simp only [s_L_law_1384, s_L_law_1385, s_L_law_1386, s_L_law_1387, s_L_law_1388, s_L_law_1389o, s_L_law_1390, s_L_law_1391, s_L_law_1392, s_L_law_1393, s_L_law_1394o, s_L_law_1395, s_L_law_1398, s_L_law_1399, s_L_law_1400, s_L_law_1401, s_L_law_1402, s_L_law_1403o, s_L_law_1404, s_L_law_1405, s_L_law_1406, s_L_law_1407, s_L_law_1408o, s_L_law_1409, s_L_law_1412, s_L_law_1415, s_L_law_1416, kS_0, lS_0, kS_4, kS_106, show L < 2147483648 by omega, p1, r1, show i + 1 < L by omega, p2, r2, show i + 2 < L by omega, e1, e2, nI_add, lg_r, Option.toList_none, Option.toList_some, List.cons_append, List.nil_append, cl_tl0, cl_tl1, rfv_some, if_true, if_false, or_true, true_or, eq_self, ite_true, ite_false, and_true, true_and, not_true_eq_false, not_false_eq_true]
theorem c_38 {d L i : Nat} {xs : Nat → Int32} {h : mMem} (k : INV xs h) (hi : i + 6 ≤ L) (hL : L ≤ 384) : ∃ h', INV xs h' ∧ ∀ Q, Wp (d + 9) M_L none 1417 [.ref 0, .ref 4, .ref 106, .int (nI i)] [] (S0 L, h) Q = Wp (d + 9) M_L none 1476 [.ref 0, .ref 4, .ref 106, .int (nI i)] [] (S0 L, h') Q := by
  have q : Eqm (d + 9) M_X7_trace M_X8_trace [.int (xs (i + 1))] L xs h := q_trace k
  obtain ⟨v, h1, h2, k2, e1, e2⟩ := q
  obtain ⟨z1, z2, z3⟩ := WP_k e1
  obtain ⟨a, rfl⟩ := z2 rfl
  have p1 : h 0 (i + 1) = xs (i + 1) := k.1.1 _
  have r1 : h1 0 (i + 1) = xs (i + 1) := by rw [z1]; exact p1
  refine ⟨h2, k2, fun Q => ?_⟩
  simp only [s_L_law_1417, s_L_law_1418, s_L_law_1419, s_L_law_1420, s_L_law_1421, s_L_law_1422o, s_L_law_1423, s_L_law_1426, s_L_law_1427, s_L_law_1428, s_L_law_1429, s_L_law_1430, s_L_law_1431o, s_L_law_1432, s_L_law_1435, s_L_law_1438, s_L_law_1439, kS_0, lS_0, kS_4, kS_106, show L < 2147483648 by omega, p1, r1, show i + 1 < L by omega, e1, e2, nI_add, lg_r, Option.toList_none, Option.toList_some, List.cons_append, List.nil_append, cl_tl0, cl_tl1, rfv_some, if_true, if_false, or_true, true_or, eq_self, ite_true, ite_false, and_true, true_and, not_true_eq_false, not_false_eq_true]
theorem c_39 {d L i : Nat} {xs : Nat → Int32} {h : mMem} (k : INV xs h) (hi : i + 6 ≤ L) (hL : L ≤ 384) : ∃ h', INV xs h' ∧ ∀ Q, Wp (d + 9) M_L none 1440 [.ref 0, .ref 4, .ref 106, .int (nI i)] [] (S0 L, h) Q = Wp (d + 9) M_L none 1476 [.ref 0, .ref 4, .ref 106, .int (nI i)] [] (S0 L, h') Q := by
  have q : Eqm (d + 9) M_X7_count M_X8_count [.int (xs (i + 1))] L xs h := q_count k
  obtain ⟨v, h1, h2, k2, e1, e2⟩ := q
  obtain ⟨z1, z2, z3⟩ := WP_k e1
  obtain ⟨a, rfl⟩ := z2 rfl
  have p1 : h 0 (i + 1) = xs (i + 1) := k.1.1 _
  have r1 : h1 0 (i + 1) = xs (i + 1) := by rw [z1]; exact p1
  refine ⟨h2, k2, fun Q => ?_⟩
  simp only [s_L_law_1440, s_L_law_1441, s_L_law_1442, s_L_law_1443, s_L_law_1444, s_L_law_1445o, s_L_law_1446, s_L_law_1449, s_L_law_1450, s_L_law_1451, s_L_law_1452, s_L_law_1453, s_L_law_1454o, s_L_law_1455, s_L_law_1458, s_L_law_1461, s_L_law_1462, kS_0, lS_0, kS_4, kS_106, show L < 2147483648 by omega, p1, r1, show i + 1 < L by omega, e1, e2, nI_add, lg_r, Option.toList_none, Option.toList_some, List.cons_append, List.nil_append, cl_tl0, cl_tl1, rfv_some, if_true, if_false, or_true, true_or, eq_self, ite_true, ite_false, and_true, true_and, not_true_eq_false, not_false_eq_true]
theorem c_40 {d L i : Nat} {xs : Nat → Int32} {h : mMem} (k : INV xs h) (hi : i + 6 ≤ L) (hL : L ≤ 384) : ∃ h', INV xs h' ∧ ∀ Q, Wp (d + 9) M_L none 1463 [.ref 0, .ref 4, .ref 106, .int (nI i)] [] (S0 L, h) Q = Wp (d + 9) M_L none 1476 [.ref 0, .ref 4, .ref 106, .int (nI i)] [] (S0 L, h') Q := by
  have q : Eqm (d + 9) M_X7_status M_X8_status [] L xs h := q_status k
  obtain ⟨v, h1, h2, k2, e1, e2⟩ := q
  obtain ⟨z1, z2, z3⟩ := WP_k e1
  obtain ⟨a, rfl⟩ := z2 rfl
  refine ⟨h2, k2, fun Q => ?_⟩
  simp only [s_L_law_1463, s_L_law_1464, s_L_law_1467, s_L_law_1468, s_L_law_1471, s_L_law_1474, s_L_law_1475, kS_0, lS_0, kS_4, kS_106, show L < 2147483648 by omega, e1, e2, nI_add, lg_r, Option.toList_none, Option.toList_some, List.cons_append, List.nil_append, cl_tl0, cl_tl1, rfv_some, if_true, if_false, or_true, true_or, eq_self, ite_true, ite_false, and_true, true_and, not_true_eq_false, not_false_eq_true]
