/-! ===== pure: method by method: as ===== -/
def ofk (s y : Nat) : Bool := decide (y = 0 ∨ y = s ∨ (y = 1 ∧ (s = 2 ∨ s = 3)) ∨ (y = 4 ∧ s = 5))
theorem p_isOf {d L x y : Nat} {t : Nat → Nat} {h : mMem} {Q : mQ} (c : h 107 (14 + x) = nI (t (14 + x))) (hx : x < 7) (hs : 1 ≤ t (14 + x) ∧ t (14 + x) ≤ 5) (hy : y ≤ 5) : WP (d + 1) M_X8_isOf [.ref 106, .int (nI x), .int (nI y)] (S0 L, h) Q = Q (some (.int (bI (ofk (t (14 + x)) y)))) (S0 L, h) := by
  obtain ⟨s, es⟩ : ∃ s, t (14 + x) = s := ⟨_, rfl⟩
  rw [es] at c hs ⊢
  rcases (show s = 1 ∨ s = 2 ∨ s = 3 ∨ s = 4 ∨ s = 5 by omega) with rfl | rfl | rfl | rfl | rfl <;> rcases (show y = 0 ∨ y = 1 ∨ y = 2 ∨ y = 3 ∨ y = 4 ∨ y = 5 by omega) with rfl | rfl | rfl | rfl | rfl | rfl <;> simp +decide only [e_X8_isOf, s_X8_isOf_0, s_X8_isOf_1, s_X8_isOf_4, s_X8_isOf_6, s_X8_isOf_7, s_X8_isOf_8, s_X8_isOf_9, s_X8_isOf_10, s_X8_isOf_11, s_X8_isOf_14, s_X8_isOf_15, s_X8_isOf_16, s_X8_isOf_19, s_X8_isOf_20, s_X8_isOf_21, s_X8_isOf_24, s_X8_isOf_25, s_X8_isOf_26, s_X8_isOf_29, s_X8_isOf_30, s_X8_isOf_31, s_X8_isOf_34, s_X8_isOf_35, s_X8_isOf_36, s_X8_isOf_39, s_X8_isOf_40, s_X8_isOf_41, s_X8_isOf_44, s_X8_isOf_45, s_X8_isOf_48, s_X8_isOf_49, kS_106, rS_106_0, rS_106_3, rS_106_4, rS_106_5, rS_106_6, rS_106_7, rS_106_11, kS_107, lS_107, kS_108, lS_108, kS_109, lS_109, kS_110, lS_110, kS_111, lS_111, kS_112, lS_112, kS_113, lS_113, nI_add, show 14 + x < 1600 by omega, c, f_eq0, nI_lite, ofk, bI, Nat.reduceLT, cl_tl0, cl_tl1, rfv_some, if_true, if_false, or_true, true_or, eq_self, ite_true, ite_false, and_true, true_and, not_true_eq_false, not_false_eq_true]
theorem p_isOfKind {d L s y : Nat} {h : mMem} {Q : mQ} (c : ∀ i, h 1 i = tbP i) (hs : 1 ≤ s ∧ s ≤ 5) (hy : y ≤ 5) : WP (d + 2) M_X7_isOfKind [.int (nI s), .int (nI y)] (S0 L, h) Q = Q (some (.int (bI (ofk s y)))) (S0 L, h) := by
  have c0 : h 1 0 = -(nI 1) := c 0
  have c1 : h 1 1 = nI 0 := c 1
  have c2 : h 1 2 = nI 1 := c 2
  have c3 : h 1 3 = nI 1 := c 3
  have c4 : h 1 4 = nI 0 := c 4
  have c5 : h 1 5 = nI 4 := c 5
  have im : inB (-(nI 1)) 0 5 = false := by decide
  have i0 : inB (nI 0) 0 5 = true := by decide
  have i1 : inB (nI 1) 0 5 = true := by decide
  have i2 : inB (nI 2) 0 5 = true := by decide
  have i3 : inB (nI 3) 0 5 = true := by decide
  have i4 : inB (nI 4) 0 5 = true := by decide
  have i5 : inB (nI 5) 0 5 = true := by decide
  rcases (show s = 1 ∨ s = 2 ∨ s = 3 ∨ s = 4 ∨ s = 5 by omega) with rfl | rfl | rfl | rfl | rfl <;> rcases (show y = 0 ∨ y = 1 ∨ y = 2 ∨ y = 3 ∨ y = 4 ∨ y = 5 by omega) with rfl | rfl | rfl | rfl | rfl | rfl <;> simp +decide only [e_X7_isOfKind, s_X7_isOfKind_0, s_X7_isOfKind_1, s_X7_isOfKind_2, s_X7_isOfKind_3, s_X7_isOfKind_4, s_X7_isOfKind_5, s_X7_isOfKind_8, s_X7_isOfKind_9, s_X7_isOfKind_12, s_X7_isOfKind_13, s_X7_isOfKind_14, s_X7_isOfKind_15, s_X7_isOfKind_18, s_X7_isOfKind_21, s_X7_isOfKind_22, s_X7_isOfKind_23, s_X7_isOfKind_26, s_X7_isOfKind_27, s_X7_isOfKind_28, s_X7_isOfKind_31, s_X7_isOfKind_32, s_X7_isOfKind_32o, s_X7_isOfKind_33, s_X7_isOfKind_34, s_X7_isOfKind_37, s_X7_isOfKind_40, s_X7_isOfKind_41, kS_1, lS_1, p_isWithin, im, i0, i1, i2, i3, i4, i5, c0, c1, c2, c3, c4, c5, bI_t, bI_f, z_0, z_1, nI_lit, nI_lite, nI_add, ofk, bI, Option.toList_some, List.cons_append, List.nil_append, Nat.reduceAdd, Nat.reduceLT, cl_tl0, cl_tl1, rfv_some, if_true, if_false, or_true, true_or, eq_self, ite_true, ite_false, and_true, true_and, not_true_eq_false, not_false_eq_true]
theorem q_as {d L : Nat} {xs : Nat → Int32} {h : mMem} {x y : Int32} (k : INV xs h) : Eqm (d + 9) M_X7_as M_X8_as [.int x, .int y] L xs h := by
  obtain ⟨t, ⟨c, m⟩, ⟨h5, h7⟩, hh, wf⟩ := I4_g k.2.2.2.2.1
  have m0 := MR_0 m
  have m01 := m0 1 (by omega)
  have a1 := fun Q => p_hasRight (d := d + 7) (L := L) (x := x) (Q := Q) Hs_27 (CR_1 c)
  have b1 := fun g (e : g 107 1 = nI (t 1)) Q => p_isRight (d := d + 6) (L := L) (x := x) (n := t 1) (h := g) (Q := Q) (by omega) e
  have a2 := fun Q => p_isWithin (d := d + 7) (L := L) (x := y) (a := 0) (b := 5) (h := h) (Q := Q)
  have b2 := fun g Q => p_in (d := d + 7) (L := L) (x := y) (A := lN 0) (B := 5) (a := 0) (b := 5) (h := g) (Q := Q) rfl rfl (by omega) (by omega)
  cases v1 : vB x (t 1)
  · rw [v1] at a1 b1
    refine ⟨.int (-1000001), h, h, k, fun Q => ?_, fun Q => ?_⟩
    · simp only [e_X7_as, s_X7_as_0, s_X7_as_1, s_X7_as_4, s_X7_as_5, s_X7_as_8, s_X7_as_11, s_X7_as_12, s_X7_as_13, s_X7_as_14, s_X7_as_17, s_X7_as_20, s_X7_as_22, s_X7_as_23, s_X7_as_24, s_X7_as_27, s_X7_as_30, s_X7_as_31, s_X7_as_32, s_X7_as_33, s_X7_as_36, s_X7_as_39, s_X7_as_40, s_X7_as_41, s_X7_as_44, s_X7_as_45, s_X7_as_46, s_X7_as_47, s_X7_as_50, kS_4, rS_4_0, rS_4_1, rS_4_2, rS_4_3, rS_4_4, rS_4_5, rS_4_6, rS_4_7, Hs_27, Hs_63, Hs_72, Hs_19, Hs_90, Hs_98, kH, rH1, rH2, rH4, rH5, rH6, rH7, rH8, kH_1, kH_2, kH_3, kH_4, kH_5, kH_6, kH_7, lH_1, lH_2, lH_3, lH_4, lH_5, lH_6, lH_7, a1, bI_f, z_0, Option.toList_some, List.cons_append, List.nil_append, cl_tl0, cl_tl1, rfv_some, if_true, if_false, or_true, true_or, eq_self, ite_true, ite_false, and_true, true_and, not_true_eq_false, not_false_eq_true]
    · simp only [e_X8_as, s_X8_as_0, s_X8_as_1, s_X8_as_2, s_X8_as_5, s_X8_as_8, s_X8_as_9, s_X8_as_10, s_X8_as_11, s_X8_as_14, s_X8_as_17, s_X8_as_20, s_X8_as_22, s_X8_as_23, s_X8_as_24, s_X8_as_25, s_X8_as_26, s_X8_as_29, s_X8_as_32, s_X8_as_33, s_X8_as_34, s_X8_as_37, s_X8_as_40, s_X8_as_41, s_X8_as_42, s_X8_as_45, kS_106, rS_106_0, rS_106_3, rS_106_4, rS_106_5, rS_106_6, rS_106_7, rS_106_11, kS_107, lS_107, kS_108, lS_108, kS_109, lS_109, kS_110, lS_110, kS_111, lS_111, kS_112, lS_112, kS_113, lS_113, m01, b1, bI_f, z_0, Option.toList_some, List.cons_append, List.nil_append, cl_tl0, cl_tl1, rfv_some, if_true, if_false, or_true, true_or, eq_self, ite_true, ite_false, and_true, true_and, not_true_eq_false, not_false_eq_true]
  rw [v1] at a1 b1
  cases v2 : inB y 0 5
  · rw [v2] at a2 b2
    refine ⟨.int (-1000001), h, h, k, fun Q => ?_, fun Q => ?_⟩
    · simp only [e_X7_as, s_X7_as_0, s_X7_as_1, s_X7_as_4, s_X7_as_5, s_X7_as_8, s_X7_as_11, s_X7_as_12, s_X7_as_13, s_X7_as_14, s_X7_as_17, s_X7_as_20, s_X7_as_22, s_X7_as_23, s_X7_as_24, s_X7_as_27, s_X7_as_30, s_X7_as_31, s_X7_as_32, s_X7_as_33, s_X7_as_36, s_X7_as_39, s_X7_as_40, s_X7_as_41, s_X7_as_44, s_X7_as_45, s_X7_as_46, s_X7_as_47, s_X7_as_50, kS_4, rS_4_0, rS_4_1, rS_4_2, rS_4_3, rS_4_4, rS_4_5, rS_4_6, rS_4_7, Hs_27, Hs_63, Hs_72, Hs_19, Hs_90, Hs_98, kH, rH1, rH2, rH4, rH5, rH6, rH7, rH8, kH_1, kH_2, kH_3, kH_4, kH_5, kH_6, kH_7, lH_1, lH_2, lH_3, lH_4, lH_5, lH_6, lH_7, a1, a2, bI_f, bI_t, z_0, z_1, Option.toList_some, List.cons_append, List.nil_append, cl_tl0, cl_tl1, rfv_some, if_true, if_false, or_true, true_or, eq_self, ite_true, ite_false, and_true, true_and, not_true_eq_false, not_false_eq_true]
    · simp only [e_X8_as, s_X8_as_0, s_X8_as_1, s_X8_as_2, s_X8_as_5, s_X8_as_8, s_X8_as_9, s_X8_as_10, s_X8_as_11, s_X8_as_14, s_X8_as_17, s_X8_as_20, s_X8_as_22, s_X8_as_23, s_X8_as_24, s_X8_as_25, s_X8_as_26, s_X8_as_29, s_X8_as_32, s_X8_as_33, s_X8_as_34, s_X8_as_37, s_X8_as_40, s_X8_as_41, s_X8_as_42, s_X8_as_45, kS_106, rS_106_0, rS_106_3, rS_106_4, rS_106_5, rS_106_6, rS_106_7, rS_106_11, kS_107, lS_107, kS_108, lS_108, kS_109, lS_109, kS_110, lS_110, kS_111, lS_111, kS_112, lS_112, kS_113, lS_113, m01, b1, b2, bI_f, bI_t, z_0, z_1, Option.toList_some, List.cons_append, List.nil_append, cl_tl0, cl_tl1, rfv_some, if_true, if_false, or_true, true_or, eq_self, ite_true, ite_false, and_true, true_and, not_true_eq_false, not_false_eq_true]
  rw [v2] at a2 b2
  obtain ⟨r, hr, rfl⟩ := vB_t (by omega) v1
  obtain ⟨q, -, hq, rfl⟩ := inB_t (by omega) (by omega) v2
  obtain ⟨w, hd⟩ := wf (by omega)
  have hs := (w.2.2.2.1 r hr).1
  have r14 := CR_14 c w hr
  have a3 := fun Q => p_isOfKind (d := d + 6) (L := L) (s := t (14 + r)) (y := q) (h := h) (Q := Q) k.1.2.1 hs hq
  have b3 := fun g (e : g 107 (14 + r) = nI (t (14 + r))) Q => p_isOf (d := d + 7) (L := L) (x := r) (y := q) (t := t) (h := g) (Q := Q) e (by omega) hs hq
  cases v3 : ofk (t (14 + r)) q
  · rw [v3] at a3 b3
    have n1 : up2 h 4 9 (nI 3) 107 1 = nI (t 1) := by rw [up2_n (by omega), m01]
    have n2 : up2 h 4 9 (nI 3) 107 (14 + r) = nI (t (14 + r)) := by rw [up2_n (by omega), m0 _ (by omega)]
    refine ⟨.int (-1000010 - nI 3), up2 h 4 9 (nI 3), up2 (up2 h 4 9 (nI 3)) 106 10 (nI 3), INV_s2 k, fun Q => ?_, fun Q => ?_⟩
    · simp only [e_X7_as, s_X7_as_0, s_X7_as_1, s_X7_as_4, s_X7_as_5, s_X7_as_8, s_X7_as_11, s_X7_as_12, s_X7_as_13, s_X7_as_14, s_X7_as_17, s_X7_as_20, s_X7_as_22, s_X7_as_23, s_X7_as_24, s_X7_as_27, s_X7_as_30, s_X7_as_31, s_X7_as_32, s_X7_as_33, s_X7_as_36, s_X7_as_39, s_X7_as_40, s_X7_as_41, s_X7_as_44, s_X7_as_45, s_X7_as_46, s_X7_as_47, s_X7_as_50, kS_4, rS_4_0, rS_4_1, rS_4_2, rS_4_3, rS_4_4, rS_4_5, rS_4_6, rS_4_7, Hs_27, Hs_63, Hs_72, Hs_19, Hs_90, Hs_98, kH, rH1, rH2, rH4, rH5, rH6, rH7, rH8, kH_1, kH_2, kH_3, kH_4, kH_5, kH_6, kH_7, lH_1, lH_2, lH_3, lH_4, lH_5, lH_6, lH_7, Hs_27, show r < 7 by omega, a1, a2, r14, a3, p_found, bI_f, bI_t, z_0, z_1, Option.toList_some, List.cons_append, List.nil_append, Nat.reduceAdd, Nat.reduceLT, cl_tl0, cl_tl1, rfv_some, if_true, if_false, or_true, true_or, eq_self, ite_true, ite_false, and_true, true_and, not_true_eq_false, not_false_eq_true]
    · simp only [e_X8_as, s_X8_as_0, s_X8_as_1, s_X8_as_2, s_X8_as_5, s_X8_as_8, s_X8_as_9, s_X8_as_10, s_X8_as_11, s_X8_as_14, s_X8_as_17, s_X8_as_20, s_X8_as_22, s_X8_as_23, s_X8_as_24, s_X8_as_25, s_X8_as_26, s_X8_as_29, s_X8_as_32, s_X8_as_33, s_X8_as_34, s_X8_as_37, s_X8_as_40, s_X8_as_41, s_X8_as_42, s_X8_as_45, kS_106, rS_106_0, rS_106_3, rS_106_4, rS_106_5, rS_106_6, rS_106_7, rS_106_11, kS_107, lS_107, kS_108, lS_108, kS_109, lS_109, kS_110, lS_110, kS_111, lS_111, kS_112, lS_112, kS_113, lS_113, n1, n2, b1, b2, b3, p_find, bI_f, bI_t, z_0, z_1, Option.toList_some, List.cons_append, List.nil_append, cl_tl0, cl_tl1, rfv_some, if_true, if_false, or_true, true_or, eq_self, ite_true, ite_false, and_true, true_and, not_true_eq_false, not_false_eq_true]
  · rw [v3] at a3 b3
    have n1 : up2 h 4 9 (nI 0) 107 1 = nI (t 1) := by rw [up2_n (by omega), m01]
    have n2 : up2 h 4 9 (nI 0) 107 (14 + r) = nI (t (14 + r)) := by rw [up2_n (by omega), m0 _ (by omega)]
    refine ⟨.int (nI r), up2 h 4 9 (nI 0), up2 (up2 h 4 9 (nI 0)) 106 10 (nI 0), INV_s2 k, fun Q => ?_, fun Q => ?_⟩
    · simp only [e_X7_as, s_X7_as_0, s_X7_as_1, s_X7_as_4, s_X7_as_5, s_X7_as_8, s_X7_as_11, s_X7_as_12, s_X7_as_13, s_X7_as_14, s_X7_as_17, s_X7_as_20, s_X7_as_22, s_X7_as_23, s_X7_as_24, s_X7_as_27, s_X7_as_30, s_X7_as_31, s_X7_as_32, s_X7_as_33, s_X7_as_36, s_X7_as_39, s_X7_as_40, s_X7_as_41, s_X7_as_44, s_X7_as_45, s_X7_as_46, s_X7_as_47, s_X7_as_50, kS_4, rS_4_0, rS_4_1, rS_4_2, rS_4_3, rS_4_4, rS_4_5, rS_4_6, rS_4_7, Hs_27, Hs_63, Hs_72, Hs_19, Hs_90, Hs_98, kH, rH1, rH2, rH4, rH5, rH6, rH7, rH8, kH_1, kH_2, kH_3, kH_4, kH_5, kH_6, kH_7, lH_1, lH_2, lH_3, lH_4, lH_5, lH_6, lH_7, Hs_27, show r < 7 by omega, a1, a2, r14, a3, p_foundNothing, bI_t, z_1, Option.toList_some, List.cons_append, List.nil_append, Nat.reduceAdd, Nat.reduceLT, cl_tl0, cl_tl1, rfv_some, if_true, if_false, or_true, true_or, eq_self, ite_true, ite_false, and_true, true_and, not_true_eq_false, not_false_eq_true]
    · simp only [e_X8_as, s_X8_as_0, s_X8_as_1, s_X8_as_2, s_X8_as_5, s_X8_as_8, s_X8_as_9, s_X8_as_10, s_X8_as_11, s_X8_as_14, s_X8_as_17, s_X8_as_20, s_X8_as_22, s_X8_as_23, s_X8_as_24, s_X8_as_25, s_X8_as_26, s_X8_as_29, s_X8_as_32, s_X8_as_33, s_X8_as_34, s_X8_as_37, s_X8_as_40, s_X8_as_41, s_X8_as_42, s_X8_as_45, kS_106, rS_106_0, rS_106_3, rS_106_4, rS_106_5, rS_106_6, rS_106_7, rS_106_11, kS_107, lS_107, kS_108, lS_108, kS_109, lS_109, kS_110, lS_110, kS_111, lS_111, kS_112, lS_112, kS_113, lS_113, n1, n2, b1, b2, b3, p_well, bI_t, z_1, Option.toList_some, List.cons_append, List.nil_append, cl_tl0, cl_tl1, rfv_some, if_true, if_false, or_true, true_or, eq_self, ite_true, ite_false, and_true, true_and, not_true_eq_false, not_false_eq_true]
