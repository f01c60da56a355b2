/-! ===== pure: method by method: what is only read ===== -/
def I4g (h : mMem) (t : Nat → Nat) : Prop := (CR h 27 t ∧ MR h 0 t) ∧ (t 0 ≤ 5 ∧ t 1 ≤ 7) ∧ h 106 1 = bI (decide (0 < t 1)) ∧ (0 < t 0 ∨ 0 < t 1 → Wf t ∧ t 2 ≤ 999)
theorem I4_g {h : mMem} (k : I4 h) : ∃ t, I4g h t := by
  rcases k with ⟨⟨a, b, c⟩, d, f⟩ | ⟨t, u, ps, w, a, ⟨c, d⟩, ⟨f, g⟩, p⟩
  · exact ⟨fun _ => 0, ⟨d, f⟩, ⟨Nat.zero_le _, Nat.zero_le _⟩, a, fun x => absurd x (by simp)⟩
  · have w1 := w.1.1
    have w2 := w.1.2.1
    refine ⟨t, ⟨c, d⟩, ⟨w1.2, w2.2⟩, ?_, fun _ => w⟩
    rw [a, decide_eq_true (by omega)]
    rfl
theorem MR_0 {h : mMem} {t : Nat → Nat} (c : MR h 0 t) : ∀ j, j < 50 → h 107 j = nI (t j) := fun j hj => by
  have := c j hj
  rwa [Nat.mul_zero, Nat.zero_add] at this
theorem p_standsB {d L o n : Nat} {h : mMem} {Q : mQ} (ho : Hs o) (c : h o 3 = nI n) (hn : n < 1000) : WP (d + 1) M_X4_stands [.ref o] (S0 L, h) Q = Q (some (.int (bI (decide (0 < n))))) (S0 L, h) := by
  rcases Nat.eq_zero_or_pos n with rfl | h1
  · have e : (nI 0 ≤ 0) = True := eq_true (by decide)
    rw [decide_eq_false (Nat.lt_irrefl 0)]
    simp only [e_X4_stands, s_X4_stands_0, s_X4_stands_1, s_X4_stands_4, s_X4_stands_7, s_X4_stands_8, s_X4_stands_11, s_X4_stands_12, kH, rH1, rH2, rH4, rH5, rH6, rH7, rH8, kH_1, kH_2, kH_3, kH_4, kH_5, kH_6, kH_7, lH_1, lH_2, lH_3, lH_4, lH_5, lH_6, lH_7, ho, c, e, bI_f, n01_0, cl_tl0, cl_tl1, rfv_some, if_true, if_false, or_true, true_or, eq_self, ite_true, ite_false, and_true, true_and, not_true_eq_false, not_false_eq_true]
  · have e := f_le0 h1 (show n < 2147483648 by omega)
    rw [decide_eq_true h1]
    simp only [e_X4_stands, s_X4_stands_0, s_X4_stands_1, s_X4_stands_4, s_X4_stands_7, s_X4_stands_8, s_X4_stands_11, s_X4_stands_12, kH, rH1, rH2, rH4, rH5, rH6, rH7, rH8, kH_1, kH_2, kH_3, kH_4, kH_5, kH_6, kH_7, lH_1, lH_2, lH_3, lH_4, lH_5, lH_6, lH_7, ho, c, e, bI_t, n01_1, cl_tl0, cl_tl1, rfv_some, if_true, if_false, or_true, true_or, eq_self, ite_true, ite_false, and_true, true_and, not_true_eq_false, not_false_eq_true]
theorem q_kind {d L : Nat} {xs : Nat → Int32} {h : mMem} {x : Int32} (k : INV xs h) : Eqm (d + 9) M_X7_kind M_X8_kind [.int x] L xs h := by
  obtain ⟨t, ⟨c, m⟩, ⟨h5, h7⟩, hh, wf⟩ := I4_g k.2.2.2.2.1
  have m0 := MR_0 m
  have a1 := fun Q => p_hasRight (d := d + 7) (L := L) (x := x) (Q := Q) Hs_27 (CR_1 c)
  have b1 := fun Q => p_isRight (d := d + 6) (L := L) (x := x) (n := t 1) (h := h) (Q := Q) (by omega) (m0 1 (by omega))
  cases v : vB x (t 1)
  · rw [v] at a1 b1
    refine ⟨.int (-1000001), h, h, k, fun Q => ?_, fun Q => ?_⟩
    · simp only [e_X7_kind, s_X7_kind_0, s_X7_kind_1, s_X7_kind_4, s_X7_kind_5, s_X7_kind_8, s_X7_kind_11, s_X7_kind_13, s_X7_kind_14, s_X7_kind_15, s_X7_kind_18, s_X7_kind_21, s_X7_kind_22, s_X7_kind_23, kS_4, rS_4_0, rS_4_1, rS_4_2, rS_4_3, rS_4_4, rS_4_5, rS_4_6, rS_4_7, Hs_27, Hs_63, Hs_72, Hs_19, Hs_90, Hs_98, kH, rH1, rH2, rH4, rH5, rH6, rH7, rH8, kH_1, kH_2, kH_3, kH_4, kH_5, kH_6, kH_7, lH_1, lH_2, lH_3, lH_4, lH_5, lH_6, lH_7, a1, bI_f, z_0, Option.toList_some, List.cons_append, List.nil_append, cl_tl0, cl_tl1, rfv_some, if_true, if_false, or_true, true_or, eq_self, ite_true, ite_false, and_true, true_and, not_true_eq_false, not_false_eq_true]
    · simp only [e_X8_kind, s_X8_kind_0, s_X8_kind_1, s_X8_kind_2, s_X8_kind_5, s_X8_kind_8, s_X8_kind_9, s_X8_kind_12, s_X8_kind_14, s_X8_kind_15, s_X8_kind_16, s_X8_kind_17, s_X8_kind_20, s_X8_kind_22, kS_106, rS_106_0, rS_106_3, rS_106_4, rS_106_5, rS_106_6, rS_106_7, rS_106_11, kS_107, lS_107, kS_108, lS_108, kS_109, lS_109, kS_110, lS_110, kS_111, lS_111, kS_112, lS_112, kS_113, lS_113, b1, bI_f, z_0, Option.toList_some, List.cons_append, List.nil_append, cl_tl0, cl_tl1, rfv_some, if_true, if_false, or_true, true_or, eq_self, ite_true, ite_false, and_true, true_and, not_true_eq_false, not_false_eq_true]
  · rw [v] at a1 b1
    obtain ⟨r, hr, rfl⟩ := vB_t (by omega) v
    obtain ⟨w, hd⟩ := wf (by omega)
    have hr7 : r < 7 := by omega
    have e1 := CR_14 c w hr
    have e2 := m0 (14 + r) (by omega)
    refine ⟨.int (nI (t (14 + r))), h, h, k, fun Q => ?_, fun Q => ?_⟩
    · simp only [e_X7_kind, s_X7_kind_0, s_X7_kind_1, s_X7_kind_4, s_X7_kind_5, s_X7_kind_8, s_X7_kind_11, s_X7_kind_13, s_X7_kind_14, s_X7_kind_15, s_X7_kind_18, s_X7_kind_21, s_X7_kind_22, s_X7_kind_23, kS_4, rS_4_0, rS_4_1, rS_4_2, rS_4_3, rS_4_4, rS_4_5, rS_4_6, rS_4_7, Hs_27, Hs_63, Hs_72, Hs_19, Hs_90, Hs_98, kH, rH1, rH2, rH4, rH5, rH6, rH7, rH8, kH_1, kH_2, kH_3, kH_4, kH_5, kH_6, kH_7, lH_1, lH_2, lH_3, lH_4, lH_5, lH_6, lH_7, hr7, a1, e1, bI_t, z_1, Option.toList_some, List.cons_append, List.nil_append, Nat.reduceAdd, Nat.reduceLT, cl_tl0, cl_tl1, rfv_some, if_true, if_false, or_true, true_or, eq_self, ite_true, ite_false, and_true, true_and, not_true_eq_false, not_false_eq_true]
    · simp only [e_X8_kind, s_X8_kind_0, s_X8_kind_1, s_X8_kind_2, s_X8_kind_5, s_X8_kind_8, s_X8_kind_9, s_X8_kind_12, s_X8_kind_14, s_X8_kind_15, s_X8_kind_16, s_X8_kind_17, s_X8_kind_20, s_X8_kind_22, kS_106, rS_106_0, rS_106_3, rS_106_4, rS_106_5, rS_106_6, rS_106_7, rS_106_11, kS_107, lS_107, kS_108, lS_108, kS_109, lS_109, kS_110, lS_110, kS_111, lS_111, kS_112, lS_112, kS_113, lS_113, b1, e2, bI_t, z_1, nI_add, show 14 + r < 1600 by omega, Option.toList_some, List.cons_append, List.nil_append, Nat.reduceLT, cl_tl0, cl_tl1, rfv_some, if_true, if_false, or_true, true_or, eq_self, ite_true, ite_false, and_true, true_and, not_true_eq_false, not_false_eq_true]
theorem q_price {d L : Nat} {xs : Nat → Int32} {h : mMem} {x : Int32} (k : INV xs h) : Eqm (d + 9) M_X7_price M_X8_price [.int x] L xs h := by
  obtain ⟨t, ⟨c, m⟩, ⟨h5, h7⟩, hh, wf⟩ := I4_g k.2.2.2.2.1
  have m0 := MR_0 m
  have a1 := fun Q => p_hasRight (d := d + 7) (L := L) (x := x) (Q := Q) Hs_27 (CR_1 c)
  have b1 := fun Q => p_isRight (d := d + 6) (L := L) (x := x) (n := t 1) (h := h) (Q := Q) (by omega) (m0 1 (by omega))
  cases v : vB x (t 1)
  · rw [v] at a1 b1
    refine ⟨.int (-1000001), h, h, k, fun Q => ?_, fun Q => ?_⟩
    · simp only [e_X7_price, s_X7_price_0, s_X7_price_1, s_X7_price_4, s_X7_price_5, s_X7_price_8, s_X7_price_11, s_X7_price_13, s_X7_price_14, s_X7_price_15, s_X7_price_18, s_X7_price_19, s_X7_price_22, kS_4, rS_4_0, rS_4_1, rS_4_2, rS_4_3, rS_4_4, rS_4_5, rS_4_6, rS_4_7, Hs_27, Hs_63, Hs_72, Hs_19, Hs_90, Hs_98, kH, rH1, rH2, rH4, rH5, rH6, rH7, rH8, kH_1, kH_2, kH_3, kH_4, kH_5, kH_6, kH_7, lH_1, lH_2, lH_3, lH_4, lH_5, lH_6, lH_7, a1, bI_f, z_0, Option.toList_some, List.cons_append, List.nil_append, cl_tl0, cl_tl1, rfv_some, if_true, if_false, or_true, true_or, eq_self, ite_true, ite_false, and_true, true_and, not_true_eq_false, not_false_eq_true]
    · simp only [e_X8_price, s_X8_price_0, s_X8_price_1, s_X8_price_2, s_X8_price_5, s_X8_price_8, s_X8_price_9, s_X8_price_10, s_X8_price_11, s_X8_price_14, s_X8_price_17, s_X8_price_19, kS_106, rS_106_0, rS_106_3, rS_106_4, rS_106_5, rS_106_6, rS_106_7, rS_106_11, kS_107, lS_107, kS_108, lS_108, kS_109, lS_109, kS_110, lS_110, kS_111, lS_111, kS_112, lS_112, kS_113, lS_113, b1, bI_f, z_0, Option.toList_some, List.cons_append, List.nil_append, cl_tl0, cl_tl1, rfv_some, if_true, if_false, or_true, true_or, eq_self, ite_true, ite_false, and_true, true_and, not_true_eq_false, not_false_eq_true]
  · rw [v] at a1 b1
    obtain ⟨r, hr, rfl⟩ := vB_t (by omega) v
    obtain ⟨w, hd⟩ := wf (by omega)
    have e1 := fun Q => p_priceOf (d := d + 5) (L := L) (Q := Q) Hs_27 c w (by omega) hr
    have e2 := fun Q => p_mpriceOf (d := d + 4) (L := L) (b := 0) (Q := Q) (by omega) m w (by omega) hr
    simp only [Nat.mul_zero] at e2
    refine ⟨.int (nI (prc t r)), h, h, k, fun Q => ?_, fun Q => ?_⟩
    · simp only [e_X7_price, s_X7_price_0, s_X7_price_1, s_X7_price_4, s_X7_price_5, s_X7_price_8, s_X7_price_11, s_X7_price_13, s_X7_price_14, s_X7_price_15, s_X7_price_18, s_X7_price_19, s_X7_price_22, kS_4, rS_4_0, rS_4_1, rS_4_2, rS_4_3, rS_4_4, rS_4_5, rS_4_6, rS_4_7, Hs_27, Hs_63, Hs_72, Hs_19, Hs_90, Hs_98, kH, rH1, rH2, rH4, rH5, rH6, rH7, rH8, kH_1, kH_2, kH_3, kH_4, kH_5, kH_6, kH_7, lH_1, lH_2, lH_3, lH_4, lH_5, lH_6, lH_7, a1, e1, prc, bI_t, z_1, Option.toList_some, List.cons_append, List.nil_append, cl_tl0, cl_tl1, rfv_some, if_true, if_false, or_true, true_or, eq_self, ite_true, ite_false, and_true, true_and, not_true_eq_false, not_false_eq_true]
    · simp only [e_X8_price, s_X8_price_0, s_X8_price_1, s_X8_price_2, s_X8_price_5, s_X8_price_8, s_X8_price_9, s_X8_price_10, s_X8_price_11, s_X8_price_14, s_X8_price_17, s_X8_price_19, kS_106, rS_106_0, rS_106_3, rS_106_4, rS_106_5, rS_106_6, rS_106_7, rS_106_11, kS_107, lS_107, kS_108, lS_108, kS_109, lS_109, kS_110, lS_110, kS_111, lS_111, kS_112, lS_112, kS_113, lS_113, b1, e2, bI_t, z_1, Option.toList_some, List.cons_append, List.nil_append, cl_tl0, cl_tl1, rfv_some, if_true, if_false, or_true, true_or, eq_self, ite_true, ite_false, and_true, true_and, not_true_eq_false, not_false_eq_true]
theorem q_worth {d L : Nat} {xs : Nat → Int32} {h : mMem} {x y : Int32} (k : INV xs h) : Eqm (d + 9) M_X7_worth M_X8_worth [.int x, .int y] L xs h := by
  obtain ⟨t, ⟨c, m⟩, ⟨h5, h7⟩, hh, wf⟩ := I4_g k.2.2.2.2.1
  have m0 := MR_0 m
  have a1 := fun Q => p_hasRight (d := d + 7) (L := L) (x := x) (Q := Q) Hs_27 (CR_1 c)
  have b1 := fun Q => p_isRight (d := d + 6) (L := L) (x := x) (n := t 1) (h := h) (Q := Q) (by omega) (m0 1 (by omega))
  have a2 := fun Q => p_hasHeir (d := d + 7) (L := L) (x := y) (Q := Q) Hs_27 (CR_0 c)
  have b2 := fun Q => p_isHeir (d := d + 6) (L := L) (x := y) (n := t 0) (h := h) (Q := Q) (by omega) (m0 0 (by omega))
  cases v : vB x (t 1)
  · rw [v] at a1 b1
    refine ⟨.int (-1000001), h, h, k, fun Q => ?_, fun Q => ?_⟩
    · simp only [e_X7_worth, s_X7_worth_0, s_X7_worth_1, s_X7_worth_4, s_X7_worth_5, s_X7_worth_8, s_X7_worth_11, s_X7_worth_12, s_X7_worth_15, s_X7_worth_16, s_X7_worth_19, s_X7_worth_22, s_X7_worth_24, s_X7_worth_25, s_X7_worth_26, s_X7_worth_29, s_X7_worth_30, s_X7_worth_31, s_X7_worth_34, kS_4, rS_4_0, rS_4_1, rS_4_2, rS_4_3, rS_4_4, rS_4_5, rS_4_6, rS_4_7, Hs_27, Hs_63, Hs_72, Hs_19, Hs_90, Hs_98, kH, rH1, rH2, rH4, rH5, rH6, rH7, rH8, kH_1, kH_2, kH_3, kH_4, kH_5, kH_6, kH_7, lH_1, lH_2, lH_3, lH_4, lH_5, lH_6, lH_7, a1, bI_f, z_0, Option.toList_some, List.cons_append, List.nil_append, cl_tl0, cl_tl1, rfv_some, if_true, if_false, or_true, true_or, eq_self, ite_true, ite_false, and_true, true_and, not_true_eq_false, not_false_eq_true]
    · simp only [e_X8_worth, s_X8_worth_0, s_X8_worth_1, s_X8_worth_2, s_X8_worth_5, s_X8_worth_8, s_X8_worth_9, s_X8_worth_10, s_X8_worth_13, s_X8_worth_16, s_X8_worth_17, s_X8_worth_18, s_X8_worth_19, s_X8_worth_20, s_X8_worth_23, s_X8_worth_26, s_X8_worth_28, kS_106, rS_106_0, rS_106_3, rS_106_4, rS_106_5, rS_106_6, rS_106_7, rS_106_11, kS_107, lS_107, kS_108, lS_108, kS_109, lS_109, kS_110, lS_110, kS_111, lS_111, kS_112, lS_112, kS_113, lS_113, b1, bI_f, z_0, Option.toList_some, List.cons_append, List.nil_append, cl_tl0, cl_tl1, rfv_some, if_true, if_false, or_true, true_or, eq_self, ite_true, ite_false, and_true, true_and, not_true_eq_false, not_false_eq_true]
  · cases v2 : vB y (t 0)
    · rw [v] at a1 b1
      rw [v2] at a2 b2
      refine ⟨.int (-1000001), h, h, k, fun Q => ?_, fun Q => ?_⟩
      · simp only [e_X7_worth, s_X7_worth_0, s_X7_worth_1, s_X7_worth_4, s_X7_worth_5, s_X7_worth_8, s_X7_worth_11, s_X7_worth_12, s_X7_worth_15, s_X7_worth_16, s_X7_worth_19, s_X7_worth_22, s_X7_worth_24, s_X7_worth_25, s_X7_worth_26, s_X7_worth_29, s_X7_worth_30, s_X7_worth_31, s_X7_worth_34, kS_4, rS_4_0, rS_4_1, rS_4_2, rS_4_3, rS_4_4, rS_4_5, rS_4_6, rS_4_7, Hs_27, Hs_63, Hs_72, Hs_19, Hs_90, Hs_98, kH, rH1, rH2, rH4, rH5, rH6, rH7, rH8, kH_1, kH_2, kH_3, kH_4, kH_5, kH_6, kH_7, lH_1, lH_2, lH_3, lH_4, lH_5, lH_6, lH_7, a1, a2, bI_f, bI_t, z_0, z_1, Option.toList_some, List.cons_append, List.nil_append, cl_tl0, cl_tl1, rfv_some, if_true, if_false, or_true, true_or, eq_self, ite_true, ite_false, and_true, true_and, not_true_eq_false, not_false_eq_true]
      · simp only [e_X8_worth, s_X8_worth_0, s_X8_worth_1, s_X8_worth_2, s_X8_worth_5, s_X8_worth_8, s_X8_worth_9, s_X8_worth_10, s_X8_worth_13, s_X8_worth_16, s_X8_worth_17, s_X8_worth_18, s_X8_worth_19, s_X8_worth_20, s_X8_worth_23, s_X8_worth_26, s_X8_worth_28, kS_106, rS_106_0, rS_106_3, rS_106_4, rS_106_5, rS_106_6, rS_106_7, rS_106_11, kS_107, lS_107, kS_108, lS_108, kS_109, lS_109, kS_110, lS_110, kS_111, lS_111, kS_112, lS_112, kS_113, lS_113, b1, b2, bI_f, bI_t, z_0, z_1, Option.toList_some, List.cons_append, List.nil_append, cl_tl0, cl_tl1, rfv_some, if_true, if_false, or_true, true_or, eq_self, ite_true, ite_false, and_true, true_and, not_true_eq_false, not_false_eq_true]
    · rw [v] at a1 b1
      rw [v2] at a2 b2
      obtain ⟨r, hr, rfl⟩ := vB_t (by omega) v
      obtain ⟨j, hj, rfl⟩ := vB_t (by omega) v2
      obtain ⟨w, hd⟩ := wf (by omega)
      have e1 := fun Q => p_worthTo (d := d + 6) (L := L) (Q := Q) Hs_27 c w (by omega) hr hj
      have e2 := fun Q => p_worthOf (d := d + 6) (L := L) (b := 0) (Q := Q) (by omega) m w (by omega) hr hj
      simp only [Nat.mul_zero] at e2
      refine ⟨.int (nI (wrt t r j)), h, h, k, fun Q => ?_, fun Q => ?_⟩
      · simp only [e_X7_worth, s_X7_worth_0, s_X7_worth_1, s_X7_worth_4, s_X7_worth_5, s_X7_worth_8, s_X7_worth_11, s_X7_worth_12, s_X7_worth_15, s_X7_worth_16, s_X7_worth_19, s_X7_worth_22, s_X7_worth_24, s_X7_worth_25, s_X7_worth_26, s_X7_worth_29, s_X7_worth_30, s_X7_worth_31, s_X7_worth_34, kS_4, rS_4_0, rS_4_1, rS_4_2, rS_4_3, rS_4_4, rS_4_5, rS_4_6, rS_4_7, Hs_27, Hs_63, Hs_72, Hs_19, Hs_90, Hs_98, kH, rH1, rH2, rH4, rH5, rH6, rH7, rH8, kH_1, kH_2, kH_3, kH_4, kH_5, kH_6, kH_7, lH_1, lH_2, lH_3, lH_4, lH_5, lH_6, lH_7, a1, a2, e1, bI_t, z_1, Option.toList_some, List.cons_append, List.nil_append, cl_tl0, cl_tl1, rfv_some, if_true, if_false, or_true, true_or, eq_self, ite_true, ite_false, and_true, true_and, not_true_eq_false, not_false_eq_true]
      · simp only [e_X8_worth, s_X8_worth_0, s_X8_worth_1, s_X8_worth_2, s_X8_worth_5, s_X8_worth_8, s_X8_worth_9, s_X8_worth_10, s_X8_worth_13, s_X8_worth_16, s_X8_worth_17, s_X8_worth_18, s_X8_worth_19, s_X8_worth_20, s_X8_worth_23, s_X8_worth_26, s_X8_worth_28, kS_106, rS_106_0, rS_106_3, rS_106_4, rS_106_5, rS_106_6, rS_106_7, rS_106_11, kS_107, lS_107, kS_108, lS_108, kS_109, lS_109, kS_110, lS_110, kS_111, lS_111, kS_112, lS_112, kS_113, lS_113, b1, b2, e2, bI_t, z_1, Option.toList_some, List.cons_append, List.nil_append, cl_tl0, cl_tl1, rfv_some, if_true, if_false, or_true, true_or, eq_self, ite_true, ite_false, and_true, true_and, not_true_eq_false, not_false_eq_true]
