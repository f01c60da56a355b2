/-! ===== pure: method by method: trace, feed ===== -/
theorem p_isWithinN {d L n : Nat} {x : Int32} {h : mMem} {Q : mQ} (hn : n < 2147483648) : WP (d + 1) M_X7_isWithin [.int x, .int (nI 0), .int (nI n - nI 1)] (S0 L, h) Q = Q (some (.int (bI (vB x n)))) (S0 L, h) := by
  rcases Nat.eq_zero_or_pos n with rfl | h1
  · rw [vB_0]
    by_cases h2 : x < nI 0
    · simp only [e_X7_isWithin, s_X7_isWithin_0, s_X7_isWithin_1, s_X7_isWithin_2, s_X7_isWithin_5, s_X7_isWithin_6, s_X7_isWithin_7, s_X7_isWithin_10, s_X7_isWithin_11, s_X7_isWithin_14, s_X7_isWithin_15, eq_true h2, bI_f, n01_0, cl_tl0, cl_tl1, rfv_some, if_true, if_false, or_true, true_or, eq_self, ite_true, ite_false, and_true, true_and, not_true_eq_false, not_false_eq_true]
    · have e2 : (nI 0 - nI 1 < x) = True := eq_true (by
        rw [i_nlt] at h2
        have := Int32.le_iff_toInt_le.mp h2
        have e3 : (nI 0).toInt = 0 := rfl
        have e4 : (nI 0 - nI 1).toInt = -1 := rfl
        rw [Int32.lt_iff_toInt_lt]
        omega)
      simp only [e_X7_isWithin, s_X7_isWithin_0, s_X7_isWithin_1, s_X7_isWithin_2, s_X7_isWithin_5, s_X7_isWithin_6, s_X7_isWithin_7, s_X7_isWithin_10, s_X7_isWithin_11, s_X7_isWithin_14, s_X7_isWithin_15, eq_false h2, e2, bI_f, n01_0, cl_tl0, cl_tl1, rfv_some, if_true, if_false, or_true, true_or, eq_self, ite_true, ite_false, and_true, true_and, not_true_eq_false, not_false_eq_true]
  · rw [pk_sub (by omega), vB_in h1 hn]
    exact p_isWithin
theorem q_trace {d L : Nat} {xs : Nat → Int32} {h : mMem} {x : Int32} (k : INV xs h) : Eqm (d + 9) M_X7_trace M_X8_trace [.int x] L xs h := by
  obtain ⟨n, hn, k1, k2, k3⟩ := k.2.2.2.2.2.2
  have a1 := fun Q => p_isWithinN (d := d + 7) (L := L) (x := x) (n := n) (h := h) (Q := Q) (by omega)
  have b1 := fun Q => p_inN (d := d + 7) (L := L) (x := x) (n := n) (h := h) (Q := Q) (by omega)
  cases v1 : vB x n
  · rw [v1] at a1 b1
    refine ⟨.int (-1000000), h, h, k, fun Q => ?_, fun Q => ?_⟩
    · simp only [e_X7_trace, s_X7_trace_0, s_X7_trace_1, s_X7_trace_2, s_X7_trace_3, s_X7_trace_6, s_X7_trace_9, s_X7_trace_10, s_X7_trace_11, s_X7_trace_14, s_X7_trace_17, s_X7_trace_18, s_X7_trace_21, s_X7_trace_24, s_X7_trace_25, s_X7_trace_26, s_X7_trace_29, s_X7_trace_32, kS_4, rS_4_0, rS_4_1, rS_4_2, rS_4_3, rS_4_4, rS_4_5, rS_4_6, rS_4_7, Hs_27, Hs_63, Hs_72, Hs_19, Hs_90, Hs_98, kS_88, rS_88_0, kS_89, lS_89, k1, a1, bI_f, z_0, Option.toList_some, List.cons_append, List.nil_append, cl_tl0, cl_tl1, rfv_some, if_true, if_false, or_true, true_or, eq_self, ite_true, ite_false, and_true, true_and, not_true_eq_false, not_false_eq_true]
    · simp only [e_X8_trace, s_X8_trace_0, s_X8_trace_1, s_X8_trace_2, s_X8_trace_3, s_X8_trace_4, s_X8_trace_7, s_X8_trace_8, s_X8_trace_9, s_X8_trace_10, s_X8_trace_13, s_X8_trace_16, s_X8_trace_17, s_X8_trace_20, s_X8_trace_21, s_X8_trace_22, s_X8_trace_25, s_X8_trace_27, kS_106, rS_106_0, rS_106_3, rS_106_4, rS_106_5, rS_106_6, rS_106_7, rS_106_11, kS_107, lS_107, kS_108, lS_108, kS_109, lS_109, kS_110, lS_110, kS_111, lS_111, kS_112, lS_112, kS_113, lS_113, k2, b1, bI_f, z_0, Option.toList_some, List.cons_append, List.nil_append, cl_tl0, cl_tl1, rfv_some, if_true, if_false, or_true, true_or, eq_self, ite_true, ite_false, and_true, true_and, not_true_eq_false, not_false_eq_true]
  · rw [v1] at a1 b1
    obtain ⟨i, hi, rfl⟩ := vB_t (by omega) v1
    refine ⟨.int (h 113 i), h, h, k, fun Q => ?_, fun Q => ?_⟩
    · simp only [e_X7_trace, s_X7_trace_0, s_X7_trace_1, s_X7_trace_2, s_X7_trace_3, s_X7_trace_6, s_X7_trace_9, s_X7_trace_10, s_X7_trace_11, s_X7_trace_14, s_X7_trace_17, s_X7_trace_18, s_X7_trace_21, s_X7_trace_24, s_X7_trace_25, s_X7_trace_26, s_X7_trace_29, s_X7_trace_32, kS_4, rS_4_0, rS_4_1, rS_4_2, rS_4_3, rS_4_4, rS_4_5, rS_4_6, rS_4_7, Hs_27, Hs_63, Hs_72, Hs_19, Hs_90, Hs_98, kS_88, rS_88_0, kS_89, lS_89, k1, a1, k3 i hi, show i < 16 by omega, bI_t, z_1, Option.toList_some, List.cons_append, List.nil_append, Nat.reduceLT, cl_tl0, cl_tl1, rfv_some, if_true, if_false, or_true, true_or, eq_self, ite_true, ite_false, and_true, true_and, not_true_eq_false, not_false_eq_true]
    · simp only [e_X8_trace, s_X8_trace_0, s_X8_trace_1, s_X8_trace_2, s_X8_trace_3, s_X8_trace_4, s_X8_trace_7, s_X8_trace_8, s_X8_trace_9, s_X8_trace_10, s_X8_trace_13, s_X8_trace_16, s_X8_trace_17, s_X8_trace_20, s_X8_trace_21, s_X8_trace_22, s_X8_trace_25, s_X8_trace_27, kS_106, rS_106_0, rS_106_3, rS_106_4, rS_106_5, rS_106_6, rS_106_7, rS_106_11, kS_107, lS_107, kS_108, lS_108, kS_109, lS_109, kS_110, lS_110, kS_111, lS_111, kS_112, lS_112, kS_113, lS_113, k2, b1, show i < 16 by omega, bI_t, z_1, Option.toList_some, List.cons_append, List.nil_append, Nat.reduceLT, cl_tl0, cl_tl1, rfv_some, if_true, if_false, or_true, true_or, eq_self, ite_true, ite_false, and_true, true_and, not_true_eq_false, not_false_eq_true]
theorem q_feed {d L : Nat} {xs : Nat → Int32} {h : mMem} {x : Int32} (k : INV xs h) : Eqm (d + 9) M_X7_feed M_X8_feed [.int x] L xs h := by
  obtain ⟨n, hn, k1, k2, k3⟩ := k.2.2.1
  have a1 := fun Q => p_isWithin (d := d + 7) (L := L) (x := x) (a := 0) (b := 255) (h := h) (Q := Q)
  have b1 := fun g Q => p_in (d := d + 7) (L := L) (x := x) (A := lN 0) (B := 255) (a := 0) (b := 255) (h := g) (Q := Q) rfl rfl (by omega) (by omega)
  cases v1 : inB x 0 255
  · rw [v1] at a1 b1
    refine ⟨.int (-1000001), h, h, k, fun Q => ?_, fun Q => ?_⟩
    · simp only [e_X7_feed, s_X7_feed_0, s_X7_feed_1, s_X7_feed_2, s_X7_feed_5, s_X7_feed_8, s_X7_feed_11, s_X7_feed_13, s_X7_feed_14, s_X7_feed_15, s_X7_feed_18, s_X7_feed_21, s_X7_feed_23, s_X7_feed_26, s_X7_feed_28, s_X7_feed_29, s_X7_feed_30, s_X7_feed_33, s_X7_feed_34, s_X7_feed_37, s_X7_feed_38, s_X7_feed_41, s_X7_feed_44, kS_4, rS_4_0, rS_4_1, rS_4_2, rS_4_3, rS_4_4, rS_4_5, rS_4_6, rS_4_7, Hs_27, Hs_63, Hs_72, Hs_19, Hs_90, Hs_98, a1, bI_f, z_0, Option.toList_some, List.cons_append, List.nil_append, cl_tl0, cl_tl1, rfv_some, if_true, if_false, or_true, true_or, eq_self, ite_true, ite_false, and_true, true_and, not_true_eq_false, not_false_eq_true]
    · simp only [e_X8_feed, s_X8_feed_0, s_X8_feed_1, s_X8_feed_2, s_X8_feed_3, s_X8_feed_6, s_X8_feed_9, s_X8_feed_12, s_X8_feed_14, s_X8_feed_15, s_X8_feed_16, s_X8_feed_19, s_X8_feed_21, s_X8_feed_24, s_X8_feed_26, s_X8_feed_27, s_X8_feed_28, s_X8_feed_31, s_X8_feed_32, s_X8_feed_35, s_X8_feed_36, s_X8_feed_37, s_X8_feed_38, s_X8_feed_39, s_X8_feed_42, s_X8_feed_43, s_X8_feed_44, s_X8_feed_47, s_X8_feed_48, s_X8_feed_51, kS_106, rS_106_0, rS_106_3, rS_106_4, rS_106_5, rS_106_6, rS_106_7, rS_106_11, kS_107, lS_107, kS_108, lS_108, kS_109, lS_109, kS_110, lS_110, kS_111, lS_111, kS_112, lS_112, kS_113, lS_113, b1, bI_f, z_0, Option.toList_some, List.cons_append, List.nil_append, cl_tl0, cl_tl1, rfv_some, if_true, if_false, or_true, true_or, eq_self, ite_true, ite_false, and_true, true_and, not_true_eq_false, not_false_eq_true]
  rw [v1] at a1 b1
  obtain ⟨v, -, hv, rfl⟩ := inB_t (by omega) (by omega) v1
  have l1 : (nI n < nI 100) = (n < 100) := f_lt (by omega) (by omega)
  have l2 : (nI n = nI 100) = (n = 100) := f_eq (by omega) (by omega)
  have l3 : (nI 100 ≤ nI n) = (100 ≤ n) := f_le (by omega) (by omega)
  by_cases z : n = 100
  · refine ⟨.int (-1000003), h, h, k, fun Q => ?_, fun Q => ?_⟩
    · simp only [e_X7_feed, s_X7_feed_0, s_X7_feed_1, s_X7_feed_2, s_X7_feed_5, s_X7_feed_8, s_X7_feed_11, s_X7_feed_13, s_X7_feed_14, s_X7_feed_15, s_X7_feed_18, s_X7_feed_21, s_X7_feed_23, s_X7_feed_26, s_X7_feed_28, s_X7_feed_29, s_X7_feed_30, s_X7_feed_33, s_X7_feed_34, s_X7_feed_37, s_X7_feed_38, s_X7_feed_41, s_X7_feed_44, kS_4, rS_4_0, rS_4_1, rS_4_2, rS_4_3, rS_4_4, rS_4_5, rS_4_6, rS_4_7, Hs_27, Hs_63, Hs_72, Hs_19, Hs_90, Hs_98, kS_17, rS_17_0, rS_17_4, kS_18, lS_18, a1, k1, l1, eq_false (show ¬ n < 100 by omega), bI_t, z_1, Option.toList_some, List.cons_append, List.nil_append, cl_tl0, cl_tl1, rfv_some, if_true, if_false, or_true, true_or, eq_self, ite_true, ite_false, and_true, true_and, not_true_eq_false, not_false_eq_true]
    · simp only [e_X8_feed, s_X8_feed_0, s_X8_feed_1, s_X8_feed_2, s_X8_feed_3, s_X8_feed_6, s_X8_feed_9, s_X8_feed_12, s_X8_feed_14, s_X8_feed_15, s_X8_feed_16, s_X8_feed_19, s_X8_feed_21, s_X8_feed_24, s_X8_feed_26, s_X8_feed_27, s_X8_feed_28, s_X8_feed_31, s_X8_feed_32, s_X8_feed_35, s_X8_feed_36, s_X8_feed_37, s_X8_feed_38, s_X8_feed_39, s_X8_feed_42, s_X8_feed_43, s_X8_feed_44, s_X8_feed_47, s_X8_feed_48, s_X8_feed_51, kS_106, rS_106_0, rS_106_3, rS_106_4, rS_106_5, rS_106_6, rS_106_7, rS_106_11, kS_107, lS_107, kS_108, lS_108, kS_109, lS_109, kS_110, lS_110, kS_111, lS_111, kS_112, lS_112, kS_113, lS_113, b1, k2, l2, eq_true z, bI_t, z_1, Option.toList_some, List.cons_append, List.nil_append, cl_tl0, cl_tl1, rfv_some, if_true, if_false, or_true, true_or, eq_self, ite_true, ite_false, and_true, true_and, not_true_eq_false, not_false_eq_true]
  · obtain ⟨h1, eh1⟩ : ∃ h1, up2 (up2 h 18 n (nI v)) 17 1 (nI (n + 1)) = h1 := ⟨_, rfl⟩
    obtain ⟨h2, eh2⟩ : ∃ h2, up2 (up2 h1 112 n (nI v)) 106 8 (nI (n + 1)) = h2 := ⟨_, rfl⟩
    have g1 : ∀ a i, ¬ ((a = 18 ∧ i = n) ∨ (a = 17 ∧ i = 1)) → h1 a i = h a i := fun a i hq => by rw [← eh1, up2_n (by omega), up2_n (by omega)]
    have g2 : ∀ a i, ¬ ((a = 112 ∧ i = n) ∨ (a = 106 ∧ i = 8)) → h2 a i = h1 a i := fun a i hq => by rw [← eh2, up2_n (by omega), up2_n (by omega)]
    have fz : ∀ a i, ¬ r2 a i → h2 a i = h a i := fun a i hq => by unfold r2 at hq; rw [g2 a i (by omega), g1 a i (by omega)]
    have q1 : up2 h 18 n (nI v) 17 1 = nI n := by rw [up2_n (by omega), k1]
    have q2 : h1 17 1 = nI (n + 1) := by rw [← eh1, up2_a]
    have q3 : h1 106 8 = nI n := by rw [g1 _ _ (by omega), k2]
    have q4 : up2 h1 112 n (nI v) 106 8 = nI n := by rw [up2_n (by omega), q3]
    have q5 : h2 106 8 = nI (n + 1) := by rw [← eh2, up2_a]
    refine ⟨.int (nI (n + 1)), h1, h2, ?_, fun Q => ?_, fun Q => ?_⟩
    · obtain ⟨k0, k1', k2', k3', k4, k5, k6⟩ := k
      refine ⟨I0_fr (fun a i q => fz a i ?_) k0, I1_fr (fun a i q => fz a i ?_) k1', ⟨n + 1, by omega, ?_, q5, fun i hi => ?_⟩, I3_fr (fun a i q => fz a i ?_) k3', I4_fr (fun a i q => fz a i ?_) k4, I5_fr (fun a i q => fz a i ?_) k5, I6_fr (fun a i q => fz a i ?_) k6⟩
      · unfold r2; omega
      · unfold r1 at q; unfold r2; omega
      · rw [g2 _ _ (by omega), q2]
      · by_cases ei : i = n
        · subst ei
          exact ⟨v, by omega, by rw [g2 _ _ (by omega), ← eh1, up2_n (by omega), up2_a], by rw [← eh2, up2_n (by omega), up2_a]⟩
        · obtain ⟨v', hv', y1, y2⟩ := k3 i (by omega)
          exact ⟨v', hv', by rw [g2 _ _ (by omega), g1 _ _ (by omega), y1], by rw [g2 _ _ (by omega), g1 _ _ (by omega), y2]⟩
      · unfold r3 at q; unfold r2; omega
      · unfold r4 ar hs at q; unfold r2; omega
      · unfold r5 at q; unfold r2; omega
      · unfold r6 at q; unfold r2; omega
    · simp only [e_X7_feed, s_X7_feed_0, s_X7_feed_1, s_X7_feed_2, s_X7_feed_5, s_X7_feed_8, s_X7_feed_11, s_X7_feed_13, s_X7_feed_14, s_X7_feed_15, s_X7_feed_18, s_X7_feed_21, s_X7_feed_23, s_X7_feed_26, s_X7_feed_28, s_X7_feed_29, s_X7_feed_30, s_X7_feed_33, s_X7_feed_34, s_X7_feed_37, s_X7_feed_38, s_X7_feed_41, s_X7_feed_44, e_X6_append, s_X6_append_0, s_X6_append_1, s_X6_append_4, s_X6_append_6, s_X6_append_9, s_X6_append_10, s_X6_append_13, s_X6_append_14, s_X6_append_17, s_X6_append_18, s_X6_append_19, s_X6_append_20, s_X6_append_21, s_X6_append_24, s_X6_append_25, s_X6_append_26, s_X6_append_29, kS_4, rS_4_0, rS_4_1, rS_4_2, rS_4_3, rS_4_4, rS_4_5, rS_4_6, rS_4_7, Hs_27, Hs_63, Hs_72, Hs_19, Hs_90, Hs_98, kS_17, rS_17_0, rS_17_4, kS_18, lS_18, a1, k1, l1, l3, eq_true (show n < 100 by omega), eq_false (show ¬ 100 ≤ n by omega), show n < 100 by omega, q1, q2, nI_add, eh1, bI_t, z_1, Option.toList_none, Option.toList_some, List.cons_append, List.nil_append, Nat.reduceLT, cl_tl0, cl_tl1, rfv_some, if_true, if_false, or_true, true_or, eq_self, ite_true, ite_false, and_true, true_and, not_true_eq_false, not_false_eq_true]
    · simp only [e_X8_feed, s_X8_feed_0, s_X8_feed_1, s_X8_feed_2, s_X8_feed_3, s_X8_feed_6, s_X8_feed_9, s_X8_feed_12, s_X8_feed_14, s_X8_feed_15, s_X8_feed_16, s_X8_feed_19, s_X8_feed_21, s_X8_feed_24, s_X8_feed_26, s_X8_feed_27, s_X8_feed_28, s_X8_feed_31, s_X8_feed_32, s_X8_feed_35, s_X8_feed_36, s_X8_feed_37, s_X8_feed_38, s_X8_feed_39, s_X8_feed_42, s_X8_feed_43, s_X8_feed_44, s_X8_feed_47, s_X8_feed_48, s_X8_feed_51, kS_106, rS_106_0, rS_106_3, rS_106_4, rS_106_5, rS_106_6, rS_106_7, rS_106_11, kS_107, lS_107, kS_108, lS_108, kS_109, lS_109, kS_110, lS_110, kS_111, lS_111, kS_112, lS_112, kS_113, lS_113, b1, q3, q4, q5, l2, eq_false z, show n < 100 by omega, nI_add, eh2, bI_t, z_1, Option.toList_some, List.cons_append, List.nil_append, Nat.reduceLT, cl_tl0, cl_tl1, rfv_some, if_true, if_false, or_true, true_or, eq_self, ite_true, ite_false, and_true, true_and, not_true_eq_false, not_false_eq_true]
