/-! ===== pure: house: the model reads an heir, a right ===== -/
theorem hq5_4 {N : Nat} {b : Nat → Nat} {n : Nat} {s : Nat × Nat} (h : (hq4 N b n s).2 ≠ 0) : hq5 N b n s = hq4 N b n s := stS_f h
theorem hq5_3 {N : Nat} {b : Nat → Nat} {n : Nat} {s : Nat × Nat} (h : (hq3 N b n s).2 ≠ 0) : hq5 N b n s = hq3 N b n s := by
  have e : hq4 N b n s = hq3 N b n s := stN_f h
  rw [hq5_4 (by rw [e]; exact h), e]
theorem hq5_2 {N : Nat} {b : Nat → Nat} {n : Nat} {s : Nat × Nat} (h : (hq2 N b n s).2 ≠ 0) : hq5 N b n s = hq2 N b n s := by
  have e : hq3 N b n s = hq2 N b n s := stS_f h
  rw [hq5_3 (by rw [e]; exact h), e]
theorem hq5_1 {N : Nat} {b : Nat → Nat} {n : Nat} {s : Nat × Nat} (h : (hq1 N b n s).2 ≠ 0) : hq5 N b n s = hq1 N b n s := by
  have e : hq2 N b n s = hq1 N b n s := stN_f h
  rw [hq5_2 (by rw [e]; exact h), e]
theorem hst_2 {N : Nat} {b : Nat → Nat} {s : Nat × Nat} {t : Nat → Nat} (h : (hq5 N b (t 0) s).2 = 0) : (hst N b (s, t)).2 = hadd t (nmV N b (hq1 N b (t 0) s).1) (nmV N b (hq3 N b (t 0) s).1) := if_pos h
theorem hst_1 {N : Nat} {b : Nat → Nat} {s : Nat × Nat} {t : Nat → Nat} : (hst N b (s, t)).1 = hq5 N b (t 0) s := rfl
theorem p_readsHeir {d L N : Nat} {b : Nat → Nat} {s : Nat × Nat} {t : Nat → Nat} {g : mMem} (k : MT g N b) (ms : MS g s) (o : stO N s) (h0 : s.2 = 0) (hs : sgB N b s.1 104 = true) (m : MR g 27 t) (h5 : t 0 ≤ 5) : Sp (d + 4) M_X8_readsHeir [.ref 106] L g (some (.int (bI (decide ((hst N b (s, t)).1.2 = 0))))) (fun g' => (MS g' (hst N b (s, t)).1 ∧ ((hst N b (s, t)).1.2 = 0 → MR g' 27 (hst N b (s, t)).2)) ∧ Fr aN g g') := by
  have kN := k.1
  have o1 := o.1
  have m0 := m 0 (by omega)
  have lr : (nI (t 0) = nI 5) = (t 0 = 5) := f_eq (by omega) (by omega)
  obtain ⟨q1, q2, q3, q4, q5⟩ := hq_o (b := b) (n := t 0) o
  rw [hst_1]
  by_cases c5 : t 0 = 5
  · have e1 : hq1 N b (t 0) s = (s.1, 3) := by
      unfold hq1 stL
      rw [if_pos h0, if_pos hs, decide_eq_false (by omega)]
      rfl
    have n1 : (hq1 N b (t 0) s).2 ≠ 0 := by rw [e1]; show 3 ≠ 0; omega
    rw [hq5_1 n1, decide_eq_false n1, e1]
    have w := MS_u ms 3
    refine ⟨_, ⟨⟨w.1, fun e => by cases e⟩, aP_N w.2⟩, fun Q => ?_⟩
    simp only [e_X8_readsHeir, s_X8_readsHeir_0, s_X8_readsHeir_1, s_X8_readsHeir_4, s_X8_readsHeir_7, s_X8_readsHeir_8, s_X8_readsHeir_9, s_X8_readsHeir_10, s_X8_readsHeir_11, s_X8_readsHeir_14, s_X8_readsHeir_15, s_X8_readsHeir_16, s_X8_readsHeir_19, s_X8_readsHeir_20, s_X8_readsHeir_21, s_X8_readsHeir_22, s_X8_readsHeir_25, s_X8_readsHeir_26, s_X8_readsHeir_27, s_X8_readsHeir_30, s_X8_readsHeir_31, s_X8_readsHeir_32, s_X8_readsHeir_34, s_X8_readsHeir_37, s_X8_readsHeir_40, s_X8_readsHeir_41, s_X8_readsHeir_42, s_X8_readsHeir_43, s_X8_readsHeir_46, s_X8_readsHeir_49, s_X8_readsHeir_50, s_X8_readsHeir_51, s_X8_readsHeir_52, s_X8_readsHeir_55, s_X8_readsHeir_56, s_X8_readsHeir_57, s_X8_readsHeir_59, s_X8_readsHeir_62, s_X8_readsHeir_65, s_X8_readsHeir_66, s_X8_readsHeir_67, s_X8_readsHeir_69, s_X8_readsHeir_72, s_X8_readsHeir_75, s_X8_readsHeir_76, s_X8_readsHeir_77, s_X8_readsHeir_78, s_X8_readsHeir_81, s_X8_readsHeir_84, s_X8_readsHeir_85, s_X8_readsHeir_86, s_X8_readsHeir_87, s_X8_readsHeir_90, s_X8_readsHeir_91, s_X8_readsHeir_92, s_X8_readsHeir_95, s_X8_readsHeir_98, s_X8_readsHeir_99, s_X8_readsHeir_100, s_X8_readsHeir_101, s_X8_readsHeir_102, s_X8_readsHeir_103, s_X8_readsHeir_104, s_X8_readsHeir_106, s_X8_readsHeir_109, kS_106, rS_106_0, rS_106_3, rS_106_4, rS_106_5, rS_106_6, rS_106_7, rS_106_11, kS_107, lS_107, kS_108, lS_108, kS_109, lS_109, kS_110, lS_110, kS_111, lS_111, kS_112, lS_112, kS_113, lS_113, m0, lr, eq_true c5, p_refuse, bI_f, n01_0, Option.toList_some, List.cons_append, List.nil_append, Nat.reduceMul, Nat.reduceAdd, Nat.reduceLT, cl_tl0, cl_tl1, rfv_some, if_true, if_false, or_true, true_or, eq_self, ite_true, ite_false, and_true, true_and, not_true_eq_false, not_false_eq_true]
  have e1 : hq1 N b (t 0) s = (s.1 + 1, 0) := by
    unfold hq1 stL
    rw [if_pos h0, if_pos hs, decide_eq_true (by omega)]
    rfl
  obtain ⟨g1, eg1⟩ : ∃ g1, up2 g 106 13 (nI (s.1 + 1)) = g1 := ⟨_, rfl⟩
  have w1 := MS_v (g := g) (p := s.1 + 1)
  rw [eg1, ← e1] at w1
  have k1 := MT_fr (aP_N w1.2) k
  obtain ⟨g2, ⟨m2, f2, v2⟩, e2⟩ := p_readsNumber (d := d) (L := L) (lo := 0) (hi := 60) k1 w1.1 q1 (by rw [e1]) (by omega) (by omega)
  have k2 := MT_fr (aP_N f2) k1
  have fa2 : Fr aN g g2 := aP_N (Fr_t w1.2 f2)
  by_cases z2 : (hq2 N b (t 0) s).2 = 0
  rotate_left
  · rw [hq5_2 z2, decide_eq_false z2]
    have e2' : ∀ Q, WP (d + 3) M_X8_readsNumber [.ref 106, .int (nI 0), .int (nI 60)] (S0 L, g1) Q = Q (some (.int (bI (decide ((hq2 N b (t 0) s).2 = 0))))) (S0 L, g2) := e2
    rw [decide_eq_false z2] at e2'
    refine ⟨g2, ⟨⟨m2, fun e => absurd e z2⟩, fa2⟩, fun Q => ?_⟩
    simp only [e_X8_readsHeir, s_X8_readsHeir_0, s_X8_readsHeir_1, s_X8_readsHeir_4, s_X8_readsHeir_7, s_X8_readsHeir_8, s_X8_readsHeir_9, s_X8_readsHeir_10, s_X8_readsHeir_11, s_X8_readsHeir_14, s_X8_readsHeir_15, s_X8_readsHeir_16, s_X8_readsHeir_19, s_X8_readsHeir_20, s_X8_readsHeir_21, s_X8_readsHeir_22, s_X8_readsHeir_25, s_X8_readsHeir_26, s_X8_readsHeir_27, s_X8_readsHeir_30, s_X8_readsHeir_31, s_X8_readsHeir_32, s_X8_readsHeir_34, s_X8_readsHeir_37, s_X8_readsHeir_40, s_X8_readsHeir_41, s_X8_readsHeir_42, s_X8_readsHeir_43, s_X8_readsHeir_46, s_X8_readsHeir_49, s_X8_readsHeir_50, s_X8_readsHeir_51, s_X8_readsHeir_52, s_X8_readsHeir_55, s_X8_readsHeir_56, s_X8_readsHeir_57, s_X8_readsHeir_59, s_X8_readsHeir_62, s_X8_readsHeir_65, s_X8_readsHeir_66, s_X8_readsHeir_67, s_X8_readsHeir_69, s_X8_readsHeir_72, s_X8_readsHeir_75, s_X8_readsHeir_76, s_X8_readsHeir_77, s_X8_readsHeir_78, s_X8_readsHeir_81, s_X8_readsHeir_84, s_X8_readsHeir_85, s_X8_readsHeir_86, s_X8_readsHeir_87, s_X8_readsHeir_90, s_X8_readsHeir_91, s_X8_readsHeir_92, s_X8_readsHeir_95, s_X8_readsHeir_98, s_X8_readsHeir_99, s_X8_readsHeir_100, s_X8_readsHeir_101, s_X8_readsHeir_102, s_X8_readsHeir_103, s_X8_readsHeir_104, s_X8_readsHeir_106, s_X8_readsHeir_109, kS_106, rS_106_0, rS_106_3, rS_106_4, rS_106_5, rS_106_6, rS_106_7, rS_106_11, kS_107, lS_107, kS_108, lS_108, kS_109, lS_109, kS_110, lS_110, kS_111, lS_111, kS_112, lS_112, kS_113, lS_113, m0, lr, eq_false c5, ms.1, eg1, e2', bI_f, z_0, n01_0, nI_add, Option.toList_some, List.cons_append, List.nil_append, Nat.reduceMul, Nat.reduceAdd, Nat.reduceLT, cl_tl0, cl_tl1, rfv_some, if_true, if_false, or_true, true_or, eq_self, ite_true, ite_false, and_true, true_and, not_true_eq_false, not_false_eq_true]
  have e2' : ∀ Q, WP (d + 3) M_X8_readsNumber [.ref 106, .int (nI 0), .int (nI 60)] (S0 L, g1) Q = Q (some (.int (bI (decide ((hq2 N b (t 0) s).2 = 0))))) (S0 L, g2) := e2
  rw [decide_eq_true z2] at e2'
  have v2' := v2 z2
  have mr2 : MR g2 27 t := MR_fr m (fun i q1 q2 => by rw [f2 _ _ (by unfold aP; omega), ← eg1, up2_n (by omega)])
  obtain ⟨g3, eg3⟩ : ∃ g3, up2 g2 107 (1354 + t 0) (nI (nmV N b (hq1 N b (t 0) s).1)) = g3 := ⟨_, rfl⟩
  have mr3 := MR_up (v := nmV N b (hq1 N b (t 0) s).1) (j := 4 + t 0) (i := 1354 + t 0) mr2 (by omega) (by omega)
  rw [eg3] at mr3
  have f3 : Fr (tw 27) g2 g3 := by rw [← eg3]; exact Fr_u ⟨rfl, by omega, by omega⟩
  have ms3 : MS g3 (hq2 N b (t 0) s) := ⟨(f3 _ _ (by unfold tw; omega)).trans m2.1, fun e => absurd z2 e⟩
  have fa3 := Fr_t fa2 (Fr_w (fun a i e => Or.inr e) f3)
  have k3 := MT_fr fa3 k
  obtain ⟨g4, ⟨m4, f4⟩, e4⟩ := p_sign (d := d + 1) (L := L) (c := 44) k3 ms3 q2 z2 (by omega)
  have e4' : ∀ Q, WP (d + 3) M_X8_sign [.ref 106, .int (nI 44)] (S0 L, g3) Q = Q (some (.int (bI (decide ((hq3 N b (t 0) s).2 = 0))))) (S0 L, g4) := e4
  have fa4 := Fr_t fa3 (aP_N f4)
  have k4 := MT_fr fa4 k
  by_cases z3 : (hq3 N b (t 0) s).2 = 0
  rotate_left
  · rw [hq5_3 z3, decide_eq_false z3]
    rw [decide_eq_false z3] at e4'
    refine ⟨g4, ⟨⟨m4, fun e => absurd e z3⟩, fa4⟩, fun Q => ?_⟩
    simp only [e_X8_readsHeir, s_X8_readsHeir_0, s_X8_readsHeir_1, s_X8_readsHeir_4, s_X8_readsHeir_7, s_X8_readsHeir_8, s_X8_readsHeir_9, s_X8_readsHeir_10, s_X8_readsHeir_11, s_X8_readsHeir_14, s_X8_readsHeir_15, s_X8_readsHeir_16, s_X8_readsHeir_19, s_X8_readsHeir_20, s_X8_readsHeir_21, s_X8_readsHeir_22, s_X8_readsHeir_25, s_X8_readsHeir_26, s_X8_readsHeir_27, s_X8_readsHeir_30, s_X8_readsHeir_31, s_X8_readsHeir_32, s_X8_readsHeir_34, s_X8_readsHeir_37, s_X8_readsHeir_40, s_X8_readsHeir_41, s_X8_readsHeir_42, s_X8_readsHeir_43, s_X8_readsHeir_46, s_X8_readsHeir_49, s_X8_readsHeir_50, s_X8_readsHeir_51, s_X8_readsHeir_52, s_X8_readsHeir_55, s_X8_readsHeir_56, s_X8_readsHeir_57, s_X8_readsHeir_59, s_X8_readsHeir_62, s_X8_readsHeir_65, s_X8_readsHeir_66, s_X8_readsHeir_67, s_X8_readsHeir_69, s_X8_readsHeir_72, s_X8_readsHeir_75, s_X8_readsHeir_76, s_X8_readsHeir_77, s_X8_readsHeir_78, s_X8_readsHeir_81, s_X8_readsHeir_84, s_X8_readsHeir_85, s_X8_readsHeir_86, s_X8_readsHeir_87, s_X8_readsHeir_90, s_X8_readsHeir_91, s_X8_readsHeir_92, s_X8_readsHeir_95, s_X8_readsHeir_98, s_X8_readsHeir_99, s_X8_readsHeir_100, s_X8_readsHeir_101, s_X8_readsHeir_102, s_X8_readsHeir_103, s_X8_readsHeir_104, s_X8_readsHeir_106, s_X8_readsHeir_109, kS_106, rS_106_0, rS_106_3, rS_106_4, rS_106_5, rS_106_6, rS_106_7, rS_106_11, kS_107, lS_107, kS_108, lS_108, kS_109, lS_109, kS_110, lS_110, kS_111, lS_111, kS_112, lS_112, kS_113, lS_113, m0, lr, eq_false c5, ms.1, eg1, e2', v2', show 1354 + t 0 < 1600 by omega, eg3, e4', bI_f, bI_t, z_0, z_1, n01_0, nI_add, Option.toList_some, List.cons_append, List.nil_append, Nat.reduceMul, Nat.reduceAdd, Nat.reduceLT, cl_tl0, cl_tl1, rfv_some, if_true, if_false, or_true, true_or, eq_self, ite_true, ite_false, and_true, true_and, not_true_eq_false, not_false_eq_true]
  rw [decide_eq_true z3] at e4'
  obtain ⟨g5, ⟨m5, f5, v5⟩, e5⟩ := p_readsNumber (d := d) (L := L) (lo := 0) (hi := 20) k4 m4 q3 z3 (by omega) (by omega)
  have e5' : ∀ Q, WP (d + 3) M_X8_readsNumber [.ref 106, .int (nI 0), .int (nI 20)] (S0 L, g4) Q = Q (some (.int (bI (decide ((hq4 N b (t 0) s).2 = 0))))) (S0 L, g5) := e5
  have fa5 := Fr_t fa4 (aP_N f5)
  by_cases z4 : (hq4 N b (t 0) s).2 = 0
  rotate_left
  · rw [hq5_4 z4, decide_eq_false z4]
    rw [decide_eq_false z4] at e5'
    refine ⟨g5, ⟨⟨m5, fun e => absurd e z4⟩, fa5⟩, fun Q => ?_⟩
    simp only [e_X8_readsHeir, s_X8_readsHeir_0, s_X8_readsHeir_1, s_X8_readsHeir_4, s_X8_readsHeir_7, s_X8_readsHeir_8, s_X8_readsHeir_9, s_X8_readsHeir_10, s_X8_readsHeir_11, s_X8_readsHeir_14, s_X8_readsHeir_15, s_X8_readsHeir_16, s_X8_readsHeir_19, s_X8_readsHeir_20, s_X8_readsHeir_21, s_X8_readsHeir_22, s_X8_readsHeir_25, s_X8_readsHeir_26, s_X8_readsHeir_27, s_X8_readsHeir_30, s_X8_readsHeir_31, s_X8_readsHeir_32, s_X8_readsHeir_34, s_X8_readsHeir_37, s_X8_readsHeir_40, s_X8_readsHeir_41, s_X8_readsHeir_42, s_X8_readsHeir_43, s_X8_readsHeir_46, s_X8_readsHeir_49, s_X8_readsHeir_50, s_X8_readsHeir_51, s_X8_readsHeir_52, s_X8_readsHeir_55, s_X8_readsHeir_56, s_X8_readsHeir_57, s_X8_readsHeir_59, s_X8_readsHeir_62, s_X8_readsHeir_65, s_X8_readsHeir_66, s_X8_readsHeir_67, s_X8_readsHeir_69, s_X8_readsHeir_72, s_X8_readsHeir_75, s_X8_readsHeir_76, s_X8_readsHeir_77, s_X8_readsHeir_78, s_X8_readsHeir_81, s_X8_readsHeir_84, s_X8_readsHeir_85, s_X8_readsHeir_86, s_X8_readsHeir_87, s_X8_readsHeir_90, s_X8_readsHeir_91, s_X8_readsHeir_92, s_X8_readsHeir_95, s_X8_readsHeir_98, s_X8_readsHeir_99, s_X8_readsHeir_100, s_X8_readsHeir_101, s_X8_readsHeir_102, s_X8_readsHeir_103, s_X8_readsHeir_104, s_X8_readsHeir_106, s_X8_readsHeir_109, kS_106, rS_106_0, rS_106_3, rS_106_4, rS_106_5, rS_106_6, rS_106_7, rS_106_11, kS_107, lS_107, kS_108, lS_108, kS_109, lS_109, kS_110, lS_110, kS_111, lS_111, kS_112, lS_112, kS_113, lS_113, m0, lr, eq_false c5, ms.1, eg1, e2', v2', show 1354 + t 0 < 1600 by omega, eg3, e4', e5', bI_f, bI_t, z_0, z_1, n01_0, nI_add, Option.toList_some, List.cons_append, List.nil_append, Nat.reduceMul, Nat.reduceAdd, Nat.reduceLT, cl_tl0, cl_tl1, rfv_some, if_true, if_false, or_true, true_or, eq_self, ite_true, ite_false, and_true, true_and, not_true_eq_false, not_false_eq_true]
  rw [decide_eq_true z4] at e5'
  have v5' : g5 106 15 = nI (nmV N b (hq3 N b (t 0) s).1) := v5 z4
  have mr5 : MR g5 27 (tset t (4 + t 0) (nmV N b (hq1 N b (t 0) s).1)) := MR_fr mr3 (fun i q1 q2 => by rw [f5 _ _ (by unfold aP; omega), f4 _ _ (by unfold aP; omega)])
  obtain ⟨g6, eg6⟩ : ∃ g6, up2 g5 107 (1359 + t 0) (nI (nmV N b (hq3 N b (t 0) s).1)) = g6 := ⟨_, rfl⟩
  have mr6 := MR_up (v := nmV N b (hq3 N b (t 0) s).1) (j := 9 + t 0) (i := 1359 + t 0) mr5 (by omega) (by omega)
  rw [eg6] at mr6
  have r60 := mr6 0 (by omega)
  rw [ts_o (by omega), ts_o (by omega)] at r60
  obtain ⟨g7, eg7⟩ : ∃ g7, up2 g6 107 1350 (nI (t 0 + 1)) = g7 := ⟨_, rfl⟩
  have mr7 := MR_up (v := t 0 + 1) (j := 0) (i := 1350) mr6 (by omega) (by omega)
  rw [eg7] at mr7
  have f7 : Fr (tw 27) g5 g7 := by
    rw [← eg7, ← eg6]
    exact Fr_t (Fr_u ⟨rfl, by omega, by omega⟩) (Fr_u ⟨rfl, by omega, by omega⟩)
  have ms7 : MS g7 (hq4 N b (t 0) s) := ⟨(f7 _ _ (by unfold tw; omega)).trans m5.1, fun e => absurd z4 e⟩
  have fa7 := Fr_t fa5 (Fr_w (fun a i e => Or.inr e) f7)
  have k7 := MT_fr fa7 k
  obtain ⟨g8, ⟨m8, f8⟩, e8⟩ := p_sign (d := d + 1) (L := L) (c := 59) k7 ms7 q4 z4 (by omega)
  have e8' : ∀ Q, WP (d + 3) M_X8_sign [.ref 106, .int (nI 59)] (S0 L, g7) Q = Q (some (.int (bI (decide ((hq5 N b (t 0) s).2 = 0))))) (S0 L, g8) := e8
  refine ⟨g8, ⟨⟨m8, fun e => ?_⟩, Fr_t fa7 (aP_N f8)⟩, fun Q => ?_⟩
  · rw [hst_2 e]
    exact MR_fr mr7 (fun i q1 q2 => f8 _ _ (by unfold aP; omega))
  · simp only [e_X8_readsHeir, s_X8_readsHeir_0, s_X8_readsHeir_1, s_X8_readsHeir_4, s_X8_readsHeir_7, s_X8_readsHeir_8, s_X8_readsHeir_9, s_X8_readsHeir_10, s_X8_readsHeir_11, s_X8_readsHeir_14, s_X8_readsHeir_15, s_X8_readsHeir_16, s_X8_readsHeir_19, s_X8_readsHeir_20, s_X8_readsHeir_21, s_X8_readsHeir_22, s_X8_readsHeir_25, s_X8_readsHeir_26, s_X8_readsHeir_27, s_X8_readsHeir_30, s_X8_readsHeir_31, s_X8_readsHeir_32, s_X8_readsHeir_34, s_X8_readsHeir_37, s_X8_readsHeir_40, s_X8_readsHeir_41, s_X8_readsHeir_42, s_X8_readsHeir_43, s_X8_readsHeir_46, s_X8_readsHeir_49, s_X8_readsHeir_50, s_X8_readsHeir_51, s_X8_readsHeir_52, s_X8_readsHeir_55, s_X8_readsHeir_56, s_X8_readsHeir_57, s_X8_readsHeir_59, s_X8_readsHeir_62, s_X8_readsHeir_65, s_X8_readsHeir_66, s_X8_readsHeir_67, s_X8_readsHeir_69, s_X8_readsHeir_72, s_X8_readsHeir_75, s_X8_readsHeir_76, s_X8_readsHeir_77, s_X8_readsHeir_78, s_X8_readsHeir_81, s_X8_readsHeir_84, s_X8_readsHeir_85, s_X8_readsHeir_86, s_X8_readsHeir_87, s_X8_readsHeir_90, s_X8_readsHeir_91, s_X8_readsHeir_92, s_X8_readsHeir_95, s_X8_readsHeir_98, s_X8_readsHeir_99, s_X8_readsHeir_100, s_X8_readsHeir_101, s_X8_readsHeir_102, s_X8_readsHeir_103, s_X8_readsHeir_104, s_X8_readsHeir_106, s_X8_readsHeir_109, kS_106, rS_106_0, rS_106_3, rS_106_4, rS_106_5, rS_106_6, rS_106_7, rS_106_11, kS_107, lS_107, kS_108, lS_108, kS_109, lS_109, kS_110, lS_110, kS_111, lS_111, kS_112, lS_112, kS_113, lS_113, m0, lr, eq_false c5, ms.1, eg1, e2', v2', show 1354 + t 0 < 1600 by omega, show 1359 + t 0 < 1600 by omega, eg3, e4', e5', v5', eg6, show g6 107 1350 = nI (t 0) from r60, eg7, e8', bI_01, bI_t, z_1, nI_add, Option.toList_some, List.cons_append, List.nil_append, Nat.reduceMul, Nat.reduceAdd, Nat.reduceLT, cl_tl0, cl_tl1, rfv_some, if_true, if_false, or_true, true_or, eq_self, ite_true, ite_false, and_true, true_and, not_true_eq_false, not_false_eq_true]
