/-! ===== pure: house: the model reads a right ===== -/
theorem rq7_6 {N : Nat} {b : Nat → Nat} {n m : Nat} {s : Nat × Nat} (h : (rq6 N b n m s).2 ≠ 0) : rq7 N b n m s = rq6 N b n m s := stS_f h
theorem rq7_5 {N : Nat} {b : Nat → Nat} {n m : Nat} {s : Nat × Nat} (h : (rq5 N b n s).2 ≠ 0) : rq7 N b n m s = rq5 N b n s := by
  have e : rq6 N b n m s = rq5 N b n s := stN_f h
  rw [rq7_6 (by rw [e]; exact h), e]
theorem rq7_4 {N : Nat} {b : Nat → Nat} {n m : Nat} {s : Nat × Nat} (h : (rq4 N b n s).2 ≠ 0) : rq7 N b n m s = rq4 N b n s := by
  have e : rq5 N b n s = rq4 N b n s := stS_f h
  rw [rq7_5 (by rw [e]; exact h), e]
theorem rq7_3 {N : Nat} {b : Nat → Nat} {n m : Nat} {s : Nat × Nat} (h : (rq3 N b n s).2 ≠ 0) : rq7 N b n m s = rq3 N b n s := by
  have e : rq4 N b n s = rq3 N b n s := stN_f h
  rw [rq7_4 (by rw [e]; exact h), e]
theorem rq7_2 {N : Nat} {b : Nat → Nat} {n m : Nat} {s : Nat × Nat} (h : (rq2 N b n s).2 ≠ 0) : rq7 N b n m s = rq2 N b n s := by
  have e : rq3 N b n s = rq2 N b n s := stS_f h
  rw [rq7_3 (by rw [e]; exact h), e]
theorem rq7_1 {N : Nat} {b : Nat → Nat} {n m : Nat} {s : Nat × Nat} (h : (rq1 N b n s).2 ≠ 0) : rq7 N b n m s = rq1 N b n s := by
  have e : rq2 N b n s = rq1 N b n s := stN_f h
  rw [rq7_2 (by rw [e]; exact h), e]
theorem rst_2 {N : Nat} {b : Nat → Nat} {s : Nat × Nat} {t : Nat → Nat} (h : (rq7 N b (t 1) (t 0) s).2 = 0) : (rst' N b (s, t)).2 = radd t (ksB N b s.1) (nmV N b (rq1 N b (t 1) s).1) (nmV N b (rq3 N b (t 1) s).1) (nmV N b (rq5 N b (t 1) s).1) := if_pos h
theorem rst_1 {N : Nat} {b : Nat → Nat} {s : Nat × Nat} {t : Nat → Nat} : (rst' N b (s, t)).1 = rq7 N b (t 1) (t 0) s := rfl
theorem p_readsRight {d L N : Nat} {b : Nat → Nat} {s : Nat × Nat} {t : Nat → Nat} {g : mMem} (k : MT g N b) (ms : MS g s) (o : stO N s) (h0 : s.2 = 0) (hs : ksB N b s.1 ≠ 0) (m : MR g 27 t) (h5 : t 0 ≤ 5) (h7 : t 1 ≤ 7) (hh : 1 ≤ t 0) : Sp (d + 4) M_X8_readsRight [.ref 106] L g (some (.int (bI (decide ((rst' N b (s, t)).1.2 = 0))))) (fun g' => (MS g' (rst' N b (s, t)).1 ∧ ((rst' N b (s, t)).1.2 = 0 → MR g' 27 (rst' N b (s, t)).2)) ∧ Fr aN g g') := by
  have kN := k.1
  have o1 := o.1
  have hlt : s.1 < N := by
    unfold ksB at hs
    by_cases h : s.1 < N
    · exact h
    · rw [if_neg h] at hs
      exact absurd rfl hs
  obtain ⟨b1, b2⟩ := k.2.2 s.1 hlt
  have eks : ksB N b s.1 = klt (b s.1) := if_pos hlt
  have ek := fun Q => p_kindOf (d := d + 2) (L := L) (g := g) (Q := Q) b1
  rw [← eks] at ek
  have m1 : g 107 1351 = nI (t 1) := m 1 (by omega)
  have lr : (nI (t 1) = nI 7) = (t 1 = 7) := f_eq (by omega) (by omega)
  obtain ⟨q1, q2, q3, q4, q5, q6, q7⟩ := rq_o (b := b) (n := t 1) (m := t 0) o
  rw [rst_1]
  by_cases c7 : t 1 = 7
  · have e1 : rq1 N b (t 1) s = (s.1, 3) := by
      unfold rq1 stL
      rw [if_pos h0, decide_eq_true hs, decide_eq_false (by omega)]
      rfl
    have n1 : (rq1 N b (t 1) s).2 ≠ 0 := by rw [e1]; show 3 ≠ 0; omega
    rw [rq7_1 n1, decide_eq_false n1, e1]
    have w := MS_u ms 3
    refine ⟨_, ⟨⟨w.1, fun e => by cases e⟩, aP_N w.2⟩, fun Q => ?_⟩
    simp only [e_X8_readsRight, s_X8_readsRight_0, s_X8_readsRight_1, s_X8_readsRight_4, s_X8_readsRight_7, s_X8_readsRight_8, s_X8_readsRight_9, s_X8_readsRight_10, s_X8_readsRight_12, s_X8_readsRight_15, s_X8_readsRight_16, s_X8_readsRight_17, s_X8_readsRight_20, s_X8_readsRight_21, s_X8_readsRight_22, s_X8_readsRight_25, s_X8_readsRight_28, s_X8_readsRight_29, s_X8_readsRight_30, s_X8_readsRight_31, s_X8_readsRight_34, s_X8_readsRight_35, s_X8_readsRight_38, s_X8_readsRight_39, s_X8_readsRight_42, s_X8_readsRight_43, s_X8_readsRight_44, s_X8_readsRight_45, s_X8_readsRight_48, s_X8_readsRight_49, s_X8_readsRight_50, s_X8_readsRight_53, s_X8_readsRight_54, s_X8_readsRight_55, s_X8_readsRight_57, s_X8_readsRight_60, s_X8_readsRight_63, s_X8_readsRight_64, s_X8_readsRight_65, s_X8_readsRight_66, s_X8_readsRight_69, s_X8_readsRight_72, s_X8_readsRight_73, s_X8_readsRight_74, s_X8_readsRight_75, s_X8_readsRight_78, s_X8_readsRight_79, s_X8_readsRight_80, s_X8_readsRight_82, s_X8_readsRight_85, s_X8_readsRight_88, s_X8_readsRight_89, s_X8_readsRight_90, s_X8_readsRight_92, s_X8_readsRight_95, s_X8_readsRight_98, s_X8_readsRight_99, s_X8_readsRight_100, s_X8_readsRight_101, s_X8_readsRight_104, s_X8_readsRight_107, s_X8_readsRight_108, s_X8_readsRight_109, s_X8_readsRight_110, s_X8_readsRight_113, s_X8_readsRight_114, s_X8_readsRight_115, s_X8_readsRight_117, s_X8_readsRight_120, s_X8_readsRight_123, s_X8_readsRight_124, s_X8_readsRight_125, s_X8_readsRight_126, s_X8_readsRight_129, s_X8_readsRight_132, s_X8_readsRight_133, s_X8_readsRight_134, s_X8_readsRight_135, s_X8_readsRight_138, s_X8_readsRight_141, s_X8_readsRight_142, s_X8_readsRight_143, s_X8_readsRight_144, s_X8_readsRight_147, s_X8_readsRight_150, s_X8_readsRight_151, s_X8_readsRight_152, s_X8_readsRight_153, s_X8_readsRight_156, s_X8_readsRight_157, s_X8_readsRight_158, s_X8_readsRight_161, s_X8_readsRight_164, s_X8_readsRight_165, s_X8_readsRight_166, s_X8_readsRight_167, s_X8_readsRight_170, s_X8_readsRight_171, s_X8_readsRight_172, s_X8_readsRight_175, s_X8_readsRight_178, s_X8_readsRight_179, s_X8_readsRight_180, s_X8_readsRight_181, s_X8_readsRight_182, s_X8_readsRight_183, s_X8_readsRight_184, s_X8_readsRight_186, s_X8_readsRight_189, kS_106, rS_106_0, rS_106_3, rS_106_4, rS_106_5, rS_106_6, rS_106_7, rS_106_11, kS_107, lS_107, kS_108, lS_108, kS_109, lS_109, kS_110, lS_110, kS_111, lS_111, kS_112, lS_112, kS_113, lS_113, m1, lr, eq_true c7, p_refuse, bI_f, n01_0, Option.toList_some, List.cons_append, List.nil_append, Nat.reduceLT, cl_tl0, cl_tl1, rfv_some, if_true, if_false, or_true, true_or, eq_self, ite_true, ite_false, and_true, true_and, not_true_eq_false, not_false_eq_true]
  have e1 : rq1 N b (t 1) s = (s.1 + 1, 0) := by
    unfold rq1 stL
    rw [if_pos h0, decide_eq_true hs, decide_eq_true (by omega)]
    rfl
  obtain ⟨gk, egk⟩ : ∃ gk, up2 g 107 (1364 + t 1) (nI (ksB N b s.1)) = gk := ⟨_, rfl⟩
  have mrk := MR_up (v := ksB N b s.1) (j := 14 + t 1) (i := 1364 + t 1) m (by omega) (by omega)
  rw [egk] at mrk
  have fk : Fr (tw 27) g gk := by rw [← egk]; exact Fr_u ⟨rfl, by omega, by omega⟩
  have mk : gk 106 13 = nI s.1 := (fk _ _ (by unfold tw; omega)).trans ms.1
  obtain ⟨g1, eg1⟩ : ∃ g1, up2 gk 106 13 (nI (s.1 + 1)) = g1 := ⟨_, rfl⟩
  have w1 := MS_v (g := gk) (p := s.1 + 1)
  rw [eg1, ← e1] at w1
  have fa1 : Fr aN g g1 := Fr_t (Fr_w (fun a i e => Or.inr e) fk) (aP_N w1.2)
  have k1 := MT_fr fa1 k
  have mr1 : MR g1 27 (tset t (14 + t 1) (ksB N b s.1)) := MR_fr mrk (fun i q1 q2 => w1.2 _ _ (by unfold aP; omega))
  obtain ⟨g2, ⟨m2, f2, v2⟩, e2⟩ := p_readsNumber (d := d) (L := L) (lo := 1) (hi := 20) k1 w1.1 q1 (by rw [e1]) (by omega) (by omega)
  have e2' : ∀ Q, WP (d + 3) M_X8_readsNumber [.ref 106, .int (nI 1), .int (nI 20)] (S0 L, g1) Q = Q (some (.int (bI (decide ((rq2 N b (t 1) s).2 = 0))))) (S0 L, g2) := e2
  have fa2 := Fr_t fa1 (aP_N f2)
  by_cases z2 : (rq2 N b (t 1) s).2 = 0
  rotate_left
  · rw [rq7_2 z2, decide_eq_false z2]
    rw [decide_eq_false z2] at e2'
    refine ⟨g2, ⟨⟨m2, fun e => absurd e z2⟩, fa2⟩, fun Q => ?_⟩
    simp only [e_X8_readsRight, s_X8_readsRight_0, s_X8_readsRight_1, s_X8_readsRight_4, s_X8_readsRight_7, s_X8_readsRight_8, s_X8_readsRight_9, s_X8_readsRight_10, s_X8_readsRight_12, s_X8_readsRight_15, s_X8_readsRight_16, s_X8_readsRight_17, s_X8_readsRight_20, s_X8_readsRight_21, s_X8_readsRight_22, s_X8_readsRight_25, s_X8_readsRight_28, s_X8_readsRight_29, s_X8_readsRight_30, s_X8_readsRight_31, s_X8_readsRight_34, s_X8_readsRight_35, s_X8_readsRight_38, s_X8_readsRight_39, s_X8_readsRight_42, s_X8_readsRight_43, s_X8_readsRight_44, s_X8_readsRight_45, s_X8_readsRight_48, s_X8_readsRight_49, s_X8_readsRight_50, s_X8_readsRight_53, s_X8_readsRight_54, s_X8_readsRight_55, s_X8_readsRight_57, s_X8_readsRight_60, s_X8_readsRight_63, s_X8_readsRight_64, s_X8_readsRight_65, s_X8_readsRight_66, s_X8_readsRight_69, s_X8_readsRight_72, s_X8_readsRight_73, s_X8_readsRight_74, s_X8_readsRight_75, s_X8_readsRight_78, s_X8_readsRight_79, s_X8_readsRight_80, s_X8_readsRight_82, s_X8_readsRight_85, s_X8_readsRight_88, s_X8_readsRight_89, s_X8_readsRight_90, s_X8_readsRight_92, s_X8_readsRight_95, s_X8_readsRight_98, s_X8_readsRight_99, s_X8_readsRight_100, s_X8_readsRight_101, s_X8_readsRight_104, s_X8_readsRight_107, s_X8_readsRight_108, s_X8_readsRight_109, s_X8_readsRight_110, s_X8_readsRight_113, s_X8_readsRight_114, s_X8_readsRight_115, s_X8_readsRight_117, s_X8_readsRight_120, s_X8_readsRight_123, s_X8_readsRight_124, s_X8_readsRight_125, s_X8_readsRight_126, s_X8_readsRight_129, s_X8_readsRight_132, s_X8_readsRight_133, s_X8_readsRight_134, s_X8_readsRight_135, s_X8_readsRight_138, s_X8_readsRight_141, s_X8_readsRight_142, s_X8_readsRight_143, s_X8_readsRight_144, s_X8_readsRight_147, s_X8_readsRight_150, s_X8_readsRight_151, s_X8_readsRight_152, s_X8_readsRight_153, s_X8_readsRight_156, s_X8_readsRight_157, s_X8_readsRight_158, s_X8_readsRight_161, s_X8_readsRight_164, s_X8_readsRight_165, s_X8_readsRight_166, s_X8_readsRight_167, s_X8_readsRight_170, s_X8_readsRight_171, s_X8_readsRight_172, s_X8_readsRight_175, s_X8_readsRight_178, s_X8_readsRight_179, s_X8_readsRight_180, s_X8_readsRight_181, s_X8_readsRight_182, s_X8_readsRight_183, s_X8_readsRight_184, s_X8_readsRight_186, s_X8_readsRight_189, kS_106, rS_106_0, rS_106_3, rS_106_4, rS_106_5, rS_106_6, rS_106_7, rS_106_11, kS_107, lS_107, kS_108, lS_108, kS_109, lS_109, kS_110, lS_110, kS_111, lS_111, kS_112, lS_112, kS_113, lS_113, m1, lr, eq_false c7, b2, ms.1, show s.1 < 100 by omega, show 1364 + t 1 < 1600 by omega, ek, egk, mk, eg1, e2', bI_f, bI_t, z_0, z_1, n01_0, bI_01, nI_add, Option.toList_some, List.cons_append, List.nil_append, Nat.reduceLT, cl_tl0, cl_tl1, rfv_some, if_true, if_false, or_true, true_or, eq_self, ite_true, ite_false, and_true, true_and, not_true_eq_false, not_false_eq_true]
  rw [decide_eq_true z2] at e2'
  have v2' : g2 106 15 = nI (nmV N b (rq1 N b (t 1) s).1) := v2 z2
  have mr2 : MR g2 27 (tset t (14 + t 1) (ksB N b s.1)) := MR_fr mr1 (fun i q1 q2 => f2 _ _ (by unfold aP; omega))
  obtain ⟨g3, eg3⟩ : ∃ g3, up2 g2 107 (1371 + t 1) (nI (nmV N b (rq1 N b (t 1) s).1)) = g3 := ⟨_, rfl⟩
  have mr3 := MR_up (v := nmV N b (rq1 N b (t 1) s).1) (j := 21 + t 1) (i := 1371 + t 1) mr2 (by omega) (by omega)
  rw [eg3] at mr3
  have fw3 : Fr (tw 27) g2 g3 := by rw [← eg3]; exact Fr_u ⟨rfl, by omega, by omega⟩
  have vv3 : g3 106 15 = nI (nmV N b (rq1 N b (t 1) s).1) := (fw3 _ _ (by unfold tw; omega)).trans v2'
  have mm3 : g3 106 13 = nI (rq2 N b (t 1) s).1 := (fw3 _ _ (by unfold tw; omega)).trans m2.1
  have fa3 := Fr_t fa2 (Fr_w (fun a i e => Or.inr e) fw3)
  have ms3 : MS g3 (rq2 N b (t 1) s) := ⟨mm3, fun e => absurd z2 e⟩
  have k3 := MT_fr fa3 k
  obtain ⟨g4, ⟨m4, f4⟩, e4⟩ := p_sign (d := d + 1) (L := L) (c := 44) k3 ms3 q2 z2 (by omega)
  have e4' : ∀ Q, WP (d + 3) M_X8_sign [.ref 106, .int (nI 44)] (S0 L, g3) Q = Q (some (.int (bI (decide ((rq3 N b (t 1) s).2 = 0))))) (S0 L, g4) := e4
  have fa4 := Fr_t fa3 (aP_N f4)
  by_cases z3 : (rq3 N b (t 1) s).2 = 0
  rotate_left
  · rw [rq7_3 z3, decide_eq_false z3]
    rw [decide_eq_false z3] at e4'
    refine ⟨g4, ⟨⟨m4, fun e => absurd e z3⟩, fa4⟩, fun Q => ?_⟩
    simp only [e_X8_readsRight, s_X8_readsRight_0, s_X8_readsRight_1, s_X8_readsRight_4, s_X8_readsRight_7, s_X8_readsRight_8, s_X8_readsRight_9, s_X8_readsRight_10, s_X8_readsRight_12, s_X8_readsRight_15, s_X8_readsRight_16, s_X8_readsRight_17, s_X8_readsRight_20, s_X8_readsRight_21, s_X8_readsRight_22, s_X8_readsRight_25, s_X8_readsRight_28, s_X8_readsRight_29, s_X8_readsRight_30, s_X8_readsRight_31, s_X8_readsRight_34, s_X8_readsRight_35, s_X8_readsRight_38, s_X8_readsRight_39, s_X8_readsRight_42, s_X8_readsRight_43, s_X8_readsRight_44, s_X8_readsRight_45, s_X8_readsRight_48, s_X8_readsRight_49, s_X8_readsRight_50, s_X8_readsRight_53, s_X8_readsRight_54, s_X8_readsRight_55, s_X8_readsRight_57, s_X8_readsRight_60, s_X8_readsRight_63, s_X8_readsRight_64, s_X8_readsRight_65, s_X8_readsRight_66, s_X8_readsRight_69, s_X8_readsRight_72, s_X8_readsRight_73, s_X8_readsRight_74, s_X8_readsRight_75, s_X8_readsRight_78, s_X8_readsRight_79, s_X8_readsRight_80, s_X8_readsRight_82, s_X8_readsRight_85, s_X8_readsRight_88, s_X8_readsRight_89, s_X8_readsRight_90, s_X8_readsRight_92, s_X8_readsRight_95, s_X8_readsRight_98, s_X8_readsRight_99, s_X8_readsRight_100, s_X8_readsRight_101, s_X8_readsRight_104, s_X8_readsRight_107, s_X8_readsRight_108, s_X8_readsRight_109, s_X8_readsRight_110, s_X8_readsRight_113, s_X8_readsRight_114, s_X8_readsRight_115, s_X8_readsRight_117, s_X8_readsRight_120, s_X8_readsRight_123, s_X8_readsRight_124, s_X8_readsRight_125, s_X8_readsRight_126, s_X8_readsRight_129, s_X8_readsRight_132, s_X8_readsRight_133, s_X8_readsRight_134, s_X8_readsRight_135, s_X8_readsRight_138, s_X8_readsRight_141, s_X8_readsRight_142, s_X8_readsRight_143, s_X8_readsRight_144, s_X8_readsRight_147, s_X8_readsRight_150, s_X8_readsRight_151, s_X8_readsRight_152, s_X8_readsRight_153, s_X8_readsRight_156, s_X8_readsRight_157, s_X8_readsRight_158, s_X8_readsRight_161, s_X8_readsRight_164, s_X8_readsRight_165, s_X8_readsRight_166, s_X8_readsRight_167, s_X8_readsRight_170, s_X8_readsRight_171, s_X8_readsRight_172, s_X8_readsRight_175, s_X8_readsRight_178, s_X8_readsRight_179, s_X8_readsRight_180, s_X8_readsRight_181, s_X8_readsRight_182, s_X8_readsRight_183, s_X8_readsRight_184, s_X8_readsRight_186, s_X8_readsRight_189, kS_106, rS_106_0, rS_106_3, rS_106_4, rS_106_5, rS_106_6, rS_106_7, rS_106_11, kS_107, lS_107, kS_108, lS_108, kS_109, lS_109, kS_110, lS_110, kS_111, lS_111, kS_112, lS_112, kS_113, lS_113, m1, lr, eq_false c7, b2, ms.1, show s.1 < 100 by omega, show 1364 + t 1 < 1600 by omega, ek, egk, mk, eg1, e2', v2', show 1371 + t 1 < 1600 by omega, eg3, vv3, e4', bI_f, bI_t, z_0, z_1, n01_0, bI_01, nI_add, Option.toList_some, List.cons_append, List.nil_append, Nat.reduceLT, cl_tl0, cl_tl1, rfv_some, if_true, if_false, or_true, true_or, eq_self, ite_true, ite_false, and_true, true_and, not_true_eq_false, not_false_eq_true]
  rw [decide_eq_true z3] at e4'
  have k4 := MT_fr fa4 k
  have mr4 : MR g4 27 (tset (tset t (14 + t 1) (ksB N b s.1)) (21 + t 1) (nmV N b (rq1 N b (t 1) s).1)) := MR_fr mr3 (fun i q1 q2 => f4 _ _ (by unfold aP; omega))
  obtain ⟨g5, ⟨m5, f5, v5⟩, e5⟩ := p_readsNumber (d := d) (L := L) (lo := 0) (hi := 60) k4 m4 q3 z3 (by omega) (by omega)
  have e5' : ∀ Q, WP (d + 3) M_X8_readsNumber [.ref 106, .int (nI 0), .int (nI 60)] (S0 L, g4) Q = Q (some (.int (bI (decide ((rq4 N b (t 1) s).2 = 0))))) (S0 L, g5) := e5
  have fa5 := Fr_t fa4 (aP_N f5)
  by_cases z4 : (rq4 N b (t 1) s).2 = 0
  rotate_left
  · rw [rq7_4 z4, decide_eq_false z4]
    rw [decide_eq_false z4] at e5'
    refine ⟨g5, ⟨⟨m5, fun e => absurd e z4⟩, fa5⟩, fun Q => ?_⟩
    simp only [e_X8_readsRight, s_X8_readsRight_0, s_X8_readsRight_1, s_X8_readsRight_4, s_X8_readsRight_7, s_X8_readsRight_8, s_X8_readsRight_9, s_X8_readsRight_10, s_X8_readsRight_12, s_X8_readsRight_15, s_X8_readsRight_16, s_X8_readsRight_17, s_X8_readsRight_20, s_X8_readsRight_21, s_X8_readsRight_22, s_X8_readsRight_25, s_X8_readsRight_28, s_X8_readsRight_29, s_X8_readsRight_30, s_X8_readsRight_31, s_X8_readsRight_34, s_X8_readsRight_35, s_X8_readsRight_38, s_X8_readsRight_39, s_X8_readsRight_42, s_X8_readsRight_43, s_X8_readsRight_44, s_X8_readsRight_45, s_X8_readsRight_48, s_X8_readsRight_49, s_X8_readsRight_50, s_X8_readsRight_53, s_X8_readsRight_54, s_X8_readsRight_55, s_X8_readsRight_57, s_X8_readsRight_60, s_X8_readsRight_63, s_X8_readsRight_64, s_X8_readsRight_65, s_X8_readsRight_66, s_X8_readsRight_69, s_X8_readsRight_72, s_X8_readsRight_73, s_X8_readsRight_74, s_X8_readsRight_75, s_X8_readsRight_78, s_X8_readsRight_79, s_X8_readsRight_80, s_X8_readsRight_82, s_X8_readsRight_85, s_X8_readsRight_88, s_X8_readsRight_89, s_X8_readsRight_90, s_X8_readsRight_92, s_X8_readsRight_95, s_X8_readsRight_98, s_X8_readsRight_99, s_X8_readsRight_100, s_X8_readsRight_101, s_X8_readsRight_104, s_X8_readsRight_107, s_X8_readsRight_108, s_X8_readsRight_109, s_X8_readsRight_110, s_X8_readsRight_113, s_X8_readsRight_114, s_X8_readsRight_115, s_X8_readsRight_117, s_X8_readsRight_120, s_X8_readsRight_123, s_X8_readsRight_124, s_X8_readsRight_125, s_X8_readsRight_126, s_X8_readsRight_129, s_X8_readsRight_132, s_X8_readsRight_133, s_X8_readsRight_134, s_X8_readsRight_135, s_X8_readsRight_138, s_X8_readsRight_141, s_X8_readsRight_142, s_X8_readsRight_143, s_X8_readsRight_144, s_X8_readsRight_147, s_X8_readsRight_150, s_X8_readsRight_151, s_X8_readsRight_152, s_X8_readsRight_153, s_X8_readsRight_156, s_X8_readsRight_157, s_X8_readsRight_158, s_X8_readsRight_161, s_X8_readsRight_164, s_X8_readsRight_165, s_X8_readsRight_166, s_X8_readsRight_167, s_X8_readsRight_170, s_X8_readsRight_171, s_X8_readsRight_172, s_X8_readsRight_175, s_X8_readsRight_178, s_X8_readsRight_179, s_X8_readsRight_180, s_X8_readsRight_181, s_X8_readsRight_182, s_X8_readsRight_183, s_X8_readsRight_184, s_X8_readsRight_186, s_X8_readsRight_189, kS_106, rS_106_0, rS_106_3, rS_106_4, rS_106_5, rS_106_6, rS_106_7, rS_106_11, kS_107, lS_107, kS_108, lS_108, kS_109, lS_109, kS_110, lS_110, kS_111, lS_111, kS_112, lS_112, kS_113, lS_113, m1, lr, eq_false c7, b2, ms.1, show s.1 < 100 by omega, show 1364 + t 1 < 1600 by omega, ek, egk, mk, eg1, e2', v2', show 1371 + t 1 < 1600 by omega, eg3, vv3, e4', e5', bI_f, bI_t, z_0, z_1, n01_0, bI_01, nI_add, Option.toList_some, List.cons_append, List.nil_append, Nat.reduceLT, cl_tl0, cl_tl1, rfv_some, if_true, if_false, or_true, true_or, eq_self, ite_true, ite_false, and_true, true_and, not_true_eq_false, not_false_eq_true]
  rw [decide_eq_true z4] at e5'
  have v5' : g5 106 15 = nI (nmV N b (rq3 N b (t 1) s).1) := v5 z4
  have mr5 : MR g5 27 (tset (tset t (14 + t 1) (ksB N b s.1)) (21 + t 1) (nmV N b (rq1 N b (t 1) s).1)) := MR_fr mr4 (fun i q1 q2 => f5 _ _ (by unfold aP; omega))
  obtain ⟨g6, eg6⟩ : ∃ g6, up2 g5 107 (1378 + t 1) (nI (nmV N b (rq3 N b (t 1) s).1)) = g6 := ⟨_, rfl⟩
  have mr6 := MR_up (v := nmV N b (rq3 N b (t 1) s).1) (j := 28 + t 1) (i := 1378 + t 1) mr5 (by omega) (by omega)
  rw [eg6] at mr6
  have fw6 : Fr (tw 27) g5 g6 := by rw [← eg6]; exact Fr_u ⟨rfl, by omega, by omega⟩
  have vv6 : g6 106 15 = nI (nmV N b (rq3 N b (t 1) s).1) := (fw6 _ _ (by unfold tw; omega)).trans v5'
  have mm6 : g6 106 13 = nI (rq4 N b (t 1) s).1 := (fw6 _ _ (by unfold tw; omega)).trans m5.1
  have fa6 := Fr_t fa5 (Fr_w (fun a i e => Or.inr e) fw6)
  have ms6 : MS g6 (rq4 N b (t 1) s) := ⟨mm6, fun e => absurd z4 e⟩
  have k6 := MT_fr fa6 k
  obtain ⟨g7, ⟨m7, f7⟩, e7⟩ := p_sign (d := d + 1) (L := L) (c := 44) k6 ms6 q4 z4 (by omega)
  have e7' : ∀ Q, WP (d + 3) M_X8_sign [.ref 106, .int (nI 44)] (S0 L, g6) Q = Q (some (.int (bI (decide ((rq5 N b (t 1) s).2 = 0))))) (S0 L, g7) := e7
  have fa7 := Fr_t fa6 (aP_N f7)
  by_cases z5 : (rq5 N b (t 1) s).2 = 0
  rotate_left
  · rw [rq7_5 z5, decide_eq_false z5]
    rw [decide_eq_false z5] at e7'
    refine ⟨g7, ⟨⟨m7, fun e => absurd e z5⟩, fa7⟩, fun Q => ?_⟩
    simp only [e_X8_readsRight, s_X8_readsRight_0, s_X8_readsRight_1, s_X8_readsRight_4, s_X8_readsRight_7, s_X8_readsRight_8, s_X8_readsRight_9, s_X8_readsRight_10, s_X8_readsRight_12, s_X8_readsRight_15, s_X8_readsRight_16, s_X8_readsRight_17, s_X8_readsRight_20, s_X8_readsRight_21, s_X8_readsRight_22, s_X8_readsRight_25, s_X8_readsRight_28, s_X8_readsRight_29, s_X8_readsRight_30, s_X8_readsRight_31, s_X8_readsRight_34, s_X8_readsRight_35, s_X8_readsRight_38, s_X8_readsRight_39, s_X8_readsRight_42, s_X8_readsRight_43, s_X8_readsRight_44, s_X8_readsRight_45, s_X8_readsRight_48, s_X8_readsRight_49, s_X8_readsRight_50, s_X8_readsRight_53, s_X8_readsRight_54, s_X8_readsRight_55, s_X8_readsRight_57, s_X8_readsRight_60, s_X8_readsRight_63, s_X8_readsRight_64, s_X8_readsRight_65, s_X8_readsRight_66, s_X8_readsRight_69, s_X8_readsRight_72, s_X8_readsRight_73, s_X8_readsRight_74, s_X8_readsRight_75, s_X8_readsRight_78, s_X8_readsRight_79, s_X8_readsRight_80, s_X8_readsRight_82, s_X8_readsRight_85, s_X8_readsRight_88, s_X8_readsRight_89, s_X8_readsRight_90, s_X8_readsRight_92, s_X8_readsRight_95, s_X8_readsRight_98, s_X8_readsRight_99, s_X8_readsRight_100, s_X8_readsRight_101, s_X8_readsRight_104, s_X8_readsRight_107, s_X8_readsRight_108, s_X8_readsRight_109, s_X8_readsRight_110, s_X8_readsRight_113, s_X8_readsRight_114, s_X8_readsRight_115, s_X8_readsRight_117, s_X8_readsRight_120, s_X8_readsRight_123, s_X8_readsRight_124, s_X8_readsRight_125, s_X8_readsRight_126, s_X8_readsRight_129, s_X8_readsRight_132, s_X8_readsRight_133, s_X8_readsRight_134, s_X8_readsRight_135, s_X8_readsRight_138, s_X8_readsRight_141, s_X8_readsRight_142, s_X8_readsRight_143, s_X8_readsRight_144, s_X8_readsRight_147, s_X8_readsRight_150, s_X8_readsRight_151, s_X8_readsRight_152, s_X8_readsRight_153, s_X8_readsRight_156, s_X8_readsRight_157, s_X8_readsRight_158, s_X8_readsRight_161, s_X8_readsRight_164, s_X8_readsRight_165, s_X8_readsRight_166, s_X8_readsRight_167, s_X8_readsRight_170, s_X8_readsRight_171, s_X8_readsRight_172, s_X8_readsRight_175, s_X8_readsRight_178, s_X8_readsRight_179, s_X8_readsRight_180, s_X8_readsRight_181, s_X8_readsRight_182, s_X8_readsRight_183, s_X8_readsRight_184, s_X8_readsRight_186, s_X8_readsRight_189, kS_106, rS_106_0, rS_106_3, rS_106_4, rS_106_5, rS_106_6, rS_106_7, rS_106_11, kS_107, lS_107, kS_108, lS_108, kS_109, lS_109, kS_110, lS_110, kS_111, lS_111, kS_112, lS_112, kS_113, lS_113, m1, lr, eq_false c7, b2, ms.1, show s.1 < 100 by omega, show 1364 + t 1 < 1600 by omega, ek, egk, mk, eg1, e2', v2', show 1371 + t 1 < 1600 by omega, eg3, vv3, e4', e5', v5', show 1378 + t 1 < 1600 by omega, eg6, vv6, e7', bI_f, bI_t, z_0, z_1, n01_0, bI_01, nI_add, Option.toList_some, List.cons_append, List.nil_append, Nat.reduceLT, cl_tl0, cl_tl1, rfv_some, if_true, if_false, or_true, true_or, eq_self, ite_true, ite_false, and_true, true_and, not_true_eq_false, not_false_eq_true]
  rw [decide_eq_true z5] at e7'
  have k7 := MT_fr fa7 k
  have mr7 : MR g7 27 (tset (tset (tset t (14 + t 1) (ksB N b s.1)) (21 + t 1) (nmV N b (rq1 N b (t 1) s).1)) (28 + t 1) (nmV N b (rq3 N b (t 1) s).1)) := MR_fr mr6 (fun i q1 q2 => f7 _ _ (by unfold aP; omega))
  have hz : g7 107 1350 = nI (t 0) := by
    have := mr7 0 (by omega)
    rwa [ts_o (by omega), ts_o (by omega), ts_o (by omega)] at this
  have sb := pk_sub (a := t 0) (b := 1) hh
  obtain ⟨g8, ⟨m8, f8, v8⟩, e8⟩ := p_readsNumber (d := d) (L := L) (lo := 0) (hi := t 0 - 1) k7 m7 q5 z5 (by omega) (by omega)
  have e8' : ∀ Q, WP (d + 3) M_X8_readsNumber [.ref 106, .int (nI 0), .int (nI (t 0 - 1))] (S0 L, g7) Q = Q (some (.int (bI (decide ((rq6 N b (t 1) (t 0) s).2 = 0))))) (S0 L, g8) := e8
  have fa8 := Fr_t fa7 (aP_N f8)
  by_cases z6 : (rq6 N b (t 1) (t 0) s).2 = 0
  rotate_left
  · rw [rq7_6 z6, decide_eq_false z6]
    rw [decide_eq_false z6] at e8'
    refine ⟨g8, ⟨⟨m8, fun e => absurd e z6⟩, fa8⟩, fun Q => ?_⟩
    simp only [e_X8_readsRight, s_X8_readsRight_0, s_X8_readsRight_1, s_X8_readsRight_4, s_X8_readsRight_7, s_X8_readsRight_8, s_X8_readsRight_9, s_X8_readsRight_10, s_X8_readsRight_12, s_X8_readsRight_15, s_X8_readsRight_16, s_X8_readsRight_17, s_X8_readsRight_20, s_X8_readsRight_21, s_X8_readsRight_22, s_X8_readsRight_25, s_X8_readsRight_28, s_X8_readsRight_29, s_X8_readsRight_30, s_X8_readsRight_31, s_X8_readsRight_34, s_X8_readsRight_35, s_X8_readsRight_38, s_X8_readsRight_39, s_X8_readsRight_42, s_X8_readsRight_43, s_X8_readsRight_44, s_X8_readsRight_45, s_X8_readsRight_48, s_X8_readsRight_49, s_X8_readsRight_50, s_X8_readsRight_53, s_X8_readsRight_54, s_X8_readsRight_55, s_X8_readsRight_57, s_X8_readsRight_60, s_X8_readsRight_63, s_X8_readsRight_64, s_X8_readsRight_65, s_X8_readsRight_66, s_X8_readsRight_69, s_X8_readsRight_72, s_X8_readsRight_73, s_X8_readsRight_74, s_X8_readsRight_75, s_X8_readsRight_78, s_X8_readsRight_79, s_X8_readsRight_80, s_X8_readsRight_82, s_X8_readsRight_85, s_X8_readsRight_88, s_X8_readsRight_89, s_X8_readsRight_90, s_X8_readsRight_92, s_X8_readsRight_95, s_X8_readsRight_98, s_X8_readsRight_99, s_X8_readsRight_100, s_X8_readsRight_101, s_X8_readsRight_104, s_X8_readsRight_107, s_X8_readsRight_108, s_X8_readsRight_109, s_X8_readsRight_110, s_X8_readsRight_113, s_X8_readsRight_114, s_X8_readsRight_115, s_X8_readsRight_117, s_X8_readsRight_120, s_X8_readsRight_123, s_X8_readsRight_124, s_X8_readsRight_125, s_X8_readsRight_126, s_X8_readsRight_129, s_X8_readsRight_132, s_X8_readsRight_133, s_X8_readsRight_134, s_X8_readsRight_135, s_X8_readsRight_138, s_X8_readsRight_141, s_X8_readsRight_142, s_X8_readsRight_143, s_X8_readsRight_144, s_X8_readsRight_147, s_X8_readsRight_150, s_X8_readsRight_151, s_X8_readsRight_152, s_X8_readsRight_153, s_X8_readsRight_156, s_X8_readsRight_157, s_X8_readsRight_158, s_X8_readsRight_161, s_X8_readsRight_164, s_X8_readsRight_165, s_X8_readsRight_166, s_X8_readsRight_167, s_X8_readsRight_170, s_X8_readsRight_171, s_X8_readsRight_172, s_X8_readsRight_175, s_X8_readsRight_178, s_X8_readsRight_179, s_X8_readsRight_180, s_X8_readsRight_181, s_X8_readsRight_182, s_X8_readsRight_183, s_X8_readsRight_184, s_X8_readsRight_186, s_X8_readsRight_189, kS_106, rS_106_0, rS_106_3, rS_106_4, rS_106_5, rS_106_6, rS_106_7, rS_106_11, kS_107, lS_107, kS_108, lS_108, kS_109, lS_109, kS_110, lS_110, kS_111, lS_111, kS_112, lS_112, kS_113, lS_113, m1, lr, eq_false c7, b2, ms.1, show s.1 < 100 by omega, show 1364 + t 1 < 1600 by omega, ek, egk, mk, eg1, e2', v2', show 1371 + t 1 < 1600 by omega, eg3, vv3, e4', e5', v5', show 1378 + t 1 < 1600 by omega, eg6, vv6, e7', hz, sb, e8', bI_f, bI_t, z_0, z_1, n01_0, bI_01, nI_add, Option.toList_some, List.cons_append, List.nil_append, Nat.reduceLT, cl_tl0, cl_tl1, rfv_some, if_true, if_false, or_true, true_or, eq_self, ite_true, ite_false, and_true, true_and, not_true_eq_false, not_false_eq_true]
  rw [decide_eq_true z6] at e8'
  have v8' : g8 106 15 = nI (nmV N b (rq5 N b (t 1) s).1) := v8 z6
  have mr8 : MR g8 27 (tset (tset (tset t (14 + t 1) (ksB N b s.1)) (21 + t 1) (nmV N b (rq1 N b (t 1) s).1)) (28 + t 1) (nmV N b (rq3 N b (t 1) s).1)) := MR_fr mr7 (fun i q1 q2 => f8 _ _ (by unfold aP; omega))
  obtain ⟨g9, eg9⟩ : ∃ g9, up2 g8 107 (1385 + t 1) (nI (nmV N b (rq5 N b (t 1) s).1)) = g9 := ⟨_, rfl⟩
  have mr9 := MR_up (v := nmV N b (rq5 N b (t 1) s).1) (j := 35 + t 1) (i := 1385 + t 1) mr8 (by omega) (by omega)
  rw [eg9] at mr9
  have fw9 : Fr (tw 27) g8 g9 := by rw [← eg9]; exact Fr_u ⟨rfl, by omega, by omega⟩
  have vv9 : g9 106 15 = nI (nmV N b (rq5 N b (t 1) s).1) := (fw9 _ _ (by unfold tw; omega)).trans v8'
  have mm9 : g9 106 13 = nI (rq6 N b (t 1) (t 0) s).1 := (fw9 _ _ (by unfold tw; omega)).trans m8.1
  have fa9 := Fr_t fa8 (Fr_w (fun a i e => Or.inr e) fw9)
  obtain ⟨g10, eg10⟩ : ∃ g10, up2 g9 107 (1392 + t 1) (nI (nmV N b (rq5 N b (t 1) s).1)) = g10 := ⟨_, rfl⟩
  have mr10 := MR_up (v := nmV N b (rq5 N b (t 1) s).1) (j := 42 + t 1) (i := 1392 + t 1) mr9 (by omega) (by omega)
  rw [eg10] at mr10
  have fw10 : Fr (tw 27) g9 g10 := by rw [← eg10]; exact Fr_u ⟨rfl, by omega, by omega⟩
  have vv10 : g10 106 15 = nI (nmV N b (rq5 N b (t 1) s).1) := (fw10 _ _ (by unfold tw; omega)).trans vv9
  have mm10 : g10 106 13 = nI (rq6 N b (t 1) (t 0) s).1 := (fw10 _ _ (by unfold tw; omega)).trans mm9
  have fa10 := Fr_t fa9 (Fr_w (fun a i e => Or.inr e) fw10)
  have ms10 : MS g10 (rq6 N b (t 1) (t 0) s) := ⟨mm10, fun e => absurd z6 e⟩
  have k10 := MT_fr fa10 k
  have rz : g10 107 1351 = nI (t 1) := by
    have := mr10 1 (by omega)
    rwa [ts_o (by omega), ts_o (by omega), ts_o (by omega), ts_o (by omega), ts_o (by omega)] at this
  obtain ⟨g11, eg11⟩ : ∃ g11, up2 g10 107 1351 (nI (t 1 + 1)) = g11 := ⟨_, rfl⟩
  have mr11 := MR_up (v := t 1 + 1) (j := 1) (i := 1351) mr10 (by omega) (by omega)
  rw [eg11] at mr11
  have fw11 : Fr (tw 27) g10 g11 := by rw [← eg11]; exact Fr_u ⟨rfl, by omega, by omega⟩
  have ms11 : MS g11 (rq6 N b (t 1) (t 0) s) := ⟨(fw11 _ _ (by unfold tw; omega)).trans mm10, fun e => absurd z6 e⟩
  have fa11 := Fr_t fa10 (Fr_w (fun a i e => Or.inr e) fw11)
  have k11 := MT_fr fa11 k
  obtain ⟨g12, ⟨m12, f12⟩, e12⟩ := p_sign (d := d + 1) (L := L) (c := 59) k11 ms11 q6 z6 (by omega)
  have e12' : ∀ Q, WP (d + 3) M_X8_sign [.ref 106, .int (nI 59)] (S0 L, g11) Q = Q (some (.int (bI (decide ((rq7 N b (t 1) (t 0) s).2 = 0))))) (S0 L, g12) := e12
  have fa12 := Fr_t fa11 (aP_N f12)
  have mr12 : MR g12 27 (tset (tset (tset (tset (tset (tset t (14 + t 1) (ksB N b s.1)) (21 + t 1) (nmV N b (rq1 N b (t 1) s).1)) (28 + t 1) (nmV N b (rq3 N b (t 1) s).1)) (35 + t 1) (nmV N b (rq5 N b (t 1) s).1)) (42 + t 1) (nmV N b (rq5 N b (t 1) s).1)) 1 (t 1 + 1)) := MR_fr mr11 (fun i q1 q2 => f12 _ _ (by unfold aP; omega))
  refine ⟨g12, ⟨⟨m12, fun e => ?_⟩, fa12⟩, fun Q => ?_⟩
  · rw [rst_2 e]
    exact mr12
  · simp only [e_X8_readsRight, s_X8_readsRight_0, s_X8_readsRight_1, s_X8_readsRight_4, s_X8_readsRight_7, s_X8_readsRight_8, s_X8_readsRight_9, s_X8_readsRight_10, s_X8_readsRight_12, s_X8_readsRight_15, s_X8_readsRight_16, s_X8_readsRight_17, s_X8_readsRight_20, s_X8_readsRight_21, s_X8_readsRight_22, s_X8_readsRight_25, s_X8_readsRight_28, s_X8_readsRight_29, s_X8_readsRight_30, s_X8_readsRight_31, s_X8_readsRight_34, s_X8_readsRight_35, s_X8_readsRight_38, s_X8_readsRight_39, s_X8_readsRight_42, s_X8_readsRight_43, s_X8_readsRight_44, s_X8_readsRight_45, s_X8_readsRight_48, s_X8_readsRight_49, s_X8_readsRight_50, s_X8_readsRight_53, s_X8_readsRight_54, s_X8_readsRight_55, s_X8_readsRight_57, s_X8_readsRight_60, s_X8_readsRight_63, s_X8_readsRight_64, s_X8_readsRight_65, s_X8_readsRight_66, s_X8_readsRight_69, s_X8_readsRight_72, s_X8_readsRight_73, s_X8_readsRight_74, s_X8_readsRight_75, s_X8_readsRight_78, s_X8_readsRight_79, s_X8_readsRight_80, s_X8_readsRight_82, s_X8_readsRight_85, s_X8_readsRight_88, s_X8_readsRight_89, s_X8_readsRight_90, s_X8_readsRight_92, s_X8_readsRight_95, s_X8_readsRight_98, s_X8_readsRight_99, s_X8_readsRight_100, s_X8_readsRight_101, s_X8_readsRight_104, s_X8_readsRight_107, s_X8_readsRight_108, s_X8_readsRight_109, s_X8_readsRight_110, s_X8_readsRight_113, s_X8_readsRight_114, s_X8_readsRight_115, s_X8_readsRight_117, s_X8_readsRight_120, s_X8_readsRight_123, s_X8_readsRight_124, s_X8_readsRight_125, s_X8_readsRight_126, s_X8_readsRight_129, s_X8_readsRight_132, s_X8_readsRight_133, s_X8_readsRight_134, s_X8_readsRight_135, s_X8_readsRight_138, s_X8_readsRight_141, s_X8_readsRight_142, s_X8_readsRight_143, s_X8_readsRight_144, s_X8_readsRight_147, s_X8_readsRight_150, s_X8_readsRight_151, s_X8_readsRight_152, s_X8_readsRight_153, s_X8_readsRight_156, s_X8_readsRight_157, s_X8_readsRight_158, s_X8_readsRight_161, s_X8_readsRight_164, s_X8_readsRight_165, s_X8_readsRight_166, s_X8_readsRight_167, s_X8_readsRight_170, s_X8_readsRight_171, s_X8_readsRight_172, s_X8_readsRight_175, s_X8_readsRight_178, s_X8_readsRight_179, s_X8_readsRight_180, s_X8_readsRight_181, s_X8_readsRight_182, s_X8_readsRight_183, s_X8_readsRight_184, s_X8_readsRight_186, s_X8_readsRight_189, kS_106, rS_106_0, rS_106_3, rS_106_4, rS_106_5, rS_106_6, rS_106_7, rS_106_11, kS_107, lS_107, kS_108, lS_108, kS_109, lS_109, kS_110, lS_110, kS_111, lS_111, kS_112, lS_112, kS_113, lS_113, m1, lr, eq_false c7, b2, ms.1, show s.1 < 100 by omega, show 1364 + t 1 < 1600 by omega, ek, egk, mk, eg1, e2', v2', show 1371 + t 1 < 1600 by omega, eg3, vv3, e4', e5', v5', show 1378 + t 1 < 1600 by omega, eg6, vv6, e7', hz, sb, e8', v8', show 1385 + t 1 < 1600 by omega, eg9, vv9, show 1392 + t 1 < 1600 by omega, eg10, vv10, rz, eg11, e12', bI_f, bI_t, z_0, z_1, n01_0, bI_01, nI_add, Option.toList_some, List.cons_append, List.nil_append, Nat.reduceLT, cl_tl0, cl_tl1, rfv_some, if_true, if_false, or_true, true_or, eq_self, ite_true, ite_false, and_true, true_and, not_true_eq_false, not_false_eq_true]
