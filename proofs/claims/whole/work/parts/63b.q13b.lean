/-! ===== pure: method by method: ask: bodies ===== -/
theorem p_a11_21 {d L n e : Nat} {h : mMem} {v x o sb : Int32} (hn : h 88 1 = nI n) (n1 : n < 6) (e1 : e ≤ 6) (f : AF h v x o sb (nI 21)) : Sp (d + 3) M_X1_answerOf [.ref 88, .int (nI 11), .int (nI e)] L h (some (.int (v + (x + o)))) (TrC h n [11, 10, 21, 20]) := by
  have t1 := TrC_1 (h := h) (n := n) (b := 11)
  have f1 := AF_fr t1.1 f
  obtain ⟨g1, eg⟩ : ∃ g, up2 (up2 h 89 n (nI 11)) 88 1 (nI (n + 1)) = g := ⟨_, rfl⟩
  rw [eg] at t1 f1
  have n2 : g1 88 1 = nI (n + 1) := t1.2.1
  obtain ⟨g2, t2, q2⟩ := p_a10 (d := d + 1) (L := L) (n := n + 1) (e := e + 1) n2 (by omega) (by omega) f1
  have f2 := AF_fr t2.1 f1
  obtain ⟨r23, r22, r24, r25, r26⟩ := id f2
  have n3 : g2 88 1 = nI (n + 2) := t2.2.1
  obtain ⟨g3, t3, q3⟩ := p_a21 (d := d + 0) (L := L) (n := n + 2) (e := e + 1) n3 (by omega) (by omega) f2
  have f3 := AF_fr t3.1 f2
  obtain ⟨r33, r32, r34, r35, r36⟩ := id f3
  refine ⟨g3, TrC_t (l := [11]) t1 (TrC_t (l := [10]) t2 t3), fun Q => ?_⟩
  rw [e_X1_answerOf]
  simp +decide only [s_X1_answerOf_0, s_X1_answerOf_1, s_X1_answerOf_3, s_X1_answerOf_6, s_X1_answerOf_7, s_X1_answerOf_8, s_X1_answerOf_9, s_X1_answerOf_12, s_X1_answerOf_14, s_X1_answerOf_17, s_X1_answerOf_18, s_X1_answerOf_21, s_X1_answerOf_22, s_X1_answerOf_25, s_X1_answerOf_26, s_X1_answerOf_27, s_X1_answerOf_28, s_X1_answerOf_29, s_X1_answerOf_32, s_X1_answerOf_33, s_X1_answerOf_34, s_X1_answerOf_37, s_X1_answerOf_38, s_X1_answerOf_39, s_X1_answerOf_40, s_X1_answerOf_41, s_X1_answerOf_42, s_X1_answerOf_116, s_X1_answerOf_117, s_X1_answerOf_120, s_X1_answerOf_121, s_X1_answerOf_122, s_X1_answerOf_124, s_X1_answerOf_125, s_X1_answerOf_128, s_X1_answerOf_129, s_X1_answerOf_130, s_X1_answerOf_133, s_X1_answerOf_134, s_X1_answerOf_137, s_X1_answerOf_138, s_X1_answerOf_139, s_X1_answerOf_140, s_X1_answerOf_141, s_X1_answerOf_143, s_X1_answerOf_144, s_X1_answerOf_147, s_X1_answerOf_148, s_X1_answerOf_149, s_X1_answerOf_150, s_X1_answerOf_152, s_X1_answerOf_153, s_X1_answerOf_156, s_X1_answerOf_158, s_X1_answerOf_159, s_X1_answerOf_160, s_X1_answerOf_161, s_X1_answerOf_162, s_X1_answerOf_164, s_X1_answerOf_165, s_X1_answerOf_168, s_X1_answerOf_169, s_X1_answerOf_170, s_X1_answerOf_171, s_X1_answerOf_174, s_X1_answerOf_175, s_X1_answerOf_176, s_X1_answerOf_178, s_X1_answerOf_179, s_X1_answerOf_182, s_X1_answerOf_183, s_X1_answerOf_186, s_X1_answerOf_187, s_X1_answerOf_188, s_X1_answerOf_189, s_X1_answerOf_191, s_X1_answerOf_192, s_X1_answerOf_195, s_X1_answerOf_198, s_X1_answerOf_199, s_X1_answerOf_200, s_X1_answerOf_201, s_X1_answerOf_203, s_X1_answerOf_204, s_X1_answerOf_207, s_X1_answerOf_208, s_X1_answerOf_209, s_X1_answerOf_212, s_X1_answerOf_213, s_X1_answerOf_216, s_X1_answerOf_217, s_X1_answerOf_218, s_X1_answerOf_219, s_X1_answerOf_220, s_X1_answerOf_222, s_X1_answerOf_223, s_X1_answerOf_226, s_X1_answerOf_227, s_X1_answerOf_228, s_X1_answerOf_229, kS_88, rS_88_0, kS_89, lS_89, e16 (show e ≤ 16 by omega), n16 (show n < 16 by omega), hn, show n < 16 by omega, a_pre hn, eg, q2, r23, r22, r24, r25, r26, q3, r33, r32, r34, r35, r36, nI_add, nI_lite, Option.toList_none, Option.toList_some, List.cons_append, List.nil_append, Nat.reduceLT, cl_tl0, cl_tl1, rfv_some, if_true, if_false, or_true, true_or, eq_self, ite_true, ite_false, and_true, true_and, not_true_eq_false, not_false_eq_true]
theorem p_a11_24 {d L n e : Nat} {h : mMem} {v x o sb : Int32} (hn : h 88 1 = nI n) (n1 : n < 6) (e1 : e ≤ 6) (f : AF h v x o sb (nI 24)) : Sp (d + 4) M_X1_answerOf [.ref 88, .int (nI 11), .int (nI e)] L h (some (.int (v + (nI 2 * (x + o))))) (TrC h n [11, 10, 24, 21, 20]) := by
  have t1 := TrC_1 (h := h) (n := n) (b := 11)
  have f1 := AF_fr t1.1 f
  obtain ⟨g1, eg⟩ : ∃ g, up2 (up2 h 89 n (nI 11)) 88 1 (nI (n + 1)) = g := ⟨_, rfl⟩
  rw [eg] at t1 f1
  have n2 : g1 88 1 = nI (n + 1) := t1.2.1
  obtain ⟨g2, t2, q2⟩ := p_a10 (d := d + 2) (L := L) (n := n + 1) (e := e + 1) n2 (by omega) (by omega) f1
  have f2 := AF_fr t2.1 f1
  obtain ⟨r23, r22, r24, r25, r26⟩ := id f2
  have n3 : g2 88 1 = nI (n + 2) := t2.2.1
  obtain ⟨g3, t3, q3⟩ := p_a24 (d := d + 0) (L := L) (n := n + 2) (e := e + 1) n3 (by omega) (by omega) f2
  have f3 := AF_fr t3.1 f2
  obtain ⟨r33, r32, r34, r35, r36⟩ := id f3
  refine ⟨g3, TrC_t (l := [11]) t1 (TrC_t (l := [10]) t2 t3), fun Q => ?_⟩
  rw [e_X1_answerOf]
  simp +decide only [s_X1_answerOf_0, s_X1_answerOf_1, s_X1_answerOf_3, s_X1_answerOf_6, s_X1_answerOf_7, s_X1_answerOf_8, s_X1_answerOf_9, s_X1_answerOf_12, s_X1_answerOf_14, s_X1_answerOf_17, s_X1_answerOf_18, s_X1_answerOf_21, s_X1_answerOf_22, s_X1_answerOf_25, s_X1_answerOf_26, s_X1_answerOf_27, s_X1_answerOf_28, s_X1_answerOf_29, s_X1_answerOf_32, s_X1_answerOf_33, s_X1_answerOf_34, s_X1_answerOf_37, s_X1_answerOf_38, s_X1_answerOf_39, s_X1_answerOf_40, s_X1_answerOf_41, s_X1_answerOf_42, s_X1_answerOf_116, s_X1_answerOf_117, s_X1_answerOf_120, s_X1_answerOf_121, s_X1_answerOf_122, s_X1_answerOf_124, s_X1_answerOf_125, s_X1_answerOf_128, s_X1_answerOf_129, s_X1_answerOf_130, s_X1_answerOf_133, s_X1_answerOf_134, s_X1_answerOf_137, s_X1_answerOf_138, s_X1_answerOf_139, s_X1_answerOf_140, s_X1_answerOf_141, s_X1_answerOf_143, s_X1_answerOf_144, s_X1_answerOf_147, s_X1_answerOf_148, s_X1_answerOf_149, s_X1_answerOf_150, s_X1_answerOf_152, s_X1_answerOf_153, s_X1_answerOf_156, s_X1_answerOf_158, s_X1_answerOf_159, s_X1_answerOf_160, s_X1_answerOf_161, s_X1_answerOf_162, s_X1_answerOf_164, s_X1_answerOf_165, s_X1_answerOf_168, s_X1_answerOf_169, s_X1_answerOf_170, s_X1_answerOf_171, s_X1_answerOf_174, s_X1_answerOf_175, s_X1_answerOf_176, s_X1_answerOf_178, s_X1_answerOf_179, s_X1_answerOf_182, s_X1_answerOf_183, s_X1_answerOf_186, s_X1_answerOf_187, s_X1_answerOf_188, s_X1_answerOf_189, s_X1_answerOf_191, s_X1_answerOf_192, s_X1_answerOf_195, s_X1_answerOf_198, s_X1_answerOf_199, s_X1_answerOf_200, s_X1_answerOf_201, s_X1_answerOf_203, s_X1_answerOf_204, s_X1_answerOf_207, s_X1_answerOf_208, s_X1_answerOf_209, s_X1_answerOf_212, s_X1_answerOf_213, s_X1_answerOf_216, s_X1_answerOf_217, s_X1_answerOf_218, s_X1_answerOf_219, s_X1_answerOf_220, s_X1_answerOf_222, s_X1_answerOf_223, s_X1_answerOf_226, s_X1_answerOf_227, s_X1_answerOf_228, s_X1_answerOf_229, kS_88, rS_88_0, kS_89, lS_89, e16 (show e ≤ 16 by omega), n16 (show n < 16 by omega), hn, show n < 16 by omega, a_pre hn, eg, q2, r23, r22, r24, r25, r26, q3, r33, r32, r34, r35, r36, nI_add, nI_lite, Option.toList_none, Option.toList_some, List.cons_append, List.nil_append, Nat.reduceLT, cl_tl0, cl_tl1, rfv_some, if_true, if_false, or_true, true_or, eq_self, ite_true, ite_false, and_true, true_and, not_true_eq_false, not_false_eq_true]
theorem p_a11_22 {d L n e : Nat} {h : mMem} {v x o sb : Int32} (hn : h 88 1 = nI n) (n1 : n < 6) (e1 : e ≤ 6) (f : AF h v x o sb (nI 22)) : Sp (d + 4) M_X1_answerOf [.ref 88, .int (nI 11), .int (nI e)] L h (some (.int (v + (x + o - nI 1000)))) (TrC h n [11, 10, 22, 21, 20]) := by
  have t1 := TrC_1 (h := h) (n := n) (b := 11)
  have f1 := AF_fr t1.1 f
  obtain ⟨g1, eg⟩ : ∃ g, up2 (up2 h 89 n (nI 11)) 88 1 (nI (n + 1)) = g := ⟨_, rfl⟩
  rw [eg] at t1 f1
  have n2 : g1 88 1 = nI (n + 1) := t1.2.1
  obtain ⟨g2, t2, q2⟩ := p_a10 (d := d + 2) (L := L) (n := n + 1) (e := e + 1) n2 (by omega) (by omega) f1
  have f2 := AF_fr t2.1 f1
  obtain ⟨r23, r22, r24, r25, r26⟩ := id f2
  have n3 : g2 88 1 = nI (n + 2) := t2.2.1
  obtain ⟨g3, t3, q3⟩ := p_a22 (d := d + 0) (L := L) (n := n + 2) (e := e + 1) n3 (by omega) (by omega) f2
  have f3 := AF_fr t3.1 f2
  obtain ⟨r33, r32, r34, r35, r36⟩ := id f3
  refine ⟨g3, TrC_t (l := [11]) t1 (TrC_t (l := [10]) t2 t3), fun Q => ?_⟩
  rw [e_X1_answerOf]
  simp +decide only [s_X1_answerOf_0, s_X1_answerOf_1, s_X1_answerOf_3, s_X1_answerOf_6, s_X1_answerOf_7, s_X1_answerOf_8, s_X1_answerOf_9, s_X1_answerOf_12, s_X1_answerOf_14, s_X1_answerOf_17, s_X1_answerOf_18, s_X1_answerOf_21, s_X1_answerOf_22, s_X1_answerOf_25, s_X1_answerOf_26, s_X1_answerOf_27, s_X1_answerOf_28, s_X1_answerOf_29, s_X1_answerOf_32, s_X1_answerOf_33, s_X1_answerOf_34, s_X1_answerOf_37, s_X1_answerOf_38, s_X1_answerOf_39, s_X1_answerOf_40, s_X1_answerOf_41, s_X1_answerOf_42, s_X1_answerOf_116, s_X1_answerOf_117, s_X1_answerOf_120, s_X1_answerOf_121, s_X1_answerOf_122, s_X1_answerOf_124, s_X1_answerOf_125, s_X1_answerOf_128, s_X1_answerOf_129, s_X1_answerOf_130, s_X1_answerOf_133, s_X1_answerOf_134, s_X1_answerOf_137, s_X1_answerOf_138, s_X1_answerOf_139, s_X1_answerOf_140, s_X1_answerOf_141, s_X1_answerOf_143, s_X1_answerOf_144, s_X1_answerOf_147, s_X1_answerOf_148, s_X1_answerOf_149, s_X1_answerOf_150, s_X1_answerOf_152, s_X1_answerOf_153, s_X1_answerOf_156, s_X1_answerOf_158, s_X1_answerOf_159, s_X1_answerOf_160, s_X1_answerOf_161, s_X1_answerOf_162, s_X1_answerOf_164, s_X1_answerOf_165, s_X1_answerOf_168, s_X1_answerOf_169, s_X1_answerOf_170, s_X1_answerOf_171, s_X1_answerOf_174, s_X1_answerOf_175, s_X1_answerOf_176, s_X1_answerOf_178, s_X1_answerOf_179, s_X1_answerOf_182, s_X1_answerOf_183, s_X1_answerOf_186, s_X1_answerOf_187, s_X1_answerOf_188, s_X1_answerOf_189, s_X1_answerOf_191, s_X1_answerOf_192, s_X1_answerOf_195, s_X1_answerOf_198, s_X1_answerOf_199, s_X1_answerOf_200, s_X1_answerOf_201, s_X1_answerOf_203, s_X1_answerOf_204, s_X1_answerOf_207, s_X1_answerOf_208, s_X1_answerOf_209, s_X1_answerOf_212, s_X1_answerOf_213, s_X1_answerOf_216, s_X1_answerOf_217, s_X1_answerOf_218, s_X1_answerOf_219, s_X1_answerOf_220, s_X1_answerOf_222, s_X1_answerOf_223, s_X1_answerOf_226, s_X1_answerOf_227, s_X1_answerOf_228, s_X1_answerOf_229, kS_88, rS_88_0, kS_89, lS_89, e16 (show e ≤ 16 by omega), n16 (show n < 16 by omega), hn, show n < 16 by omega, a_pre hn, eg, q2, r23, r22, r24, r25, r26, q3, r33, r32, r34, r35, r36, nI_add, nI_lite, Option.toList_none, Option.toList_some, List.cons_append, List.nil_append, Nat.reduceLT, cl_tl0, cl_tl1, rfv_some, if_true, if_false, or_true, true_or, eq_self, ite_true, ite_false, and_true, true_and, not_true_eq_false, not_false_eq_true]
theorem p_a12 {d L n e : Nat} {h : mMem} {v x o sb : Int32} (hn : h 88 1 = nI n) (n1 : n < 5) (e1 : e ≤ 5) (f : AF h v x o sb (nI 24)) : Sp (d + 5) M_X1_answerOf [.ref 88, .int (nI 12), .int (nI e)] L h (some (.int (nI 0 - (v + nI 2 * (x + o))))) (TrC h n [12, 11, 10, 24, 21, 20]) := by
  have t1 := TrC_1 (h := h) (n := n) (b := 12)
  have f1 := AF_fr t1.1 f
  obtain ⟨g1, eg⟩ : ∃ g, up2 (up2 h 89 n (nI 12)) 88 1 (nI (n + 1)) = g := ⟨_, rfl⟩
  rw [eg] at t1 f1
  have n2 : g1 88 1 = nI (n + 1) := t1.2.1
  obtain ⟨g2, t2, q2⟩ := p_a11_24 (d := d + 0) (L := L) (n := n + 1) (e := e + 1) n2 (by omega) (by omega) f1
  have f2 := AF_fr t2.1 f1
  obtain ⟨r23, r22, r24, r25, r26⟩ := id f2
  refine ⟨g2, TrC_t (l := [12]) t1 t2, fun Q => ?_⟩
  rw [e_X1_answerOf]
  simp +decide only [s_X1_answerOf_0, s_X1_answerOf_1, s_X1_answerOf_3, s_X1_answerOf_6, s_X1_answerOf_7, s_X1_answerOf_8, s_X1_answerOf_9, s_X1_answerOf_12, s_X1_answerOf_14, s_X1_answerOf_17, s_X1_answerOf_18, s_X1_answerOf_21, s_X1_answerOf_22, s_X1_answerOf_25, s_X1_answerOf_26, s_X1_answerOf_27, s_X1_answerOf_28, s_X1_answerOf_29, s_X1_answerOf_32, s_X1_answerOf_33, s_X1_answerOf_34, s_X1_answerOf_37, s_X1_answerOf_38, s_X1_answerOf_39, s_X1_answerOf_40, s_X1_answerOf_41, s_X1_answerOf_42, s_X1_answerOf_116, s_X1_answerOf_117, s_X1_answerOf_120, s_X1_answerOf_121, s_X1_answerOf_122, s_X1_answerOf_124, s_X1_answerOf_125, s_X1_answerOf_128, s_X1_answerOf_129, s_X1_answerOf_130, s_X1_answerOf_133, s_X1_answerOf_134, s_X1_answerOf_137, s_X1_answerOf_138, s_X1_answerOf_139, s_X1_answerOf_140, s_X1_answerOf_141, s_X1_answerOf_143, s_X1_answerOf_144, s_X1_answerOf_147, s_X1_answerOf_148, s_X1_answerOf_149, s_X1_answerOf_150, s_X1_answerOf_152, s_X1_answerOf_153, s_X1_answerOf_156, s_X1_answerOf_158, s_X1_answerOf_159, s_X1_answerOf_160, s_X1_answerOf_161, s_X1_answerOf_162, s_X1_answerOf_164, s_X1_answerOf_165, s_X1_answerOf_168, s_X1_answerOf_169, s_X1_answerOf_170, s_X1_answerOf_171, s_X1_answerOf_174, s_X1_answerOf_175, s_X1_answerOf_176, s_X1_answerOf_178, s_X1_answerOf_179, s_X1_answerOf_182, s_X1_answerOf_183, s_X1_answerOf_186, s_X1_answerOf_187, s_X1_answerOf_188, s_X1_answerOf_189, s_X1_answerOf_191, s_X1_answerOf_192, s_X1_answerOf_195, s_X1_answerOf_198, s_X1_answerOf_199, s_X1_answerOf_200, s_X1_answerOf_201, s_X1_answerOf_203, s_X1_answerOf_204, s_X1_answerOf_207, s_X1_answerOf_208, s_X1_answerOf_209, s_X1_answerOf_212, s_X1_answerOf_213, s_X1_answerOf_216, s_X1_answerOf_217, s_X1_answerOf_218, s_X1_answerOf_219, s_X1_answerOf_220, s_X1_answerOf_222, s_X1_answerOf_223, s_X1_answerOf_226, s_X1_answerOf_227, s_X1_answerOf_228, s_X1_answerOf_229, kS_88, rS_88_0, kS_89, lS_89, e16 (show e ≤ 16 by omega), n16 (show n < 16 by omega), hn, show n < 16 by omega, a_pre hn, eg, q2, r23, r22, r24, r25, r26, nI_add, nI_lite, Option.toList_none, Option.toList_some, List.cons_append, List.nil_append, Nat.reduceLT, cl_tl0, cl_tl1, rfv_some, if_true, if_false, or_true, true_or, eq_self, ite_true, ite_false, and_true, true_and, not_true_eq_false, not_false_eq_true]
theorem p_a23_13 {d L n e : Nat} {h : mMem} {v x o mb : Int32} (hn : h 88 1 = nI n) (n1 : n < 6) (e1 : e ≤ 6) (f : AF h v x o (nI 13) mb) : Sp (d + 3) M_X1_answerOf [.ref 88, .int (nI 23), .int (nI e)] L h (some (.int (x - (v - nI 100)))) (TrC h n [23, 20, 13, 10]) := by
  have t1 := TrC_1 (h := h) (n := n) (b := 23)
  have f1 := AF_fr t1.1 f
  obtain ⟨g1, eg⟩ : ∃ g, up2 (up2 h 89 n (nI 23)) 88 1 (nI (n + 1)) = g := ⟨_, rfl⟩
  rw [eg] at t1 f1
  have n2 : g1 88 1 = nI (n + 1) := t1.2.1
  obtain ⟨g2, t2, q2⟩ := p_a20 (d := d + 1) (L := L) (n := n + 1) (e := e + 1) n2 (by omega) (by omega) f1
  have f2 := AF_fr t2.1 f1
  obtain ⟨r23, r22, r24, r25, r26⟩ := id f2
  have n3 : g2 88 1 = nI (n + 2) := t2.2.1
  obtain ⟨g3, t3, q3⟩ := p_a13 (d := d + 0) (L := L) (n := n + 2) (e := e + 1) n3 (by omega) (by omega) f2
  have f3 := AF_fr t3.1 f2
  obtain ⟨r33, r32, r34, r35, r36⟩ := id f3
  refine ⟨g3, TrC_t (l := [23]) t1 (TrC_t (l := [20]) t2 t3), fun Q => ?_⟩
  rw [e_X1_answerOf]
  simp +decide only [s_X1_answerOf_0, s_X1_answerOf_1, s_X1_answerOf_3, s_X1_answerOf_6, s_X1_answerOf_7, s_X1_answerOf_8, s_X1_answerOf_9, s_X1_answerOf_12, s_X1_answerOf_14, s_X1_answerOf_17, s_X1_answerOf_18, s_X1_answerOf_21, s_X1_answerOf_22, s_X1_answerOf_25, s_X1_answerOf_26, s_X1_answerOf_27, s_X1_answerOf_28, s_X1_answerOf_29, s_X1_answerOf_32, s_X1_answerOf_33, s_X1_answerOf_34, s_X1_answerOf_37, s_X1_answerOf_38, s_X1_answerOf_39, s_X1_answerOf_40, s_X1_answerOf_41, s_X1_answerOf_42, s_X1_answerOf_116, s_X1_answerOf_117, s_X1_answerOf_120, s_X1_answerOf_121, s_X1_answerOf_122, s_X1_answerOf_124, s_X1_answerOf_125, s_X1_answerOf_128, s_X1_answerOf_129, s_X1_answerOf_130, s_X1_answerOf_133, s_X1_answerOf_134, s_X1_answerOf_137, s_X1_answerOf_138, s_X1_answerOf_139, s_X1_answerOf_140, s_X1_answerOf_141, s_X1_answerOf_143, s_X1_answerOf_144, s_X1_answerOf_147, s_X1_answerOf_148, s_X1_answerOf_149, s_X1_answerOf_150, s_X1_answerOf_152, s_X1_answerOf_153, s_X1_answerOf_156, s_X1_answerOf_158, s_X1_answerOf_159, s_X1_answerOf_160, s_X1_answerOf_161, s_X1_answerOf_162, s_X1_answerOf_164, s_X1_answerOf_165, s_X1_answerOf_168, s_X1_answerOf_169, s_X1_answerOf_170, s_X1_answerOf_171, s_X1_answerOf_174, s_X1_answerOf_175, s_X1_answerOf_176, s_X1_answerOf_178, s_X1_answerOf_179, s_X1_answerOf_182, s_X1_answerOf_183, s_X1_answerOf_186, s_X1_answerOf_187, s_X1_answerOf_188, s_X1_answerOf_189, s_X1_answerOf_191, s_X1_answerOf_192, s_X1_answerOf_195, s_X1_answerOf_198, s_X1_answerOf_199, s_X1_answerOf_200, s_X1_answerOf_201, s_X1_answerOf_203, s_X1_answerOf_204, s_X1_answerOf_207, s_X1_answerOf_208, s_X1_answerOf_209, s_X1_answerOf_212, s_X1_answerOf_213, s_X1_answerOf_216, s_X1_answerOf_217, s_X1_answerOf_218, s_X1_answerOf_219, s_X1_answerOf_220, s_X1_answerOf_222, s_X1_answerOf_223, s_X1_answerOf_226, s_X1_answerOf_227, s_X1_answerOf_228, s_X1_answerOf_229, kS_88, rS_88_0, kS_89, lS_89, e16 (show e ≤ 16 by omega), n16 (show n < 16 by omega), hn, show n < 16 by omega, a_pre hn, eg, q2, r23, r22, r24, r25, r26, q3, r33, r32, r34, r35, r36, nI_add, nI_lite, Option.toList_none, Option.toList_some, List.cons_append, List.nil_append, Nat.reduceLT, cl_tl0, cl_tl1, rfv_some, if_true, if_false, or_true, true_or, eq_self, ite_true, ite_false, and_true, true_and, not_true_eq_false, not_false_eq_true]
theorem p_a23_14 {d L n e : Nat} {h : mMem} {v x o mb : Int32} (hn : h 88 1 = nI n) (n1 : n < 6) (e1 : e ≤ 6) (f : AF h v x o (nI 14) mb) : Sp (d + 4) M_X1_answerOf [.ref 88, .int (nI 23), .int (nI e)] L h (some (.int (x - nI 2 * (v - nI 100)))) (TrC h n [23, 20, 14, 13, 10]) := by
  have t1 := TrC_1 (h := h) (n := n) (b := 23)
  have f1 := AF_fr t1.1 f
  obtain ⟨g1, eg⟩ : ∃ g, up2 (up2 h 89 n (nI 23)) 88 1 (nI (n + 1)) = g := ⟨_, rfl⟩
  rw [eg] at t1 f1
  have n2 : g1 88 1 = nI (n + 1) := t1.2.1
  obtain ⟨g2, t2, q2⟩ := p_a20 (d := d + 2) (L := L) (n := n + 1) (e := e + 1) n2 (by omega) (by omega) f1
  have f2 := AF_fr t2.1 f1
  obtain ⟨r23, r22, r24, r25, r26⟩ := id f2
  have n3 : g2 88 1 = nI (n + 2) := t2.2.1
  obtain ⟨g3, t3, q3⟩ := p_a14 (d := d + 0) (L := L) (n := n + 2) (e := e + 1) n3 (by omega) (by omega) f2
  have f3 := AF_fr t3.1 f2
  obtain ⟨r33, r32, r34, r35, r36⟩ := id f3
  refine ⟨g3, TrC_t (l := [23]) t1 (TrC_t (l := [20]) t2 t3), fun Q => ?_⟩
  rw [e_X1_answerOf]
  simp +decide only [s_X1_answerOf_0, s_X1_answerOf_1, s_X1_answerOf_3, s_X1_answerOf_6, s_X1_answerOf_7, s_X1_answerOf_8, s_X1_answerOf_9, s_X1_answerOf_12, s_X1_answerOf_14, s_X1_answerOf_17, s_X1_answerOf_18, s_X1_answerOf_21, s_X1_answerOf_22, s_X1_answerOf_25, s_X1_answerOf_26, s_X1_answerOf_27, s_X1_answerOf_28, s_X1_answerOf_29, s_X1_answerOf_32, s_X1_answerOf_33, s_X1_answerOf_34, s_X1_answerOf_37, s_X1_answerOf_38, s_X1_answerOf_39, s_X1_answerOf_40, s_X1_answerOf_41, s_X1_answerOf_42, s_X1_answerOf_116, s_X1_answerOf_117, s_X1_answerOf_120, s_X1_answerOf_121, s_X1_answerOf_122, s_X1_answerOf_124, s_X1_answerOf_125, s_X1_answerOf_128, s_X1_answerOf_129, s_X1_answerOf_130, s_X1_answerOf_133, s_X1_answerOf_134, s_X1_answerOf_137, s_X1_answerOf_138, s_X1_answerOf_139, s_X1_answerOf_140, s_X1_answerOf_141, s_X1_answerOf_143, s_X1_answerOf_144, s_X1_answerOf_147, s_X1_answerOf_148, s_X1_answerOf_149, s_X1_answerOf_150, s_X1_answerOf_152, s_X1_answerOf_153, s_X1_answerOf_156, s_X1_answerOf_158, s_X1_answerOf_159, s_X1_answerOf_160, s_X1_answerOf_161, s_X1_answerOf_162, s_X1_answerOf_164, s_X1_answerOf_165, s_X1_answerOf_168, s_X1_answerOf_169, s_X1_answerOf_170, s_X1_answerOf_171, s_X1_answerOf_174, s_X1_answerOf_175, s_X1_answerOf_176, s_X1_answerOf_178, s_X1_answerOf_179, s_X1_answerOf_182, s_X1_answerOf_183, s_X1_answerOf_186, s_X1_answerOf_187, s_X1_answerOf_188, s_X1_answerOf_189, s_X1_answerOf_191, s_X1_answerOf_192, s_X1_answerOf_195, s_X1_answerOf_198, s_X1_answerOf_199, s_X1_answerOf_200, s_X1_answerOf_201, s_X1_answerOf_203, s_X1_answerOf_204, s_X1_answerOf_207, s_X1_answerOf_208, s_X1_answerOf_209, s_X1_answerOf_212, s_X1_answerOf_213, s_X1_answerOf_216, s_X1_answerOf_217, s_X1_answerOf_218, s_X1_answerOf_219, s_X1_answerOf_220, s_X1_answerOf_222, s_X1_answerOf_223, s_X1_answerOf_226, s_X1_answerOf_227, s_X1_answerOf_228, s_X1_answerOf_229, kS_88, rS_88_0, kS_89, lS_89, e16 (show e ≤ 16 by omega), n16 (show n < 16 by omega), hn, show n < 16 by omega, a_pre hn, eg, q2, r23, r22, r24, r25, r26, q3, r33, r32, r34, r35, r36, nI_add, nI_lite, Option.toList_none, Option.toList_some, List.cons_append, List.nil_append, Nat.reduceLT, cl_tl0, cl_tl1, rfv_some, if_true, if_false, or_true, true_or, eq_self, ite_true, ite_false, and_true, true_and, not_true_eq_false, not_false_eq_true]
def abd (s q : Nat) : List Nat := if q = 0 then (if s = 1 then [11, 10, 21, 20] else if s = 2 then [12, 11, 10, 24, 21, 20] else if s = 3 then [11, 10, 22, 21, 20] else if s = 4 then [13, 10] else [14, 13, 10]) else (if s = 1 then [21, 20] else if s = 2 then [24, 21, 20] else if s = 3 then [22, 21, 20] else if s = 4 then [23, 20, 13, 10] else [23, 20, 14, 13, 10])
def avl (s q : Nat) (v x o : Int32) : Int32 := if q = 0 then (if s = 1 then v + (x + o) else if s = 2 then nI 0 - (v + nI 2 * (x + o)) else if s = 3 then v + (x + o - nI 1000) else if s = 4 then v - nI 100 else nI 2 * (v - nI 100)) else (if s = 1 then x + o else if s = 2 then nI 2 * (x + o) else if s = 3 then x + o - nI 1000 else if s = 4 then x - (v - nI 100) else x - nI 2 * (v - nI 100))
def aQ (a i : Nat) : Prop := a = 89 ∨ a = 88
theorem p_begin {d L x q : Nat} {t : Nat → Nat} {h : mMem} (c : CR h 27 t) (w : Wf t) (hx : x < t 1) (hq : q < 2) (cS : ∀ i, h 2 i = tbS i) (cM : ∀ i, h 3 i = tbM i) : Sp (d + 8) M_X1_begin [.ref 88, .ref 27, .int (nI x), .int (nI q)] L h (some (.int (avl (t (14 + x)) q (nI (t (21 + x))) (nI x) (nI (t (35 + x)))))) (fun g => Fr aQ h g ∧ g 88 1 = nI (abd (t (14 + x)) q).length ∧ ∀ i, i < (abd (t (14 + x)) q).length → g 89 i = nI ((abd (t (14 + x)) q).getD i 0)) := by
  have w2 := w.2.1
  have hx7 : x < 7 := by omega
  have hs := (w.2.2.2.1 x hx).1
  have r14 := CR_14 c w hx
  have r21 := CR_21 c w hx
  have r35 := CR_35 c w hx
  obtain ⟨s, es⟩ : ∃ s, t (14 + x) = s := ⟨_, rfl⟩
  rw [es] at r14 hs ⊢
  obtain ⟨sb, hsb⟩ : ∃ sb, h 2 s = sb := ⟨_, rfl⟩
  obtain ⟨mb, hmb⟩ : ∃ mb, h 3 s = mb := ⟨_, rfl⟩
  have iw := fun h Q => p_isWithin (d := d + 6) (L := L) (x := nI s) (a := 0) (b := 5) (h := h) (Q := Q)
  have iv : inB (nI s) 0 5 = true := decide_eq_true ⟨(nI_leI (by omega) (by omega)).mpr (by omega), (nI_leI (by omega) (by omega)).mpr (by omega)⟩
  rw [iv] at iw
  obtain ⟨g, eg⟩ : ∃ g, up2 (up2 (up2 (up2 (up2 (up2 h 88 2 (nI x)) 88 3 (nI (t (21 + x)))) 88 4 (nI (t (35 + x)))) 88 5 sb) 88 6 mb) 88 1 (nI 0) = g := ⟨_, rfl⟩
  have fg : Fr aQ h g := fun a i hn => by
    have : a ≠ 88 := fun e => hn (Or.inr e)
    rw [← eg, up2_n (by omega), up2_n (by omega), up2_n (by omega), up2_n (by omega), up2_n (by omega), up2_n (by omega)]
  have af : AF g (nI (t (21 + x))) (nI x) (nI (t (35 + x))) sb mb := by
    refine ⟨?_, ?_, ?_, ?_, ?_⟩
    · rw [← eg, up2_n (by omega), up2_n (by omega), up2_n (by omega), up2_n (by omega), up2_a]
    · rw [← eg, up2_n (by omega), up2_n (by omega), up2_n (by omega), up2_n (by omega), up2_n (by omega), up2_a]
    · rw [← eg, up2_n (by omega), up2_n (by omega), up2_n (by omega), up2_a]
    · rw [← eg, up2_n (by omega), up2_n (by omega), up2_a]
    · rw [← eg, up2_n (by omega), up2_a]
  have g0 : g 88 1 = nI 0 := by rw [← eg, up2_a]
  have k1 : ∀ v, up2 h 88 2 v 31 x = h 31 x := fun v => up2_n (by omega)
  have k2 : ∀ v w, up2 (up2 h 88 2 v) 88 3 w 33 x = h 33 x := fun v w => by rw [up2_n (by omega), up2_n (by omega)]
  have k3 : ∀ v w u, up2 (up2 (up2 h 88 2 v) 88 3 w) 88 4 u 2 s = sb := fun v w u => by rw [up2_n (by omega), up2_n (by omega), up2_n (by omega), hsb]
  have k4 : ∀ v w u y, up2 (up2 (up2 (up2 h 88 2 v) 88 3 w) 88 4 u) 88 5 y 3 s = mb := fun v w u y => by rw [up2_n (by omega), up2_n (by omega), up2_n (by omega), up2_n (by omega), hmb]
  have k5 := af.2.2.2.1
  have k6 := af.2.2.2.2
  have hs6 : s < 6 := by omega
  have run : ∀ (l : List Nat) (v : Int32) (b : Nat), (if q = 0 then sb else mb) = nI b → Sp (d + 7) M_X1_answerOf [.ref 88, .int (nI b), .int (nI 0)] L g (some (.int v)) (TrC g 0 l) → Sp (d + 8) M_X1_begin [.ref 88, .ref 27, .int (nI x), .int (nI q)] L h (some (.int v)) (fun g => Fr aQ h g ∧ g 88 1 = nI l.length ∧ ∀ i, i < l.length → g 89 i = nI (l.getD i 0)) := by
    rintro l v b eb ⟨g2, ⟨t1, t2, t3, t4⟩, e2⟩
    refine ⟨g2, ⟨Fr_t fg (Fr_w (fun a i e => by unfold aC at e; unfold aQ; omega) t1), by rw [t2, Nat.zero_add], fun i hi => by have := t4 i hi; rwa [Nat.zero_add] at this⟩, fun Q => ?_⟩
    rcases (show q = 0 ∨ q = 1 by omega) with rfl | rfl
    · have eb : sb = nI b := eb
      subst eb
      simp +decide only [e_X1_begin, s_X1_begin_0, s_X1_begin_1, s_X1_begin_4, s_X1_begin_5, s_X1_begin_5o, s_X1_begin_6, s_X1_begin_7, s_X1_begin_8, s_X1_begin_11, s_X1_begin_14, s_X1_begin_15, s_X1_begin_18, s_X1_begin_19, s_X1_begin_19o, s_X1_begin_20, s_X1_begin_23, s_X1_begin_24, s_X1_begin_26, s_X1_begin_27, s_X1_begin_28, s_X1_begin_31, s_X1_begin_32, s_X1_begin_33, s_X1_begin_36, s_X1_begin_37, s_X1_begin_37o, s_X1_begin_38, s_X1_begin_41, s_X1_begin_42, s_X1_begin_43, s_X1_begin_46, s_X1_begin_47, s_X1_begin_47o, s_X1_begin_48, s_X1_begin_51, s_X1_begin_52, s_X1_begin_55, s_X1_begin_57, s_X1_begin_57o, s_X1_begin_58, s_X1_begin_61, s_X1_begin_62, s_X1_begin_65, s_X1_begin_67, s_X1_begin_67o, s_X1_begin_68, s_X1_begin_71, s_X1_begin_72, s_X1_begin_73, s_X1_begin_76, s_X1_begin_77, s_X1_begin_78, s_X1_begin_81, s_X1_begin_82, s_X1_begin_85, s_X1_begin_88, s_X1_begin_89, s_X1_begin_92, s_X1_begin_93, s_X1_begin_96, kS_88, rS_88_0, kS_89, lS_89, kH, rH1, rH2, rH4, rH5, rH6, rH7, rH8, kH_1, kH_2, kH_3, kH_4, kH_5, kH_6, kH_7, lH_1, lH_2, lH_3, lH_4, lH_5, lH_6, lH_7, Hs_27, hx7, hs6, kS_2, lS_2, kS_3, lS_3, r14, r21, r35, iw, k1, k2, k3, k4, k5, k6, eg, e2, bI_t, z_1, z_0, Option.toList_some, List.cons_append, List.nil_append, Nat.reduceAdd, Nat.reduceLT, cl_tl0, cl_tl1, rfv_some, if_true, if_false, or_true, true_or, eq_self, ite_true, ite_false, and_true, true_and, not_true_eq_false, not_false_eq_true]
    · have eb : mb = nI b := eb
      subst eb
      simp +decide only [e_X1_begin, s_X1_begin_0, s_X1_begin_1, s_X1_begin_4, s_X1_begin_5, s_X1_begin_5o, s_X1_begin_6, s_X1_begin_7, s_X1_begin_8, s_X1_begin_11, s_X1_begin_14, s_X1_begin_15, s_X1_begin_18, s_X1_begin_19, s_X1_begin_19o, s_X1_begin_20, s_X1_begin_23, s_X1_begin_24, s_X1_begin_26, s_X1_begin_27, s_X1_begin_28, s_X1_begin_31, s_X1_begin_32, s_X1_begin_33, s_X1_begin_36, s_X1_begin_37, s_X1_begin_37o, s_X1_begin_38, s_X1_begin_41, s_X1_begin_42, s_X1_begin_43, s_X1_begin_46, s_X1_begin_47, s_X1_begin_47o, s_X1_begin_48, s_X1_begin_51, s_X1_begin_52, s_X1_begin_55, s_X1_begin_57, s_X1_begin_57o, s_X1_begin_58, s_X1_begin_61, s_X1_begin_62, s_X1_begin_65, s_X1_begin_67, s_X1_begin_67o, s_X1_begin_68, s_X1_begin_71, s_X1_begin_72, s_X1_begin_73, s_X1_begin_76, s_X1_begin_77, s_X1_begin_78, s_X1_begin_81, s_X1_begin_82, s_X1_begin_85, s_X1_begin_88, s_X1_begin_89, s_X1_begin_92, s_X1_begin_93, s_X1_begin_96, kS_88, rS_88_0, kS_89, lS_89, kH, rH1, rH2, rH4, rH5, rH6, rH7, rH8, kH_1, kH_2, kH_3, kH_4, kH_5, kH_6, kH_7, lH_1, lH_2, lH_3, lH_4, lH_5, lH_6, lH_7, Hs_27, hx7, hs6, kS_2, lS_2, kS_3, lS_3, r14, r21, r35, iw, k1, k2, k3, k4, k5, k6, eg, e2, bI_t, z_1, z_0, Option.toList_some, List.cons_append, List.nil_append, Nat.reduceAdd, Nat.reduceLT, cl_tl0, cl_tl1, rfv_some, if_true, if_false, or_true, true_or, eq_self, ite_true, ite_false, and_true, true_and, not_true_eq_false, not_false_eq_true]
  have eS := hsb.symm.trans (cS s)
  have eM := hmb.symm.trans (cM s)
  rcases (show s = 1 ∨ s = 2 ∨ s = 3 ∨ s = 4 ∨ s = 5 by omega) with rfl | rfl | rfl | rfl | rfl
  · obtain rfl : sb = nI 11 := eS
    obtain rfl : mb = nI 21 := eM
    rcases (show q = 0 ∨ q = 1 by omega) with rfl | rfl
    · exact run [11, 10, 21, 20] _ 11 rfl (p_a11_21 (d := d + 4) (n := 0) (e := 0) g0 (by omega) (by omega) af)
    · exact run [21, 20] _ 21 rfl (p_a21 (d := d + 5) (n := 0) (e := 0) g0 (by omega) (by omega) af)
  · obtain rfl : sb = nI 12 := eS
    obtain rfl : mb = nI 24 := eM
    rcases (show q = 0 ∨ q = 1 by omega) with rfl | rfl
    · exact run [12, 11, 10, 24, 21, 20] _ 12 rfl (p_a12 (d := d + 2) (n := 0) (e := 0) g0 (by omega) (by omega) af)
    · exact run [24, 21, 20] _ 24 rfl (p_a24 (d := d + 4) (n := 0) (e := 0) g0 (by omega) (by omega) af)
  · obtain rfl : sb = nI 11 := eS
    obtain rfl : mb = nI 22 := eM
    rcases (show q = 0 ∨ q = 1 by omega) with rfl | rfl
    · exact run [11, 10, 22, 21, 20] _ 11 rfl (p_a11_22 (d := d + 3) (n := 0) (e := 0) g0 (by omega) (by omega) af)
    · exact run [22, 21, 20] _ 22 rfl (p_a22 (d := d + 4) (n := 0) (e := 0) g0 (by omega) (by omega) af)
  · obtain rfl : sb = nI 13 := eS
    obtain rfl : mb = nI 23 := eM
    rcases (show q = 0 ∨ q = 1 by omega) with rfl | rfl
    · exact run [13, 10] _ 13 rfl (p_a13 (d := d + 5) (n := 0) (e := 0) g0 (by omega) (by omega) af)
    · exact run [23, 20, 13, 10] _ 23 rfl (p_a23_13 (d := d + 4) (n := 0) (e := 0) g0 (by omega) (by omega) af)
  · obtain rfl : sb = nI 14 := eS
    obtain rfl : mb = nI 23 := eM
    rcases (show q = 0 ∨ q = 1 by omega) with rfl | rfl
    · exact run [14, 13, 10] _ 14 rfl (p_a14 (d := d + 4) (n := 0) (e := 0) g0 (by omega) (by omega) af)
    · exact run [23, 20, 14, 13, 10] _ 23 rfl (p_a23_14 (d := d + 3) (n := 0) (e := 0) g0 (by omega) (by omega) af)
/-- the model's trace -/
def aM (a i : Nat) : Prop := a = 113 ∨ (a = 106 ∧ i = 12)
def TrM (h : mMem) (n : Nat) (l : List Nat) (h' : mMem) : Prop := Fr aM h h' ∧ h' 106 12 = nI (n + l.length) ∧ (∀ i, i < n → h' 113 i = h 113 i) ∧ ∀ i, i < l.length → h' 113 (n + i) = nI (l.getD i 0)
theorem TrM_t {h h' h'' : mMem} {n : Nat} {l l' : List Nat} (a : TrM h n l h') (b : TrM h' (n + l.length) l' h'') : TrM h n (l ++ l') h'' := by
  obtain ⟨a1, a2, a3, a4⟩ := a
  obtain ⟨b1, b2, b3, b4⟩ := b
  refine ⟨Fr_t a1 b1, by rw [b2, List.length_append, Nat.add_assoc], fun i hi => by rw [b3 i (by omega), a3 i hi], fun i hi => ?_⟩
  rw [List.length_append] at hi
  by_cases q : i < l.length
  · rw [b3 _ (by omega), a4 i q, List.getD_eq_getElem?_getD, List.getD_eq_getElem?_getD, List.getElem?_append_left q]
  · have := b4 (i - l.length) (by omega)
    rw [show n + l.length + (i - l.length) = n + i by omega] at this
    rw [this, List.getD_eq_getElem?_getD, List.getD_eq_getElem?_getD, List.getElem?_append_right (by omega)]
theorem TrM_1 {h : mMem} {n b : Nat} : TrM h n [b] (up2 (up2 h 113 n (nI b)) 106 12 (nI (n + 1))) := by
  refine ⟨Fr_t (Fr_u (Or.inl rfl)) (Fr_u (Or.inr ⟨rfl, rfl⟩)), up2_a, fun i hi => by rw [up2_n (by omega), up2_n (by omega)], fun i hi => ?_⟩
  have : i = 0 := by simpa using hi
  subst this
  rw [up2_n (by omega), Nat.add_zero, up2_a]
  rfl
/-- what the model reads of the right that is asked -/
def AM (h : mMem) (x : Nat) (v o s : Int32) : Prop := h 107 (21 + x) = v ∧ h 107 (35 + x) = o ∧ h 107 (14 + x) = s
theorem AM_fr {h h' : mMem} {x : Nat} {v o s : Int32} (f : Fr aM h h') (a : AM h x v o s) : AM h' x v o s := by
  obtain ⟨a1, a2, a3⟩ := a
  exact ⟨(f _ _ (by unfold aM; omega)).trans a1, (f _ _ (by unfold aM; omega)).trans a2, (f _ _ (by unfold aM; omega)).trans a3⟩
theorem p_mbegin {d L n b : Nat} {h : mMem} (hn : h 106 12 = nI n) (n1 : n < 16) : Sp (d + 1) M_X8_begin [.ref 106, .int (nI b)] L h none (TrM h n [b]) := by
  have a : up2 h 113 n (nI b) 106 12 = nI n := by rw [up2_n (by omega), hn]
  refine ⟨_, TrM_1, fun Q => ?_⟩
  rw [e_X8_begin]
  simp only [s_X8_begin_0, s_X8_begin_1, s_X8_begin_4, s_X8_begin_6, s_X8_begin_9, s_X8_begin_10, s_X8_begin_13, s_X8_begin_14, s_X8_begin_17, s_X8_begin_18, s_X8_begin_19, s_X8_begin_20, s_X8_begin_21, s_X8_begin_24, s_X8_begin_25, s_X8_begin_26, s_X8_begin_29, kS_106, rS_106_0, rS_106_3, rS_106_4, rS_106_5, rS_106_6, rS_106_7, rS_106_11, kS_107, lS_107, kS_108, lS_108, kS_109, lS_109, kS_110, lS_110, kS_111, lS_111, kS_112, lS_112, kS_113, lS_113, hn, n16 n1, n1, a, nI_add, Nat.reduceLT, cl_tl0, cl_tl1, rfv_some, if_true, if_false, or_true, true_or, eq_self, ite_true, ite_false, and_true, true_and, not_true_eq_false, not_false_eq_true]
theorem p_lentSize {d L n x : Nat} {h : mMem} {v o s : Int32} (hx : x < 7) (hn : h 106 12 = nI n) (n1 : n < 14) (f1 : AM h x v o s) : Sp (d + 2) M_X8_lentSize [.ref 106, .int (nI x)] L h (some (.int (v))) (TrM h n [10]) := by
  have w1 := hn
  obtain ⟨r11, r12, r13⟩ := f1
  have f1 : AM h x v o s := ⟨r11, r12, r13⟩
  obtain ⟨g1, t1, q1⟩ := p_mbegin (d := d + 0) (L := L) (n := n) (b := 10) w1 (by omega)
  have f2 := AM_fr t1.1 f1
  obtain ⟨r21, r22, r23⟩ := f2
  have f2 : AM g1 x v o s := ⟨r21, r22, r23⟩
  refine ⟨g1, t1, fun Q => ?_⟩
  rw [e_X8_lentSize]
  simp +decide only [s_X8_lentSize_0, s_X8_lentSize_1, s_X8_lentSize_3, s_X8_lentSize_6, s_X8_lentSize_7, s_X8_lentSize_10, s_X8_lentSize_12, s_X8_lentSize_13, s_X8_lentSize_14, s_X8_lentSize_15, kS_106, rS_106_0, rS_106_3, rS_106_4, rS_106_5, rS_106_6, rS_106_7, rS_106_11, kS_107, lS_107, kS_108, lS_108, kS_109, lS_109, kS_110, lS_110, kS_111, lS_111, kS_112, lS_112, kS_113, lS_113, r11, r12, r13, q1, r21, r22, r23, nI_add, nI_lite, show 14 + x < 1600 by omega, show 21 + x < 1600 by omega, show 35 + x < 1600 by omega, Option.toList_none, Option.toList_some, List.cons_append, List.nil_append, Nat.reduceLT, cl_tl0, cl_tl1, rfv_some, if_true, if_false, or_true, true_or, eq_self, ite_true, ite_false, and_true, true_and, not_true_eq_false, not_false_eq_true]
theorem p_lentMark {d L n x : Nat} {h : mMem} {v o s : Int32} (hx : x < 7) (hn : h 106 12 = nI n) (n1 : n < 14) (f1 : AM h x v o s) : Sp (d + 2) M_X8_lentMark [.ref 106, .int (nI x)] L h (some (.int (nI x))) (TrM h n [20]) := by
  have w1 := hn
  obtain ⟨r11, r12, r13⟩ := f1
  have f1 : AM h x v o s := ⟨r11, r12, r13⟩
  obtain ⟨g1, t1, q1⟩ := p_mbegin (d := d + 0) (L := L) (n := n) (b := 20) w1 (by omega)
  have f2 := AM_fr t1.1 f1
  obtain ⟨r21, r22, r23⟩ := f2
  have f2 : AM g1 x v o s := ⟨r21, r22, r23⟩
  refine ⟨g1, t1, fun Q => ?_⟩
  rw [e_X8_lentMark]
  simp +decide only [s_X8_lentMark_0, s_X8_lentMark_1, s_X8_lentMark_3, s_X8_lentMark_6, s_X8_lentMark_7, kS_106, rS_106_0, rS_106_3, rS_106_4, rS_106_5, rS_106_6, rS_106_7, rS_106_11, kS_107, lS_107, kS_108, lS_108, kS_109, lS_109, kS_110, lS_110, kS_111, lS_111, kS_112, lS_112, kS_113, lS_113, r11, r12, r13, q1, r21, r22, r23, nI_add, nI_lite, show 14 + x < 1600 by omega, show 21 + x < 1600 by omega, show 35 + x < 1600 by omega, Option.toList_none, Option.toList_some, List.cons_append, List.nil_append, Nat.reduceLT, cl_tl0, cl_tl1, rfv_some, if_true, if_false, or_true, true_or, eq_self, ite_true, ite_false, and_true, true_and, not_true_eq_false, not_false_eq_true]
theorem p_namesMark {d L n x : Nat} {h : mMem} {v o s : Int32} (hx : x < 7) (hn : h 106 12 = nI n) (n1 : n < 13) (f1 : AM h x v o s) : Sp (d + 3) M_X8_namesMark [.ref 106, .int (nI x)] L h (some (.int (nI x + o))) (TrM h n [21, 20]) := by
  have w1 := hn
  obtain ⟨r11, r12, r13⟩ := f1
  have f1 : AM h x v o s := ⟨r11, r12, r13⟩
  obtain ⟨g1, t1, q1⟩ := p_mbegin (d := d + 1) (L := L) (n := n) (b := 21) w1 (by omega)
  have f2 := AM_fr t1.1 f1
  obtain ⟨r21, r22, r23⟩ := f2
  have f2 : AM g1 x v o s := ⟨r21, r22, r23⟩
  have w2 : g1 106 12 = nI (n + 1) := t1.2.1
  obtain ⟨g2, t2, q2⟩ := p_lentMark (d := d + 0) (L := L) (n := n + 1) hx w2 (by omega) f2
  have f3 := AM_fr t2.1 f2
  obtain ⟨r31, r32, r33⟩ := f3
  have f3 : AM g2 x v o s := ⟨r31, r32, r33⟩
  refine ⟨g2, TrM_t (l := [21]) t1 t2, fun Q => ?_⟩
  rw [e_X8_namesMark]
  simp +decide only [s_X8_namesMark_0, s_X8_namesMark_1, s_X8_namesMark_3, s_X8_namesMark_6, s_X8_namesMark_7, s_X8_namesMark_8, s_X8_namesMark_11, s_X8_namesMark_12, s_X8_namesMark_15, s_X8_namesMark_17, s_X8_namesMark_18, s_X8_namesMark_19, s_X8_namesMark_20, s_X8_namesMark_21, kS_106, rS_106_0, rS_106_3, rS_106_4, rS_106_5, rS_106_6, rS_106_7, rS_106_11, kS_107, lS_107, kS_108, lS_108, kS_109, lS_109, kS_110, lS_110, kS_111, lS_111, kS_112, lS_112, kS_113, lS_113, r11, r12, r13, q1, r21, r22, r23, q2, r31, r32, r33, nI_add, nI_lite, show 14 + x < 1600 by omega, show 21 + x < 1600 by omega, show 35 + x < 1600 by omega, Option.toList_none, Option.toList_some, List.cons_append, List.nil_append, Nat.reduceLT, cl_tl0, cl_tl1, rfv_some, if_true, if_false, or_true, true_or, eq_self, ite_true, ite_false, and_true, true_and, not_true_eq_false, not_false_eq_true]
theorem p_mark1 {d L n x : Nat} {h : mMem} {v o : Int32} (hx : x < 7) (hn : h 106 12 = nI n) (n1 : n < 12) (f1 : AM h x v o (nI 1)) : Sp (d + 4) M_X8_mark [.ref 106, .int (nI x)] L h (some (.int (nI x + o))) (TrM h n [21, 20]) := by
  have w1 := hn
  obtain ⟨r11, r12, r13⟩ := f1
  have f1 : AM h x v o (nI 1) := ⟨r11, r12, r13⟩
  obtain ⟨g1, t1, q1⟩ := p_namesMark (d := d + 0) (L := L) (n := n) hx w1 (by omega) f1
  have f2 := AM_fr t1.1 f1
  obtain ⟨r21, r22, r23⟩ := f2
  have f2 : AM g1 x v o (nI 1) := ⟨r21, r22, r23⟩
  refine ⟨g1, t1, fun Q => ?_⟩
  rw [e_X8_mark]
  simp +decide only [s_X8_mark_0, s_X8_mark_1, s_X8_mark_4, s_X8_mark_6, s_X8_mark_7, s_X8_mark_8, s_X8_mark_9, s_X8_mark_36, s_X8_mark_37, s_X8_mark_39, s_X8_mark_42, s_X8_mark_43, s_X8_mark_44, s_X8_mark_47, s_X8_mark_50, s_X8_mark_51, s_X8_mark_52, s_X8_mark_53, s_X8_mark_55, s_X8_mark_58, s_X8_mark_59, s_X8_mark_60, s_X8_mark_61, s_X8_mark_64, s_X8_mark_65, s_X8_mark_66, s_X8_mark_67, s_X8_mark_68, s_X8_mark_71, kS_106, rS_106_0, rS_106_3, rS_106_4, rS_106_5, rS_106_6, rS_106_7, rS_106_11, kS_107, lS_107, kS_108, lS_108, kS_109, lS_109, kS_110, lS_110, kS_111, lS_111, kS_112, lS_112, kS_113, lS_113, r11, r12, r13, q1, r21, r22, r23, nI_add, nI_lite, show 14 + x < 1600 by omega, show 21 + x < 1600 by omega, show 35 + x < 1600 by omega, Option.toList_none, Option.toList_some, List.cons_append, List.nil_append, Nat.reduceLT, cl_tl0, cl_tl1, rfv_some, if_true, if_false, or_true, true_or, eq_self, ite_true, ite_false, and_true, true_and, not_true_eq_false, not_false_eq_true]
theorem p_mark2 {d L n x : Nat} {h : mMem} {v o : Int32} (hx : x < 7) (hn : h 106 12 = nI n) (n1 : n < 12) (f1 : AM h x v o (nI 2)) : Sp (d + 4) M_X8_mark [.ref 106, .int (nI x)] L h (some (.int (nI 2 * (nI x + o)))) (TrM h n [24, 21, 20]) := by
  have w1 := hn
  obtain ⟨r11, r12, r13⟩ := f1
  have f1 : AM h x v o (nI 2) := ⟨r11, r12, r13⟩
  obtain ⟨g1, t1, q1⟩ := p_mbegin (d := d + 2) (L := L) (n := n) (b := 24) w1 (by omega)
  have f2 := AM_fr t1.1 f1
  obtain ⟨r21, r22, r23⟩ := f2
  have f2 : AM g1 x v o (nI 2) := ⟨r21, r22, r23⟩
  have w2 : g1 106 12 = nI (n + 1) := t1.2.1
  obtain ⟨g2, t2, q2⟩ := p_namesMark (d := d + 0) (L := L) (n := n + 1) hx w2 (by omega) f2
  have f3 := AM_fr t2.1 f2
  obtain ⟨r31, r32, r33⟩ := f3
  have f3 : AM g2 x v o (nI 2) := ⟨r31, r32, r33⟩
  refine ⟨g2, TrM_t (l := [24]) t1 t2, fun Q => ?_⟩
  rw [e_X8_mark]
  simp +decide only [s_X8_mark_0, s_X8_mark_1, s_X8_mark_4, s_X8_mark_6, s_X8_mark_7, s_X8_mark_8, s_X8_mark_9, s_X8_mark_36, s_X8_mark_37, s_X8_mark_39, s_X8_mark_42, s_X8_mark_43, s_X8_mark_44, s_X8_mark_47, s_X8_mark_50, s_X8_mark_51, s_X8_mark_52, s_X8_mark_53, s_X8_mark_55, s_X8_mark_58, s_X8_mark_59, s_X8_mark_60, s_X8_mark_61, s_X8_mark_64, s_X8_mark_65, s_X8_mark_66, s_X8_mark_67, s_X8_mark_68, s_X8_mark_71, kS_106, rS_106_0, rS_106_3, rS_106_4, rS_106_5, rS_106_6, rS_106_7, rS_106_11, kS_107, lS_107, kS_108, lS_108, kS_109, lS_109, kS_110, lS_110, kS_111, lS_111, kS_112, lS_112, kS_113, lS_113, r11, r12, r13, q1, r21, r22, r23, q2, r31, r32, r33, nI_add, nI_lite, show 14 + x < 1600 by omega, show 21 + x < 1600 by omega, show 35 + x < 1600 by omega, Option.toList_none, Option.toList_some, List.cons_append, List.nil_append, Nat.reduceLT, cl_tl0, cl_tl1, rfv_some, if_true, if_false, or_true, true_or, eq_self, ite_true, ite_false, and_true, true_and, not_true_eq_false, not_false_eq_true]
theorem p_mark3 {d L n x : Nat} {h : mMem} {v o : Int32} (hx : x < 7) (hn : h 106 12 = nI n) (n1 : n < 12) (f1 : AM h x v o (nI 3)) : Sp (d + 4) M_X8_mark [.ref 106, .int (nI x)] L h (some (.int (nI x + o - nI 1000))) (TrM h n [22, 21, 20]) := by
  have w1 := hn
  obtain ⟨r11, r12, r13⟩ := f1
  have f1 : AM h x v o (nI 3) := ⟨r11, r12, r13⟩
  obtain ⟨g1, t1, q1⟩ := p_mbegin (d := d + 2) (L := L) (n := n) (b := 22) w1 (by omega)
  have f2 := AM_fr t1.1 f1
  obtain ⟨r21, r22, r23⟩ := f2
  have f2 : AM g1 x v o (nI 3) := ⟨r21, r22, r23⟩
  have w2 : g1 106 12 = nI (n + 1) := t1.2.1
  obtain ⟨g2, t2, q2⟩ := p_namesMark (d := d + 0) (L := L) (n := n + 1) hx w2 (by omega) f2
  have f3 := AM_fr t2.1 f2
  obtain ⟨r31, r32, r33⟩ := f3
  have f3 : AM g2 x v o (nI 3) := ⟨r31, r32, r33⟩
  refine ⟨g2, TrM_t (l := [22]) t1 t2, fun Q => ?_⟩
  rw [e_X8_mark]
  simp +decide only [s_X8_mark_0, s_X8_mark_1, s_X8_mark_4, s_X8_mark_6, s_X8_mark_7, s_X8_mark_8, s_X8_mark_9, s_X8_mark_36, s_X8_mark_37, s_X8_mark_39, s_X8_mark_42, s_X8_mark_43, s_X8_mark_44, s_X8_mark_47, s_X8_mark_50, s_X8_mark_51, s_X8_mark_52, s_X8_mark_53, s_X8_mark_55, s_X8_mark_58, s_X8_mark_59, s_X8_mark_60, s_X8_mark_61, s_X8_mark_64, s_X8_mark_65, s_X8_mark_66, s_X8_mark_67, s_X8_mark_68, s_X8_mark_71, kS_106, rS_106_0, rS_106_3, rS_106_4, rS_106_5, rS_106_6, rS_106_7, rS_106_11, kS_107, lS_107, kS_108, lS_108, kS_109, lS_109, kS_110, lS_110, kS_111, lS_111, kS_112, lS_112, kS_113, lS_113, r11, r12, r13, q1, r21, r22, r23, q2, r31, r32, r33, nI_add, nI_lite, show 14 + x < 1600 by omega, show 21 + x < 1600 by omega, show 35 + x < 1600 by omega, Option.toList_none, Option.toList_some, List.cons_append, List.nil_append, Nat.reduceLT, cl_tl0, cl_tl1, rfv_some, if_true, if_false, or_true, true_or, eq_self, ite_true, ite_false, and_true, true_and, not_true_eq_false, not_false_eq_true]
theorem p_namesSize1 {d L n x : Nat} {h : mMem} {v o : Int32} (hx : x < 7) (hn : h 106 12 = nI n) (n1 : n < 10) (f1 : AM h x v o (nI 1)) : Sp (d + 5) M_X8_namesSize [.ref 106, .int (nI x)] L h (some (.int (v + (nI x + o)))) (TrM h n [11, 10, 21, 20]) := by
  have w1 := hn
  obtain ⟨r11, r12, r13⟩ := f1
  have f1 : AM h x v o (nI 1) := ⟨r11, r12, r13⟩
  obtain ⟨g1, t1, q1⟩ := p_mbegin (d := d + 3) (L := L) (n := n) (b := 11) w1 (by omega)
  have f2 := AM_fr t1.1 f1
  obtain ⟨r21, r22, r23⟩ := f2
  have f2 : AM g1 x v o (nI 1) := ⟨r21, r22, r23⟩
  have w2 : g1 106 12 = nI (n + 1) := t1.2.1
  obtain ⟨g2, t2, q2⟩ := p_lentSize (d := d + 2) (L := L) (n := n + 1) hx w2 (by omega) f2
  have f3 := AM_fr t2.1 f2
  obtain ⟨r31, r32, r33⟩ := f3
  have f3 : AM g2 x v o (nI 1) := ⟨r31, r32, r33⟩
  have w3 : g2 106 12 = nI (n + 2) := t2.2.1
  obtain ⟨g3, t3, q3⟩ := p_mark1 (d := d + 0) (L := L) (n := n + 2) hx w3 (by omega) f3
  have f4 := AM_fr t3.1 f3
  obtain ⟨r41, r42, r43⟩ := f4
  have f4 : AM g3 x v o (nI 1) := ⟨r41, r42, r43⟩
  refine ⟨g3, TrM_t (l := [11]) t1 (TrM_t (l := [10]) t2 t3), fun Q => ?_⟩
  rw [e_X8_namesSize]
  simp +decide only [s_X8_namesSize_0, s_X8_namesSize_1, s_X8_namesSize_3, s_X8_namesSize_6, s_X8_namesSize_7, s_X8_namesSize_8, s_X8_namesSize_11, s_X8_namesSize_12, s_X8_namesSize_13, s_X8_namesSize_14, s_X8_namesSize_15, s_X8_namesSize_18, s_X8_namesSize_19, kS_106, rS_106_0, rS_106_3, rS_106_4, rS_106_5, rS_106_6, rS_106_7, rS_106_11, kS_107, lS_107, kS_108, lS_108, kS_109, lS_109, kS_110, lS_110, kS_111, lS_111, kS_112, lS_112, kS_113, lS_113, r11, r12, r13, q1, r21, r22, r23, q2, r31, r32, r33, q3, r41, r42, r43, nI_add, nI_lite, show 14 + x < 1600 by omega, show 21 + x < 1600 by omega, show 35 + x < 1600 by omega, Option.toList_none, Option.toList_some, List.cons_append, List.nil_append, Nat.reduceLT, cl_tl0, cl_tl1, rfv_some, if_true, if_false, or_true, true_or, eq_self, ite_true, ite_false, and_true, true_and, not_true_eq_false, not_false_eq_true]
theorem p_namesSize2 {d L n x : Nat} {h : mMem} {v o : Int32} (hx : x < 7) (hn : h 106 12 = nI n) (n1 : n < 10) (f1 : AM h x v o (nI 2)) : Sp (d + 5) M_X8_namesSize [.ref 106, .int (nI x)] L h (some (.int (v + (nI 2 * (nI x + o))))) (TrM h n [11, 10, 24, 21, 20]) := by
  have w1 := hn
  obtain ⟨r11, r12, r13⟩ := f1
  have f1 : AM h x v o (nI 2) := ⟨r11, r12, r13⟩
  obtain ⟨g1, t1, q1⟩ := p_mbegin (d := d + 3) (L := L) (n := n) (b := 11) w1 (by omega)
  have f2 := AM_fr t1.1 f1
  obtain ⟨r21, r22, r23⟩ := f2
  have f2 : AM g1 x v o (nI 2) := ⟨r21, r22, r23⟩
  have w2 : g1 106 12 = nI (n + 1) := t1.2.1
  obtain ⟨g2, t2, q2⟩ := p_lentSize (d := d + 2) (L := L) (n := n + 1) hx w2 (by omega) f2
  have f3 := AM_fr t2.1 f2
  obtain ⟨r31, r32, r33⟩ := f3
  have f3 : AM g2 x v o (nI 2) := ⟨r31, r32, r33⟩
  have w3 : g2 106 12 = nI (n + 2) := t2.2.1
  obtain ⟨g3, t3, q3⟩ := p_mark2 (d := d + 0) (L := L) (n := n + 2) hx w3 (by omega) f3
  have f4 := AM_fr t3.1 f3
  obtain ⟨r41, r42, r43⟩ := f4
  have f4 : AM g3 x v o (nI 2) := ⟨r41, r42, r43⟩
  refine ⟨g3, TrM_t (l := [11]) t1 (TrM_t (l := [10]) t2 t3), fun Q => ?_⟩
  rw [e_X8_namesSize]
  simp +decide only [s_X8_namesSize_0, s_X8_namesSize_1, s_X8_namesSize_3, s_X8_namesSize_6, s_X8_namesSize_7, s_X8_namesSize_8, s_X8_namesSize_11, s_X8_namesSize_12, s_X8_namesSize_13, s_X8_namesSize_14, s_X8_namesSize_15, s_X8_namesSize_18, s_X8_namesSize_19, kS_106, rS_106_0, rS_106_3, rS_106_4, rS_106_5, rS_106_6, rS_106_7, rS_106_11, kS_107, lS_107, kS_108, lS_108, kS_109, lS_109, kS_110, lS_110, kS_111, lS_111, kS_112, lS_112, kS_113, lS_113, r11, r12, r13, q1, r21, r22, r23, q2, r31, r32, r33, q3, r41, r42, r43, nI_add, nI_lite, show 14 + x < 1600 by omega, show 21 + x < 1600 by omega, show 35 + x < 1600 by omega, Option.toList_none, Option.toList_some, List.cons_append, List.nil_append, Nat.reduceLT, cl_tl0, cl_tl1, rfv_some, if_true, if_false, or_true, true_or, eq_self, ite_true, ite_false, and_true, true_and, not_true_eq_false, not_false_eq_true]
theorem p_namesSize3 {d L n x : Nat} {h : mMem} {v o : Int32} (hx : x < 7) (hn : h 106 12 = nI n) (n1 : n < 10) (f1 : AM h x v o (nI 3)) : Sp (d + 5) M_X8_namesSize [.ref 106, .int (nI x)] L h (some (.int (v + (nI x + o - nI 1000)))) (TrM h n [11, 10, 22, 21, 20]) := by
  have w1 := hn
  obtain ⟨r11, r12, r13⟩ := f1
  have f1 : AM h x v o (nI 3) := ⟨r11, r12, r13⟩
  obtain ⟨g1, t1, q1⟩ := p_mbegin (d := d + 3) (L := L) (n := n) (b := 11) w1 (by omega)
  have f2 := AM_fr t1.1 f1
  obtain ⟨r21, r22, r23⟩ := f2
  have f2 : AM g1 x v o (nI 3) := ⟨r21, r22, r23⟩
  have w2 : g1 106 12 = nI (n + 1) := t1.2.1
  obtain ⟨g2, t2, q2⟩ := p_lentSize (d := d + 2) (L := L) (n := n + 1) hx w2 (by omega) f2
  have f3 := AM_fr t2.1 f2
  obtain ⟨r31, r32, r33⟩ := f3
  have f3 : AM g2 x v o (nI 3) := ⟨r31, r32, r33⟩
  have w3 : g2 106 12 = nI (n + 2) := t2.2.1
  obtain ⟨g3, t3, q3⟩ := p_mark3 (d := d + 0) (L := L) (n := n + 2) hx w3 (by omega) f3
  have f4 := AM_fr t3.1 f3
  obtain ⟨r41, r42, r43⟩ := f4
  have f4 : AM g3 x v o (nI 3) := ⟨r41, r42, r43⟩
  refine ⟨g3, TrM_t (l := [11]) t1 (TrM_t (l := [10]) t2 t3), fun Q => ?_⟩
  rw [e_X8_namesSize]
  simp +decide only [s_X8_namesSize_0, s_X8_namesSize_1, s_X8_namesSize_3, s_X8_namesSize_6, s_X8_namesSize_7, s_X8_namesSize_8, s_X8_namesSize_11, s_X8_namesSize_12, s_X8_namesSize_13, s_X8_namesSize_14, s_X8_namesSize_15, s_X8_namesSize_18, s_X8_namesSize_19, kS_106, rS_106_0, rS_106_3, rS_106_4, rS_106_5, rS_106_6, rS_106_7, rS_106_11, kS_107, lS_107, kS_108, lS_108, kS_109, lS_109, kS_110, lS_110, kS_111, lS_111, kS_112, lS_112, kS_113, lS_113, r11, r12, r13, q1, r21, r22, r23, q2, r31, r32, r33, q3, r41, r42, r43, nI_add, nI_lite, show 14 + x < 1600 by omega, show 21 + x < 1600 by omega, show 35 + x < 1600 by omega, Option.toList_none, Option.toList_some, List.cons_append, List.nil_append, Nat.reduceLT, cl_tl0, cl_tl1, rfv_some, if_true, if_false, or_true, true_or, eq_self, ite_true, ite_false, and_true, true_and, not_true_eq_false, not_false_eq_true]
theorem p_loansSize {d L n x : Nat} {h : mMem} {v o s : Int32} (hx : x < 7) (hn : h 106 12 = nI n) (n1 : n < 12) (f1 : AM h x v o s) : Sp (d + 3) M_X8_loansSize [.ref 106, .int (nI x)] L h (some (.int (v - nI 100))) (TrM h n [13, 10]) := by
  have w1 := hn
  obtain ⟨r11, r12, r13⟩ := f1
  have f1 : AM h x v o s := ⟨r11, r12, r13⟩
  obtain ⟨g1, t1, q1⟩ := p_mbegin (d := d + 1) (L := L) (n := n) (b := 13) w1 (by omega)
  have f2 := AM_fr t1.1 f1
  obtain ⟨r21, r22, r23⟩ := f2
  have f2 : AM g1 x v o s := ⟨r21, r22, r23⟩
  have w2 : g1 106 12 = nI (n + 1) := t1.2.1
  obtain ⟨g2, t2, q2⟩ := p_lentSize (d := d + 0) (L := L) (n := n + 1) hx w2 (by omega) f2
  have f3 := AM_fr t2.1 f2
  obtain ⟨r31, r32, r33⟩ := f3
  have f3 : AM g2 x v o s := ⟨r31, r32, r33⟩
  refine ⟨g2, TrM_t (l := [13]) t1 t2, fun Q => ?_⟩
  rw [e_X8_loansSize]
  simp +decide only [s_X8_loansSize_0, s_X8_loansSize_1, s_X8_loansSize_3, s_X8_loansSize_6, s_X8_loansSize_7, s_X8_loansSize_8, s_X8_loansSize_11, s_X8_loansSize_13, s_X8_loansSize_14, kS_106, rS_106_0, rS_106_3, rS_106_4, rS_106_5, rS_106_6, rS_106_7, rS_106_11, kS_107, lS_107, kS_108, lS_108, kS_109, lS_109, kS_110, lS_110, kS_111, lS_111, kS_112, lS_112, kS_113, lS_113, r11, r12, r13, q1, r21, r22, r23, q2, r31, r32, r33, nI_add, nI_lite, show 14 + x < 1600 by omega, show 21 + x < 1600 by omega, show 35 + x < 1600 by omega, Option.toList_none, Option.toList_some, List.cons_append, List.nil_append, Nat.reduceLT, cl_tl0, cl_tl1, rfv_some, if_true, if_false, or_true, true_or, eq_self, ite_true, ite_false, and_true, true_and, not_true_eq_false, not_false_eq_true]
theorem p_sizeOf1 {d L n x : Nat} {h : mMem} {v o : Int32} (hx : x < 7) (hn : h 106 12 = nI n) (n1 : n < 9) (f1 : AM h x v o (nI 1)) : Sp (d + 6) M_X8_sizeOf [.ref 106, .int (nI x)] L h (some (.int (v + (nI x + o)))) (TrM h n [11, 10, 21, 20]) := by
  have w1 := hn
  obtain ⟨r11, r12, r13⟩ := f1
  have f1 : AM h x v o (nI 1) := ⟨r11, r12, r13⟩
  obtain ⟨g1, t1, q1⟩ := p_namesSize1 (d := d + 0) (L := L) (n := n) hx w1 (by omega) f1
  have f2 := AM_fr t1.1 f1
  obtain ⟨r21, r22, r23⟩ := f2
  have f2 : AM g1 x v o (nI 1) := ⟨r21, r22, r23⟩
  refine ⟨g1, t1, fun Q => ?_⟩
  rw [e_X8_sizeOf]
  simp +decide only [s_X8_sizeOf_0, s_X8_sizeOf_1, s_X8_sizeOf_4, s_X8_sizeOf_6, s_X8_sizeOf_7, s_X8_sizeOf_8, s_X8_sizeOf_9, s_X8_sizeOf_40, s_X8_sizeOf_41, s_X8_sizeOf_43, s_X8_sizeOf_46, s_X8_sizeOf_47, s_X8_sizeOf_48, s_X8_sizeOf_51, s_X8_sizeOf_52, s_X8_sizeOf_53, s_X8_sizeOf_54, s_X8_sizeOf_55, s_X8_sizeOf_58, s_X8_sizeOf_59, s_X8_sizeOf_60, s_X8_sizeOf_62, s_X8_sizeOf_65, s_X8_sizeOf_66, s_X8_sizeOf_67, s_X8_sizeOf_68, s_X8_sizeOf_71, s_X8_sizeOf_72, s_X8_sizeOf_73, s_X8_sizeOf_74, s_X8_sizeOf_75, s_X8_sizeOf_78, kS_106, rS_106_0, rS_106_3, rS_106_4, rS_106_5, rS_106_6, rS_106_7, rS_106_11, kS_107, lS_107, kS_108, lS_108, kS_109, lS_109, kS_110, lS_110, kS_111, lS_111, kS_112, lS_112, kS_113, lS_113, r11, r12, r13, q1, r21, r22, r23, nI_add, nI_lite, show 14 + x < 1600 by omega, show 21 + x < 1600 by omega, show 35 + x < 1600 by omega, Option.toList_none, Option.toList_some, List.cons_append, List.nil_append, Nat.reduceLT, cl_tl0, cl_tl1, rfv_some, if_true, if_false, or_true, true_or, eq_self, ite_true, ite_false, and_true, true_and, not_true_eq_false, not_false_eq_true]
theorem p_sizeOf2 {d L n x : Nat} {h : mMem} {v o : Int32} (hx : x < 7) (hn : h 106 12 = nI n) (n1 : n < 8) (f1 : AM h x v o (nI 2)) : Sp (d + 6) M_X8_sizeOf [.ref 106, .int (nI x)] L h (some (.int (-(v + (nI 2 * (nI x + o)))))) (TrM h n [12, 11, 10, 24, 21, 20]) := by
  have w1 := hn
  obtain ⟨r11, r12, r13⟩ := f1
  have f1 : AM h x v o (nI 2) := ⟨r11, r12, r13⟩
  obtain ⟨g1, t1, q1⟩ := p_mbegin (d := d + 4) (L := L) (n := n) (b := 12) w1 (by omega)
  have f2 := AM_fr t1.1 f1
  obtain ⟨r21, r22, r23⟩ := f2
  have f2 : AM g1 x v o (nI 2) := ⟨r21, r22, r23⟩
  have w2 : g1 106 12 = nI (n + 1) := t1.2.1
  obtain ⟨g2, t2, q2⟩ := p_namesSize2 (d := d + 0) (L := L) (n := n + 1) hx w2 (by omega) f2
  have f3 := AM_fr t2.1 f2
  obtain ⟨r31, r32, r33⟩ := f3
  have f3 : AM g2 x v o (nI 2) := ⟨r31, r32, r33⟩
  refine ⟨g2, TrM_t (l := [12]) t1 t2, fun Q => ?_⟩
  rw [e_X8_sizeOf]
  simp +decide only [s_X8_sizeOf_0, s_X8_sizeOf_1, s_X8_sizeOf_4, s_X8_sizeOf_6, s_X8_sizeOf_7, s_X8_sizeOf_8, s_X8_sizeOf_9, s_X8_sizeOf_40, s_X8_sizeOf_41, s_X8_sizeOf_43, s_X8_sizeOf_46, s_X8_sizeOf_47, s_X8_sizeOf_48, s_X8_sizeOf_51, s_X8_sizeOf_52, s_X8_sizeOf_53, s_X8_sizeOf_54, s_X8_sizeOf_55, s_X8_sizeOf_58, s_X8_sizeOf_59, s_X8_sizeOf_60, s_X8_sizeOf_62, s_X8_sizeOf_65, s_X8_sizeOf_66, s_X8_sizeOf_67, s_X8_sizeOf_68, s_X8_sizeOf_71, s_X8_sizeOf_72, s_X8_sizeOf_73, s_X8_sizeOf_74, s_X8_sizeOf_75, s_X8_sizeOf_78, kS_106, rS_106_0, rS_106_3, rS_106_4, rS_106_5, rS_106_6, rS_106_7, rS_106_11, kS_107, lS_107, kS_108, lS_108, kS_109, lS_109, kS_110, lS_110, kS_111, lS_111, kS_112, lS_112, kS_113, lS_113, r11, r12, r13, q1, r21, r22, r23, q2, r31, r32, r33, nI_add, nI_lite, show 14 + x < 1600 by omega, show 21 + x < 1600 by omega, show 35 + x < 1600 by omega, Option.toList_none, Option.toList_some, List.cons_append, List.nil_append, Nat.reduceLT, cl_tl0, cl_tl1, rfv_some, if_true, if_false, or_true, true_or, eq_self, ite_true, ite_false, and_true, true_and, not_true_eq_false, not_false_eq_true]
theorem p_sizeOf3 {d L n x : Nat} {h : mMem} {v o : Int32} (hx : x < 7) (hn : h 106 12 = nI n) (n1 : n < 9) (f1 : AM h x v o (nI 3)) : Sp (d + 6) M_X8_sizeOf [.ref 106, .int (nI x)] L h (some (.int (v + (nI x + o - nI 1000)))) (TrM h n [11, 10, 22, 21, 20]) := by
  have w1 := hn
  obtain ⟨r11, r12, r13⟩ := f1
  have f1 : AM h x v o (nI 3) := ⟨r11, r12, r13⟩
  obtain ⟨g1, t1, q1⟩ := p_namesSize3 (d := d + 0) (L := L) (n := n) hx w1 (by omega) f1
  have f2 := AM_fr t1.1 f1
  obtain ⟨r21, r22, r23⟩ := f2
  have f2 : AM g1 x v o (nI 3) := ⟨r21, r22, r23⟩
  refine ⟨g1, t1, fun Q => ?_⟩
  rw [e_X8_sizeOf]
  simp +decide only [s_X8_sizeOf_0, s_X8_sizeOf_1, s_X8_sizeOf_4, s_X8_sizeOf_6, s_X8_sizeOf_7, s_X8_sizeOf_8, s_X8_sizeOf_9, s_X8_sizeOf_40, s_X8_sizeOf_41, s_X8_sizeOf_43, s_X8_sizeOf_46, s_X8_sizeOf_47, s_X8_sizeOf_48, s_X8_sizeOf_51, s_X8_sizeOf_52, s_X8_sizeOf_53, s_X8_sizeOf_54, s_X8_sizeOf_55, s_X8_sizeOf_58, s_X8_sizeOf_59, s_X8_sizeOf_60, s_X8_sizeOf_62, s_X8_sizeOf_65, s_X8_sizeOf_66, s_X8_sizeOf_67, s_X8_sizeOf_68, s_X8_sizeOf_71, s_X8_sizeOf_72, s_X8_sizeOf_73, s_X8_sizeOf_74, s_X8_sizeOf_75, s_X8_sizeOf_78, kS_106, rS_106_0, rS_106_3, rS_106_4, rS_106_5, rS_106_6, rS_106_7, rS_106_11, kS_107, lS_107, kS_108, lS_108, kS_109, lS_109, kS_110, lS_110, kS_111, lS_111, kS_112, lS_112, kS_113, lS_113, r11, r12, r13, q1, r21, r22, r23, nI_add, nI_lite, show 14 + x < 1600 by omega, show 21 + x < 1600 by omega, show 35 + x < 1600 by omega, Option.toList_none, Option.toList_some, List.cons_append, List.nil_append, Nat.reduceLT, cl_tl0, cl_tl1, rfv_some, if_true, if_false, or_true, true_or, eq_self, ite_true, ite_false, and_true, true_and, not_true_eq_false, not_false_eq_true]
theorem p_sizeOf4 {d L n x : Nat} {h : mMem} {v o : Int32} (hx : x < 7) (hn : h 106 12 = nI n) (n1 : n < 9) (f1 : AM h x v o (nI 4)) : Sp (d + 6) M_X8_sizeOf [.ref 106, .int (nI x)] L h (some (.int (v - nI 100))) (TrM h n [13, 10]) := by
  have w1 := hn
  obtain ⟨r11, r12, r13⟩ := f1
  have f1 : AM h x v o (nI 4) := ⟨r11, r12, r13⟩
  obtain ⟨g1, t1, q1⟩ := p_loansSize (d := d + 2) (L := L) (n := n) hx w1 (by omega) f1
  have f2 := AM_fr t1.1 f1
  obtain ⟨r21, r22, r23⟩ := f2
  have f2 : AM g1 x v o (nI 4) := ⟨r21, r22, r23⟩
  refine ⟨g1, t1, fun Q => ?_⟩
  rw [e_X8_sizeOf]
  simp +decide only [s_X8_sizeOf_0, s_X8_sizeOf_1, s_X8_sizeOf_4, s_X8_sizeOf_6, s_X8_sizeOf_7, s_X8_sizeOf_8, s_X8_sizeOf_9, s_X8_sizeOf_40, s_X8_sizeOf_41, s_X8_sizeOf_43, s_X8_sizeOf_46, s_X8_sizeOf_47, s_X8_sizeOf_48, s_X8_sizeOf_51, s_X8_sizeOf_52, s_X8_sizeOf_53, s_X8_sizeOf_54, s_X8_sizeOf_55, s_X8_sizeOf_58, s_X8_sizeOf_59, s_X8_sizeOf_60, s_X8_sizeOf_62, s_X8_sizeOf_65, s_X8_sizeOf_66, s_X8_sizeOf_67, s_X8_sizeOf_68, s_X8_sizeOf_71, s_X8_sizeOf_72, s_X8_sizeOf_73, s_X8_sizeOf_74, s_X8_sizeOf_75, s_X8_sizeOf_78, kS_106, rS_106_0, rS_106_3, rS_106_4, rS_106_5, rS_106_6, rS_106_7, rS_106_11, kS_107, lS_107, kS_108, lS_108, kS_109, lS_109, kS_110, lS_110, kS_111, lS_111, kS_112, lS_112, kS_113, lS_113, r11, r12, r13, q1, r21, r22, r23, nI_add, nI_lite, show 14 + x < 1600 by omega, show 21 + x < 1600 by omega, show 35 + x < 1600 by omega, Option.toList_none, Option.toList_some, List.cons_append, List.nil_append, Nat.reduceLT, cl_tl0, cl_tl1, rfv_some, if_true, if_false, or_true, true_or, eq_self, ite_true, ite_false, and_true, true_and, not_true_eq_false, not_false_eq_true]
theorem p_sizeOf5 {d L n x : Nat} {h : mMem} {v o : Int32} (hx : x < 7) (hn : h 106 12 = nI n) (n1 : n < 9) (f1 : AM h x v o (nI 5)) : Sp (d + 6) M_X8_sizeOf [.ref 106, .int (nI x)] L h (some (.int (nI 2 * (v - nI 100)))) (TrM h n [14, 13, 10]) := by
  have w1 := hn
  obtain ⟨r11, r12, r13⟩ := f1
  have f1 : AM h x v o (nI 5) := ⟨r11, r12, r13⟩
  obtain ⟨g1, t1, q1⟩ := p_mbegin (d := d + 4) (L := L) (n := n) (b := 14) w1 (by omega)
  have f2 := AM_fr t1.1 f1
  obtain ⟨r21, r22, r23⟩ := f2
  have f2 : AM g1 x v o (nI 5) := ⟨r21, r22, r23⟩
  have w2 : g1 106 12 = nI (n + 1) := t1.2.1
  obtain ⟨g2, t2, q2⟩ := p_loansSize (d := d + 2) (L := L) (n := n + 1) hx w2 (by omega) f2
  have f3 := AM_fr t2.1 f2
  obtain ⟨r31, r32, r33⟩ := f3
  have f3 : AM g2 x v o (nI 5) := ⟨r31, r32, r33⟩
  refine ⟨g2, TrM_t (l := [14]) t1 t2, fun Q => ?_⟩
  rw [e_X8_sizeOf]
  simp +decide only [s_X8_sizeOf_0, s_X8_sizeOf_1, s_X8_sizeOf_4, s_X8_sizeOf_6, s_X8_sizeOf_7, s_X8_sizeOf_8, s_X8_sizeOf_9, s_X8_sizeOf_40, s_X8_sizeOf_41, s_X8_sizeOf_43, s_X8_sizeOf_46, s_X8_sizeOf_47, s_X8_sizeOf_48, s_X8_sizeOf_51, s_X8_sizeOf_52, s_X8_sizeOf_53, s_X8_sizeOf_54, s_X8_sizeOf_55, s_X8_sizeOf_58, s_X8_sizeOf_59, s_X8_sizeOf_60, s_X8_sizeOf_62, s_X8_sizeOf_65, s_X8_sizeOf_66, s_X8_sizeOf_67, s_X8_sizeOf_68, s_X8_sizeOf_71, s_X8_sizeOf_72, s_X8_sizeOf_73, s_X8_sizeOf_74, s_X8_sizeOf_75, s_X8_sizeOf_78, kS_106, rS_106_0, rS_106_3, rS_106_4, rS_106_5, rS_106_6, rS_106_7, rS_106_11, kS_107, lS_107, kS_108, lS_108, kS_109, lS_109, kS_110, lS_110, kS_111, lS_111, kS_112, lS_112, kS_113, lS_113, r11, r12, r13, q1, r21, r22, r23, q2, r31, r32, r33, nI_add, nI_lite, show 14 + x < 1600 by omega, show 21 + x < 1600 by omega, show 35 + x < 1600 by omega, Option.toList_none, Option.toList_some, List.cons_append, List.nil_append, Nat.reduceLT, cl_tl0, cl_tl1, rfv_some, if_true, if_false, or_true, true_or, eq_self, ite_true, ite_false, and_true, true_and, not_true_eq_false, not_false_eq_true]
theorem p_loansMark4 {d L n x : Nat} {h : mMem} {v o : Int32} (hx : x < 7) (hn : h 106 12 = nI n) (n1 : n < 5) (f1 : AM h x v o (nI 4)) : Sp (d + 7) M_X8_loansMark [.ref 106, .int (nI x)] L h (some (.int (nI x - (v - nI 100)))) (TrM h n [23, 20, 13, 10]) := by
  have w1 := hn
  obtain ⟨r11, r12, r13⟩ := f1
  have f1 : AM h x v o (nI 4) := ⟨r11, r12, r13⟩
  obtain ⟨g1, t1, q1⟩ := p_mbegin (d := d + 5) (L := L) (n := n) (b := 23) w1 (by omega)
  have f2 := AM_fr t1.1 f1
  obtain ⟨r21, r22, r23⟩ := f2
  have f2 : AM g1 x v o (nI 4) := ⟨r21, r22, r23⟩
  have w2 : g1 106 12 = nI (n + 1) := t1.2.1
  obtain ⟨g2, t2, q2⟩ := p_lentMark (d := d + 4) (L := L) (n := n + 1) hx w2 (by omega) f2
  have f3 := AM_fr t2.1 f2
  obtain ⟨r31, r32, r33⟩ := f3
  have f3 : AM g2 x v o (nI 4) := ⟨r31, r32, r33⟩
  have w3 : g2 106 12 = nI (n + 2) := t2.2.1
  obtain ⟨g3, t3, q3⟩ := p_sizeOf4 (d := d + 0) (L := L) (n := n + 2) hx w3 (by omega) f3
  have f4 := AM_fr t3.1 f3
  obtain ⟨r41, r42, r43⟩ := f4
  have f4 : AM g3 x v o (nI 4) := ⟨r41, r42, r43⟩
  refine ⟨g3, TrM_t (l := [23]) t1 (TrM_t (l := [20]) t2 t3), fun Q => ?_⟩
  rw [e_X8_loansMark]
  simp +decide only [s_X8_loansMark_0, s_X8_loansMark_1, s_X8_loansMark_3, s_X8_loansMark_6, s_X8_loansMark_7, s_X8_loansMark_8, s_X8_loansMark_11, s_X8_loansMark_12, s_X8_loansMark_13, s_X8_loansMark_14, s_X8_loansMark_15, s_X8_loansMark_18, s_X8_loansMark_19, kS_106, rS_106_0, rS_106_3, rS_106_4, rS_106_5, rS_106_6, rS_106_7, rS_106_11, kS_107, lS_107, kS_108, lS_108, kS_109, lS_109, kS_110, lS_110, kS_111, lS_111, kS_112, lS_112, kS_113, lS_113, r11, r12, r13, q1, r21, r22, r23, q2, r31, r32, r33, q3, r41, r42, r43, nI_add, nI_lite, show 14 + x < 1600 by omega, show 21 + x < 1600 by omega, show 35 + x < 1600 by omega, Option.toList_none, Option.toList_some, List.cons_append, List.nil_append, Nat.reduceLT, cl_tl0, cl_tl1, rfv_some, if_true, if_false, or_true, true_or, eq_self, ite_true, ite_false, and_true, true_and, not_true_eq_false, not_false_eq_true]
theorem p_loansMark5 {d L n x : Nat} {h : mMem} {v o : Int32} (hx : x < 7) (hn : h 106 12 = nI n) (n1 : n < 5) (f1 : AM h x v o (nI 5)) : Sp (d + 7) M_X8_loansMark [.ref 106, .int (nI x)] L h (some (.int (nI x - (nI 2 * (v - nI 100))))) (TrM h n [23, 20, 14, 13, 10]) := by
  have w1 := hn
  obtain ⟨r11, r12, r13⟩ := f1
  have f1 : AM h x v o (nI 5) := ⟨r11, r12, r13⟩
  obtain ⟨g1, t1, q1⟩ := p_mbegin (d := d + 5) (L := L) (n := n) (b := 23) w1 (by omega)
  have f2 := AM_fr t1.1 f1
  obtain ⟨r21, r22, r23⟩ := f2
  have f2 : AM g1 x v o (nI 5) := ⟨r21, r22, r23⟩
  have w2 : g1 106 12 = nI (n + 1) := t1.2.1
  obtain ⟨g2, t2, q2⟩ := p_lentMark (d := d + 4) (L := L) (n := n + 1) hx w2 (by omega) f2
  have f3 := AM_fr t2.1 f2
  obtain ⟨r31, r32, r33⟩ := f3
  have f3 : AM g2 x v o (nI 5) := ⟨r31, r32, r33⟩
  have w3 : g2 106 12 = nI (n + 2) := t2.2.1
  obtain ⟨g3, t3, q3⟩ := p_sizeOf5 (d := d + 0) (L := L) (n := n + 2) hx w3 (by omega) f3
  have f4 := AM_fr t3.1 f3
  obtain ⟨r41, r42, r43⟩ := f4
  have f4 : AM g3 x v o (nI 5) := ⟨r41, r42, r43⟩
  refine ⟨g3, TrM_t (l := [23]) t1 (TrM_t (l := [20]) t2 t3), fun Q => ?_⟩
  rw [e_X8_loansMark]
  simp +decide only [s_X8_loansMark_0, s_X8_loansMark_1, s_X8_loansMark_3, s_X8_loansMark_6, s_X8_loansMark_7, s_X8_loansMark_8, s_X8_loansMark_11, s_X8_loansMark_12, s_X8_loansMark_13, s_X8_loansMark_14, s_X8_loansMark_15, s_X8_loansMark_18, s_X8_loansMark_19, kS_106, rS_106_0, rS_106_3, rS_106_4, rS_106_5, rS_106_6, rS_106_7, rS_106_11, kS_107, lS_107, kS_108, lS_108, kS_109, lS_109, kS_110, lS_110, kS_111, lS_111, kS_112, lS_112, kS_113, lS_113, r11, r12, r13, q1, r21, r22, r23, q2, r31, r32, r33, q3, r41, r42, r43, nI_add, nI_lite, show 14 + x < 1600 by omega, show 21 + x < 1600 by omega, show 35 + x < 1600 by omega, Option.toList_none, Option.toList_some, List.cons_append, List.nil_append, Nat.reduceLT, cl_tl0, cl_tl1, rfv_some, if_true, if_false, or_true, true_or, eq_self, ite_true, ite_false, and_true, true_and, not_true_eq_false, not_false_eq_true]
