/-! ===== pure: house: the model reads all ===== -/
theorem rlp_f {N : Nat} {b : Nat → Nat} {m : Nat} {x : (Nat × Nat) × (Nat → Nat)} (h : x.1.2 ≠ 0) : rlp N b m x = x := by
  cases m with
  | zero => rfl
  | succ m =>
    unfold rlp
    rw [if_neg (fun e => h e.1)]
theorem hlp_f {N : Nat} {b : Nat → Nat} {m : Nat} {x : (Nat × Nat) × (Nat → Nat)} (h : x.1.2 ≠ 0) : hlp N b m x = x := by
  cases m with
  | zero => rfl
  | succ m =>
    unfold hlp
    rw [if_neg (fun e => h e.1)]
theorem rst_n {N : Nat} {b : Nat → Nat} {x : (Nat × Nat) × (Nat → Nat)} (h0 : x.1.2 = 0) (h : ksB N b x.1.1 = 0) : rst' N b x = ((x.1.1, 1), x.2) := by
  have e1 : rq1 N b (x.2 1) x.1 = (x.1.1, 1) := by
    unfold rq1 stL
    rw [if_pos h0, decide_eq_false (by simp [h])]
    rfl
  have n1 : (rq1 N b (x.2 1) x.1).2 ≠ 0 := by rw [e1]; show 1 ≠ 0; omega
  unfold rst'
  rw [rq7_1 n1, e1, if_neg (show ¬ (x.1.1, 1).2 = 0 from by show ¬ 1 = 0; omega)]
theorem hst_n {N : Nat} {b : Nat → Nat} {x : (Nat × Nat) × (Nat → Nat)} (h0 : x.1.2 = 0) (h : sgB N b x.1.1 104 = false) : hst N b x = ((x.1.1, 1), x.2) := by
  have e1 : hq1 N b (x.2 0) x.1 = (x.1.1, 1) := by
    unfold hq1 stL
    rw [if_pos h0, h]
    rfl
  have n1 : (hq1 N b (x.2 0) x.1).2 ≠ 0 := by rw [e1]; show 1 ≠ 0; omega
  unfold hst
  rw [hq5_1 n1, e1, if_neg (show ¬ (x.1.1, 1).2 = 0 from by show ¬ 1 = 0; omega)]
theorem ks_lt {N : Nat} {b : Nat → Nat} {p : Nat} (h : ksB N b p ≠ 0) : p < N := by
  unfold ksB at h
  by_cases h1 : p < N
  · exact h1
  · rw [if_neg h1] at h
    exact absurd rfl h
theorem p_mhlp {d L N : Nat} {b : Nat → Nat} : ∀ m x g, (x.1.2 = 0 → 6 ≤ x.2 0 + m) → HX N x → MT g N b → MS g x.1 → (x.1.2 = 0 → MR g 27 x.2) → ∃ g', (MS g' (hlp N b m x).1 ∧ ((hlp N b m x).1.2 = 0 → MR g' 27 (hlp N b m x).2) ∧ Fr aN g g') ∧ ∀ Q, Wp (d + 4) M_X8_reads none 47 [.ref 106, .int (bI (decide (x.1.2 = 0)))] [] (S0 L, g) Q = Wp (d + 4) M_X8_reads none 68 [.ref 106, .int (bI (decide ((hlp N b m x).1.2 = 0)))] [] (S0 L, g') Q := by
  intro m
  induction m with
  | zero =>
    intro x g h6 hx k ms mr
    have h5 := hx.2.1.1.1
    have h0 : x.1.2 ≠ 0 := fun e => by have := h6 e; omega
    refine ⟨g, ⟨ms, fun e => absurd e h0, Fr_r⟩, fun Q => ?_⟩
    show _ = Wp (d + 4) M_X8_reads none 68 [.ref 106, .int (bI (decide (x.1.2 = 0)))] [] (S0 L, g) Q
    rw [decide_eq_false h0, s_X8_reads_47]
    simp only [s_X8_reads_0, s_X8_reads_1, s_X8_reads_3, s_X8_reads_5, s_X8_reads_8, s_X8_reads_9, s_X8_reads_12, s_X8_reads_15, s_X8_reads_16, s_X8_reads_17, s_X8_reads_18, s_X8_reads_19, s_X8_reads_22, s_X8_reads_25, s_X8_reads_26, s_X8_reads_27, s_X8_reads_30, s_X8_reads_31, s_X8_reads_33, s_X8_reads_36, s_X8_reads_39, s_X8_reads_40, s_X8_reads_41, s_X8_reads_44, s_X8_reads_45, s_X8_reads_46, s_X8_reads_48, s_X8_reads_51, s_X8_reads_52, s_X8_reads_54, s_X8_reads_57, s_X8_reads_60, s_X8_reads_61, s_X8_reads_64, s_X8_reads_65, s_X8_reads_69, s_X8_reads_72, s_X8_reads_73, s_X8_reads_74, s_X8_reads_75, s_X8_reads_78, s_X8_reads_81, s_X8_reads_82, s_X8_reads_83, s_X8_reads_86, s_X8_reads_88, s_X8_reads_91, s_X8_reads_92, s_X8_reads_95, s_X8_reads_98, s_X8_reads_99, s_X8_reads_102, s_X8_reads_103, s_X8_reads_106, s_X8_reads_107, s_X8_reads_110, s_X8_reads_111, s_X8_reads_114, s_X8_reads_115, s_X8_reads_118, s_X8_reads_121, s_X8_reads_122, s_X8_reads_123, s_X8_reads_126, s_X8_reads_129, s_X8_reads_130, s_X8_reads_133, s_X8_reads_134, bI_f, z_0, cl_tl0, cl_tl1, rfv_some, if_true, if_false, or_true, true_or, eq_self, ite_true, ite_false, and_true, true_and, not_true_eq_false, not_false_eq_true]
  | succ m ih =>
    intro x g h6 hx k ms mr
    by_cases h0 : x.1.2 = 0
    rotate_left
    · rw [hlp_f h0]
      refine ⟨g, ⟨ms, fun e => absurd e h0, Fr_r⟩, fun Q => ?_⟩
      rw [decide_eq_false h0, s_X8_reads_47]
      simp only [s_X8_reads_0, s_X8_reads_1, s_X8_reads_3, s_X8_reads_5, s_X8_reads_8, s_X8_reads_9, s_X8_reads_12, s_X8_reads_15, s_X8_reads_16, s_X8_reads_17, s_X8_reads_18, s_X8_reads_19, s_X8_reads_22, s_X8_reads_25, s_X8_reads_26, s_X8_reads_27, s_X8_reads_30, s_X8_reads_31, s_X8_reads_33, s_X8_reads_36, s_X8_reads_39, s_X8_reads_40, s_X8_reads_41, s_X8_reads_44, s_X8_reads_45, s_X8_reads_46, s_X8_reads_48, s_X8_reads_51, s_X8_reads_52, s_X8_reads_54, s_X8_reads_57, s_X8_reads_60, s_X8_reads_61, s_X8_reads_64, s_X8_reads_65, s_X8_reads_69, s_X8_reads_72, s_X8_reads_73, s_X8_reads_74, s_X8_reads_75, s_X8_reads_78, s_X8_reads_81, s_X8_reads_82, s_X8_reads_83, s_X8_reads_86, s_X8_reads_88, s_X8_reads_91, s_X8_reads_92, s_X8_reads_95, s_X8_reads_98, s_X8_reads_99, s_X8_reads_102, s_X8_reads_103, s_X8_reads_106, s_X8_reads_107, s_X8_reads_110, s_X8_reads_111, s_X8_reads_114, s_X8_reads_115, s_X8_reads_118, s_X8_reads_121, s_X8_reads_122, s_X8_reads_123, s_X8_reads_126, s_X8_reads_129, s_X8_reads_130, s_X8_reads_133, s_X8_reads_134, bI_f, z_0, cl_tl0, cl_tl1, rfv_some, if_true, if_false, or_true, true_or, eq_self, ite_true, ite_false, and_true, true_and, not_true_eq_false, not_false_eq_true]
    have e1 := fun Q => p_isLetter (d := d + 3) (L := L) (c := 104) (Q := Q) k ms hx.1.1 (by omega)
    unfold hlp
    cases hs : sgB N b x.1.1 104
    · rw [hs] at e1
      rw [if_neg (by simp)]
      refine ⟨g, ⟨ms, mr, Fr_r⟩, fun Q => ?_⟩
      rw [decide_eq_true h0, s_X8_reads_47]
      simp only [s_X8_reads_0, s_X8_reads_1, s_X8_reads_3, s_X8_reads_5, s_X8_reads_8, s_X8_reads_9, s_X8_reads_12, s_X8_reads_15, s_X8_reads_16, s_X8_reads_17, s_X8_reads_18, s_X8_reads_19, s_X8_reads_22, s_X8_reads_25, s_X8_reads_26, s_X8_reads_27, s_X8_reads_30, s_X8_reads_31, s_X8_reads_33, s_X8_reads_36, s_X8_reads_39, s_X8_reads_40, s_X8_reads_41, s_X8_reads_44, s_X8_reads_45, s_X8_reads_46, s_X8_reads_48, s_X8_reads_51, s_X8_reads_52, s_X8_reads_54, s_X8_reads_57, s_X8_reads_60, s_X8_reads_61, s_X8_reads_64, s_X8_reads_65, s_X8_reads_69, s_X8_reads_72, s_X8_reads_73, s_X8_reads_74, s_X8_reads_75, s_X8_reads_78, s_X8_reads_81, s_X8_reads_82, s_X8_reads_83, s_X8_reads_86, s_X8_reads_88, s_X8_reads_91, s_X8_reads_92, s_X8_reads_95, s_X8_reads_98, s_X8_reads_99, s_X8_reads_102, s_X8_reads_103, s_X8_reads_106, s_X8_reads_107, s_X8_reads_110, s_X8_reads_111, s_X8_reads_114, s_X8_reads_115, s_X8_reads_118, s_X8_reads_121, s_X8_reads_122, s_X8_reads_123, s_X8_reads_126, s_X8_reads_129, s_X8_reads_130, s_X8_reads_133, s_X8_reads_134, kS_106, rS_106_0, rS_106_3, rS_106_4, rS_106_5, rS_106_6, rS_106_7, rS_106_11, kS_107, lS_107, kS_108, lS_108, kS_109, lS_109, kS_110, lS_110, kS_111, lS_111, kS_112, lS_112, kS_113, lS_113, e1, bI_f, bI_t, z_0, z_1, Option.toList_some, List.cons_append, List.nil_append, cl_tl0, cl_tl1, rfv_some, if_true, if_false, or_true, true_or, eq_self, ite_true, ite_false, and_true, true_and, not_true_eq_false, not_false_eq_true]
    · rw [hs] at e1
      rw [if_pos ⟨h0, rfl⟩]
      obtain ⟨g1, ⟨⟨m1, r1⟩, f1⟩, e2⟩ := p_readsHeir (d := d) (L := L) (s := x.1) (t := x.2) k ms hx.1 h0 hs (mr h0) hx.2.1.1.1
      have hp := hst_p (b := b) hx
      obtain ⟨g2, ⟨m2, r2, f2⟩, e3⟩ := ih (hst N b x) g1 (fun e => by have a1 := h6 h0; have a2 := hp.2 e; omega) hp.1 (MT_fr f1 k) m1 r1
      refine ⟨g2, ⟨m2, r2, Fr_t f1 f2⟩, fun Q => ?_⟩
      rw [decide_eq_true h0, s_X8_reads_47]
      have e2' : ∀ Q, WP (d + 4) M_X8_readsHeir [.ref 106] (S0 L, g) Q = Q (some (.int (bI (decide ((hst N b x).1.2 = 0))))) (S0 L, g1) := e2
      simp only [s_X8_reads_0, s_X8_reads_1, s_X8_reads_3, s_X8_reads_5, s_X8_reads_8, s_X8_reads_9, s_X8_reads_12, s_X8_reads_15, s_X8_reads_16, s_X8_reads_17, s_X8_reads_18, s_X8_reads_19, s_X8_reads_22, s_X8_reads_25, s_X8_reads_26, s_X8_reads_27, s_X8_reads_30, s_X8_reads_31, s_X8_reads_33, s_X8_reads_36, s_X8_reads_39, s_X8_reads_40, s_X8_reads_41, s_X8_reads_44, s_X8_reads_45, s_X8_reads_46, s_X8_reads_48, s_X8_reads_51, s_X8_reads_52, s_X8_reads_54, s_X8_reads_57, s_X8_reads_60, s_X8_reads_61, s_X8_reads_64, s_X8_reads_65, s_X8_reads_69, s_X8_reads_72, s_X8_reads_73, s_X8_reads_74, s_X8_reads_75, s_X8_reads_78, s_X8_reads_81, s_X8_reads_82, s_X8_reads_83, s_X8_reads_86, s_X8_reads_88, s_X8_reads_91, s_X8_reads_92, s_X8_reads_95, s_X8_reads_98, s_X8_reads_99, s_X8_reads_102, s_X8_reads_103, s_X8_reads_106, s_X8_reads_107, s_X8_reads_110, s_X8_reads_111, s_X8_reads_114, s_X8_reads_115, s_X8_reads_118, s_X8_reads_121, s_X8_reads_122, s_X8_reads_123, s_X8_reads_126, s_X8_reads_129, s_X8_reads_130, s_X8_reads_133, s_X8_reads_134, kS_106, rS_106_0, rS_106_3, rS_106_4, rS_106_5, rS_106_6, rS_106_7, rS_106_11, kS_107, lS_107, kS_108, lS_108, kS_109, lS_109, kS_110, lS_110, kS_111, lS_111, kS_112, lS_112, kS_113, lS_113, e1, e2', e3, bI_t, z_1, Option.toList_some, List.cons_append, List.nil_append, cl_tl0, cl_tl1, rfv_some, if_true, if_false, or_true, true_or, eq_self, ite_true, ite_false, and_true, true_and, not_true_eq_false, not_false_eq_true]
theorem p_mrlp {d L N : Nat} {b : Nat → Nat} : ∀ m x g, (x.1.2 = 0 → 8 ≤ x.2 1 + m) → RX N x → MT g N b → MS g x.1 → (x.1.2 = 0 → MR g 27 x.2) → ∃ g', (MS g' (rlp N b m x).1 ∧ ((rlp N b m x).1.2 = 0 → MR g' 27 (rlp N b m x).2) ∧ Fr aN g g') ∧ ∀ Q, Wp (d + 4) M_X8_reads none 87 [.ref 106, .int (bI (decide (x.1.2 = 0)))] [] (S0 L, g) Q = Q (some (.int (bI (decide ((rlp N b m x).1.2 = 0))))) (S0 L, g') := by
  intro m
  induction m with
  | zero =>
    intro x g h8 hx k ms mr
    have h7 := hx.2.1.1.2
    have h0 : x.1.2 ≠ 0 := fun e => by have := h8 e; omega
    rw [rlp_f h0]
    refine ⟨g, ⟨ms, fun e => absurd e h0, Fr_r⟩, fun Q => ?_⟩
    rw [decide_eq_false h0, s_X8_reads_87]
    simp only [s_X8_reads_0, s_X8_reads_1, s_X8_reads_3, s_X8_reads_5, s_X8_reads_8, s_X8_reads_9, s_X8_reads_12, s_X8_reads_15, s_X8_reads_16, s_X8_reads_17, s_X8_reads_18, s_X8_reads_19, s_X8_reads_22, s_X8_reads_25, s_X8_reads_26, s_X8_reads_27, s_X8_reads_30, s_X8_reads_31, s_X8_reads_33, s_X8_reads_36, s_X8_reads_39, s_X8_reads_40, s_X8_reads_41, s_X8_reads_44, s_X8_reads_45, s_X8_reads_46, s_X8_reads_48, s_X8_reads_51, s_X8_reads_52, s_X8_reads_54, s_X8_reads_57, s_X8_reads_60, s_X8_reads_61, s_X8_reads_64, s_X8_reads_65, s_X8_reads_68, s_X8_reads_69, s_X8_reads_72, s_X8_reads_73, s_X8_reads_74, s_X8_reads_75, s_X8_reads_78, s_X8_reads_81, s_X8_reads_82, s_X8_reads_83, s_X8_reads_86, s_X8_reads_88, s_X8_reads_91, s_X8_reads_92, s_X8_reads_95, s_X8_reads_98, s_X8_reads_99, s_X8_reads_102, s_X8_reads_103, s_X8_reads_106, s_X8_reads_107, s_X8_reads_110, s_X8_reads_111, s_X8_reads_114, s_X8_reads_115, s_X8_reads_118, s_X8_reads_121, s_X8_reads_122, s_X8_reads_123, s_X8_reads_126, s_X8_reads_129, s_X8_reads_130, s_X8_reads_133, s_X8_reads_134, bI_f, z_0, n01_0, cl_tl0, cl_tl1, rfv_some, if_true, if_false, or_true, true_or, eq_self, ite_true, ite_false, and_true, true_and, not_true_eq_false, not_false_eq_true]
  | succ m ih =>
    intro x g h8 hx k ms mr
    have kN := k.1
    have k2 := k.2.1
    have o1 := hx.1.1
    by_cases h0 : x.1.2 = 0
    rotate_left
    · rw [rlp_f h0]
      refine ⟨g, ⟨ms, fun e => absurd e h0, Fr_r⟩, fun Q => ?_⟩
      rw [decide_eq_false h0, s_X8_reads_87]
      simp only [s_X8_reads_0, s_X8_reads_1, s_X8_reads_3, s_X8_reads_5, s_X8_reads_8, s_X8_reads_9, s_X8_reads_12, s_X8_reads_15, s_X8_reads_16, s_X8_reads_17, s_X8_reads_18, s_X8_reads_19, s_X8_reads_22, s_X8_reads_25, s_X8_reads_26, s_X8_reads_27, s_X8_reads_30, s_X8_reads_31, s_X8_reads_33, s_X8_reads_36, s_X8_reads_39, s_X8_reads_40, s_X8_reads_41, s_X8_reads_44, s_X8_reads_45, s_X8_reads_46, s_X8_reads_48, s_X8_reads_51, s_X8_reads_52, s_X8_reads_54, s_X8_reads_57, s_X8_reads_60, s_X8_reads_61, s_X8_reads_64, s_X8_reads_65, s_X8_reads_68, s_X8_reads_69, s_X8_reads_72, s_X8_reads_73, s_X8_reads_74, s_X8_reads_75, s_X8_reads_78, s_X8_reads_81, s_X8_reads_82, s_X8_reads_83, s_X8_reads_86, s_X8_reads_88, s_X8_reads_91, s_X8_reads_92, s_X8_reads_95, s_X8_reads_98, s_X8_reads_99, s_X8_reads_102, s_X8_reads_103, s_X8_reads_106, s_X8_reads_107, s_X8_reads_110, s_X8_reads_111, s_X8_reads_114, s_X8_reads_115, s_X8_reads_118, s_X8_reads_121, s_X8_reads_122, s_X8_reads_123, s_X8_reads_126, s_X8_reads_129, s_X8_reads_130, s_X8_reads_133, s_X8_reads_134, bI_f, z_0, n01_0, cl_tl0, cl_tl1, rfv_some, if_true, if_false, or_true, true_or, eq_self, ite_true, ite_false, and_true, true_and, not_true_eq_false, not_false_eq_true]
    have e1 := fun Q => p_isSort (d := d + 2) (L := L) (Q := Q) k ms o1
    have le : (nI x.1.1 = nI N) = (x.1.1 = N) := f_eq (by omega) (by omega)
    unfold rlp
    by_cases hs : ksB N b x.1.1 = 0
    · rw [decide_eq_false (by simp [hs])] at e1
      by_cases hN : x.1.1 = N
      · rw [if_neg (by omega)]
        refine ⟨g, ⟨ms, mr, Fr_r⟩, fun Q => ?_⟩
        rw [decide_eq_true h0, s_X8_reads_87]
        simp only [s_X8_reads_0, s_X8_reads_1, s_X8_reads_3, s_X8_reads_5, s_X8_reads_8, s_X8_reads_9, s_X8_reads_12, s_X8_reads_15, s_X8_reads_16, s_X8_reads_17, s_X8_reads_18, s_X8_reads_19, s_X8_reads_22, s_X8_reads_25, s_X8_reads_26, s_X8_reads_27, s_X8_reads_30, s_X8_reads_31, s_X8_reads_33, s_X8_reads_36, s_X8_reads_39, s_X8_reads_40, s_X8_reads_41, s_X8_reads_44, s_X8_reads_45, s_X8_reads_46, s_X8_reads_48, s_X8_reads_51, s_X8_reads_52, s_X8_reads_54, s_X8_reads_57, s_X8_reads_60, s_X8_reads_61, s_X8_reads_64, s_X8_reads_65, s_X8_reads_68, s_X8_reads_69, s_X8_reads_72, s_X8_reads_73, s_X8_reads_74, s_X8_reads_75, s_X8_reads_78, s_X8_reads_81, s_X8_reads_82, s_X8_reads_83, s_X8_reads_86, s_X8_reads_88, s_X8_reads_91, s_X8_reads_92, s_X8_reads_95, s_X8_reads_98, s_X8_reads_99, s_X8_reads_102, s_X8_reads_103, s_X8_reads_106, s_X8_reads_107, s_X8_reads_110, s_X8_reads_111, s_X8_reads_114, s_X8_reads_115, s_X8_reads_118, s_X8_reads_121, s_X8_reads_122, s_X8_reads_123, s_X8_reads_126, s_X8_reads_129, s_X8_reads_130, s_X8_reads_133, s_X8_reads_134, kS_106, rS_106_0, rS_106_3, rS_106_4, rS_106_5, rS_106_6, rS_106_7, rS_106_11, kS_107, lS_107, kS_108, lS_108, kS_109, lS_109, kS_110, lS_110, kS_111, lS_111, kS_112, lS_112, kS_113, lS_113, e1, ms.1, k2, le, eq_true hN, bI_f, bI_t, z_0, z_1, n01_1, Option.toList_some, List.cons_append, List.nil_append, cl_tl0, cl_tl1, rfv_some, if_true, if_false, or_true, true_or, eq_self, ite_true, ite_false, and_true, true_and, not_true_eq_false, not_false_eq_true]
      · rw [if_pos ⟨h0, by omega⟩, rst_n h0 hs, rlp_f (show ((x.1.1, 1), x.2).1.2 ≠ 0 from by show 1 ≠ 0; omega)]
        have w := MS_u ms 1
        refine ⟨_, ⟨w.1, (fun e => by cases e), aP_N w.2⟩, fun Q => ?_⟩
        rw [decide_eq_true h0, s_X8_reads_87, decide_eq_false (show ¬ ((x.1.1, 1), x.2).1.2 = 0 from by show ¬ 1 = 0; omega)]
        simp only [s_X8_reads_0, s_X8_reads_1, s_X8_reads_3, s_X8_reads_5, s_X8_reads_8, s_X8_reads_9, s_X8_reads_12, s_X8_reads_15, s_X8_reads_16, s_X8_reads_17, s_X8_reads_18, s_X8_reads_19, s_X8_reads_22, s_X8_reads_25, s_X8_reads_26, s_X8_reads_27, s_X8_reads_30, s_X8_reads_31, s_X8_reads_33, s_X8_reads_36, s_X8_reads_39, s_X8_reads_40, s_X8_reads_41, s_X8_reads_44, s_X8_reads_45, s_X8_reads_46, s_X8_reads_48, s_X8_reads_51, s_X8_reads_52, s_X8_reads_54, s_X8_reads_57, s_X8_reads_60, s_X8_reads_61, s_X8_reads_64, s_X8_reads_65, s_X8_reads_68, s_X8_reads_69, s_X8_reads_72, s_X8_reads_73, s_X8_reads_74, s_X8_reads_75, s_X8_reads_78, s_X8_reads_81, s_X8_reads_82, s_X8_reads_83, s_X8_reads_86, s_X8_reads_88, s_X8_reads_91, s_X8_reads_92, s_X8_reads_95, s_X8_reads_98, s_X8_reads_99, s_X8_reads_102, s_X8_reads_103, s_X8_reads_106, s_X8_reads_107, s_X8_reads_110, s_X8_reads_111, s_X8_reads_114, s_X8_reads_115, s_X8_reads_118, s_X8_reads_121, s_X8_reads_122, s_X8_reads_123, s_X8_reads_126, s_X8_reads_129, s_X8_reads_130, s_X8_reads_133, s_X8_reads_134, kS_106, rS_106_0, rS_106_3, rS_106_4, rS_106_5, rS_106_6, rS_106_7, rS_106_11, kS_107, lS_107, kS_108, lS_108, kS_109, lS_109, kS_110, lS_110, kS_111, lS_111, kS_112, lS_112, kS_113, lS_113, e1, ms.1, k2, le, eq_false hN, p_refuse, bI_f, bI_t, z_0, z_1, n01_0, Option.toList_some, List.cons_append, List.nil_append, cl_tl0, cl_tl1, rfv_some, if_true, if_false, or_true, true_or, eq_self, ite_true, ite_false, and_true, true_and, not_true_eq_false, not_false_eq_true]
    · rw [decide_eq_true hs] at e1
      rw [if_pos ⟨h0, ks_lt hs⟩]
      obtain ⟨g1, ⟨⟨m1, r1⟩, f1⟩, e2⟩ := p_readsRight (d := d) (L := L) (s := x.1) (t := x.2) k ms hx.1 h0 hs (mr h0) hx.2.1.1.1 hx.2.1.1.2 (hx.2.2 h0)
      have hp := rst_p (b := b) hx
      obtain ⟨g2, ⟨m2, r2, f2⟩, e3⟩ := ih (rst' N b x) g1 (fun e => by have a1 := h8 h0; have a2 := hp.2 e; omega) hp.1 (MT_fr f1 k) m1 r1
      refine ⟨g2, ⟨m2, r2, Fr_t f1 f2⟩, fun Q => ?_⟩
      rw [decide_eq_true h0, s_X8_reads_87]
      have e2' : ∀ Q, WP (d + 4) M_X8_readsRight [.ref 106] (S0 L, g) Q = Q (some (.int (bI (decide ((rst' N b x).1.2 = 0))))) (S0 L, g1) := e2
      simp only [s_X8_reads_0, s_X8_reads_1, s_X8_reads_3, s_X8_reads_5, s_X8_reads_8, s_X8_reads_9, s_X8_reads_12, s_X8_reads_15, s_X8_reads_16, s_X8_reads_17, s_X8_reads_18, s_X8_reads_19, s_X8_reads_22, s_X8_reads_25, s_X8_reads_26, s_X8_reads_27, s_X8_reads_30, s_X8_reads_31, s_X8_reads_33, s_X8_reads_36, s_X8_reads_39, s_X8_reads_40, s_X8_reads_41, s_X8_reads_44, s_X8_reads_45, s_X8_reads_46, s_X8_reads_48, s_X8_reads_51, s_X8_reads_52, s_X8_reads_54, s_X8_reads_57, s_X8_reads_60, s_X8_reads_61, s_X8_reads_64, s_X8_reads_65, s_X8_reads_68, s_X8_reads_69, s_X8_reads_72, s_X8_reads_73, s_X8_reads_74, s_X8_reads_75, s_X8_reads_78, s_X8_reads_81, s_X8_reads_82, s_X8_reads_83, s_X8_reads_86, s_X8_reads_88, s_X8_reads_91, s_X8_reads_92, s_X8_reads_95, s_X8_reads_98, s_X8_reads_99, s_X8_reads_102, s_X8_reads_103, s_X8_reads_106, s_X8_reads_107, s_X8_reads_110, s_X8_reads_111, s_X8_reads_114, s_X8_reads_115, s_X8_reads_118, s_X8_reads_121, s_X8_reads_122, s_X8_reads_123, s_X8_reads_126, s_X8_reads_129, s_X8_reads_130, s_X8_reads_133, s_X8_reads_134, kS_106, rS_106_0, rS_106_3, rS_106_4, rS_106_5, rS_106_6, rS_106_7, rS_106_11, kS_107, lS_107, kS_108, lS_108, kS_109, lS_109, kS_110, lS_110, kS_111, lS_111, kS_112, lS_112, kS_113, lS_113, e1, e2', e3, bI_t, z_1, Option.toList_some, List.cons_append, List.nil_append, cl_tl0, cl_tl1, rfv_some, if_true, if_false, or_true, true_or, eq_self, ite_true, ite_false, and_true, true_and, not_true_eq_false, not_false_eq_true]
theorem p_reads {d L N : Nat} {b : Nat → Nat} {g : mMem} (k : MT g N b) : Sp (d + 5) M_X8_reads [.ref 106] L g (some (.int (bI (decide ((told N b).1.2 = 0))))) (fun g' => (MS g' (told N b).1 ∧ ((told N b).1.2 = 0 → MR g' 27 (told N b).2)) ∧ Fr aN g g') := by
  obtain ⟨g1, ⟨f1, n1⟩, e1⟩ := lp (N := 50) (f := fun _ (a : Unit) => a) (I := fun i _ g' => Fr (tw 27) g g' ∧ ∀ j, j < i → g' 107 (1350 + j) = nI 0) (W := fun i _ g' Q => Wp (d + 4) M_X8_reads none 2 [.ref 106, .int (nI i)] [] (S0 L, g') Q) (by
    rintro i a g' hi ⟨f', n'⟩
    refine ⟨up2 g' 107 (1350 + i) (nI 0), ⟨Fr_t f' (Fr_u ⟨rfl, by omega, by omega⟩), fun j hj => ?_⟩, fun Q => ?_⟩
    · by_cases e : j = i
      · rw [e, up2_a]
      · rw [up2_n (by omega), n' j (by omega)]
    · rw [s_X8_reads_2]
      simp only [s_X8_reads_0, s_X8_reads_1, s_X8_reads_3, s_X8_reads_5, s_X8_reads_8, s_X8_reads_9, s_X8_reads_12, s_X8_reads_15, s_X8_reads_16, s_X8_reads_17, s_X8_reads_18, s_X8_reads_19, s_X8_reads_22, s_X8_reads_25, s_X8_reads_26, s_X8_reads_27, s_X8_reads_30, s_X8_reads_31, s_X8_reads_33, s_X8_reads_36, s_X8_reads_39, s_X8_reads_40, s_X8_reads_41, s_X8_reads_44, s_X8_reads_45, s_X8_reads_46, s_X8_reads_47, s_X8_reads_48, s_X8_reads_51, s_X8_reads_52, s_X8_reads_54, s_X8_reads_57, s_X8_reads_60, s_X8_reads_61, s_X8_reads_64, s_X8_reads_65, s_X8_reads_68, s_X8_reads_69, s_X8_reads_72, s_X8_reads_73, s_X8_reads_74, s_X8_reads_75, s_X8_reads_78, s_X8_reads_81, s_X8_reads_82, s_X8_reads_83, s_X8_reads_86, s_X8_reads_87, s_X8_reads_88, s_X8_reads_91, s_X8_reads_92, s_X8_reads_95, s_X8_reads_98, s_X8_reads_99, s_X8_reads_102, s_X8_reads_103, s_X8_reads_106, s_X8_reads_107, s_X8_reads_110, s_X8_reads_111, s_X8_reads_114, s_X8_reads_115, s_X8_reads_118, s_X8_reads_121, s_X8_reads_122, s_X8_reads_123, s_X8_reads_126, s_X8_reads_129, s_X8_reads_130, s_X8_reads_133, s_X8_reads_134, kS_106, rS_106_0, rS_106_3, rS_106_4, rS_106_5, rS_106_6, rS_106_7, rS_106_11, kS_107, lS_107, kS_108, lS_108, kS_109, lS_109, kS_110, lS_110, kS_111, lS_111, kS_112, lS_112, kS_113, lS_113, show 1350 + i < 1600 by omega, l_no hi, nI_add, Nat.reduceLT, cl_tl0, cl_tl1, rfv_some, if_true, if_false, or_true, true_or, eq_self, ite_true, ite_false, and_true, true_and, not_true_eq_false, not_false_eq_true]) 50 0 () g (by omega) ⟨Fr_r, fun j hj => by omega⟩
  have r1 : MR g1 27 x00.2 := fun j hj => n1 j hj
  obtain ⟨g2, eg2⟩ : ∃ g2, up2 g1 106 13 (nI 0) = g2 := ⟨_, rfl⟩
  have w2 := MS_v (g := g1) (p := 0)
  rw [eg2] at w2
  have ms2 : MS g2 x00.1 := w2.1
  have r2 : MR g2 27 x00.2 := MR_fr r1 (fun i q1 q2 => w2.2 _ _ (by unfold aP; omega))
  have fa2 : Fr aN g g2 := Fr_t (Fr_w (fun a i e => Or.inr e) f1) (aP_N w2.2)
  have k2 := MT_fr fa2 k
  have hx := x00_p N
  have e2 := fun Q => p_isLetter (d := d + 3) (L := L) (c := 104) (Q := Q) k2 ms2 hx.1.1 (by omega)
  have hd : ∀ Q, WP (d + 5) M_X8_reads [.ref 106] (S0 L, g) Q = Wp (d + 4) M_X8_reads none 30 [.ref 106, .int (nI 50)] [] (S0 L, g2) Q := fun Q => by
    simp only [e_X8_reads, s_X8_reads_0, s_X8_reads_1, s_X8_reads_3, s_X8_reads_5, s_X8_reads_8, s_X8_reads_9, s_X8_reads_12, s_X8_reads_15, s_X8_reads_16, s_X8_reads_17, s_X8_reads_18, s_X8_reads_19, s_X8_reads_22, s_X8_reads_25, s_X8_reads_26, s_X8_reads_27, s_X8_reads_31, s_X8_reads_33, s_X8_reads_36, s_X8_reads_39, s_X8_reads_40, s_X8_reads_41, s_X8_reads_44, s_X8_reads_45, s_X8_reads_46, s_X8_reads_47, s_X8_reads_48, s_X8_reads_51, s_X8_reads_52, s_X8_reads_54, s_X8_reads_57, s_X8_reads_60, s_X8_reads_61, s_X8_reads_64, s_X8_reads_65, s_X8_reads_68, s_X8_reads_69, s_X8_reads_72, s_X8_reads_73, s_X8_reads_74, s_X8_reads_75, s_X8_reads_78, s_X8_reads_81, s_X8_reads_82, s_X8_reads_83, s_X8_reads_86, s_X8_reads_87, s_X8_reads_88, s_X8_reads_91, s_X8_reads_92, s_X8_reads_95, s_X8_reads_98, s_X8_reads_99, s_X8_reads_102, s_X8_reads_103, s_X8_reads_106, s_X8_reads_107, s_X8_reads_110, s_X8_reads_111, s_X8_reads_114, s_X8_reads_115, s_X8_reads_118, s_X8_reads_121, s_X8_reads_122, s_X8_reads_123, s_X8_reads_126, s_X8_reads_129, s_X8_reads_130, s_X8_reads_133, s_X8_reads_134, e1, cl_tl0, cl_tl1, rfv_some, if_true, if_false, or_true, true_or, eq_self, ite_true, ite_false, and_true, true_and, not_true_eq_false, not_false_eq_true]
    rw [s_X8_reads_2]
    simp only [s_X8_reads_0, s_X8_reads_1, s_X8_reads_3, s_X8_reads_5, s_X8_reads_8, s_X8_reads_9, s_X8_reads_12, s_X8_reads_15, s_X8_reads_16, s_X8_reads_17, s_X8_reads_18, s_X8_reads_19, s_X8_reads_22, s_X8_reads_25, s_X8_reads_26, s_X8_reads_27, s_X8_reads_31, s_X8_reads_33, s_X8_reads_36, s_X8_reads_39, s_X8_reads_40, s_X8_reads_41, s_X8_reads_44, s_X8_reads_45, s_X8_reads_46, s_X8_reads_47, s_X8_reads_48, s_X8_reads_51, s_X8_reads_52, s_X8_reads_54, s_X8_reads_57, s_X8_reads_60, s_X8_reads_61, s_X8_reads_64, s_X8_reads_65, s_X8_reads_68, s_X8_reads_69, s_X8_reads_72, s_X8_reads_73, s_X8_reads_74, s_X8_reads_75, s_X8_reads_78, s_X8_reads_81, s_X8_reads_82, s_X8_reads_83, s_X8_reads_86, s_X8_reads_87, s_X8_reads_88, s_X8_reads_91, s_X8_reads_92, s_X8_reads_95, s_X8_reads_98, s_X8_reads_99, s_X8_reads_102, s_X8_reads_103, s_X8_reads_106, s_X8_reads_107, s_X8_reads_110, s_X8_reads_111, s_X8_reads_114, s_X8_reads_115, s_X8_reads_118, s_X8_reads_121, s_X8_reads_122, s_X8_reads_123, s_X8_reads_126, s_X8_reads_129, s_X8_reads_130, s_X8_reads_133, s_X8_reads_134, kS_106, rS_106_0, rS_106_3, rS_106_4, rS_106_5, rS_106_6, rS_106_7, rS_106_11, kS_107, lS_107, kS_108, lS_108, kS_109, lS_109, kS_110, lS_110, kS_111, lS_111, kS_112, lS_112, kS_113, lS_113, l_ye, eg2, Nat.reduceLT, cl_tl0, cl_tl1, rfv_some, if_true, if_false, or_true, true_or, eq_self, ite_true, ite_false, and_true, true_and, not_true_eq_false, not_false_eq_true]
  cases hs : sgB N b x00.1.1 104
  · rw [hs] at e2
    have et : told N b = ((0, 1), x00.2) := by
      unfold told tolH
      rw [hst_n rfl hs, hlp_f (show ((x00.1.1, 1), x00.2).1.2 ≠ 0 from by show 1 ≠ 0; omega), rst_f (show ((x00.1.1, 1), x00.2).1.2 ≠ 0 from by show 1 ≠ 0; omega), rlp_f (show ((x00.1.1, 1), x00.2).1.2 ≠ 0 from by show 1 ≠ 0; omega)]
      rfl
    rw [et, decide_eq_false (show ¬ ((0, 1), x00.2).1.2 = 0 from by show ¬ 1 = 0; omega)]
    have w := MS_u ms2 1
    refine ⟨_, ⟨⟨w.1, fun e => by cases e⟩, Fr_t fa2 (aP_N w.2)⟩, fun Q => ?_⟩
    rw [hd]
    simp only [s_X8_reads_0, s_X8_reads_1, s_X8_reads_3, s_X8_reads_5, s_X8_reads_8, s_X8_reads_9, s_X8_reads_12, s_X8_reads_15, s_X8_reads_16, s_X8_reads_17, s_X8_reads_18, s_X8_reads_19, s_X8_reads_22, s_X8_reads_25, s_X8_reads_26, s_X8_reads_27, s_X8_reads_30, s_X8_reads_31, s_X8_reads_33, s_X8_reads_36, s_X8_reads_39, s_X8_reads_40, s_X8_reads_41, s_X8_reads_44, s_X8_reads_45, s_X8_reads_46, s_X8_reads_48, s_X8_reads_51, s_X8_reads_52, s_X8_reads_54, s_X8_reads_57, s_X8_reads_60, s_X8_reads_61, s_X8_reads_64, s_X8_reads_65, s_X8_reads_68, s_X8_reads_69, s_X8_reads_72, s_X8_reads_73, s_X8_reads_74, s_X8_reads_75, s_X8_reads_78, s_X8_reads_81, s_X8_reads_82, s_X8_reads_83, s_X8_reads_86, s_X8_reads_88, s_X8_reads_91, s_X8_reads_92, s_X8_reads_95, s_X8_reads_98, s_X8_reads_99, s_X8_reads_102, s_X8_reads_103, s_X8_reads_106, s_X8_reads_107, s_X8_reads_110, s_X8_reads_111, s_X8_reads_114, s_X8_reads_115, s_X8_reads_118, s_X8_reads_121, s_X8_reads_122, s_X8_reads_123, s_X8_reads_126, s_X8_reads_129, s_X8_reads_130, s_X8_reads_133, s_X8_reads_134, kS_106, rS_106_0, rS_106_3, rS_106_4, rS_106_5, rS_106_6, rS_106_7, rS_106_11, kS_107, lS_107, kS_108, lS_108, kS_109, lS_109, kS_110, lS_110, kS_111, lS_111, kS_112, lS_112, kS_113, lS_113, e2, p_refuse, bI_f, z_0, n01_0, Option.toList_some, List.cons_append, List.nil_append, cl_tl0, cl_tl1, rfv_some, if_true, if_false, or_true, true_or, eq_self, ite_true, ite_false, and_true, true_and, not_true_eq_false, not_false_eq_true]
  rw [hs] at e2
  obtain ⟨g3, ⟨m3, r3, f3⟩, e3⟩ := p_mhlp (d := d) (L := L) 6 x00 g2 (fun _ => by show 6 ≤ 0 + 6; omega) hx k2 ms2 (fun _ => r2)
  have eh : hlp N b 6 x00 = tolH N b := by
    unfold tolH
    rw [show hlp N b 6 x00 = if x00.1.2 = 0 ∧ sgB N b x00.1.1 104 = true then hlp N b 5 (hst N b x00) else x00 from rfl, if_pos ⟨rfl, hs⟩]
  rw [eh] at m3 r3 e3
  rw [decide_eq_true (show x00.1.2 = 0 from rfl), bI_t] at e3
  have fa3 := Fr_t fa2 f3
  have k3 := MT_fr f3 k2
  have hr := tolH_r N b
  have z1 : (tolH N b).2 1 = 0 := (tolH_p N b).1.2.2
  have hd2 : ∀ Q, WP (d + 5) M_X8_reads [.ref 106] (S0 L, g) Q = Wp (d + 4) M_X8_reads none 68 [.ref 106, .int (bI (decide ((tolH N b).1.2 = 0)))] [] (S0 L, g3) Q := fun Q => by
    rw [hd]
    simp only [s_X8_reads_0, s_X8_reads_1, s_X8_reads_3, s_X8_reads_5, s_X8_reads_8, s_X8_reads_9, s_X8_reads_12, s_X8_reads_15, s_X8_reads_16, s_X8_reads_17, s_X8_reads_18, s_X8_reads_19, s_X8_reads_22, s_X8_reads_25, s_X8_reads_26, s_X8_reads_27, s_X8_reads_30, s_X8_reads_31, s_X8_reads_33, s_X8_reads_36, s_X8_reads_39, s_X8_reads_40, s_X8_reads_41, s_X8_reads_44, s_X8_reads_45, s_X8_reads_46, s_X8_reads_48, s_X8_reads_51, s_X8_reads_52, s_X8_reads_54, s_X8_reads_57, s_X8_reads_60, s_X8_reads_61, s_X8_reads_64, s_X8_reads_65, s_X8_reads_69, s_X8_reads_72, s_X8_reads_73, s_X8_reads_74, s_X8_reads_75, s_X8_reads_78, s_X8_reads_81, s_X8_reads_82, s_X8_reads_83, s_X8_reads_86, s_X8_reads_88, s_X8_reads_91, s_X8_reads_92, s_X8_reads_95, s_X8_reads_98, s_X8_reads_99, s_X8_reads_102, s_X8_reads_103, s_X8_reads_106, s_X8_reads_107, s_X8_reads_110, s_X8_reads_111, s_X8_reads_114, s_X8_reads_115, s_X8_reads_118, s_X8_reads_121, s_X8_reads_122, s_X8_reads_123, s_X8_reads_126, s_X8_reads_129, s_X8_reads_130, s_X8_reads_133, s_X8_reads_134, kS_106, rS_106_0, rS_106_3, rS_106_4, rS_106_5, rS_106_6, rS_106_7, rS_106_11, kS_107, lS_107, kS_108, lS_108, kS_109, lS_109, kS_110, lS_110, kS_111, lS_111, kS_112, lS_112, kS_113, lS_113, e2, e3, bI_t, z_1, Option.toList_some, List.cons_append, List.nil_append, cl_tl0, cl_tl1, rfv_some, if_true, if_false, or_true, true_or, eq_self, ite_true, ite_false, and_true, true_and, not_true_eq_false, not_false_eq_true]
  unfold told
  obtain ⟨y, ey⟩ : ∃ y, tolH N b = y := ⟨_, rfl⟩
  rw [ey] at m3 r3 hr z1 hd2 ⊢
  by_cases h0 : y.1.2 = 0
  rotate_left
  · rw [rst_f h0, rlp_f h0]
    rw [decide_eq_false h0] at hd2 ⊢
    refine ⟨g3, ⟨⟨m3, fun e => absurd e h0⟩, fa3⟩, fun Q => ?_⟩
    rw [hd2]
    simp only [s_X8_reads_0, s_X8_reads_1, s_X8_reads_3, s_X8_reads_5, s_X8_reads_8, s_X8_reads_9, s_X8_reads_12, s_X8_reads_15, s_X8_reads_16, s_X8_reads_17, s_X8_reads_18, s_X8_reads_19, s_X8_reads_22, s_X8_reads_25, s_X8_reads_26, s_X8_reads_27, s_X8_reads_30, s_X8_reads_31, s_X8_reads_33, s_X8_reads_36, s_X8_reads_39, s_X8_reads_40, s_X8_reads_41, s_X8_reads_44, s_X8_reads_45, s_X8_reads_46, s_X8_reads_48, s_X8_reads_51, s_X8_reads_52, s_X8_reads_54, s_X8_reads_57, s_X8_reads_60, s_X8_reads_61, s_X8_reads_64, s_X8_reads_65, s_X8_reads_68, s_X8_reads_69, s_X8_reads_72, s_X8_reads_73, s_X8_reads_74, s_X8_reads_75, s_X8_reads_78, s_X8_reads_81, s_X8_reads_82, s_X8_reads_83, s_X8_reads_86, s_X8_reads_88, s_X8_reads_91, s_X8_reads_92, s_X8_reads_95, s_X8_reads_98, s_X8_reads_99, s_X8_reads_102, s_X8_reads_103, s_X8_reads_106, s_X8_reads_107, s_X8_reads_110, s_X8_reads_111, s_X8_reads_114, s_X8_reads_115, s_X8_reads_118, s_X8_reads_121, s_X8_reads_122, s_X8_reads_123, s_X8_reads_126, s_X8_reads_129, s_X8_reads_130, s_X8_reads_133, s_X8_reads_134, bI_f, z_0, n01_0, cl_tl0, cl_tl1, rfv_some, if_true, if_false, or_true, true_or, eq_self, ite_true, ite_false, and_true, true_and, not_true_eq_false, not_false_eq_true]
  rw [decide_eq_true h0] at hd2
  have e4 := fun Q => p_isSort (d := d + 2) (L := L) (Q := Q) k3 m3 hr.1.1
  by_cases hks : ksB N b y.1.1 = 0
  · rw [decide_eq_false (by simp [hks])] at e4
    rw [rst_n h0 hks, rlp_f (show ((y.1.1, 1), y.2).1.2 ≠ 0 from by show 1 ≠ 0; omega), decide_eq_false (show ¬ ((y.1.1, 1), y.2).1.2 = 0 from by show ¬ 1 = 0; omega)]
    have w := MS_u m3 1
    refine ⟨_, ⟨⟨w.1, fun e => by cases e⟩, Fr_t fa3 (aP_N w.2)⟩, fun Q => ?_⟩
    rw [hd2]
    simp only [s_X8_reads_0, s_X8_reads_1, s_X8_reads_3, s_X8_reads_5, s_X8_reads_8, s_X8_reads_9, s_X8_reads_12, s_X8_reads_15, s_X8_reads_16, s_X8_reads_17, s_X8_reads_18, s_X8_reads_19, s_X8_reads_22, s_X8_reads_25, s_X8_reads_26, s_X8_reads_27, s_X8_reads_30, s_X8_reads_31, s_X8_reads_33, s_X8_reads_36, s_X8_reads_39, s_X8_reads_40, s_X8_reads_41, s_X8_reads_44, s_X8_reads_45, s_X8_reads_46, s_X8_reads_48, s_X8_reads_51, s_X8_reads_52, s_X8_reads_54, s_X8_reads_57, s_X8_reads_60, s_X8_reads_61, s_X8_reads_64, s_X8_reads_65, s_X8_reads_68, s_X8_reads_69, s_X8_reads_72, s_X8_reads_73, s_X8_reads_74, s_X8_reads_75, s_X8_reads_78, s_X8_reads_81, s_X8_reads_82, s_X8_reads_83, s_X8_reads_86, s_X8_reads_88, s_X8_reads_91, s_X8_reads_92, s_X8_reads_95, s_X8_reads_98, s_X8_reads_99, s_X8_reads_102, s_X8_reads_103, s_X8_reads_106, s_X8_reads_107, s_X8_reads_110, s_X8_reads_111, s_X8_reads_114, s_X8_reads_115, s_X8_reads_118, s_X8_reads_121, s_X8_reads_122, s_X8_reads_123, s_X8_reads_126, s_X8_reads_129, s_X8_reads_130, s_X8_reads_133, s_X8_reads_134, kS_106, rS_106_0, rS_106_3, rS_106_4, rS_106_5, rS_106_6, rS_106_7, rS_106_11, kS_107, lS_107, kS_108, lS_108, kS_109, lS_109, kS_110, lS_110, kS_111, lS_111, kS_112, lS_112, kS_113, lS_113, e4, p_refuse, bI_f, bI_t, z_0, z_1, n01_0, Option.toList_some, List.cons_append, List.nil_append, cl_tl0, cl_tl1, rfv_some, if_true, if_false, or_true, true_or, eq_self, ite_true, ite_false, and_true, true_and, not_true_eq_false, not_false_eq_true]
  · rw [decide_eq_true hks] at e4
    obtain ⟨g5, ⟨m5, r5, f5⟩, e5⟩ := p_mrlp (d := d) (L := L) 8 y g3 (fun _ => by omega) hr k3 m3 r3
    have er : rlp N b 8 y = rlp N b 7 (rst' N b y) := by
      rw [show rlp N b 8 y = if y.1.2 = 0 ∧ y.1.1 < N then rlp N b 7 (rst' N b y) else y from rfl, if_pos ⟨h0, ks_lt hks⟩]
    rw [er] at m5 r5 e5
    rw [decide_eq_true h0] at e5
    rw [bI_t] at e5
    refine ⟨g5, ⟨⟨m5, r5⟩, Fr_t fa3 f5⟩, fun Q => ?_⟩
    rw [hd2]
    simp only [s_X8_reads_0, s_X8_reads_1, s_X8_reads_3, s_X8_reads_5, s_X8_reads_8, s_X8_reads_9, s_X8_reads_12, s_X8_reads_15, s_X8_reads_16, s_X8_reads_17, s_X8_reads_18, s_X8_reads_19, s_X8_reads_22, s_X8_reads_25, s_X8_reads_26, s_X8_reads_27, s_X8_reads_30, s_X8_reads_31, s_X8_reads_33, s_X8_reads_36, s_X8_reads_39, s_X8_reads_40, s_X8_reads_41, s_X8_reads_44, s_X8_reads_45, s_X8_reads_46, s_X8_reads_48, s_X8_reads_51, s_X8_reads_52, s_X8_reads_54, s_X8_reads_57, s_X8_reads_60, s_X8_reads_61, s_X8_reads_64, s_X8_reads_65, s_X8_reads_68, s_X8_reads_69, s_X8_reads_72, s_X8_reads_73, s_X8_reads_74, s_X8_reads_75, s_X8_reads_78, s_X8_reads_81, s_X8_reads_82, s_X8_reads_83, s_X8_reads_86, s_X8_reads_88, s_X8_reads_91, s_X8_reads_92, s_X8_reads_95, s_X8_reads_98, s_X8_reads_99, s_X8_reads_102, s_X8_reads_103, s_X8_reads_106, s_X8_reads_107, s_X8_reads_110, s_X8_reads_111, s_X8_reads_114, s_X8_reads_115, s_X8_reads_118, s_X8_reads_121, s_X8_reads_122, s_X8_reads_123, s_X8_reads_126, s_X8_reads_129, s_X8_reads_130, s_X8_reads_133, s_X8_reads_134, kS_106, rS_106_0, rS_106_3, rS_106_4, rS_106_5, rS_106_6, rS_106_7, rS_106_11, kS_107, lS_107, kS_108, lS_108, kS_109, lS_109, kS_110, lS_110, kS_111, lS_111, kS_112, lS_112, kS_113, lS_113, e4, e5, bI_t, z_1, Option.toList_some, List.cons_append, List.nil_append, cl_tl0, cl_tl1, rfv_some, if_true, if_false, or_true, true_or, eq_self, ite_true, ite_false, and_true, true_and, not_true_eq_false, not_false_eq_true]
