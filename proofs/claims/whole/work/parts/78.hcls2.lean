/-! ===== pure: house: the class reads a number, an heir, a right ===== -/
theorem p_rnTail {d L N lo hi v f : Nat} {b : Nat → Nat} {s : Nat × Nat} {g : mMem} (t : TS g s) (h0 : s.2 = 0) (hlo : lo < 1000) (hhi : hi < 1000) (hv : v < 1000) (nf : nmF N b lo hi s.1 = if v < lo ∨ hi < v then 2 else 0) (nv : nmV N b s.1 = v) (ns : nmS N b s.1 = f) : ∃ g', (TS g' (stN N b lo hi s) ∧ Fr aT g g') ∧ ∀ Q, Wp d M_X6_readNumber none 82 [.ref 17, .int (nI lo), .int (nI hi), .int (nI v), .int (nI f)] [] (S0 L, g) Q = Q (some (.int (nI v))) (S0 L, g') := by
  have l1 : (nI v < nI lo) = (v < lo) := f_lt (by omega) (by omega)
  have l2 : (nI v ≤ nI hi) = (v ≤ hi) := f_le (by omega) (by omega)
  by_cases c1 : v < lo
  · rw [if_pos (Or.inl c1)] at nf
    rw [stN_x h0 (by omega), nf]
    refine ⟨_, TS_u t 2, fun Q => ?_⟩
    simp only [s_X6_readNumber_0, s_X6_readNumber_1, s_X6_readNumber_4, s_X6_readNumber_7, s_X6_readNumber_8, s_X6_readNumber_9, s_X6_readNumber_10, s_X6_readNumber_11, s_X6_readNumber_12, s_X6_readNumber_14, s_X6_readNumber_16, s_X6_readNumber_17, s_X6_readNumber_20, s_X6_readNumber_21, s_X6_readNumber_22, s_X6_readNumber_25, s_X6_readNumber_27, s_X6_readNumber_28, s_X6_readNumber_31, s_X6_readNumber_34, s_X6_readNumber_37, s_X6_readNumber_38, s_X6_readNumber_40, s_X6_readNumber_41, s_X6_readNumber_42, s_X6_readNumber_43, s_X6_readNumber_46, s_X6_readNumber_48, s_X6_readNumber_49, s_X6_readNumber_52, s_X6_readNumber_53, s_X6_readNumber_55, s_X6_readNumber_56, s_X6_readNumber_57, s_X6_readNumber_60, s_X6_readNumber_63, s_X6_readNumber_65, s_X6_readNumber_68, s_X6_readNumber_70, s_X6_readNumber_71, s_X6_readNumber_74, s_X6_readNumber_75, s_X6_readNumber_76, s_X6_readNumber_79, s_X6_readNumber_82, s_X6_readNumber_83, s_X6_readNumber_84, s_X6_readNumber_87, s_X6_readNumber_88, s_X6_readNumber_89, s_X6_readNumber_92, s_X6_readNumber_93, s_X6_readNumber_94, s_X6_readNumber_97, s_X6_readNumber_100, s_X6_readNumber_101, s_X6_readNumber_102, s_X6_readNumber_105, s_X6_readNumber_107, s_X6_readNumber_108, s_X6_readNumber_111, s_X6_readNumber_112, kS_17, rS_17_0, rS_17_4, kS_18, lS_18, l1, eq_true c1, cl_tl0, cl_tl1, rfv_some, if_true, if_false, or_true, true_or, eq_self, ite_true, ite_false, and_true, true_and, not_true_eq_false, not_false_eq_true]
  · by_cases c2 : v ≤ hi
    · rw [if_neg (by omega)] at nf
      rw [stN_t h0 nf, ns]
      have w := TS_v t (s.1 + f)
      rw [h0] at w
      refine ⟨_, w, fun Q => ?_⟩
      simp only [s_X6_readNumber_0, s_X6_readNumber_1, s_X6_readNumber_4, s_X6_readNumber_7, s_X6_readNumber_8, s_X6_readNumber_9, s_X6_readNumber_10, s_X6_readNumber_11, s_X6_readNumber_12, s_X6_readNumber_14, s_X6_readNumber_16, s_X6_readNumber_17, s_X6_readNumber_20, s_X6_readNumber_21, s_X6_readNumber_22, s_X6_readNumber_25, s_X6_readNumber_27, s_X6_readNumber_28, s_X6_readNumber_31, s_X6_readNumber_34, s_X6_readNumber_37, s_X6_readNumber_38, s_X6_readNumber_40, s_X6_readNumber_41, s_X6_readNumber_42, s_X6_readNumber_43, s_X6_readNumber_46, s_X6_readNumber_48, s_X6_readNumber_49, s_X6_readNumber_52, s_X6_readNumber_53, s_X6_readNumber_55, s_X6_readNumber_56, s_X6_readNumber_57, s_X6_readNumber_60, s_X6_readNumber_63, s_X6_readNumber_65, s_X6_readNumber_68, s_X6_readNumber_70, s_X6_readNumber_71, s_X6_readNumber_74, s_X6_readNumber_75, s_X6_readNumber_76, s_X6_readNumber_79, s_X6_readNumber_82, s_X6_readNumber_83, s_X6_readNumber_84, s_X6_readNumber_87, s_X6_readNumber_88, s_X6_readNumber_89, s_X6_readNumber_92, s_X6_readNumber_93, s_X6_readNumber_94, s_X6_readNumber_97, s_X6_readNumber_100, s_X6_readNumber_101, s_X6_readNumber_102, s_X6_readNumber_105, s_X6_readNumber_107, s_X6_readNumber_108, s_X6_readNumber_111, s_X6_readNumber_112, kS_17, rS_17_0, rS_17_4, kS_18, lS_18, l1, l2, eq_false c1, eq_true c2, t.1, nI_add, cl_tl0, cl_tl1, rfv_some, if_true, if_false, or_true, true_or, eq_self, ite_true, ite_false, and_true, true_and, not_true_eq_false, not_false_eq_true]
    · rw [if_pos (by omega)] at nf
      rw [stN_x h0 (by omega), nf]
      refine ⟨_, TS_u t 2, fun Q => ?_⟩
      simp only [s_X6_readNumber_0, s_X6_readNumber_1, s_X6_readNumber_4, s_X6_readNumber_7, s_X6_readNumber_8, s_X6_readNumber_9, s_X6_readNumber_10, s_X6_readNumber_11, s_X6_readNumber_12, s_X6_readNumber_14, s_X6_readNumber_16, s_X6_readNumber_17, s_X6_readNumber_20, s_X6_readNumber_21, s_X6_readNumber_22, s_X6_readNumber_25, s_X6_readNumber_27, s_X6_readNumber_28, s_X6_readNumber_31, s_X6_readNumber_34, s_X6_readNumber_37, s_X6_readNumber_38, s_X6_readNumber_40, s_X6_readNumber_41, s_X6_readNumber_42, s_X6_readNumber_43, s_X6_readNumber_46, s_X6_readNumber_48, s_X6_readNumber_49, s_X6_readNumber_52, s_X6_readNumber_53, s_X6_readNumber_55, s_X6_readNumber_56, s_X6_readNumber_57, s_X6_readNumber_60, s_X6_readNumber_63, s_X6_readNumber_65, s_X6_readNumber_68, s_X6_readNumber_70, s_X6_readNumber_71, s_X6_readNumber_74, s_X6_readNumber_75, s_X6_readNumber_76, s_X6_readNumber_79, s_X6_readNumber_82, s_X6_readNumber_83, s_X6_readNumber_84, s_X6_readNumber_87, s_X6_readNumber_88, s_X6_readNumber_89, s_X6_readNumber_92, s_X6_readNumber_93, s_X6_readNumber_94, s_X6_readNumber_97, s_X6_readNumber_100, s_X6_readNumber_101, s_X6_readNumber_102, s_X6_readNumber_105, s_X6_readNumber_107, s_X6_readNumber_108, s_X6_readNumber_111, s_X6_readNumber_112, kS_17, rS_17_0, rS_17_4, kS_18, lS_18, l1, l2, eq_false c1, eq_false c2, cl_tl0, cl_tl1, rfv_some, if_true, if_false, or_true, true_or, eq_self, ite_true, ite_false, and_true, true_and, not_true_eq_false, not_false_eq_true]
theorem p_readNumber {d L N lo hi : Nat} {b : Nat → Nat} {s : Nat × Nat} {g : mMem} (k : TP g N b) (t : TS g s) (o : stO N s) (hlo : lo < 1000) (hhi : hi < 1000) : ∃ v, ((stN N b lo hi s).2 = 0 → v = nI (nmV N b s.1)) ∧ Sp (d + 2) M_X6_readNumber [.ref 17, .int (nI lo), .int (nI hi)] L g (some (.int v)) (fun g' => TS g' (stN N b lo hi s) ∧ Fr aT g g') := by
  have k1 := k.1
  have o1 := o.1
  have o2 := o.2
  have z := f_eq0 (show s.2 < 2147483648 by omega)
  have hb : ∀ p, p < N → b p < 256 := fun p h => (k.2.2 p h).1
  by_cases h0 : s.2 = 0
  rotate_left
  · refine ⟨nI 0, fun e => ?_, ?_⟩
    · rw [stN_f h0] at e
      exact absurd e h0
    · rw [stN_f h0]
      refine ⟨g, ⟨t, Fr_r⟩, fun Q => ?_⟩
      simp only [e_X6_readNumber, s_X6_readNumber_0, s_X6_readNumber_1, s_X6_readNumber_4, s_X6_readNumber_7, s_X6_readNumber_8, s_X6_readNumber_9, s_X6_readNumber_10, s_X6_readNumber_11, s_X6_readNumber_12, s_X6_readNumber_14, s_X6_readNumber_16, s_X6_readNumber_17, s_X6_readNumber_20, s_X6_readNumber_21, s_X6_readNumber_22, s_X6_readNumber_25, s_X6_readNumber_27, s_X6_readNumber_28, s_X6_readNumber_31, s_X6_readNumber_34, s_X6_readNumber_37, s_X6_readNumber_38, s_X6_readNumber_40, s_X6_readNumber_41, s_X6_readNumber_42, s_X6_readNumber_43, s_X6_readNumber_46, s_X6_readNumber_48, s_X6_readNumber_49, s_X6_readNumber_52, s_X6_readNumber_53, s_X6_readNumber_55, s_X6_readNumber_56, s_X6_readNumber_57, s_X6_readNumber_60, s_X6_readNumber_63, s_X6_readNumber_65, s_X6_readNumber_68, s_X6_readNumber_70, s_X6_readNumber_71, s_X6_readNumber_74, s_X6_readNumber_75, s_X6_readNumber_76, s_X6_readNumber_79, s_X6_readNumber_82, s_X6_readNumber_83, s_X6_readNumber_84, s_X6_readNumber_87, s_X6_readNumber_88, s_X6_readNumber_89, s_X6_readNumber_92, s_X6_readNumber_93, s_X6_readNumber_94, s_X6_readNumber_97, s_X6_readNumber_100, s_X6_readNumber_101, s_X6_readNumber_102, s_X6_readNumber_105, s_X6_readNumber_107, s_X6_readNumber_108, s_X6_readNumber_111, s_X6_readNumber_112, kS_17, rS_17_0, rS_17_4, kS_18, lS_18, t.2, z, eq_false h0, cl_tl0, cl_tl1, rfv_some, if_true, if_false, or_true, true_or, eq_self, ite_true, ite_false, and_true, true_and, not_true_eq_false, not_false_eq_true]
  have e0 := fun Q => p_byteAt (d := d) (L := L) (p := s.1) (Q := Q) k (by omega)
  have e1 := fun Q => p_byteAt (d := d) (L := L) (p := s.1 + 1) (Q := Q) k (by omega)
  have e2 := fun Q => p_byteAt (d := d) (L := L) (p := s.1 + 2) (Q := Q) k (by omega)
  have i0 := fun Q => p_isFig (d := d) (L := L) (p := s.1) (g := g) (Q := Q) (hb s.1)
  have i1 := fun Q => p_isFig (d := d) (L := L) (p := s.1 + 1) (g := g) (Q := Q) (hb (s.1 + 1))
  have i2 := fun Q => p_isFig (d := d) (L := L) (p := s.1 + 2) (g := g) (Q := Q) (hb (s.1 + 2))
  cases f0 : fgB N b s.1
  · have nf : nmF N b lo hi s.1 = 1 := if_pos (Or.inl f0)
    rw [f0] at i0
    refine ⟨nI 0, fun e => ?_, ?_⟩
    · rw [stN_x h0 (by omega), nf] at e
      cases e
    · rw [stN_x h0 (by omega), nf]
      refine ⟨_, TS_u t 1, fun Q => ?_⟩
      simp +decide only [e_X6_readNumber, s_X6_readNumber_0, s_X6_readNumber_1, s_X6_readNumber_4, s_X6_readNumber_7, s_X6_readNumber_8, s_X6_readNumber_9, s_X6_readNumber_10, s_X6_readNumber_11, s_X6_readNumber_12, s_X6_readNumber_14, s_X6_readNumber_16, s_X6_readNumber_17, s_X6_readNumber_20, s_X6_readNumber_21, s_X6_readNumber_22, s_X6_readNumber_25, s_X6_readNumber_27, s_X6_readNumber_28, s_X6_readNumber_31, s_X6_readNumber_34, s_X6_readNumber_37, s_X6_readNumber_38, s_X6_readNumber_40, s_X6_readNumber_41, s_X6_readNumber_42, s_X6_readNumber_43, s_X6_readNumber_46, s_X6_readNumber_48, s_X6_readNumber_49, s_X6_readNumber_52, s_X6_readNumber_53, s_X6_readNumber_55, s_X6_readNumber_56, s_X6_readNumber_57, s_X6_readNumber_60, s_X6_readNumber_63, s_X6_readNumber_65, s_X6_readNumber_68, s_X6_readNumber_70, s_X6_readNumber_71, s_X6_readNumber_74, s_X6_readNumber_75, s_X6_readNumber_76, s_X6_readNumber_79, s_X6_readNumber_82, s_X6_readNumber_83, s_X6_readNumber_84, s_X6_readNumber_87, s_X6_readNumber_88, s_X6_readNumber_89, s_X6_readNumber_92, s_X6_readNumber_93, s_X6_readNumber_94, s_X6_readNumber_97, s_X6_readNumber_100, s_X6_readNumber_101, s_X6_readNumber_102, s_X6_readNumber_105, s_X6_readNumber_107, s_X6_readNumber_108, s_X6_readNumber_111, s_X6_readNumber_112, kS_17, rS_17_0, rS_17_4, kS_18, lS_18, t.1, t.2, z, eq_true h0, e0, i0, bI_f, z_0, nI_lit, nI_add, Nat.add_zero, Option.toList_some, List.cons_append, List.nil_append, cl_tl0, cl_tl1, rfv_some, if_true, if_false, or_true, true_or, eq_self, ite_true, ite_false, and_true, true_and, not_true_eq_false, not_false_eq_true]
  rw [f0, baI_t (fgB_t f0).1] at i0
  rw [baI_t (fgB_t f0).1] at e0
  have g0 := fgB_t f0
  have n1 : nI 0 * nI 10 + nI (b s.1) - nI 48 = nI (b s.1 - 48) := by rw [pk_mul, nI_add, pk_sub (by omega)]; congr 1; omega
  cases f1 : fgB N b (s.1 + 1)
  · have nv : nmV N b s.1 = b s.1 - 48 := by unfold nmV; rw [f1]; rfl
    have ns : nmS N b s.1 = 1 := by unfold nmS; rw [f1]; rfl
    have nf : nmF N b lo hi s.1 = if b s.1 - 48 < lo ∨ hi < b s.1 - 48 then 2 else 0 := by
      unfold nmF
      rw [nv, if_neg (by rw [f0, f1]; simp)]
    rw [f1] at i1
    obtain ⟨g', p', e'⟩ := p_rnTail (d := d + 1) (L := L) t h0 hlo hhi (show b s.1 - 48 < 1000 by omega) nf nv ns
    refine ⟨nI (b s.1 - 48), fun _ => by rw [nv], g', p', fun Q => ?_⟩
    simp +decide only [e_X6_readNumber, s_X6_readNumber_0, s_X6_readNumber_1, s_X6_readNumber_4, s_X6_readNumber_7, s_X6_readNumber_8, s_X6_readNumber_9, s_X6_readNumber_10, s_X6_readNumber_11, s_X6_readNumber_12, s_X6_readNumber_14, s_X6_readNumber_16, s_X6_readNumber_17, s_X6_readNumber_20, s_X6_readNumber_21, s_X6_readNumber_22, s_X6_readNumber_25, s_X6_readNumber_27, s_X6_readNumber_28, s_X6_readNumber_31, s_X6_readNumber_34, s_X6_readNumber_37, s_X6_readNumber_38, s_X6_readNumber_40, s_X6_readNumber_41, s_X6_readNumber_42, s_X6_readNumber_43, s_X6_readNumber_46, s_X6_readNumber_48, s_X6_readNumber_49, s_X6_readNumber_52, s_X6_readNumber_53, s_X6_readNumber_55, s_X6_readNumber_56, s_X6_readNumber_57, s_X6_readNumber_60, s_X6_readNumber_63, s_X6_readNumber_65, s_X6_readNumber_68, s_X6_readNumber_70, s_X6_readNumber_71, s_X6_readNumber_74, s_X6_readNumber_75, s_X6_readNumber_76, s_X6_readNumber_79, s_X6_readNumber_83, s_X6_readNumber_84, s_X6_readNumber_87, s_X6_readNumber_88, s_X6_readNumber_89, s_X6_readNumber_92, s_X6_readNumber_93, s_X6_readNumber_94, s_X6_readNumber_97, s_X6_readNumber_100, s_X6_readNumber_101, s_X6_readNumber_102, s_X6_readNumber_105, s_X6_readNumber_107, s_X6_readNumber_108, s_X6_readNumber_111, s_X6_readNumber_112, kS_17, rS_17_0, rS_17_4, kS_18, lS_18, t.1, t.2, z, eq_true h0, e0, e1, i0, i1, n1, e', bI_f, bI_t, z_0, z_1, nI_lit, nI_lite, nI_add, Nat.add_zero, Nat.reduceAdd, Option.toList_some, List.cons_append, List.nil_append, cl_tl0, cl_tl1, rfv_some, if_true, if_false, or_true, true_or, eq_self, ite_true, ite_false, and_true, true_and, not_true_eq_false, not_false_eq_true]
  rw [f1, baI_t (fgB_t f1).1] at i1
  rw [baI_t (fgB_t f1).1] at e1
  have g1 := fgB_t f1
  have n2 : nI (b s.1 - 48) * nI 10 + nI (b (s.1 + 1)) - nI 48 = nI (10 * (b s.1 - 48) + (b (s.1 + 1) - 48)) := by rw [pk_mul, nI_add, pk_sub (by omega)]; congr 1; omega
  cases f2 : fgB N b (s.1 + 2)
  · have nv : nmV N b s.1 = 10 * (b s.1 - 48) + (b (s.1 + 1) - 48) := by unfold nmV; rw [f1]; rfl
    have ns : nmS N b s.1 = 2 := by unfold nmS; rw [f1]; rfl
    have nf : nmF N b lo hi s.1 = if 10 * (b s.1 - 48) + (b (s.1 + 1) - 48) < lo ∨ hi < 10 * (b s.1 - 48) + (b (s.1 + 1) - 48) then 2 else 0 := by
      unfold nmF
      rw [nv, if_neg (by rw [f0, f1, f2]; simp)]
    rw [f2] at i2
    obtain ⟨g', p', e'⟩ := p_rnTail (d := d + 1) (L := L) t h0 hlo hhi (show 10 * (b s.1 - 48) + (b (s.1 + 1) - 48) < 1000 by omega) nf nv ns
    refine ⟨nI (10 * (b s.1 - 48) + (b (s.1 + 1) - 48)), fun _ => by rw [nv], g', p', fun Q => ?_⟩
    simp +decide only [e_X6_readNumber, s_X6_readNumber_0, s_X6_readNumber_1, s_X6_readNumber_4, s_X6_readNumber_7, s_X6_readNumber_8, s_X6_readNumber_9, s_X6_readNumber_10, s_X6_readNumber_11, s_X6_readNumber_12, s_X6_readNumber_14, s_X6_readNumber_16, s_X6_readNumber_17, s_X6_readNumber_20, s_X6_readNumber_21, s_X6_readNumber_22, s_X6_readNumber_25, s_X6_readNumber_27, s_X6_readNumber_28, s_X6_readNumber_31, s_X6_readNumber_34, s_X6_readNumber_37, s_X6_readNumber_38, s_X6_readNumber_40, s_X6_readNumber_41, s_X6_readNumber_42, s_X6_readNumber_43, s_X6_readNumber_46, s_X6_readNumber_48, s_X6_readNumber_49, s_X6_readNumber_52, s_X6_readNumber_53, s_X6_readNumber_55, s_X6_readNumber_56, s_X6_readNumber_57, s_X6_readNumber_60, s_X6_readNumber_63, s_X6_readNumber_65, s_X6_readNumber_68, s_X6_readNumber_70, s_X6_readNumber_71, s_X6_readNumber_74, s_X6_readNumber_75, s_X6_readNumber_76, s_X6_readNumber_79, s_X6_readNumber_83, s_X6_readNumber_84, s_X6_readNumber_87, s_X6_readNumber_88, s_X6_readNumber_89, s_X6_readNumber_92, s_X6_readNumber_93, s_X6_readNumber_94, s_X6_readNumber_97, s_X6_readNumber_100, s_X6_readNumber_101, s_X6_readNumber_102, s_X6_readNumber_105, s_X6_readNumber_107, s_X6_readNumber_108, s_X6_readNumber_111, s_X6_readNumber_112, kS_17, rS_17_0, rS_17_4, kS_18, lS_18, t.1, t.2, z, eq_true h0, e0, e1, e2, i0, i1, i2, n1, n2, e', bI_f, bI_t, z_0, z_1, nI_lit, nI_lite, nI_add, Nat.add_zero, Nat.reduceAdd, Option.toList_some, List.cons_append, List.nil_append, cl_tl0, cl_tl1, rfv_some, if_true, if_false, or_true, true_or, eq_self, ite_true, ite_false, and_true, true_and, not_true_eq_false, not_false_eq_true]
  · have nf : nmF N b lo hi s.1 = 1 := if_pos (Or.inr ⟨f1, f2⟩)
    rw [f2] at i2
    refine ⟨nI (10 * (b s.1 - 48) + (b (s.1 + 1) - 48)) * nI 10 + baI N b (s.1 + 2) - nI 48, fun e => ?_, ?_⟩
    · rw [stN_x h0 (by omega), nf] at e
      cases e
    · rw [stN_x h0 (by omega), nf]
      refine ⟨_, TS_u t 1, fun Q => ?_⟩
      simp +decide only [e_X6_readNumber, s_X6_readNumber_0, s_X6_readNumber_1, s_X6_readNumber_4, s_X6_readNumber_7, s_X6_readNumber_8, s_X6_readNumber_9, s_X6_readNumber_10, s_X6_readNumber_11, s_X6_readNumber_12, s_X6_readNumber_14, s_X6_readNumber_16, s_X6_readNumber_17, s_X6_readNumber_20, s_X6_readNumber_21, s_X6_readNumber_22, s_X6_readNumber_25, s_X6_readNumber_27, s_X6_readNumber_28, s_X6_readNumber_31, s_X6_readNumber_34, s_X6_readNumber_37, s_X6_readNumber_38, s_X6_readNumber_40, s_X6_readNumber_41, s_X6_readNumber_42, s_X6_readNumber_43, s_X6_readNumber_46, s_X6_readNumber_48, s_X6_readNumber_49, s_X6_readNumber_52, s_X6_readNumber_53, s_X6_readNumber_55, s_X6_readNumber_56, s_X6_readNumber_57, s_X6_readNumber_60, s_X6_readNumber_63, s_X6_readNumber_65, s_X6_readNumber_68, s_X6_readNumber_70, s_X6_readNumber_71, s_X6_readNumber_74, s_X6_readNumber_75, s_X6_readNumber_76, s_X6_readNumber_79, s_X6_readNumber_82, s_X6_readNumber_83, s_X6_readNumber_84, s_X6_readNumber_87, s_X6_readNumber_88, s_X6_readNumber_89, s_X6_readNumber_92, s_X6_readNumber_93, s_X6_readNumber_94, s_X6_readNumber_97, s_X6_readNumber_100, s_X6_readNumber_101, s_X6_readNumber_102, s_X6_readNumber_105, s_X6_readNumber_107, s_X6_readNumber_108, s_X6_readNumber_111, s_X6_readNumber_112, kS_17, rS_17_0, rS_17_4, kS_18, lS_18, t.1, t.2, z, eq_true h0, e0, e1, e2, i0, i1, i2, n1, n2, bI_t, z_0, z_1, nI_lit, nI_lite, nI_add, Nat.add_zero, Nat.reduceAdd, Option.toList_some, List.cons_append, List.nil_append, cl_tl0, cl_tl1, rfv_some, if_true, if_false, or_true, true_or, eq_self, ite_true, ite_false, and_true, true_and, not_true_eq_false, not_false_eq_true]
/-- the house as told so far -/
def PR (g : mMem) (t : Nat → Nat) : Prop := (g 19 0 = nI (t 0) ∧ g 19 3 = nI (t 1) ∧ g 19 10 = nI 0 ∧ g 19 11 = nI 0 ∧ g 19 9 = nI 0) ∧ (∀ k, k < t 0 → g 20 k = nI (t (4 + k)) ∧ g 21 k = nI (t (9 + k))) ∧ ∀ r, r < t 1 → g 22 r = nI (t (14 + r)) ∧ g 23 r = nI (t (21 + r)) ∧ g 24 r = nI (t (28 + r)) ∧ g 25 r = nI (t (35 + r)) ∧ g 26 r = nI (t (42 + r))
theorem PR_fr {g g' : mMem} {t : Nat → Nat} (f : ∀ a i, hs 19 a i → g' a i = g a i) (k : PR g t) : PR g' t := by
  obtain ⟨⟨a1, a2, a3, a4, a5⟩, b, c⟩ := k
  refine ⟨⟨(f _ _ (by unfold hs; omega)).trans a1, (f _ _ (by unfold hs; omega)).trans a2, (f _ _ (by unfold hs; omega)).trans a3, (f _ _ (by unfold hs; omega)).trans a4, (f _ _ (by unfold hs; omega)).trans a5⟩, fun k hk => ⟨(f _ _ (by unfold hs; omega)).trans (b k hk).1, (f _ _ (by unfold hs; omega)).trans (b k hk).2⟩, fun r hr => ?_⟩
  obtain ⟨c1, c2, c3, c4, c5⟩ := c r hr
  exact ⟨(f _ _ (by unfold hs; omega)).trans c1, (f _ _ (by unfold hs; omega)).trans c2, (f _ _ (by unfold hs; omega)).trans c3, (f _ _ (by unfold hs; omega)).trans c4, (f _ _ (by unfold hs; omega)).trans c5⟩
theorem PR_t {g g' : mMem} {t : Nat → Nat} (f : Fr aT g g') (k : PR g t) : PR g' t := PR_fr (fun a i h => f a i (by unfold aT; unfold hs at h; omega)) k
theorem PR_c {g : mMem} {t : Nat → Nat} (k : PR g t) (p : PW t) (w : Wf t) : CR g 19 t := by
  obtain ⟨⟨a1, a2, a3, a4, a5⟩, b, c⟩ := k
  obtain ⟨-, ⟨p1, p2, p3⟩, -⟩ := p
  exact CR_ii w a1 a2 (by rw [p1]; exact a3) (by rw [p2]; exact a4) (by rw [p3]; exact a5) (fun k hk => (b k hk).1) (fun k hk => (b k hk).2) (fun r hr => (c r hr).1) (fun r hr => (c r hr).2.1) (fun r hr => (c r hr).2.2.1) (fun r hr => (c r hr).2.2.2.1) (fun r hr => (c r hr).2.2.2.2)
theorem p_addHeir {d L v w : Nat} {t : Nat → Nat} {g : mMem} (k : PR g t) (h5 : t 0 < 5) (h1 : t 1 = 0) : Sp (d + 1) M_X4_addHeir [.ref 19, .int (nI v), .int (nI w)] L g none (fun g' => PR g' (hadd t v w) ∧ Fr (hs 19) g g') := by
  obtain ⟨⟨a1, a2, a3, a4, a5⟩, b, c⟩ := k
  obtain ⟨g', eg⟩ : ∃ g', up2 (up2 (up2 g 20 (t 0) (nI v)) 21 (t 0) (nI w)) 19 0 (nI (t 0 + 1)) = g' := ⟨_, rfl⟩
  have x1 : up2 g 20 (t 0) (nI v) 19 0 = nI (t 0) := by rw [up2_n (by omega), a1]
  have x2 : up2 (up2 g 20 (t 0) (nI v)) 21 (t 0) (nI w) 19 0 = nI (t 0) := by rw [up2_n (by omega), x1]
  refine ⟨g', ⟨⟨⟨?_, ?_, ?_, ?_, ?_⟩, fun j hj => ?_, fun r hr => ?_⟩, ?_⟩, fun Q => ?_⟩
  · rw [← eg, up2_a, hadd_0]
  · rw [← eg, up2_n (by omega), up2_n (by omega), up2_n (by omega), a2, hadd_1]
  · rw [← eg, up2_n (by omega), up2_n (by omega), up2_n (by omega), a3]
  · rw [← eg, up2_n (by omega), up2_n (by omega), up2_n (by omega), a4]
  · rw [← eg, up2_n (by omega), up2_n (by omega), up2_n (by omega), a5]
  · rw [hadd_0] at hj
    rw [← eg]
    unfold hadd
    by_cases e : j = t 0
    · subst e
      rw [up2_n (by omega), up2_n (by omega), up2_a, up2_n (by omega), up2_a, ts_o (by omega), ts_o (by omega), ts_s, ts_o (by omega), ts_s]
      exact ⟨rfl, rfl⟩
    · rw [up2_n (by omega), up2_n (by omega), up2_n (by omega), up2_n (by omega), up2_n (by omega), up2_n (by omega), ts_o (by omega), ts_o (by omega), ts_o (by omega), ts_o (by omega), ts_o (by omega), ts_o (by omega)]
      exact b j (by omega)
  · rw [hadd_1] at hr
    omega
  · rw [← eg]
    exact Fr_t (Fr_u (by unfold hs; omega)) (Fr_t (Fr_u (by unfold hs; omega)) (Fr_u (by unfold hs; omega)))
  · simp only [e_X4_addHeir, s_X4_addHeir_0, s_X4_addHeir_1, s_X4_addHeir_4, s_X4_addHeir_5, s_X4_addHeir_8, s_X4_addHeir_9, s_X4_addHeir_12, s_X4_addHeir_13, s_X4_addHeir_16, s_X4_addHeir_17, s_X4_addHeir_18, s_X4_addHeir_19, s_X4_addHeir_22, s_X4_addHeir_23, s_X4_addHeir_26, s_X4_addHeir_27, s_X4_addHeir_28, s_X4_addHeir_29, s_X4_addHeir_30, s_X4_addHeir_33, s_X4_addHeir_34, s_X4_addHeir_35, s_X4_addHeir_38, kH, rH1, rH2, rH4, rH5, rH6, rH7, rH8, kH_1, kH_2, kH_3, kH_4, kH_5, kH_6, kH_7, lH_1, lH_2, lH_3, lH_4, lH_5, lH_6, lH_7, Hs_19, a1, x1, x2, l_no h5, h5, eg, nI_add, Nat.reduceAdd, Nat.reduceLT, cl_tl0, cl_tl1, rfv_some, if_true, if_false, or_true, true_or, eq_self, ite_true, ite_false, and_true, true_and, not_true_eq_false, not_false_eq_true]
theorem p_addRight {d L k v u o : Nat} {t : Nat → Nat} {g : mMem} (q : PR g t) (h7 : t 1 < 7) (h5 : t 0 ≤ 5) : Sp (d + 1) M_X4_addRight [.ref 19, .int (nI k), .int (nI v), .int (nI u), .int (nI o)] L g none (fun g' => PR g' (radd t k v u o) ∧ Fr (hs 19) g g') := by
  obtain ⟨⟨a1, a2, a3, a4, a5⟩, b, c⟩ := q
  obtain ⟨g', eg⟩ : ∃ g', up2 (up2 (up2 (up2 (up2 (up2 g 22 (t 1) (nI k)) 23 (t 1) (nI v)) 24 (t 1) (nI u)) 25 (t 1) (nI o)) 26 (t 1) (nI o)) 19 3 (nI (t 1 + 1)) = g' := ⟨_, rfl⟩
  have x1 : up2 g 22 (t 1) (nI k) 19 3 = nI (t 1) := by rw [up2_n (by omega), a2]
  have x2 : up2 (up2 g 22 (t 1) (nI k)) 23 (t 1) (nI v) 19 3 = nI (t 1) := by rw [up2_n (by omega), x1]
  have x3 : up2 (up2 (up2 g 22 (t 1) (nI k)) 23 (t 1) (nI v)) 24 (t 1) (nI u) 19 3 = nI (t 1) := by rw [up2_n (by omega), x2]
  have x4 : up2 (up2 (up2 (up2 g 22 (t 1) (nI k)) 23 (t 1) (nI v)) 24 (t 1) (nI u)) 25 (t 1) (nI o) 19 3 = nI (t 1) := by rw [up2_n (by omega), x3]
  have x5 : up2 (up2 (up2 (up2 (up2 g 22 (t 1) (nI k)) 23 (t 1) (nI v)) 24 (t 1) (nI u)) 25 (t 1) (nI o)) 26 (t 1) (nI o) 19 3 = nI (t 1) := by rw [up2_n (by omega), x4]
  have e0 : radd t k v u o 0 = t 0 := radd_o (by omega) (by omega) (by omega) (by omega) (by omega) (by omega)
  have f' : ∀ a i, ¬ (((a = 22 ∨ a = 23 ∨ a = 24 ∨ a = 25 ∨ a = 26) ∧ i = t 1) ∨ (a = 19 ∧ i = 3)) → g' a i = g a i := fun a i hn => by
    rw [← eg, up2_n (by omega), up2_n (by omega), up2_n (by omega), up2_n (by omega), up2_n (by omega), up2_n (by omega)]
  refine ⟨g', ⟨⟨⟨?_, ?_, ?_, ?_, ?_⟩, fun j hj => ?_, fun r hr => ?_⟩, fun a i hn => f' a i (by unfold hs at hn; omega)⟩, fun Q => ?_⟩
  · rw [f' _ _ (by omega), a1, e0]
  · rw [← eg, up2_a, radd_1]
  · rw [f' _ _ (by omega), a3]
  · rw [f' _ _ (by omega), a4]
  · rw [f' _ _ (by omega), a5]
  · rw [e0] at hj
    rw [f' _ _ (by omega), f' _ _ (by omega), radd_o (by omega) (by omega) (by omega) (by omega) (by omega) (by omega), radd_o (by omega) (by omega) (by omega) (by omega) (by omega) (by omega)]
    exact b j hj
  · rw [radd_1] at hr
    by_cases e : r = t 1
    · subst e
      obtain ⟨n1, n2, n3, n4, n5⟩ := radd_n (k := k) (v := v) (u := u) (o := o) h7
      rw [n1, n2, n3, n4, n5, ← eg]
      refine ⟨?_, ?_, ?_, ?_, ?_⟩
      · rw [up2_n (by omega), up2_n (by omega), up2_n (by omega), up2_n (by omega), up2_n (by omega), up2_a]
      · rw [up2_n (by omega), up2_n (by omega), up2_n (by omega), up2_n (by omega), up2_a]
      · rw [up2_n (by omega), up2_n (by omega), up2_n (by omega), up2_a]
      · rw [up2_n (by omega), up2_n (by omega), up2_a]
      · rw [up2_n (by omega), up2_a]
    · have hr1 : r < t 1 := by omega
      rw [f' _ _ (by omega), f' _ _ (by omega), f' _ _ (by omega), f' _ _ (by omega), f' _ _ (by omega)]
      rw [radd_o (j := 14 + r) (by omega) (by omega) (by omega) (by omega) (by omega) (by omega), radd_o (j := 21 + r) (by omega) (by omega) (by omega) (by omega) (by omega) (by omega), radd_o (j := 28 + r) (by omega) (by omega) (by omega) (by omega) (by omega) (by omega), radd_o (j := 35 + r) (by omega) (by omega) (by omega) (by omega) (by omega) (by omega), radd_o (j := 42 + r) (by omega) (by omega) (by omega) (by omega) (by omega) (by omega)]
      exact c r hr1
  · simp only [e_X4_addRight, s_X4_addRight_0, s_X4_addRight_1, s_X4_addRight_4, s_X4_addRight_6, s_X4_addRight_9, s_X4_addRight_10, s_X4_addRight_13, s_X4_addRight_14, s_X4_addRight_17, s_X4_addRight_18, s_X4_addRight_19, s_X4_addRight_20, s_X4_addRight_23, s_X4_addRight_24, s_X4_addRight_27, s_X4_addRight_28, s_X4_addRight_29, s_X4_addRight_30, s_X4_addRight_33, s_X4_addRight_34, s_X4_addRight_37, s_X4_addRight_38, s_X4_addRight_39, s_X4_addRight_40, s_X4_addRight_43, s_X4_addRight_44, s_X4_addRight_47, s_X4_addRight_49, s_X4_addRight_50, s_X4_addRight_51, s_X4_addRight_54, s_X4_addRight_55, s_X4_addRight_58, s_X4_addRight_60, s_X4_addRight_61, s_X4_addRight_62, s_X4_addRight_63, s_X4_addRight_66, s_X4_addRight_67, s_X4_addRight_68, s_X4_addRight_71, kH, rH1, rH2, rH4, rH5, rH6, rH7, rH8, kH_1, kH_2, kH_3, kH_4, kH_5, kH_6, kH_7, lH_1, lH_2, lH_3, lH_4, lH_5, lH_6, lH_7, Hs_19, a2, x1, x2, x3, x4, x5, l_no h7, h7, eg, nI_add, Nat.reduceAdd, Nat.reduceLT, cl_tl0, cl_tl1, rfv_some, if_true, if_false, or_true, true_or, eq_self, ite_true, ite_false, and_true, true_and, not_true_eq_false, not_false_eq_true]
