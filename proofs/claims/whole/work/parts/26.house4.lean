/-! ===== pure: the class's houses: a day ===== -/
theorem p_bring {d L o r : Nat} {t : Nat → Nat} {h : mMem} (ho : Hs o) (c : CR h o t) (w : Wf t) (hd : t 2 ≤ 2000) (hr : r < t 1) : Sp (d + 3) M_X4_bring [.ref o, .int (nI r)] L h none (Hc o (brg t r) h) := by
  have h1 := w.1
  have h2 := w.2.1
  obtain ⟨a1, a2, a3, a4, a5⟩ := w.2.2.2.1 r hr
  have hr7 : r < 7 := by omega
  have n2z : (nI 2 = (0 : Int32)) = False := eq_false (by decide)
  have q2 := pk_div (a := t (21 + r)) (d := 2) (by omega) (by omega) (by omega)
  have w1 := fun Q => p_comeBowls (d := d + 1) (L := L) (Q := Q) ho c w a4 (show t (21 + r) < 10000 by omega)
  have w2 := fun Q => p_comeBowls (d := d + 1) (L := L) (Q := Q) ho c w a4 (show t (21 + r) / 2 < 10000 by omega)
  have c3 := Hc_gts c w (n := t (21 + r) / 2) a4
  have v3 := Wf_gts w (n := t (21 + r) / 2) a4
  have a5' : t (42 + r) < gts t (t (35 + r)) (t (21 + r) / 2) 0 := by rw [gts_0]; exact a5
  have w3 := fun Q => p_comeBowls (d := d + 1) (L := L) (Q := Q) ho c3.1 v3 a5' (show t (21 + r) / 2 < 10000 by omega)
  have g42 := CR_42 c3.1 v3 (k := r) (by rw [gts_1]; exact hr)
  rw [gts_o (by omega) (by omega)] at g42
  have l1 : (nI (t 2) < nI (t (28 + r))) = (t 2 < t (28 + r)) := f_lt (by omega) (by omega)
  have l2 : (nI (t 2) = nI (t (28 + r))) = (t 2 = t (28 + r)) := f_eq (by omega) (by omega)
  have ek := CR_14 c w hr
  unfold brg
  rcases (show t (14 + r) = 1 ∨ t (14 + r) = 2 ∨ t (14 + r) = 3 ∨ t (14 + r) = 4 ∨ t (14 + r) = 5 by omega) with e | e | e | e | e <;> rw [e] at ek
  · rw [if_pos e]
    by_cases b : t 2 = t (28 + r)
    · rw [if_pos b]
      refine ⟨_, Hc_gts c w a4, fun Q => ?_⟩
      simp +decide only [e_X4_bring, s_X4_bring_0, s_X4_bring_1, s_X4_bring_4, s_X4_bring_5, s_X4_bring_6, s_X4_bring_7, s_X4_bring_8, s_X4_bring_9, s_X4_bring_10, s_X4_bring_13, s_X4_bring_14, s_X4_bring_15, s_X4_bring_40, s_X4_bring_41, s_X4_bring_44, s_X4_bring_45, s_X4_bring_48, s_X4_bring_49, s_X4_bring_50, s_X4_bring_53, s_X4_bring_54, s_X4_bring_55, s_X4_bring_58, s_X4_bring_59, s_X4_bring_60, s_X4_bring_61, s_X4_bring_64, s_X4_bring_65, s_X4_bring_66, s_X4_bring_69, s_X4_bring_72, s_X4_bring_73, s_X4_bring_76, s_X4_bring_77, s_X4_bring_80, s_X4_bring_81, s_X4_bring_82, s_X4_bring_85, s_X4_bring_86, s_X4_bring_87, s_X4_bring_90, s_X4_bring_91, s_X4_bring_92, s_X4_bring_93, s_X4_bring_96, s_X4_bring_97, s_X4_bring_98, s_X4_bring_101, s_X4_bring_102, s_X4_bring_103, s_X4_bring_104, s_X4_bring_107, s_X4_bring_110, s_X4_bring_111, s_X4_bring_114, s_X4_bring_115, s_X4_bring_118, s_X4_bring_119, s_X4_bring_120, s_X4_bring_123, s_X4_bring_124, s_X4_bring_125, s_X4_bring_128, s_X4_bring_129, s_X4_bring_130, s_X4_bring_131, s_X4_bring_134, s_X4_bring_135, s_X4_bring_136, s_X4_bring_139, s_X4_bring_142, s_X4_bring_143, s_X4_bring_144, s_X4_bring_147, kH, rH1, rH2, rH4, rH5, rH6, rH7, rH8, kH_1, kH_2, kH_3, kH_4, kH_5, kH_6, kH_7, lH_1, lH_2, lH_3, lH_4, lH_5, lH_6, lH_7, ho, hr7, CR_2 c, CR_28 c w hr, CR_35 c w hr, CR_21 c w hr, ek, l2, q2, n2z, eq_true b, w1, nI_lite, Option.toList_none, List.nil_append, Nat.reduceLT, cl_tl0, cl_tl1, rfv_some, if_true, if_false, or_true, true_or, eq_self, ite_true, ite_false, and_true, true_and, not_true_eq_false, not_false_eq_true]
    · rw [if_neg b]
      refine ⟨_, Hc_r c, fun Q => ?_⟩
      simp +decide only [e_X4_bring, s_X4_bring_0, s_X4_bring_1, s_X4_bring_4, s_X4_bring_5, s_X4_bring_6, s_X4_bring_7, s_X4_bring_8, s_X4_bring_9, s_X4_bring_10, s_X4_bring_13, s_X4_bring_14, s_X4_bring_15, s_X4_bring_40, s_X4_bring_41, s_X4_bring_44, s_X4_bring_45, s_X4_bring_48, s_X4_bring_49, s_X4_bring_50, s_X4_bring_53, s_X4_bring_54, s_X4_bring_55, s_X4_bring_58, s_X4_bring_59, s_X4_bring_60, s_X4_bring_61, s_X4_bring_64, s_X4_bring_65, s_X4_bring_66, s_X4_bring_69, s_X4_bring_72, s_X4_bring_73, s_X4_bring_76, s_X4_bring_77, s_X4_bring_80, s_X4_bring_81, s_X4_bring_82, s_X4_bring_85, s_X4_bring_86, s_X4_bring_87, s_X4_bring_90, s_X4_bring_91, s_X4_bring_92, s_X4_bring_93, s_X4_bring_96, s_X4_bring_97, s_X4_bring_98, s_X4_bring_101, s_X4_bring_102, s_X4_bring_103, s_X4_bring_104, s_X4_bring_107, s_X4_bring_110, s_X4_bring_111, s_X4_bring_114, s_X4_bring_115, s_X4_bring_118, s_X4_bring_119, s_X4_bring_120, s_X4_bring_123, s_X4_bring_124, s_X4_bring_125, s_X4_bring_128, s_X4_bring_129, s_X4_bring_130, s_X4_bring_131, s_X4_bring_134, s_X4_bring_135, s_X4_bring_136, s_X4_bring_139, s_X4_bring_142, s_X4_bring_143, s_X4_bring_144, s_X4_bring_147, kH, rH1, rH2, rH4, rH5, rH6, rH7, rH8, kH_1, kH_2, kH_3, kH_4, kH_5, kH_6, kH_7, lH_1, lH_2, lH_3, lH_4, lH_5, lH_6, lH_7, ho, hr7, CR_2 c, CR_28 c w hr, CR_35 c w hr, CR_21 c w hr, ek, l2, q2, n2z, eq_false b, w1, nI_lite, Option.toList_none, List.nil_append, Nat.reduceLT, cl_tl0, cl_tl1, rfv_some, if_true, if_false, or_true, true_or, eq_self, ite_true, ite_false, and_true, true_and, not_true_eq_false, not_false_eq_true]
  · rw [if_neg (by omega), if_pos e]
    by_cases b : t 2 = t (28 + r)
    · rw [if_pos b]
      refine ⟨_, Hc_t c3 (Hc_gts c3.1 v3 a5'), fun Q => ?_⟩
      simp +decide only [e_X4_bring, s_X4_bring_0, s_X4_bring_1, s_X4_bring_4, s_X4_bring_5, s_X4_bring_6, s_X4_bring_7, s_X4_bring_8, s_X4_bring_9, s_X4_bring_10, s_X4_bring_13, s_X4_bring_14, s_X4_bring_15, s_X4_bring_40, s_X4_bring_41, s_X4_bring_44, s_X4_bring_45, s_X4_bring_48, s_X4_bring_49, s_X4_bring_50, s_X4_bring_53, s_X4_bring_54, s_X4_bring_55, s_X4_bring_58, s_X4_bring_59, s_X4_bring_60, s_X4_bring_61, s_X4_bring_64, s_X4_bring_65, s_X4_bring_66, s_X4_bring_69, s_X4_bring_72, s_X4_bring_73, s_X4_bring_76, s_X4_bring_77, s_X4_bring_80, s_X4_bring_81, s_X4_bring_82, s_X4_bring_85, s_X4_bring_86, s_X4_bring_87, s_X4_bring_90, s_X4_bring_91, s_X4_bring_92, s_X4_bring_93, s_X4_bring_96, s_X4_bring_97, s_X4_bring_98, s_X4_bring_101, s_X4_bring_102, s_X4_bring_103, s_X4_bring_104, s_X4_bring_107, s_X4_bring_110, s_X4_bring_111, s_X4_bring_114, s_X4_bring_115, s_X4_bring_118, s_X4_bring_119, s_X4_bring_120, s_X4_bring_123, s_X4_bring_124, s_X4_bring_125, s_X4_bring_128, s_X4_bring_129, s_X4_bring_130, s_X4_bring_131, s_X4_bring_134, s_X4_bring_135, s_X4_bring_136, s_X4_bring_139, s_X4_bring_142, s_X4_bring_143, s_X4_bring_144, s_X4_bring_147, kH, rH1, rH2, rH4, rH5, rH6, rH7, rH8, kH_1, kH_2, kH_3, kH_4, kH_5, kH_6, kH_7, lH_1, lH_2, lH_3, lH_4, lH_5, lH_6, lH_7, ho, hr7, CR_2 c, CR_28 c w hr, CR_35 c w hr, CR_21 c w hr, ek, l2, q2, n2z, eq_true b, w2, w3, g42, nI_lite, Option.toList_none, List.nil_append, Nat.reduceLT, cl_tl0, cl_tl1, rfv_some, if_true, if_false, or_true, true_or, eq_self, ite_true, ite_false, and_true, true_and, not_true_eq_false, not_false_eq_true]
    · rw [if_neg b]
      refine ⟨_, Hc_r c, fun Q => ?_⟩
      simp +decide only [e_X4_bring, s_X4_bring_0, s_X4_bring_1, s_X4_bring_4, s_X4_bring_5, s_X4_bring_6, s_X4_bring_7, s_X4_bring_8, s_X4_bring_9, s_X4_bring_10, s_X4_bring_13, s_X4_bring_14, s_X4_bring_15, s_X4_bring_40, s_X4_bring_41, s_X4_bring_44, s_X4_bring_45, s_X4_bring_48, s_X4_bring_49, s_X4_bring_50, s_X4_bring_53, s_X4_bring_54, s_X4_bring_55, s_X4_bring_58, s_X4_bring_59, s_X4_bring_60, s_X4_bring_61, s_X4_bring_64, s_X4_bring_65, s_X4_bring_66, s_X4_bring_69, s_X4_bring_72, s_X4_bring_73, s_X4_bring_76, s_X4_bring_77, s_X4_bring_80, s_X4_bring_81, s_X4_bring_82, s_X4_bring_85, s_X4_bring_86, s_X4_bring_87, s_X4_bring_90, s_X4_bring_91, s_X4_bring_92, s_X4_bring_93, s_X4_bring_96, s_X4_bring_97, s_X4_bring_98, s_X4_bring_101, s_X4_bring_102, s_X4_bring_103, s_X4_bring_104, s_X4_bring_107, s_X4_bring_110, s_X4_bring_111, s_X4_bring_114, s_X4_bring_115, s_X4_bring_118, s_X4_bring_119, s_X4_bring_120, s_X4_bring_123, s_X4_bring_124, s_X4_bring_125, s_X4_bring_128, s_X4_bring_129, s_X4_bring_130, s_X4_bring_131, s_X4_bring_134, s_X4_bring_135, s_X4_bring_136, s_X4_bring_139, s_X4_bring_142, s_X4_bring_143, s_X4_bring_144, s_X4_bring_147, kH, rH1, rH2, rH4, rH5, rH6, rH7, rH8, kH_1, kH_2, kH_3, kH_4, kH_5, kH_6, kH_7, lH_1, lH_2, lH_3, lH_4, lH_5, lH_6, lH_7, ho, hr7, CR_2 c, CR_28 c w hr, CR_35 c w hr, CR_21 c w hr, ek, l2, q2, n2z, eq_false b, w1, nI_lite, Option.toList_none, List.nil_append, Nat.reduceLT, cl_tl0, cl_tl1, rfv_some, if_true, if_false, or_true, true_or, eq_self, ite_true, ite_false, and_true, true_and, not_true_eq_false, not_false_eq_true]
  · rw [if_neg (by omega), if_neg (by omega), if_pos e]
    by_cases b : t (28 + r) ≤ t 2
    · rw [if_pos b]
      refine ⟨_, Hc_gts c w a4, fun Q => ?_⟩
      simp +decide only [e_X4_bring, s_X4_bring_0, s_X4_bring_1, s_X4_bring_4, s_X4_bring_5, s_X4_bring_6, s_X4_bring_7, s_X4_bring_8, s_X4_bring_9, s_X4_bring_10, s_X4_bring_13, s_X4_bring_14, s_X4_bring_15, s_X4_bring_40, s_X4_bring_41, s_X4_bring_44, s_X4_bring_45, s_X4_bring_48, s_X4_bring_49, s_X4_bring_50, s_X4_bring_53, s_X4_bring_54, s_X4_bring_55, s_X4_bring_58, s_X4_bring_59, s_X4_bring_60, s_X4_bring_61, s_X4_bring_64, s_X4_bring_65, s_X4_bring_66, s_X4_bring_69, s_X4_bring_72, s_X4_bring_73, s_X4_bring_76, s_X4_bring_77, s_X4_bring_80, s_X4_bring_81, s_X4_bring_82, s_X4_bring_85, s_X4_bring_86, s_X4_bring_87, s_X4_bring_90, s_X4_bring_91, s_X4_bring_92, s_X4_bring_93, s_X4_bring_96, s_X4_bring_97, s_X4_bring_98, s_X4_bring_101, s_X4_bring_102, s_X4_bring_103, s_X4_bring_104, s_X4_bring_107, s_X4_bring_110, s_X4_bring_111, s_X4_bring_114, s_X4_bring_115, s_X4_bring_118, s_X4_bring_119, s_X4_bring_120, s_X4_bring_123, s_X4_bring_124, s_X4_bring_125, s_X4_bring_128, s_X4_bring_129, s_X4_bring_130, s_X4_bring_131, s_X4_bring_134, s_X4_bring_135, s_X4_bring_136, s_X4_bring_139, s_X4_bring_142, s_X4_bring_143, s_X4_bring_144, s_X4_bring_147, kH, rH1, rH2, rH4, rH5, rH6, rH7, rH8, kH_1, kH_2, kH_3, kH_4, kH_5, kH_6, kH_7, lH_1, lH_2, lH_3, lH_4, lH_5, lH_6, lH_7, ho, hr7, CR_2 c, CR_28 c w hr, CR_35 c w hr, CR_21 c w hr, ek, l1, q2, n2z, eq_false (show ¬ (t 2 < t (28 + r)) by omega), w1, nI_lite, Option.toList_none, List.nil_append, Nat.reduceLT, cl_tl0, cl_tl1, rfv_some, if_true, if_false, or_true, true_or, eq_self, ite_true, ite_false, and_true, true_and, not_true_eq_false, not_false_eq_true]
    · rw [if_neg b]
      refine ⟨_, Hc_r c, fun Q => ?_⟩
      simp +decide only [e_X4_bring, s_X4_bring_0, s_X4_bring_1, s_X4_bring_4, s_X4_bring_5, s_X4_bring_6, s_X4_bring_7, s_X4_bring_8, s_X4_bring_9, s_X4_bring_10, s_X4_bring_13, s_X4_bring_14, s_X4_bring_15, s_X4_bring_40, s_X4_bring_41, s_X4_bring_44, s_X4_bring_45, s_X4_bring_48, s_X4_bring_49, s_X4_bring_50, s_X4_bring_53, s_X4_bring_54, s_X4_bring_55, s_X4_bring_58, s_X4_bring_59, s_X4_bring_60, s_X4_bring_61, s_X4_bring_64, s_X4_bring_65, s_X4_bring_66, s_X4_bring_69, s_X4_bring_72, s_X4_bring_73, s_X4_bring_76, s_X4_bring_77, s_X4_bring_80, s_X4_bring_81, s_X4_bring_82, s_X4_bring_85, s_X4_bring_86, s_X4_bring_87, s_X4_bring_90, s_X4_bring_91, s_X4_bring_92, s_X4_bring_93, s_X4_bring_96, s_X4_bring_97, s_X4_bring_98, s_X4_bring_101, s_X4_bring_102, s_X4_bring_103, s_X4_bring_104, s_X4_bring_107, s_X4_bring_110, s_X4_bring_111, s_X4_bring_114, s_X4_bring_115, s_X4_bring_118, s_X4_bring_119, s_X4_bring_120, s_X4_bring_123, s_X4_bring_124, s_X4_bring_125, s_X4_bring_128, s_X4_bring_129, s_X4_bring_130, s_X4_bring_131, s_X4_bring_134, s_X4_bring_135, s_X4_bring_136, s_X4_bring_139, s_X4_bring_142, s_X4_bring_143, s_X4_bring_144, s_X4_bring_147, kH, rH1, rH2, rH4, rH5, rH6, rH7, rH8, kH_1, kH_2, kH_3, kH_4, kH_5, kH_6, kH_7, lH_1, lH_2, lH_3, lH_4, lH_5, lH_6, lH_7, ho, hr7, CR_2 c, CR_28 c w hr, CR_35 c w hr, CR_21 c w hr, ek, l1, q2, n2z, eq_true (show t 2 < t (28 + r) by omega), w1, nI_lite, Option.toList_none, List.nil_append, Nat.reduceLT, cl_tl0, cl_tl1, rfv_some, if_true, if_false, or_true, true_or, eq_self, ite_true, ite_false, and_true, true_and, not_true_eq_false, not_false_eq_true]
  all_goals
    rw [if_neg (by omega), if_neg (by omega), if_neg (by omega)]
    obtain ⟨h', c', e'⟩ := p_bringAsLent (d := d) (L := L) ho c w hd hr
    refine ⟨h', c', fun Q => ?_⟩
    simp +decide only [e_X4_bring, s_X4_bring_0, s_X4_bring_1, s_X4_bring_4, s_X4_bring_5, s_X4_bring_6, s_X4_bring_7, s_X4_bring_8, s_X4_bring_9, s_X4_bring_10, s_X4_bring_13, s_X4_bring_14, s_X4_bring_15, s_X4_bring_40, s_X4_bring_41, s_X4_bring_44, s_X4_bring_45, s_X4_bring_48, s_X4_bring_49, s_X4_bring_50, s_X4_bring_53, s_X4_bring_54, s_X4_bring_55, s_X4_bring_58, s_X4_bring_59, s_X4_bring_60, s_X4_bring_61, s_X4_bring_64, s_X4_bring_65, s_X4_bring_66, s_X4_bring_69, s_X4_bring_72, s_X4_bring_73, s_X4_bring_76, s_X4_bring_77, s_X4_bring_80, s_X4_bring_81, s_X4_bring_82, s_X4_bring_85, s_X4_bring_86, s_X4_bring_87, s_X4_bring_90, s_X4_bring_91, s_X4_bring_92, s_X4_bring_93, s_X4_bring_96, s_X4_bring_97, s_X4_bring_98, s_X4_bring_101, s_X4_bring_102, s_X4_bring_103, s_X4_bring_104, s_X4_bring_107, s_X4_bring_110, s_X4_bring_111, s_X4_bring_114, s_X4_bring_115, s_X4_bring_118, s_X4_bring_119, s_X4_bring_120, s_X4_bring_123, s_X4_bring_124, s_X4_bring_125, s_X4_bring_128, s_X4_bring_129, s_X4_bring_130, s_X4_bring_131, s_X4_bring_134, s_X4_bring_135, s_X4_bring_136, s_X4_bring_139, s_X4_bring_142, s_X4_bring_143, s_X4_bring_144, s_X4_bring_147, kH, rH1, rH2, rH4, rH5, rH6, rH7, rH8, kH_1, kH_2, kH_3, kH_4, kH_5, kH_6, kH_7, lH_1, lH_2, lH_3, lH_4, lH_5, lH_6, lH_7, ho, hr7, CR_21 c w hr, ek, q2, n2z, e', nI_lite, Option.toList_none, List.nil_append, Nat.reduceLT, cl_tl0, cl_tl1, rfv_some, if_true, if_false, or_true, true_or, eq_self, ite_true, ite_false, and_true, true_and, not_true_eq_false, not_false_eq_true]
def eat (k : Nat) (t : Nat → Nat) : Nat → Nat := if t (4 + k) = 0 then tset t (9 + k) (min (t (9 + k) + 1) 20) else tset (tset t (4 + k) (t (4 + k) - 1)) (9 + k) (t (9 + k) - 2)
theorem eat_p {t : Nat → Nat} (w : Wf t) {k : Nat} (hk : k < t 0) : Wf (eat k t) ∧ eat k t 0 = t 0 ∧ eat k t 1 = t 1 ∧ eat k t 2 = t 2 := by
  have h1 := w.1
  have h2 := w.2.1
  have a := w.2.2.1 k hk
  have e0 : tset t (4 + k) (t (4 + k) - 1) 0 = t 0 := ts_o (by omega)
  have e1 : tset t (4 + k) (t (4 + k) - 1) 1 = t 1 := ts_o (by omega)
  have e2 : tset t (4 + k) (t (4 + k) - 1) 2 = t 2 := ts_o (by omega)
  unfold eat
  split
  · exact ⟨Wf_set w (by omega) (fun k => by omega) (by omega), ts_o (by omega), ts_o (by omega), ts_o (by omega)⟩
  · exact ⟨Wf_set (Wf_set w (by omega) (fun k => by omega) (by omega)) (by omega) (fun k => by rw [e0, e1]; omega) (by omega), (ts_o (by omega)).trans e0, (ts_o (by omega)).trans e1, (ts_o (by omega)).trans e2⟩
/-- sets as numbers -/
theorem orb : ∀ r, r < 7 → ∀ b, b < 2 ^ r → (nI b ||| (nI 1 <<< (nI r &&& 31))) = nI (b + 2 ^ r) := by decide +kernel
def brs (r : Nat) (t : Nat → Nat) : Nat → Nat := brg t r
def eaf (k : Nat) (p : (Nat → Nat) × Nat) : (Nat → Nat) × Nat := (eat k p.1, if p.1 (4 + k) = 0 then p.2 else p.2 + 2 ^ k)
def brgs (t : Nat → Nat) : Nat → Nat := itr brs (t 1) 0 t
def eaten (t : Nat → Nat) : (Nat → Nat) × Nat := itr eaf (t 0) 0 (t, 0)
def dayT (t : Nat → Nat) : Nat → Nat := tset (eaten (brgs t)).1 2 (t 2 + 1)
def dayF (t : Nat → Nat) : Nat := (eaten (brgs t)).2
theorem brgs_p {t : Nat → Nat} (w : Wf t) : Wf (brgs t) ∧ brgs t 0 = t 0 ∧ brgs t 1 = t 1 ∧ brgs t 2 = t 2 := by
  refine itr_inv (P := fun _ u => Wf u ∧ u 0 = t 0 ∧ u 1 = t 1 ∧ u 2 = t 2) (N := t 1) ?_ (t 1) 0 t (by omega) ⟨w, rfl, rfl, rfl⟩
  rintro i u hi ⟨wu, e0, e1, e2⟩
  obtain ⟨x, y0, y1, y2⟩ := brg_p wu (r := i) (by omega)
  exact ⟨x, y0.trans e0, y1.trans e1, y2.trans e2⟩
theorem eaten_p {t : Nat → Nat} (w : Wf t) : (Wf (eaten t).1 ∧ (eaten t).1 0 = t 0 ∧ (eaten t).1 1 = t 1 ∧ (eaten t).1 2 = t 2) ∧ (eaten t).2 < 2 ^ t 0 := by
  refine itr_inv (P := fun i u => (Wf u.1 ∧ u.1 0 = t 0 ∧ u.1 1 = t 1 ∧ u.1 2 = t 2) ∧ u.2 < 2 ^ i) (N := t 0) ?_ (t 0) 0 (t, 0) (by omega) ⟨⟨w, rfl, rfl, rfl⟩, Nat.one_pos⟩
  rintro i u hi ⟨⟨wu, e0, e1, e2⟩, hf⟩
  obtain ⟨x, y0, y1, y2⟩ := eat_p wu (k := i) (by omega)
  refine ⟨⟨x, y0.trans e0, y1.trans e1, y2.trans e2⟩, ?_⟩
  have := Nat.pow_succ 2 i
  unfold eaf
  dsimp only
  split <;> omega
theorem dayT_p {t : Nat → Nat} (w : Wf t) : Wf (dayT t) ∧ dayT t 0 = t 0 ∧ dayT t 1 = t 1 ∧ dayT t 2 = t 2 + 1 := by
  obtain ⟨x, y0, y1, y2⟩ := brgs_p w
  obtain ⟨⟨x', z0, z1, z2⟩, -⟩ := eaten_p x
  have h1 := x'.1
  have h2 := x'.2.1
  exact ⟨Wf_set x' (by omega) (fun k => by omega) (by omega), (ts_o (by omega)).trans (z0.trans y0), (ts_o (by omega)).trans (z1.trans y1), ts_s _ _ _⟩
theorem dayF_l {t : Nat → Nat} (w : Wf t) : dayF t < 2 ^ t 0 := by
  obtain ⟨x, y0, y1, y2⟩ := brgs_p w
  have := (eaten_p x).2
  rw [y0] at this
  exact this
theorem p_passDay {d L o : Nat} {t : Nat → Nat} {h : mMem} (ho : Hs o) (c : CR h o t) (w : Wf t) (hd : t 2 ≤ 1999) : Sp (d + 4) M_X4_passDay [.ref o] L h (some (.int (nI (dayF t)))) (Hc o (dayT t) h) := by
  have h1 := w.1
  have h2 := w.2.1
  obtain ⟨h', ⟨⟨x, y0, y1, y2⟩, c1⟩, e1⟩ := lp (N := t 1) (f := brs) (I := fun i u g => (Wf u ∧ u 0 = t 0 ∧ u 1 = t 1 ∧ u 2 = t 2) ∧ Hc o u h g) (W := fun i u g Q => Wp (d + 3) M_X4_passDay none 2 [.ref o, .int (nI i), jnk] [] (S0 L, g) Q) (by
    rintro i u g hi ⟨⟨wu, u0, u1, u2⟩, cu⟩
    obtain ⟨x, y0, y1, y2⟩ := brg_p wu (r := i) (by omega)
    obtain ⟨g', c', e'⟩ := p_bring (d := d) (L := L) ho cu.1 wu (by omega) (show i < u 1 by omega)
    refine ⟨g', ⟨⟨x, y0.trans u0, y1.trans u1, y2.trans u2⟩, Hc_t cu c'⟩, fun Q => ?_⟩
    have l : (nI (u 1) ≤ nI i) = False := by rw [f_le (by omega) (by omega)]; exact eq_false (by omega)
    rw [s_X4_passDay_2]
    simp only [s_X4_passDay_0, s_X4_passDay_1, s_X4_passDay_3, s_X4_passDay_4, s_X4_passDay_7, s_X4_passDay_10, s_X4_passDay_11, s_X4_passDay_12, s_X4_passDay_15, s_X4_passDay_18, s_X4_passDay_21, s_X4_passDay_22, s_X4_passDay_23, s_X4_passDay_24, s_X4_passDay_25, s_X4_passDay_26, s_X4_passDay_27, s_X4_passDay_30, s_X4_passDay_33, s_X4_passDay_34, s_X4_passDay_37, s_X4_passDay_38, s_X4_passDay_39, s_X4_passDay_42, s_X4_passDay_43, s_X4_passDay_46, s_X4_passDay_47, s_X4_passDay_48, s_X4_passDay_49, s_X4_passDay_50, s_X4_passDay_51, s_X4_passDay_52, s_X4_passDay_53, s_X4_passDay_56, s_X4_passDay_57, s_X4_passDay_58, s_X4_passDay_61, s_X4_passDay_62, s_X4_passDay_63, s_X4_passDay_64, s_X4_passDay_65, s_X4_passDay_66, s_X4_passDay_69, s_X4_passDay_70, s_X4_passDay_71, s_X4_passDay_72, s_X4_passDay_73, s_X4_passDay_74, s_X4_passDay_75, s_X4_passDay_76, s_X4_passDay_79, s_X4_passDay_80, s_X4_passDay_83, s_X4_passDay_84, s_X4_passDay_85, s_X4_passDay_88, s_X4_passDay_89, s_X4_passDay_90, s_X4_passDay_91, s_X4_passDay_92, s_X4_passDay_94, s_X4_passDay_97, s_X4_passDay_98, s_X4_passDay_101, s_X4_passDay_104, s_X4_passDay_105, s_X4_passDay_106, s_X4_passDay_109, s_X4_passDay_110, s_X4_passDay_111, s_X4_passDay_114, s_X4_passDay_115, kH, rH1, rH2, rH4, rH5, rH6, rH7, rH8, kH_1, kH_2, kH_3, kH_4, kH_5, kH_6, kH_7, lH_1, lH_2, lH_3, lH_4, lH_5, lH_6, lH_7, ho, CR_1 cu.1, l, e', nI_add, Option.toList_none, List.nil_append, Nat.reduceLT, cl_tl0, cl_tl1, rfv_some, if_true, if_false, or_true, true_or, eq_self, ite_true, ite_false, and_true, true_and, not_true_eq_false, not_false_eq_true]) (t 1) 0 t h (by omega) ⟨⟨w, rfl, rfl, rfl⟩, Hc_r c⟩
  change Wf (brgs t) at x
  change brgs t 0 = t 0 at y0
  change brgs t 1 = t 1 at y1
  change brgs t 2 = t 2 at y2
  change Hc o (brgs t) h h' at c1
  obtain ⟨h'', ⟨⟨⟨x2, z0, z1, z2⟩, hf⟩, c2⟩, e2⟩ := lp (N := t 0) (f := eaf) (I := fun i u g => ((Wf u.1 ∧ u.1 0 = t 0 ∧ u.1 1 = t 1 ∧ u.1 2 = t 2) ∧ u.2 < 2 ^ i) ∧ Hc o u.1 h g) (W := fun i u g Q => Wp (d + 3) M_X4_passDay none 25 [.ref o, .int (nI u.2), .int (nI i)] [] (S0 L, g) Q) (by
    rintro i u g hi ⟨⟨⟨wu, u0, u1, u2⟩, hf⟩, cu⟩
    obtain ⟨x, y0, y1, y2⟩ := eat_p wu (k := i) (by omega)
    have hi5 : i < 5 := by omega
    have hi0 : i < u.1 0 := by omega
    have hp := Nat.pow_succ 2 i
    have l : (nI (u.1 0) ≤ nI i) = False := by rw [f_le (by omega) (by omega)]; exact eq_false (by omega)
    have b := wu.2.2.1 i hi0
    have lz : (nI (u.1 (4 + i)) ≤ 0) = (u.1 (4 + i) = 0) := by
      have := f_le (a := u.1 (4 + i)) (b := 0) (by omega) (by omega)
      rw [nI_0] at this
      rw [this]
      exact propext (by omega)
    have m1 := mn0 (a := u.1 (9 + i) + 1) (b := 20) (by omega) (by omega)
    have m2 := mx0 (a := u.1 (9 + i)) (b := 2) (by omega) (by omega)
    have ob := orb i (by omega) u.2 hf
    by_cases z : u.1 (4 + i) = 0
    · have hu := Hc_u (v := min (u.1 (9 + i) + 1) 20) (a := o + 2) (i := i) cu.1 wu (by omega) (by omega) (lo_9 hi5)
      have ee : eat i u.1 = tset u.1 (9 + i) (min (u.1 (9 + i) + 1) 20) := if_pos z
      rw [← ee] at hu
      have ef : (eaf i u).2 = u.2 := by unfold eaf; exact if_pos z
      refine ⟨_, ⟨⟨⟨x, y0.trans u0, y1.trans u1, y2.trans u2⟩, by rw [ef]; omega⟩, Hc_t cu hu⟩, fun Q => ?_⟩
      rw [s_X4_passDay_25, ef]
      simp only [s_X4_passDay_0, s_X4_passDay_1, s_X4_passDay_2, s_X4_passDay_3, s_X4_passDay_4, s_X4_passDay_7, s_X4_passDay_10, s_X4_passDay_11, s_X4_passDay_12, s_X4_passDay_15, s_X4_passDay_18, s_X4_passDay_21, s_X4_passDay_22, s_X4_passDay_23, s_X4_passDay_24, s_X4_passDay_26, s_X4_passDay_27, s_X4_passDay_30, s_X4_passDay_33, s_X4_passDay_34, s_X4_passDay_37, s_X4_passDay_38, s_X4_passDay_39, s_X4_passDay_42, s_X4_passDay_43, s_X4_passDay_46, s_X4_passDay_47, s_X4_passDay_48, s_X4_passDay_49, s_X4_passDay_50, s_X4_passDay_51, s_X4_passDay_52, s_X4_passDay_53, s_X4_passDay_56, s_X4_passDay_57, s_X4_passDay_58, s_X4_passDay_61, s_X4_passDay_62, s_X4_passDay_63, s_X4_passDay_64, s_X4_passDay_65, s_X4_passDay_66, s_X4_passDay_69, s_X4_passDay_70, s_X4_passDay_71, s_X4_passDay_72, s_X4_passDay_73, s_X4_passDay_74, s_X4_passDay_75, s_X4_passDay_76, s_X4_passDay_79, s_X4_passDay_80, s_X4_passDay_83, s_X4_passDay_84, s_X4_passDay_85, s_X4_passDay_88, s_X4_passDay_89, s_X4_passDay_90, s_X4_passDay_91, s_X4_passDay_92, s_X4_passDay_94, s_X4_passDay_97, s_X4_passDay_98, s_X4_passDay_101, s_X4_passDay_104, s_X4_passDay_105, s_X4_passDay_106, s_X4_passDay_109, s_X4_passDay_110, s_X4_passDay_111, s_X4_passDay_114, s_X4_passDay_115, kH, rH1, rH2, rH4, rH5, rH6, rH7, rH8, kH_1, kH_2, kH_3, kH_4, kH_5, kH_6, kH_7, lH_1, lH_2, lH_3, lH_4, lH_5, lH_6, lH_7, ho, hi5, CR_0 cu.1, CR_4 cu.1 wu hi0, CR_9 cu.1 wu hi0, l, lz, eq_true z, m1, nI_add, Nat.reduceLT, cl_tl0, cl_tl1, rfv_some, if_true, if_false, or_true, true_or, eq_self, ite_true, ite_false, and_true, true_and, not_true_eq_false, not_false_eq_true]
    · have pk1 := pk_sub (a := u.1 (4 + i)) (b := 1) (by omega)
      have c1 := Hc_u (v := u.1 (4 + i) - 1) (a := o + 1) (i := i) cu.1 wu (by omega) (by omega) (lo_4 hi5)
      have w1 : Wf (tset u.1 (4 + i) (u.1 (4 + i) - 1)) := Wf_set wu (by omega) (fun k => by omega) (by omega)
      have e0 : tset u.1 (4 + i) (u.1 (4 + i) - 1) 0 = u.1 0 := ts_o (by omega)
      have e9 : tset u.1 (4 + i) (u.1 (4 + i) - 1) (9 + i) = u.1 (9 + i) := ts_o (by omega)
      have r9 := CR_9 c1.1 w1 (k := i) (by omega)
      rw [e9] at r9
      have hu := Hc_t c1 (Hc_u (v := u.1 (9 + i) - 2) (a := o + 2) (i := i) c1.1 w1 (by omega) (by omega) (lo_9 hi5))
      have ee : eat i u.1 = tset (tset u.1 (4 + i) (u.1 (4 + i) - 1)) (9 + i) (u.1 (9 + i) - 2) := if_neg z
      rw [← ee] at hu
      have ef : (eaf i u).2 = u.2 + 2 ^ i := by unfold eaf; exact if_neg z
      refine ⟨_, ⟨⟨⟨x, y0.trans u0, y1.trans u1, y2.trans u2⟩, by rw [ef]; omega⟩, Hc_t cu hu⟩, fun Q => ?_⟩
      rw [s_X4_passDay_25, ef]
      simp only [s_X4_passDay_0, s_X4_passDay_1, s_X4_passDay_2, s_X4_passDay_3, s_X4_passDay_4, s_X4_passDay_7, s_X4_passDay_10, s_X4_passDay_11, s_X4_passDay_12, s_X4_passDay_15, s_X4_passDay_18, s_X4_passDay_21, s_X4_passDay_22, s_X4_passDay_23, s_X4_passDay_24, s_X4_passDay_26, s_X4_passDay_27, s_X4_passDay_30, s_X4_passDay_33, s_X4_passDay_34, s_X4_passDay_37, s_X4_passDay_38, s_X4_passDay_39, s_X4_passDay_42, s_X4_passDay_43, s_X4_passDay_46, s_X4_passDay_47, s_X4_passDay_48, s_X4_passDay_49, s_X4_passDay_50, s_X4_passDay_51, s_X4_passDay_52, s_X4_passDay_53, s_X4_passDay_56, s_X4_passDay_57, s_X4_passDay_58, s_X4_passDay_61, s_X4_passDay_62, s_X4_passDay_63, s_X4_passDay_64, s_X4_passDay_65, s_X4_passDay_66, s_X4_passDay_69, s_X4_passDay_70, s_X4_passDay_71, s_X4_passDay_72, s_X4_passDay_73, s_X4_passDay_74, s_X4_passDay_75, s_X4_passDay_76, s_X4_passDay_79, s_X4_passDay_80, s_X4_passDay_83, s_X4_passDay_84, s_X4_passDay_85, s_X4_passDay_88, s_X4_passDay_89, s_X4_passDay_90, s_X4_passDay_91, s_X4_passDay_92, s_X4_passDay_94, s_X4_passDay_97, s_X4_passDay_98, s_X4_passDay_101, s_X4_passDay_104, s_X4_passDay_105, s_X4_passDay_106, s_X4_passDay_109, s_X4_passDay_110, s_X4_passDay_111, s_X4_passDay_114, s_X4_passDay_115, kH, rH1, rH2, rH4, rH5, rH6, rH7, rH8, kH_1, kH_2, kH_3, kH_4, kH_5, kH_6, kH_7, lH_1, lH_2, lH_3, lH_4, lH_5, lH_6, lH_7, ho, hi5, CR_0 cu.1, CR_4 cu.1 wu hi0, r9, l, lz, eq_false z, m2, pk1, ob, nI_add, Nat.reduceLT, cl_tl0, cl_tl1, rfv_some, if_true, if_false, or_true, true_or, eq_self, ite_true, ite_false, and_true, true_and, not_true_eq_false, not_false_eq_true]) (t 0) 0 (brgs t, 0) h' (by omega) ⟨⟨⟨x, y0, y1, y2⟩, Nat.one_pos⟩, c1⟩
  have et : itr eaf (t 0) 0 (brgs t, 0) = eaten (brgs t) := by unfold eaten; rw [y0]
  rw [et] at x2 z0 z1 z2 hf c2 e2
  refine ⟨_, Hc_t c2 (Hc_u (a := o) (i := 10) (j := 2) (v := t 2 + 1) c2.1 x2 (by omega) (by omega) rfl), fun Q => ?_⟩
  have l1 : (nI (t 1) ≤ nI (t 1)) = True := by rw [f_le (by omega) (by omega)]; exact eq_true (Nat.le_refl _)
  have l0 : (nI (t 0) ≤ nI (t 0)) = True := by rw [f_le (by omega) (by omega)]; exact eq_true (Nat.le_refl _)
  have r0 := CR_0 c2.1
  have r1 := CR_1 c1.1
  have r2 := CR_2 c2.1
  rw [z0] at r0
  rw [y1] at r1
  rw [z2] at r2
  simp only [e_X4_passDay, s_X4_passDay_0, s_X4_passDay_1, s_X4_passDay_3, s_X4_passDay_4, s_X4_passDay_7, s_X4_passDay_10, s_X4_passDay_11, s_X4_passDay_12, s_X4_passDay_15, s_X4_passDay_18, s_X4_passDay_21, s_X4_passDay_22, s_X4_passDay_23, s_X4_passDay_24, s_X4_passDay_26, s_X4_passDay_27, s_X4_passDay_30, s_X4_passDay_33, s_X4_passDay_34, s_X4_passDay_37, s_X4_passDay_38, s_X4_passDay_39, s_X4_passDay_42, s_X4_passDay_43, s_X4_passDay_46, s_X4_passDay_47, s_X4_passDay_48, s_X4_passDay_49, s_X4_passDay_50, s_X4_passDay_51, s_X4_passDay_52, s_X4_passDay_53, s_X4_passDay_56, s_X4_passDay_57, s_X4_passDay_58, s_X4_passDay_61, s_X4_passDay_62, s_X4_passDay_63, s_X4_passDay_64, s_X4_passDay_65, s_X4_passDay_66, s_X4_passDay_69, s_X4_passDay_70, s_X4_passDay_71, s_X4_passDay_72, s_X4_passDay_73, s_X4_passDay_74, s_X4_passDay_75, s_X4_passDay_76, s_X4_passDay_79, s_X4_passDay_80, s_X4_passDay_83, s_X4_passDay_84, s_X4_passDay_85, s_X4_passDay_88, s_X4_passDay_89, s_X4_passDay_90, s_X4_passDay_91, s_X4_passDay_92, s_X4_passDay_94, s_X4_passDay_97, s_X4_passDay_98, s_X4_passDay_101, s_X4_passDay_104, s_X4_passDay_105, s_X4_passDay_106, s_X4_passDay_109, s_X4_passDay_110, s_X4_passDay_111, s_X4_passDay_114, s_X4_passDay_115, e1, e2, kH, rH1, rH2, rH4, rH5, rH6, rH7, rH8, kH_1, kH_2, kH_3, kH_4, kH_5, kH_6, kH_7, lH_1, lH_2, lH_3, lH_4, lH_5, lH_6, lH_7, ho, cl_tl0, cl_tl1, rfv_some, if_true, if_false, or_true, true_or, eq_self, ite_true, ite_false, and_true, true_and, not_true_eq_false, not_false_eq_true]
  rw [s_X4_passDay_2]
  simp only [s_X4_passDay_0, s_X4_passDay_1, s_X4_passDay_3, s_X4_passDay_4, s_X4_passDay_7, s_X4_passDay_10, s_X4_passDay_11, s_X4_passDay_12, s_X4_passDay_15, s_X4_passDay_18, s_X4_passDay_21, s_X4_passDay_22, s_X4_passDay_23, s_X4_passDay_24, s_X4_passDay_26, s_X4_passDay_27, s_X4_passDay_30, s_X4_passDay_33, s_X4_passDay_34, s_X4_passDay_37, s_X4_passDay_38, s_X4_passDay_39, s_X4_passDay_42, s_X4_passDay_43, s_X4_passDay_46, s_X4_passDay_47, s_X4_passDay_48, s_X4_passDay_49, s_X4_passDay_50, s_X4_passDay_51, s_X4_passDay_52, s_X4_passDay_53, s_X4_passDay_56, s_X4_passDay_57, s_X4_passDay_58, s_X4_passDay_61, s_X4_passDay_62, s_X4_passDay_63, s_X4_passDay_64, s_X4_passDay_65, s_X4_passDay_66, s_X4_passDay_69, s_X4_passDay_70, s_X4_passDay_71, s_X4_passDay_72, s_X4_passDay_73, s_X4_passDay_74, s_X4_passDay_75, s_X4_passDay_76, s_X4_passDay_79, s_X4_passDay_80, s_X4_passDay_83, s_X4_passDay_84, s_X4_passDay_85, s_X4_passDay_88, s_X4_passDay_89, s_X4_passDay_90, s_X4_passDay_91, s_X4_passDay_92, s_X4_passDay_94, s_X4_passDay_97, s_X4_passDay_98, s_X4_passDay_101, s_X4_passDay_104, s_X4_passDay_105, s_X4_passDay_106, s_X4_passDay_109, s_X4_passDay_110, s_X4_passDay_111, s_X4_passDay_114, s_X4_passDay_115, kH, rH1, rH2, rH4, rH5, rH6, rH7, rH8, kH_1, kH_2, kH_3, kH_4, kH_5, kH_6, kH_7, lH_1, lH_2, lH_3, lH_4, lH_5, lH_6, lH_7, ho, r1, l1, e2, cl_tl0, cl_tl1, rfv_some, if_true, if_false, or_true, true_or, eq_self, ite_true, ite_false, and_true, true_and, not_true_eq_false, not_false_eq_true]
  rw [s_X4_passDay_25]
  simp only [s_X4_passDay_0, s_X4_passDay_1, s_X4_passDay_3, s_X4_passDay_4, s_X4_passDay_7, s_X4_passDay_10, s_X4_passDay_11, s_X4_passDay_12, s_X4_passDay_15, s_X4_passDay_18, s_X4_passDay_21, s_X4_passDay_22, s_X4_passDay_23, s_X4_passDay_24, s_X4_passDay_26, s_X4_passDay_27, s_X4_passDay_30, s_X4_passDay_33, s_X4_passDay_34, s_X4_passDay_37, s_X4_passDay_38, s_X4_passDay_39, s_X4_passDay_42, s_X4_passDay_43, s_X4_passDay_46, s_X4_passDay_47, s_X4_passDay_48, s_X4_passDay_49, s_X4_passDay_50, s_X4_passDay_51, s_X4_passDay_52, s_X4_passDay_53, s_X4_passDay_56, s_X4_passDay_57, s_X4_passDay_58, s_X4_passDay_61, s_X4_passDay_62, s_X4_passDay_63, s_X4_passDay_64, s_X4_passDay_65, s_X4_passDay_66, s_X4_passDay_69, s_X4_passDay_70, s_X4_passDay_71, s_X4_passDay_72, s_X4_passDay_73, s_X4_passDay_74, s_X4_passDay_75, s_X4_passDay_76, s_X4_passDay_79, s_X4_passDay_80, s_X4_passDay_83, s_X4_passDay_84, s_X4_passDay_85, s_X4_passDay_88, s_X4_passDay_89, s_X4_passDay_90, s_X4_passDay_91, s_X4_passDay_92, s_X4_passDay_94, s_X4_passDay_97, s_X4_passDay_98, s_X4_passDay_101, s_X4_passDay_104, s_X4_passDay_105, s_X4_passDay_106, s_X4_passDay_109, s_X4_passDay_110, s_X4_passDay_111, s_X4_passDay_114, s_X4_passDay_115, kH, rH1, rH2, rH4, rH5, rH6, rH7, rH8, kH_1, kH_2, kH_3, kH_4, kH_5, kH_6, kH_7, lH_1, lH_2, lH_3, lH_4, lH_5, lH_6, lH_7, ho, r0, l0, r2, nI_add, cl_tl0, cl_tl1, rfv_some, if_true, if_false, or_true, true_or, eq_self, ite_true, ite_false, and_true, true_and, not_true_eq_false, not_false_eq_true]
  rfl
