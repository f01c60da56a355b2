/-! ===== pure: the model's pasts ===== -/
def AcM (h : mMem) (u : Nat) (ps : Nat → Nat → Nat) : Prop := u ≤ 24 ∧ h 106 2 = nI u ∧ ∀ i, i < u → MR h (1 + i) (ps i)
def mr (a i : Nat) : Prop := (a = 106 ∧ i = 2) ∨ (a = 107 ∧ 50 ≤ i ∧ i < 1250)
theorem p_keepPast {d L u : Nat} {t : Nat → Nat} {ps : Nat → Nat → Nat} {h : mMem} (c : MR h 0 t) (ac : AcM h u ps) : Sp (d + 2) M_X8_keepPast [.ref 106] L h none (fun h' => AcM h' (kpU u) (kpS u ps t) ∧ Fr mr h h') := by
  obtain ⟨hu, a2, an⟩ := ac
  have l1 : (nI u = nI 24) = (u = 24) := f_eq (by omega) (by omega)
  by_cases z : u = 24
  · subst z
    obtain ⟨h1, ⟨f1, g1, g2⟩, e1⟩ := lp (N := 1150) (f := fun _ (_ : Unit) => ()) (I := fun i _ g => Fr (fun a i => a = 107 ∧ 50 ≤ i ∧ i < 1200) h g ∧ (∀ j, j < i → g 107 (50 + j) = h 107 (100 + j)) ∧ (∀ j, i ≤ j → g 107 (50 + j) = h 107 (50 + j))) (W := fun i _ g Q => Wp (d + 1) M_X8_keepPast none 2 [.ref 106, .int (nI i)] [] (S0 L, g) Q) (by
      rintro i _ g hi ⟨f, g1, g2⟩
      have r : g 107 (100 + i) = h 107 (100 + i) := by
        have := g2 (50 + i) (by omega)
        rwa [show 50 + (50 + i) = 100 + i by omega] at this
      have r2 : g 106 2 = nI 24 := (f 106 2 (by omega)).trans a2
      refine ⟨up2 g 107 (50 + i) (h 107 (100 + i)), ⟨Fr_t f (Fr_u ⟨rfl, by omega, by omega⟩), fun j hj => ?_, fun j hj => ?_⟩, fun Q => ?_⟩
      · by_cases e : j = i
        · rw [e, up2_a]
        · rw [up2_n (by omega)]
          exact g1 j (by omega)
      · rw [up2_n (by omega)]
        exact g2 j (by omega)
      · rw [s_X8_keepPast_2]
        simp only [s_X8_keepPast_0, s_X8_keepPast_1, s_X8_keepPast_3, s_X8_keepPast_6, s_X8_keepPast_9, s_X8_keepPast_10, s_X8_keepPast_13, s_X8_keepPast_15, s_X8_keepPast_18, s_X8_keepPast_19, s_X8_keepPast_22, s_X8_keepPast_24, s_X8_keepPast_25, s_X8_keepPast_26, s_X8_keepPast_27, s_X8_keepPast_30, s_X8_keepPast_32, s_X8_keepPast_33, s_X8_keepPast_34, s_X8_keepPast_35, s_X8_keepPast_36, s_X8_keepPast_39, s_X8_keepPast_42, s_X8_keepPast_43, s_X8_keepPast_44, s_X8_keepPast_47, s_X8_keepPast_48, s_X8_keepPast_51, s_X8_keepPast_53, s_X8_keepPast_56, s_X8_keepPast_57, s_X8_keepPast_60, s_X8_keepPast_61, s_X8_keepPast_62, s_X8_keepPast_65, s_X8_keepPast_66, s_X8_keepPast_67, s_X8_keepPast_69, s_X8_keepPast_71, s_X8_keepPast_72, s_X8_keepPast_75, s_X8_keepPast_76, s_X8_keepPast_77, s_X8_keepPast_80, s_X8_keepPast_81, s_X8_keepPast_82, s_X8_keepPast_85, s_X8_keepPast_86, s_X8_keepPast_87, s_X8_keepPast_90, kS_106, rS_106_0, rS_106_3, rS_106_4, rS_106_5, rS_106_6, rS_106_7, rS_106_11, kS_107, lS_107, kS_108, lS_108, kS_109, lS_109, kS_110, lS_110, kS_111, lS_111, kS_112, lS_112, kS_113, lS_113, r2, r, l_no hi, nI_add, show 100 + i < 1600 by omega, show 50 + i < 1600 by omega, Nat.reduceLT, cl_tl0, cl_tl1, rfv_some, if_true, if_false, or_true, true_or, eq_self, ite_true, ite_false, and_true, true_and, not_true_eq_false, not_false_eq_true]) 1150 0 () h (by omega) ⟨Fr_r, fun j hj => by omega, fun j hj => rfl⟩
    have r2 : h1 106 2 = nI 24 := (f1 106 2 (by omega)).trans a2
    have c1 : MR h1 0 t := MR_fr c (fun i h1 h2 => f1 107 i (by omega))
    have c2 : MR (up2 h1 106 2 (nI 23)) 0 t := MR_fr c1 (fun i h1 h2 => up2_n (by omega))
    obtain ⟨h3, c3, e3⟩ := p_copyTown (d := d) (L := L) (a := 0) (b := 24) (by decide) (by decide) (by decide) c2
    have r3 : h3 106 2 = nI 23 := by rw [c3.2 106 2 (by unfold tw; omega), up2_a]
    refine ⟨up2 h3 106 2 (nI 24), ⟨⟨by decide, up2_a, fun i hi => ?_⟩, Fr_t (Fr_w (fun a i e => Or.inr (by omega)) f1) (Fr_t (Fr_u (Or.inl ⟨rfl, rfl⟩)) (Fr_t (Fr_w (fun a i e => Or.inr (by unfold tw at e; omega)) c3.2) (Fr_u (Or.inl ⟨rfl, rfl⟩))))⟩, fun Q => ?_⟩
    · have hi' : i < 24 := hi
      by_cases zi : i = 23
      · subst zi
        exact MR_fr c3.1 (fun i h1 h2 => up2_n (by omega))
      · have e4 : kpS 24 ps t i = ps (i + 1) := by unfold kpS; rw [if_pos rfl, if_neg zi]
        rw [e4]
        intro j hj
        rw [up2_n (by omega), c3.2 _ _ (by unfold tw; omega), up2_n (by omega)]
        have := g1 (50 * i + j) (by omega)
        rw [show 50 + (50 * i + j) = 50 * (1 + i) + j by omega, show 100 + (50 * i + j) = 50 * (1 + (i + 1)) + j by omega] at this
        rw [this]
        exact an (i + 1) (by omega) j hj
    · simp only [Nat.reduceMul] at e3
      simp only [e_X8_keepPast, s_X8_keepPast_0, s_X8_keepPast_1, s_X8_keepPast_3, s_X8_keepPast_6, s_X8_keepPast_9, s_X8_keepPast_10, s_X8_keepPast_13, s_X8_keepPast_15, s_X8_keepPast_18, s_X8_keepPast_19, s_X8_keepPast_22, s_X8_keepPast_24, s_X8_keepPast_25, s_X8_keepPast_26, s_X8_keepPast_27, s_X8_keepPast_30, s_X8_keepPast_32, s_X8_keepPast_33, s_X8_keepPast_34, s_X8_keepPast_35, s_X8_keepPast_36, s_X8_keepPast_39, s_X8_keepPast_42, s_X8_keepPast_43, s_X8_keepPast_44, s_X8_keepPast_47, s_X8_keepPast_48, s_X8_keepPast_51, s_X8_keepPast_53, s_X8_keepPast_56, s_X8_keepPast_57, s_X8_keepPast_60, s_X8_keepPast_61, s_X8_keepPast_62, s_X8_keepPast_65, s_X8_keepPast_66, s_X8_keepPast_67, s_X8_keepPast_69, s_X8_keepPast_71, s_X8_keepPast_72, s_X8_keepPast_75, s_X8_keepPast_76, s_X8_keepPast_77, s_X8_keepPast_80, s_X8_keepPast_81, s_X8_keepPast_82, s_X8_keepPast_85, s_X8_keepPast_86, s_X8_keepPast_87, s_X8_keepPast_90, e1, cl_tl0, cl_tl1, rfv_some, if_true, if_false, or_true, true_or, eq_self, ite_true, ite_false, and_true, true_and, not_true_eq_false, not_false_eq_true]
      rw [s_X8_keepPast_2]
      simp +decide only [s_X8_keepPast_0, s_X8_keepPast_1, s_X8_keepPast_3, s_X8_keepPast_6, s_X8_keepPast_9, s_X8_keepPast_10, s_X8_keepPast_13, s_X8_keepPast_15, s_X8_keepPast_18, s_X8_keepPast_19, s_X8_keepPast_22, s_X8_keepPast_24, s_X8_keepPast_25, s_X8_keepPast_26, s_X8_keepPast_27, s_X8_keepPast_30, s_X8_keepPast_32, s_X8_keepPast_33, s_X8_keepPast_34, s_X8_keepPast_35, s_X8_keepPast_36, s_X8_keepPast_39, s_X8_keepPast_42, s_X8_keepPast_43, s_X8_keepPast_44, s_X8_keepPast_47, s_X8_keepPast_48, s_X8_keepPast_51, s_X8_keepPast_53, s_X8_keepPast_56, s_X8_keepPast_57, s_X8_keepPast_60, s_X8_keepPast_61, s_X8_keepPast_62, s_X8_keepPast_65, s_X8_keepPast_66, s_X8_keepPast_67, s_X8_keepPast_69, s_X8_keepPast_71, s_X8_keepPast_72, s_X8_keepPast_75, s_X8_keepPast_76, s_X8_keepPast_77, s_X8_keepPast_80, s_X8_keepPast_81, s_X8_keepPast_82, s_X8_keepPast_85, s_X8_keepPast_86, s_X8_keepPast_87, s_X8_keepPast_90, kS_106, rS_106_0, rS_106_3, rS_106_4, rS_106_5, rS_106_6, rS_106_7, rS_106_11, kS_107, lS_107, kS_108, lS_108, kS_109, lS_109, kS_110, lS_110, kS_111, lS_111, kS_112, lS_112, kS_113, lS_113, l_ye, r2, r3, up2_a, pk_sub, e3, nI_add, pk_mul, nI_lite, Option.toList_none, List.nil_append, Nat.reduceMul, Nat.reduceSub, Nat.reduceAdd, Nat.reduceLT, cl_tl0, cl_tl1, rfv_some, if_true, if_false, or_true, true_or, eq_self, ite_true, ite_false, and_true, true_and, not_true_eq_false, not_false_eq_true]
  · have hu' : u < 24 := by omega
    have c2 : MR (up2 h 106 2 (nI u)) 0 t := MR_fr c (fun i h1 h2 => up2_n (by omega))
    obtain ⟨h3, c3, e3⟩ := p_copyTown (d := d) (L := L) (a := 0) (b := 1 + u) (by decide) (by omega) (by omega) c2
    have r3 : h3 106 2 = nI u := by rw [c3.2 106 2 (by unfold tw; omega), up2_a]
    have ek : kpU u = u + 1 := if_neg z
    refine ⟨up2 h3 106 2 (nI (u + 1)), ⟨⟨by omega, by rw [ek, up2_a], fun i hi => ?_⟩, Fr_t (Fr_u (Or.inl ⟨rfl, rfl⟩)) (Fr_t (Fr_w (fun a i e => Or.inr (by unfold tw at e; omega)) c3.2) (Fr_u (Or.inl ⟨rfl, rfl⟩)))⟩, fun Q => ?_⟩
    · rw [ek] at hi
      by_cases zi : i = u
      · subst zi
        have e4 : kpS i ps t i = t := by unfold kpS; rw [if_neg z, if_pos rfl]
        rw [e4]
        exact MR_fr c3.1 (fun i h1 h2 => up2_n (by omega))
      · have e4 : kpS u ps t i = ps i := by unfold kpS; rw [if_neg z, if_neg zi]
        rw [e4]
        intro j hj
        rw [up2_n (by omega), c3.2 _ _ (by unfold tw; omega), up2_n (by omega)]
        exact an i (by omega) j hj
    · rw [show 50 * (1 + u) = 50 + 50 * u by omega] at e3
      simp only [Nat.reduceMul] at e3
      have s0 := pk_sub (a := u) (b := 0) (by omega)
      rw [Nat.sub_zero] at s0
      simp only [e_X8_keepPast, s_X8_keepPast_0, s_X8_keepPast_1, s_X8_keepPast_3, s_X8_keepPast_6, s_X8_keepPast_9, s_X8_keepPast_10, s_X8_keepPast_13, s_X8_keepPast_15, s_X8_keepPast_18, s_X8_keepPast_19, s_X8_keepPast_22, s_X8_keepPast_24, s_X8_keepPast_25, s_X8_keepPast_26, s_X8_keepPast_27, s_X8_keepPast_30, s_X8_keepPast_32, s_X8_keepPast_33, s_X8_keepPast_34, s_X8_keepPast_35, s_X8_keepPast_36, s_X8_keepPast_39, s_X8_keepPast_42, s_X8_keepPast_43, s_X8_keepPast_44, s_X8_keepPast_47, s_X8_keepPast_48, s_X8_keepPast_51, s_X8_keepPast_53, s_X8_keepPast_56, s_X8_keepPast_57, s_X8_keepPast_60, s_X8_keepPast_61, s_X8_keepPast_62, s_X8_keepPast_65, s_X8_keepPast_66, s_X8_keepPast_67, s_X8_keepPast_69, s_X8_keepPast_71, s_X8_keepPast_72, s_X8_keepPast_75, s_X8_keepPast_76, s_X8_keepPast_77, s_X8_keepPast_80, s_X8_keepPast_81, s_X8_keepPast_82, s_X8_keepPast_85, s_X8_keepPast_86, s_X8_keepPast_87, s_X8_keepPast_90, cl_tl0, cl_tl1, rfv_some, if_true, if_false, or_true, true_or, eq_self, ite_true, ite_false, and_true, true_and, not_true_eq_false, not_false_eq_true]
      rw [s_X8_keepPast_2]
      simp only [s_X8_keepPast_0, s_X8_keepPast_1, s_X8_keepPast_3, s_X8_keepPast_6, s_X8_keepPast_9, s_X8_keepPast_10, s_X8_keepPast_13, s_X8_keepPast_15, s_X8_keepPast_18, s_X8_keepPast_19, s_X8_keepPast_22, s_X8_keepPast_24, s_X8_keepPast_25, s_X8_keepPast_26, s_X8_keepPast_27, s_X8_keepPast_30, s_X8_keepPast_32, s_X8_keepPast_33, s_X8_keepPast_34, s_X8_keepPast_35, s_X8_keepPast_36, s_X8_keepPast_39, s_X8_keepPast_42, s_X8_keepPast_43, s_X8_keepPast_44, s_X8_keepPast_47, s_X8_keepPast_48, s_X8_keepPast_51, s_X8_keepPast_53, s_X8_keepPast_56, s_X8_keepPast_57, s_X8_keepPast_60, s_X8_keepPast_61, s_X8_keepPast_62, s_X8_keepPast_65, s_X8_keepPast_66, s_X8_keepPast_67, s_X8_keepPast_69, s_X8_keepPast_71, s_X8_keepPast_72, s_X8_keepPast_75, s_X8_keepPast_76, s_X8_keepPast_77, s_X8_keepPast_80, s_X8_keepPast_81, s_X8_keepPast_82, s_X8_keepPast_85, s_X8_keepPast_86, s_X8_keepPast_87, s_X8_keepPast_90, kS_106, rS_106_0, rS_106_3, rS_106_4, rS_106_5, rS_106_6, rS_106_7, rS_106_11, kS_107, lS_107, kS_108, lS_108, kS_109, lS_109, kS_110, lS_110, kS_111, lS_111, kS_112, lS_112, kS_113, lS_113, l_no (show 0 < 1150 by omega), a2, l1, eq_false z, s0, r3, up2_a, e3, nI_add, pk_mul, Option.toList_none, List.nil_append, Nat.reduceLT, cl_tl0, cl_tl1, rfv_some, if_true, if_false, or_true, true_or, eq_self, ite_true, ite_false, and_true, true_and, not_true_eq_false, not_false_eq_true]
