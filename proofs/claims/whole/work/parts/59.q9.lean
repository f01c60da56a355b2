/-! ===== pure: method by method: days ===== -/
theorem brg_s {t : Nat → Nat} (w : Wf t) {r : Nat} (hr : r < t 1) {i : Nat} (hi : 14 ≤ i ∧ (i < 35 ∨ 42 ≤ i)) : brg t r i = t i := by
  have w1 := w.1
  have w2 := w.2.1
  obtain ⟨a1, a2, a3, a4, a5⟩ := w.2.2.2.1 r hr
  have g : ∀ (s : Nat → Nat) k n, k < 5 → gts s k n i = s i := fun s k n hk => gts_o hk (by omega)
  unfold brg brl
  split
  · split
    · rw [g _ _ _ (by omega)]
    · rfl
  · split
    · split
      · rw [g _ _ _ (by omega), g _ _ _ (by omega)]
      · rfl
    · split
      · split
        · rw [g _ _ _ (by omega)]
        · rfl
      · split
        · rw [g _ _ _ (by omega)]
        · split
          · rw [ts_o (by omega)]
          · rfl
theorem eat_s {t : Nat → Nat} {k i : Nat} (hk : k < 5) (hi : 14 ≤ i) : eat k t i = t i := by
  unfold eat
  split
  · rw [ts_o (by omega)]
  · rw [ts_o (by omega), ts_o (by omega)]
theorem dayT_s {t : Nat → Nat} (w : Wf t) {i : Nat} (hi : 14 ≤ i ∧ (i < 35 ∨ 42 ≤ i)) : dayT t i = t i := by
  have w1 := w.1
  have e1 : brgs t i = t i := by
    have := itr_inv (f := brs) (P := fun _ u => (Wf u ∧ u 0 = t 0 ∧ u 1 = t 1) ∧ u i = t i) (N := t 1) (by
      rintro j u hj ⟨⟨wu, e0, e1⟩, ei⟩
      obtain ⟨x, y0, y1, y2⟩ := brg_p wu (r := j) (by omega)
      exact ⟨⟨x, y0.trans e0, y1.trans e1⟩, (brg_s wu (by omega) hi).trans ei⟩) (t 1) 0 t (by omega) ⟨⟨w, rfl, rfl⟩, rfl⟩
    exact this.2
  obtain ⟨x, y0, y1, y2⟩ := brgs_p w
  have e2 : (eaten (brgs t)).1 i = brgs t i := by
    unfold eaten
    rw [y0]
    exact itr_inv (f := eaf) (P := fun _ u => u.1 i = brgs t i) (N := t 0) (by
      intro j u hj hu
      exact (eat_s (by omega) hi.1).trans hu) (t 0) 0 (brgs t, 0) (by omega) rfl
  unfold dayT
  rw [ts_o (by omega), e2, e1]
def dyk (i : Nat) (p : (Nat → Nat) × Nat × (Nat → Nat → Nat)) : (Nat → Nat) × Nat × (Nat → Nat → Nat) := (dayT p.1, kpU p.2.1, kpS p.2.1 p.2.2 p.1)
def DK (t : Nat → Nat) (i : Nat) (p : (Nat → Nat) × Nat × (Nat → Nat → Nat)) : Prop := DP t i p.1 ∧ p.2.1 ≤ 24 ∧ ∀ j, j < p.2.1 → Wf (p.2.2 j) ∧ St (p.2.2 j) p.1 ∧ p.2.2 j 2 ≤ 999
theorem DK_s {t : Nat → Nat} {i : Nat} {p : (Nat → Nat) × Nat × (Nat → Nat → Nat)} (k : DK t i p) (hd : t 2 + i ≤ 999) : DK t (i + 1) (dyk i p) := by
  obtain ⟨a, b, c⟩ := k
  have w := a.1
  have a2 := a.2.2.2
  obtain ⟨x, y0, y1, y2⟩ := dayT_p w
  have w2 := w.2.1
  refine ⟨DP_s a, ?_, kp_ok w (by omega) b c (fun q sq => St_tr y0 y1 (fun r hr => ⟨dayT_s w (by omega), dayT_s w (by omega), dayT_s w (by omega), dayT_s w (by omega)⟩) sq)⟩
  show kpU p.2.1 ≤ 24
  unfold kpU
  split <;> omega
theorem q_days {d L : Nat} {xs : Nat → Int32} {h : mMem} {x : Int32} (k : INV xs h) : Eqm (d + 9) M_X7_days M_X8_days [.int x] L xs h := by
  obtain ⟨t, ⟨⟨c, m⟩, ⟨h5, h7⟩, hh, wf⟩, hi4⟩ := I4_g2 k.2.2.2.2.1
  have m0 := MR_0 m
  have a1 := fun Q => p_standsB (d := d + 7) (L := L) (Q := Q) Hs_27 (CR_1 c) (by omega)
  have a2 := fun Q => p_isWithin (d := d + 7) (L := L) (x := x) (a := 1) (b := 24) (h := h) (Q := Q)
  have b2 := fun g Q => p_in (d := d + 7) (L := L) (x := x) (A := lN 1) (B := 24) (a := 1) (b := 24) (h := g) (Q := Q) rfl rfl (by omega) (by omega)
  cases v1 : decide (0 < t 1)
  · rw [v1] at a1 hh
    refine ⟨.int (-1000002), h, h, k, fun Q => ?_, fun Q => ?_⟩
    · simp only [e_X7_days, s_X7_days_0, s_X7_days_1, s_X7_days_4, s_X7_days_7, s_X7_days_10, s_X7_days_12, s_X7_days_13, s_X7_days_14, s_X7_days_15, s_X7_days_17, s_X7_days_20, s_X7_days_23, s_X7_days_25, s_X7_days_26, s_X7_days_27, s_X7_days_30, s_X7_days_33, s_X7_days_34, s_X7_days_35, s_X7_days_38, s_X7_days_41, s_X7_days_43, s_X7_days_44, s_X7_days_45, s_X7_days_47, s_X7_days_48, s_X7_days_51, s_X7_days_52, s_X7_days_55, s_X7_days_56, s_X7_days_59, s_X7_days_62, s_X7_days_63, s_X7_days_66, s_X7_days_69, s_X7_days_70, s_X7_days_73, s_X7_days_76, s_X7_days_77, s_X7_days_80, s_X7_days_83, kS_4, rS_4_0, rS_4_1, rS_4_2, rS_4_3, rS_4_4, rS_4_5, rS_4_6, rS_4_7, Hs_27, Hs_63, Hs_72, Hs_19, Hs_90, Hs_98, kH, rH1, rH2, rH4, rH5, rH6, rH7, rH8, kH_1, kH_2, kH_3, kH_4, kH_5, kH_6, kH_7, lH_1, lH_2, lH_3, lH_4, lH_5, lH_6, lH_7, a1, bI_f, z_0, Option.toList_some, List.cons_append, List.nil_append, cl_tl0, cl_tl1, rfv_some, if_true, if_false, or_true, true_or, eq_self, ite_true, ite_false, and_true, true_and, not_true_eq_false, not_false_eq_true]
    · simp only [e_X8_days, s_X8_days_0, s_X8_days_1, s_X8_days_4, s_X8_days_7, s_X8_days_9, s_X8_days_10, s_X8_days_11, s_X8_days_12, s_X8_days_13, s_X8_days_16, s_X8_days_19, s_X8_days_22, s_X8_days_24, s_X8_days_25, s_X8_days_26, s_X8_days_29, s_X8_days_30, s_X8_days_31, s_X8_days_32, s_X8_days_33, s_X8_days_36, s_X8_days_39, s_X8_days_41, s_X8_days_42, s_X8_days_43, s_X8_days_45, s_X8_days_46, s_X8_days_49, s_X8_days_50, s_X8_days_53, s_X8_days_54, s_X8_days_55, s_X8_days_58, s_X8_days_59, s_X8_days_62, s_X8_days_65, s_X8_days_66, s_X8_days_69, s_X8_days_70, s_X8_days_71, kS_106, rS_106_0, rS_106_3, rS_106_4, rS_106_5, rS_106_6, rS_106_7, rS_106_11, kS_107, lS_107, kS_108, lS_108, kS_109, lS_109, kS_110, lS_110, kS_111, lS_111, kS_112, lS_112, kS_113, lS_113, hh, bI_f, z_0, Option.toList_some, List.cons_append, List.nil_append, cl_tl0, cl_tl1, rfv_some, if_true, if_false, or_true, true_or, eq_self, ite_true, ite_false, and_true, true_and, not_true_eq_false, not_false_eq_true]
  rw [v1] at a1 hh
  obtain ⟨w, hd⟩ := wf (Or.inr (of_decide_eq_true v1))
  obtain ⟨u, ps, -, a, -, ⟨ac, am⟩, hp⟩ := hi4 (Or.inr (of_decide_eq_true v1))
  cases v2 : inB x 1 24
  · rw [v2] at a2 b2
    refine ⟨.int (-1000001), h, h, k, fun Q => ?_, fun Q => ?_⟩
    · simp only [e_X7_days, s_X7_days_0, s_X7_days_1, s_X7_days_4, s_X7_days_7, s_X7_days_10, s_X7_days_12, s_X7_days_13, s_X7_days_14, s_X7_days_15, s_X7_days_17, s_X7_days_20, s_X7_days_23, s_X7_days_25, s_X7_days_26, s_X7_days_27, s_X7_days_30, s_X7_days_33, s_X7_days_34, s_X7_days_35, s_X7_days_38, s_X7_days_41, s_X7_days_43, s_X7_days_44, s_X7_days_45, s_X7_days_47, s_X7_days_48, s_X7_days_51, s_X7_days_52, s_X7_days_55, s_X7_days_56, s_X7_days_59, s_X7_days_62, s_X7_days_63, s_X7_days_66, s_X7_days_69, s_X7_days_70, s_X7_days_73, s_X7_days_76, s_X7_days_77, s_X7_days_80, s_X7_days_83, kS_4, rS_4_0, rS_4_1, rS_4_2, rS_4_3, rS_4_4, rS_4_5, rS_4_6, rS_4_7, Hs_27, Hs_63, Hs_72, Hs_19, Hs_90, Hs_98, kH, rH1, rH2, rH4, rH5, rH6, rH7, rH8, kH_1, kH_2, kH_3, kH_4, kH_5, kH_6, kH_7, lH_1, lH_2, lH_3, lH_4, lH_5, lH_6, lH_7, a1, a2, bI_f, bI_t, z_0, z_1, Option.toList_some, List.cons_append, List.nil_append, cl_tl0, cl_tl1, rfv_some, if_true, if_false, or_true, true_or, eq_self, ite_true, ite_false, and_true, true_and, not_true_eq_false, not_false_eq_true]
    · simp only [e_X8_days, s_X8_days_0, s_X8_days_1, s_X8_days_4, s_X8_days_7, s_X8_days_9, s_X8_days_10, s_X8_days_11, s_X8_days_12, s_X8_days_13, s_X8_days_16, s_X8_days_19, s_X8_days_22, s_X8_days_24, s_X8_days_25, s_X8_days_26, s_X8_days_29, s_X8_days_30, s_X8_days_31, s_X8_days_32, s_X8_days_33, s_X8_days_36, s_X8_days_39, s_X8_days_41, s_X8_days_42, s_X8_days_43, s_X8_days_45, s_X8_days_46, s_X8_days_49, s_X8_days_50, s_X8_days_53, s_X8_days_54, s_X8_days_55, s_X8_days_58, s_X8_days_59, s_X8_days_62, s_X8_days_65, s_X8_days_66, s_X8_days_69, s_X8_days_70, s_X8_days_71, kS_106, rS_106_0, rS_106_3, rS_106_4, rS_106_5, rS_106_6, rS_106_7, rS_106_11, kS_107, lS_107, kS_108, lS_108, kS_109, lS_109, kS_110, lS_110, kS_111, lS_111, kS_112, lS_112, kS_113, lS_113, hh, b2, bI_f, bI_t, z_0, z_1, Option.toList_some, List.cons_append, List.nil_append, cl_tl0, cl_tl1, rfv_some, if_true, if_false, or_true, true_or, eq_self, ite_true, ite_false, and_true, true_and, not_true_eq_false, not_false_eq_true]
  rw [v2] at a2 b2
  obtain ⟨n, n1, n2, rfl⟩ := inB_t (by omega) (by omega) v2
  have r2 := CR_2 c
  have s2 := m0 2 (by omega)
  have l1 : (nI (t 2 + n) ≤ nI 999) = (t 2 + n ≤ 999) := f_le (by omega) (by omega)
  by_cases z : t 2 + n ≤ 999
  case neg =>
    refine ⟨.int (-1000003), h, h, k, fun Q => ?_, fun Q => ?_⟩
    · simp only [e_X7_days, s_X7_days_0, s_X7_days_1, s_X7_days_4, s_X7_days_7, s_X7_days_10, s_X7_days_12, s_X7_days_13, s_X7_days_14, s_X7_days_15, s_X7_days_17, s_X7_days_20, s_X7_days_23, s_X7_days_25, s_X7_days_26, s_X7_days_27, s_X7_days_30, s_X7_days_33, s_X7_days_34, s_X7_days_35, s_X7_days_38, s_X7_days_41, s_X7_days_43, s_X7_days_44, s_X7_days_45, s_X7_days_47, s_X7_days_48, s_X7_days_51, s_X7_days_52, s_X7_days_55, s_X7_days_56, s_X7_days_59, s_X7_days_62, s_X7_days_63, s_X7_days_66, s_X7_days_69, s_X7_days_70, s_X7_days_73, s_X7_days_76, s_X7_days_77, s_X7_days_80, s_X7_days_83, kS_4, rS_4_0, rS_4_1, rS_4_2, rS_4_3, rS_4_4, rS_4_5, rS_4_6, rS_4_7, Hs_27, Hs_63, Hs_72, Hs_19, Hs_90, Hs_98, kH, rH1, rH2, rH4, rH5, rH6, rH7, rH8, kH_1, kH_2, kH_3, kH_4, kH_5, kH_6, kH_7, lH_1, lH_2, lH_3, lH_4, lH_5, lH_6, lH_7, Hs_27, a1, a2, r2, nI_add, l1, eq_false z, bI_t, z_1, Option.toList_some, List.cons_append, List.nil_append, Nat.reduceLT, cl_tl0, cl_tl1, rfv_some, if_true, if_false, or_true, true_or, eq_self, ite_true, ite_false, and_true, true_and, not_true_eq_false, not_false_eq_true]
    · simp only [e_X8_days, s_X8_days_0, s_X8_days_1, s_X8_days_4, s_X8_days_7, s_X8_days_9, s_X8_days_10, s_X8_days_11, s_X8_days_12, s_X8_days_13, s_X8_days_16, s_X8_days_19, s_X8_days_22, s_X8_days_24, s_X8_days_25, s_X8_days_26, s_X8_days_29, s_X8_days_30, s_X8_days_31, s_X8_days_32, s_X8_days_33, s_X8_days_36, s_X8_days_39, s_X8_days_41, s_X8_days_42, s_X8_days_43, s_X8_days_45, s_X8_days_46, s_X8_days_49, s_X8_days_50, s_X8_days_53, s_X8_days_54, s_X8_days_55, s_X8_days_58, s_X8_days_59, s_X8_days_62, s_X8_days_65, s_X8_days_66, s_X8_days_69, s_X8_days_70, s_X8_days_71, kS_106, rS_106_0, rS_106_3, rS_106_4, rS_106_5, rS_106_6, rS_106_7, rS_106_11, kS_107, lS_107, kS_108, lS_108, kS_109, lS_109, kS_110, lS_110, kS_111, lS_111, kS_112, lS_112, kS_113, lS_113, hh, b2, s2, nI_add, l1, eq_false z, bI_t, z_1, Option.toList_some, List.cons_append, List.nil_append, Nat.reduceLT, cl_tl0, cl_tl1, rfv_some, if_true, if_false, or_true, true_or, eq_self, ite_true, ite_false, and_true, true_and, not_true_eq_false, not_false_eq_true]
  have dk0 : DK t 0 (t, u, ps) := ⟨DP_0 w, ac.1, hp⟩
  obtain ⟨h1, ⟨dk1, c1, ac1, f1⟩, e1⟩ := lp (N := n) (f := dyk) (I := fun i p g => DK t i p ∧ CR g 27 p.1 ∧ AcC g p.2.1 p.2.2 ∧ Fr (fun a i => ar a i ∨ hs 27 a i) h g) (W := fun i p g Q => Wp (d + 8) M_X7_days none 46 [.ref 4, .int (nI n), .int (nI i)] [] (S0 L, g) Q) (by
    rintro i p g hi ⟨dk, cg, acg, fg⟩
    have w' := dk.1.1
    have d2 := dk.1.2.2.2
    obtain ⟨g1, ⟨ac1, f1⟩, e1⟩ := p_keep (d := d + 6) (L := L) cg w' acg
    have c1 : CR g1 27 p.1 := CR_fr cg (fun a i x1 x2 => f1 a i (by unfold ar; omega))
    obtain ⟨g2, c2, e2⟩ := p_passDay (d := d + 4) (L := L) Hs_27 c1 w' (by omega)
    refine ⟨g2, ⟨DK_s dk (by omega), c2.1, AcC_fr (fun a i e => c2.2 a i (by unfold ar at e; unfold hs; omega)) ac1, Fr_t fg (Fr_t (Fr_w (fun a i e => Or.inl e) f1) (Fr_w (fun a i e => Or.inr e) c2.2))⟩, fun Q => ?_⟩
    rw [s_X7_days_46]
    simp only [s_X7_days_0, s_X7_days_1, s_X7_days_4, s_X7_days_7, s_X7_days_10, s_X7_days_12, s_X7_days_13, s_X7_days_14, s_X7_days_15, s_X7_days_17, s_X7_days_20, s_X7_days_23, s_X7_days_25, s_X7_days_26, s_X7_days_27, s_X7_days_30, s_X7_days_33, s_X7_days_34, s_X7_days_35, s_X7_days_38, s_X7_days_41, s_X7_days_43, s_X7_days_44, s_X7_days_45, s_X7_days_47, s_X7_days_48, s_X7_days_51, s_X7_days_52, s_X7_days_55, s_X7_days_56, s_X7_days_59, s_X7_days_62, s_X7_days_63, s_X7_days_66, s_X7_days_69, s_X7_days_70, s_X7_days_73, s_X7_days_76, s_X7_days_77, s_X7_days_80, s_X7_days_83, kS_4, rS_4_0, rS_4_1, rS_4_2, rS_4_3, rS_4_4, rS_4_5, rS_4_6, rS_4_7, Hs_27, Hs_63, Hs_72, Hs_19, Hs_90, Hs_98, kH, rH1, rH2, rH4, rH5, rH6, rH7, rH8, kH_1, kH_2, kH_3, kH_4, kH_5, kH_6, kH_7, lH_1, lH_2, lH_3, lH_4, lH_5, lH_6, lH_7, kS_36, rS_36_0, kS_37, lS_37, Hs_27, e1, e2, l_no hi, show n < 2147483648 by omega, nI_add, Option.toList_none, Option.toList_some, List.cons_append, List.nil_append, Nat.reduceLT, cl_tl0, cl_tl1, rfv_some, if_true, if_false, or_true, true_or, eq_self, ite_true, ite_false, and_true, true_and, not_true_eq_false, not_false_eq_true]) n 0 (t, u, ps) h (by omega) ⟨dk0, c, ac, Fr_r⟩
  have fc : ∀ a i, 106 ≤ a → h1 a i = h a i := fun a i ha => f1 a i (by unfold ar hs; omega)
  have m1 : MR h1 0 t := MR_fr m (fun i x1 x2 => fc 107 i (by omega))
  have am1 : AcM h1 u ps := AcM_fr (fun a i e => fc a i (by unfold mr at e; omega)) am
  obtain ⟨h2, ⟨-, m2, am2, f2⟩, e2⟩ := lp (N := n) (f := dyk) (I := fun i p g => DK t i p ∧ MR g 0 p.1 ∧ AcM g p.2.1 p.2.2 ∧ Fr (fun a i => mr a i ∨ tw 0 a i) h1 g) (W := fun i p g Q => Wp (d + 8) M_X8_days none 44 [.ref 106, .int (nI n), .int (nI i)] [] (S0 L, g) Q) (by
    rintro i p g hi ⟨dk, cg, acg, fg⟩
    have w' := dk.1.1
    have d2 := dk.1.2.2.2
    obtain ⟨g1, ⟨ac1, f1⟩, e1⟩ := p_keepPast (d := d + 6) (L := L) cg acg
    have c1 : MR g1 0 p.1 := MR_fr cg (fun i x1 x2 => f1 107 i (by unfold mr; omega))
    obtain ⟨g2, c2, e2⟩ := p_pass (d := d + 4) (L := L) (b := 0) (by decide) c1 w' (by omega)
    simp only [Nat.mul_zero] at e2
    refine ⟨g2, ⟨DK_s dk (by omega), c2.1, AcM_fr (fun a i e => c2.2 a i (by unfold mr at e; unfold tw; omega)) ac1, Fr_t fg (Fr_t (Fr_w (fun a i e => Or.inl e) f1) (Fr_w (fun a i e => Or.inr e) c2.2))⟩, fun Q => ?_⟩
    rw [s_X8_days_44]
    simp only [s_X8_days_0, s_X8_days_1, s_X8_days_4, s_X8_days_7, s_X8_days_9, s_X8_days_10, s_X8_days_11, s_X8_days_12, s_X8_days_13, s_X8_days_16, s_X8_days_19, s_X8_days_22, s_X8_days_24, s_X8_days_25, s_X8_days_26, s_X8_days_29, s_X8_days_30, s_X8_days_31, s_X8_days_32, s_X8_days_33, s_X8_days_36, s_X8_days_39, s_X8_days_41, s_X8_days_42, s_X8_days_43, s_X8_days_45, s_X8_days_46, s_X8_days_49, s_X8_days_50, s_X8_days_53, s_X8_days_54, s_X8_days_55, s_X8_days_58, s_X8_days_59, s_X8_days_62, s_X8_days_65, s_X8_days_66, s_X8_days_69, s_X8_days_70, s_X8_days_71, kS_106, rS_106_0, rS_106_3, rS_106_4, rS_106_5, rS_106_6, rS_106_7, rS_106_11, kS_107, lS_107, kS_108, lS_108, kS_109, lS_109, kS_110, lS_110, kS_111, lS_111, kS_112, lS_112, kS_113, lS_113, e1, e2, l_no hi, show n < 2147483648 by omega, nI_add, Option.toList_none, Option.toList_some, List.cons_append, List.nil_append, Nat.reduceLT, cl_tl0, cl_tl1, rfv_some, if_true, if_false, or_true, true_or, eq_self, ite_true, ite_false, and_true, true_and, not_true_eq_false, not_false_eq_true]) n 0 (t, u, ps) h1 (by omega) ⟨dk0, m1, am1, Fr_r⟩
  obtain ⟨p, ep⟩ : ∃ p, itr dyk n 0 (t, u, ps) = p := ⟨_, rfl⟩
  rw [ep] at dk1 c1 ac1 m2 am2
  have d2 := dk1.1.2.2.2
  have hh1 : h1 106 1 = bI true := (fc 106 1 (by omega)).trans hh
  have s2' := MR_0 m1 2 (by omega)
  have r3 := CR_2 c1
  have s3 := MR_0 m2 2 (by omega)
  have fm : ∀ a i, ¬ (mr a i ∨ tw 0 a i) → h2 a i = h1 a i := f2
  refine ⟨.int (nI (p.1 2)), h1, h2, INV_chg (Fr_t (Fr_w (fun a i e => by rcases e with e | e; exact Or.inr (Or.inl e); exact Or.inl e) f1) (Fr_w (fun a i e => by unfold mr tw at e; unfold chg; omega) f2)) (Or.inr ⟨p.1, p.2.1, p.2.2, ⟨dk1.1.1, by omega⟩, ?_, ⟨CR_fr c1 (fun a i x1 x2 => fm a i (by unfold mr tw; omega)), m2⟩, ⟨AcC_fr (fun a i e => fm a i (by unfold ar at e; unfold mr tw; omega)) ac1, am2⟩, dk1.2.2⟩) k, fun Q => ?_, fun Q => ?_⟩
  · rw [fm 106 1 (by unfold mr tw; omega), fc 106 1 (by omega), a]
  · simp only [e_X7_days, s_X7_days_0, s_X7_days_1, s_X7_days_4, s_X7_days_7, s_X7_days_10, s_X7_days_12, s_X7_days_13, s_X7_days_14, s_X7_days_15, s_X7_days_17, s_X7_days_20, s_X7_days_23, s_X7_days_25, s_X7_days_26, s_X7_days_27, s_X7_days_30, s_X7_days_33, s_X7_days_34, s_X7_days_35, s_X7_days_38, s_X7_days_41, s_X7_days_43, s_X7_days_44, s_X7_days_45, s_X7_days_47, s_X7_days_48, s_X7_days_51, s_X7_days_52, s_X7_days_55, s_X7_days_56, s_X7_days_59, s_X7_days_62, s_X7_days_63, s_X7_days_66, s_X7_days_69, s_X7_days_70, s_X7_days_73, s_X7_days_76, s_X7_days_77, s_X7_days_80, s_X7_days_83, kS_4, rS_4_0, rS_4_1, rS_4_2, rS_4_3, rS_4_4, rS_4_5, rS_4_6, rS_4_7, Hs_27, Hs_63, Hs_72, Hs_19, Hs_90, Hs_98, kH, rH1, rH2, rH4, rH5, rH6, rH7, rH8, kH_1, kH_2, kH_3, kH_4, kH_5, kH_6, kH_7, lH_1, lH_2, lH_3, lH_4, lH_5, lH_6, lH_7, Hs_27, a1, a2, r2, nI_add, l1, eq_true z, e1, bI_t, z_1, Option.toList_some, List.cons_append, List.nil_append, Nat.reduceLT, cl_tl0, cl_tl1, rfv_some, if_true, if_false, or_true, true_or, eq_self, ite_true, ite_false, and_true, true_and, not_true_eq_false, not_false_eq_true]
    rw [s_X7_days_46]
    simp only [s_X7_days_0, s_X7_days_1, s_X7_days_4, s_X7_days_7, s_X7_days_10, s_X7_days_12, s_X7_days_13, s_X7_days_14, s_X7_days_15, s_X7_days_17, s_X7_days_20, s_X7_days_23, s_X7_days_25, s_X7_days_26, s_X7_days_27, s_X7_days_30, s_X7_days_33, s_X7_days_34, s_X7_days_35, s_X7_days_38, s_X7_days_41, s_X7_days_43, s_X7_days_44, s_X7_days_45, s_X7_days_47, s_X7_days_48, s_X7_days_51, s_X7_days_52, s_X7_days_55, s_X7_days_56, s_X7_days_59, s_X7_days_62, s_X7_days_63, s_X7_days_66, s_X7_days_69, s_X7_days_70, s_X7_days_73, s_X7_days_76, s_X7_days_77, s_X7_days_80, s_X7_days_83, kS_4, rS_4_0, rS_4_1, rS_4_2, rS_4_3, rS_4_4, rS_4_5, rS_4_6, rS_4_7, Hs_27, Hs_63, Hs_72, Hs_19, Hs_90, Hs_98, kH, rH1, rH2, rH4, rH5, rH6, rH7, rH8, kH_1, kH_2, kH_3, kH_4, kH_5, kH_6, kH_7, lH_1, lH_2, lH_3, lH_4, lH_5, lH_6, lH_7, Hs_27, l_ye, show n < 2147483648 by omega, r3, cl_tl0, cl_tl1, rfv_some, if_true, if_false, or_true, true_or, eq_self, ite_true, ite_false, and_true, true_and, not_true_eq_false, not_false_eq_true]
  · simp only [e_X8_days, s_X8_days_0, s_X8_days_1, s_X8_days_4, s_X8_days_7, s_X8_days_9, s_X8_days_10, s_X8_days_11, s_X8_days_12, s_X8_days_13, s_X8_days_16, s_X8_days_19, s_X8_days_22, s_X8_days_24, s_X8_days_25, s_X8_days_26, s_X8_days_29, s_X8_days_30, s_X8_days_31, s_X8_days_32, s_X8_days_33, s_X8_days_36, s_X8_days_39, s_X8_days_41, s_X8_days_42, s_X8_days_43, s_X8_days_45, s_X8_days_46, s_X8_days_49, s_X8_days_50, s_X8_days_53, s_X8_days_54, s_X8_days_55, s_X8_days_58, s_X8_days_59, s_X8_days_62, s_X8_days_65, s_X8_days_66, s_X8_days_69, s_X8_days_70, s_X8_days_71, kS_106, rS_106_0, rS_106_3, rS_106_4, rS_106_5, rS_106_6, rS_106_7, rS_106_11, kS_107, lS_107, kS_108, lS_108, kS_109, lS_109, kS_110, lS_110, kS_111, lS_111, kS_112, lS_112, kS_113, lS_113, hh1, b2, s2', nI_add, l1, eq_true z, e2, bI_t, z_1, Option.toList_some, List.cons_append, List.nil_append, Nat.reduceLT, cl_tl0, cl_tl1, rfv_some, if_true, if_false, or_true, true_or, eq_self, ite_true, ite_false, and_true, true_and, not_true_eq_false, not_false_eq_true]
    rw [s_X8_days_44]
    simp only [s_X8_days_0, s_X8_days_1, s_X8_days_4, s_X8_days_7, s_X8_days_9, s_X8_days_10, s_X8_days_11, s_X8_days_12, s_X8_days_13, s_X8_days_16, s_X8_days_19, s_X8_days_22, s_X8_days_24, s_X8_days_25, s_X8_days_26, s_X8_days_29, s_X8_days_30, s_X8_days_31, s_X8_days_32, s_X8_days_33, s_X8_days_36, s_X8_days_39, s_X8_days_41, s_X8_days_42, s_X8_days_43, s_X8_days_45, s_X8_days_46, s_X8_days_49, s_X8_days_50, s_X8_days_53, s_X8_days_54, s_X8_days_55, s_X8_days_58, s_X8_days_59, s_X8_days_62, s_X8_days_65, s_X8_days_66, s_X8_days_69, s_X8_days_70, s_X8_days_71, kS_106, rS_106_0, rS_106_3, rS_106_4, rS_106_5, rS_106_6, rS_106_7, rS_106_11, kS_107, lS_107, kS_108, lS_108, kS_109, lS_109, kS_110, lS_110, kS_111, lS_111, kS_112, lS_112, kS_113, lS_113, l_ye, show n < 2147483648 by omega, s3, Nat.reduceLT, cl_tl0, cl_tl1, rfv_some, if_true, if_false, or_true, true_or, eq_self, ite_true, ite_false, and_true, true_and, not_true_eq_false, not_false_eq_true]
