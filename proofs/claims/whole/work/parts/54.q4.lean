/-! ===== pure: method by method: what is done ===== -/
def chg (a i : Nat) : Prop := hs 27 a i ∨ ar a i ∨ (a = 106 ∧ i = 2) ∨ (a = 107 ∧ i < 1250) ∨ scr a i
theorem INV_chg {xs : Nat → Int32} {h h' : mMem} (f : Fr chg h h') (n4 : I4 h') (k : INV xs h) : INV xs h' := by
  obtain ⟨k0, k1, k2, k3, k4, k5, k6⟩ := k
  refine ⟨I0_fr (fun a i x => f a i ?_) k0, I1_fr (fun a i x => f a i ?_) k1, I2_fr (fun a i x => f a i ?_) k2, I3_fr (fun a i x => f a i ?_) k3, n4, I5_fr (fun a i x => f a i ?_) k5, I6_fr (fun a i x => f a i ?_) k6⟩
  · unfold chg ar scr hs; omega
  · unfold r1 at x; unfold chg ar scr hs; omega
  · unfold r2 at x; unfold chg ar scr hs; omega
  · unfold r3 at x; unfold chg ar scr hs; omega
  · unfold r5 at x; unfold chg ar scr hs; omega
  · unfold r6 at x; unfold chg ar scr hs; omega
theorem St_tr {p t t' : Nat → Nat} (e0 : t' 0 = t 0) (e1 : t' 1 = t 1) (er : ∀ r, r < t 1 → t' (14 + r) = t (14 + r) ∧ t' (21 + r) = t (21 + r) ∧ t' (28 + r) = t (28 + r) ∧ t' (42 + r) = t (42 + r)) (s : St p t) : St p t' := by
  obtain ⟨a, b, c⟩ := s
  refine ⟨a.trans e0.symm, b.trans e1.symm, fun r hr => ?_⟩
  rw [e1] at hr
  obtain ⟨x1, x2, x3, x4⟩ := er r hr
  obtain ⟨y1, y2, y3, y4⟩ := c r hr
  exact ⟨y1.trans x1.symm, y2.trans x2.symm, y3.trans x3.symm, y4.trans x4.symm⟩
theorem St_rf (t : Nat → Nat) : St t t := ⟨rfl, rfl, fun _ _ => ⟨rfl, rfl, rfl, rfl⟩⟩
theorem kp_ok {t t' : Nat → Nat} {u : Nat} {ps : Nat → Nat → Nat} (w : Wf t) (hd : t 2 ≤ 999) (hu : u ≤ 24) (hp : ∀ i, i < u → Wf (ps i) ∧ St (ps i) t ∧ ps i 2 ≤ 999) (st : ∀ p, St p t → St p t') : ∀ i, i < kpU u → Wf (kpS u ps t i) ∧ St (kpS u ps t i) t' ∧ kpS u ps t i 2 ≤ 999 := by
  intro i hi
  have key : ∀ q, (q = t ∨ ∃ j, j < u ∧ q = ps j) → Wf q ∧ St q t' ∧ q 2 ≤ 999 := by
    rintro q (rfl | ⟨j, hj, rfl⟩)
    · exact ⟨w, st _ (St_rf _), hd⟩
    · obtain ⟨a, b, c⟩ := hp j hj
      exact ⟨a, st _ b, c⟩
  apply key
  unfold kpU at hi
  unfold kpS
  by_cases z : u = 24
  · rw [if_pos z] at hi ⊢
    by_cases y : i = 23
    · rw [if_pos y]; exact Or.inl rfl
    · rw [if_neg y]; exact Or.inr ⟨i + 1, by omega, rfl⟩
  · rw [if_neg z] at hi ⊢
    by_cases y : i = u
    · rw [if_pos y]; exact Or.inl rfl
    · rw [if_neg y]; exact Or.inr ⟨i, by omega, rfl⟩
theorem q_undo {d L : Nat} {xs : Nat → Int32} {h : mMem} (k : INV xs h) : Eqm (d + 9) M_X7_undo M_X8_undo [] L xs h := by
  rcases k.2.2.2.2.1 with ⟨⟨a, b, c⟩, -, -⟩ | ⟨t, u, ps, w, a, ⟨c, m⟩, ⟨ac, am⟩, hp⟩
  · refine ⟨.int (-1000002), h, h, k, fun Q => ?_, fun Q => ?_⟩
    · simp only [e_X7_undo, s_X7_undo_0, s_X7_undo_1, s_X7_undo_4, s_X7_undo_7, s_X7_undo_10, s_X7_undo_12, s_X7_undo_13, s_X7_undo_14, s_X7_undo_17, s_X7_undo_18, s_X7_undo_21, s_X7_undo_24, s_X7_undo_25, s_X7_undo_28, s_X7_undo_31, kS_4, rS_4_0, rS_4_1, rS_4_2, rS_4_3, rS_4_4, rS_4_5, rS_4_6, rS_4_7, Hs_27, Hs_63, Hs_72, Hs_19, Hs_90, Hs_98, kS_36, rS_36_0, kS_37, lS_37, c, z_0, cl_tl0, cl_tl1, rfv_some, if_true, if_false, or_true, true_or, eq_self, ite_true, ite_false, and_true, true_and, not_true_eq_false, not_false_eq_true]
    · simp only [e_X8_undo, s_X8_undo_0, s_X8_undo_1, s_X8_undo_4, s_X8_undo_7, s_X8_undo_9, s_X8_undo_10, s_X8_undo_11, s_X8_undo_12, s_X8_undo_15, s_X8_undo_16, s_X8_undo_17, s_X8_undo_20, s_X8_undo_21, s_X8_undo_23, s_X8_undo_25, s_X8_undo_26, s_X8_undo_29, s_X8_undo_30, s_X8_undo_31, s_X8_undo_32, s_X8_undo_35, s_X8_undo_36, s_X8_undo_39, kS_106, rS_106_0, rS_106_3, rS_106_4, rS_106_5, rS_106_6, rS_106_7, rS_106_11, kS_107, lS_107, kS_108, lS_108, kS_109, lS_109, kS_110, lS_110, kS_111, lS_111, kS_112, lS_112, kS_113, lS_113, b, z_0, cl_tl0, cl_tl1, rfv_some, if_true, if_false, or_true, true_or, eq_self, ite_true, ite_false, and_true, true_and, not_true_eq_false, not_false_eq_true]
  · cases u with
    | zero =>
      have a2 := ac.2.1
      have b2 := am.2.1
      refine ⟨.int (-1000002), h, h, k, fun Q => ?_, fun Q => ?_⟩
      · simp only [e_X7_undo, s_X7_undo_0, s_X7_undo_1, s_X7_undo_4, s_X7_undo_7, s_X7_undo_10, s_X7_undo_12, s_X7_undo_13, s_X7_undo_14, s_X7_undo_17, s_X7_undo_18, s_X7_undo_21, s_X7_undo_24, s_X7_undo_25, s_X7_undo_28, s_X7_undo_31, kS_4, rS_4_0, rS_4_1, rS_4_2, rS_4_3, rS_4_4, rS_4_5, rS_4_6, rS_4_7, Hs_27, Hs_63, Hs_72, Hs_19, Hs_90, Hs_98, kS_36, rS_36_0, kS_37, lS_37, a2, z_0, cl_tl0, cl_tl1, rfv_some, if_true, if_false, or_true, true_or, eq_self, ite_true, ite_false, and_true, true_and, not_true_eq_false, not_false_eq_true]
      · simp only [e_X8_undo, s_X8_undo_0, s_X8_undo_1, s_X8_undo_4, s_X8_undo_7, s_X8_undo_9, s_X8_undo_10, s_X8_undo_11, s_X8_undo_12, s_X8_undo_15, s_X8_undo_16, s_X8_undo_17, s_X8_undo_20, s_X8_undo_21, s_X8_undo_23, s_X8_undo_25, s_X8_undo_26, s_X8_undo_29, s_X8_undo_30, s_X8_undo_31, s_X8_undo_32, s_X8_undo_35, s_X8_undo_36, s_X8_undo_39, kS_106, rS_106_0, rS_106_3, rS_106_4, rS_106_5, rS_106_6, rS_106_7, rS_106_11, kS_107, lS_107, kS_108, lS_108, kS_109, lS_109, kS_110, lS_110, kS_111, lS_111, kS_112, lS_112, kS_113, lS_113, b2, z_0, cl_tl0, cl_tl1, rfv_some, if_true, if_false, or_true, true_or, eq_self, ite_true, ite_false, and_true, true_and, not_true_eq_false, not_false_eq_true]
    | succ u =>
      obtain ⟨wu, su, du⟩ := hp u (by omega)
      have hu24 := ac.1
      have a2 := ac.2.1
      have b2 := am.2.1
      have nz : (nI (u + 1) = (0 : Int32)) = False := eq_false (by rw [f_eq0 (by omega)]; omega)
      obtain ⟨h1, ⟨ac1, c1, f1⟩, e1⟩ := p_takeBack (d := d + 6) (L := L) c ac wu su
      have r1 := ac1.2.1
      have m1 : MR (up2 h1 106 2 (nI u)) (1 + u) (ps u) := MR_fr (am.2.2 u (by omega)) (fun i q1 q2 => by rw [up2_n (by omega), f1 107 i (by unfold ar hs; omega)])
      obtain ⟨h2, m2, e2⟩ := p_copyTown (d := d + 7) (L := L) (a := 1 + u) (b := 0) (by omega) (by decide) (by omega) m1
      have f2 : Fr chg h1 h2 := Fr_t (Fr_u (by unfold chg; omega)) (Fr_w (fun a i e => by unfold tw at e; unfold chg; omega) m2.2)
      have f1' : Fr chg h h1 := Fr_w (fun a i e => by rcases e with e | e; exact Or.inr (Or.inl e); exact Or.inl e) f1
      have q2 : h1 106 2 = nI (u + 1) := (f1 106 2 (by unfold ar hs; omega)).trans b2
      have q3 : h2 106 2 = nI u := by rw [m2.2 106 2 (by unfold tw; omega), up2_a]
      have ps1 := pk_sub (a := u + 1) (b := 1) (by omega)
      rw [Nat.add_sub_cancel] at ps1
      refine ⟨.int (nI u), h1, h2, INV_chg (Fr_t f1' f2) (Or.inr ⟨ps u, u, ps, ⟨wu, du⟩, ?_, ⟨CR_fr c1 (fun a i x1 x2 => ?_), m2.1⟩, ⟨AcC_fr (fun a i x => ?_) ac1, ⟨by omega, q3, fun i hi => ?_⟩⟩, fun i hi => ?_⟩) k, fun Q => ?_, fun Q => ?_⟩
      · rw [m2.2 106 1 (by unfold tw; omega), up2_n (by omega), f1 106 1 (by unfold ar hs; omega), a]
      · rw [m2.2 a i (by unfold tw; omega), up2_n (by omega)]
      · unfold ar at x
        rw [m2.2 a i (by unfold tw; omega), up2_n (by omega)]
      · exact MR_fr (am.2.2 i (by omega)) (fun j q1 q2 => by rw [m2.2 107 j (by unfold tw; omega), up2_n (by omega), f1 107 j (by unfold ar hs; omega)])
      · obtain ⟨x1, x2, x3⟩ := hp i (by omega)
        refine ⟨x1, St_tr su.1 su.2.1 (fun r hr => su.2.2 r hr) x2, x3⟩
      · simp only [e_X7_undo, s_X7_undo_0, s_X7_undo_1, s_X7_undo_4, s_X7_undo_7, s_X7_undo_10, s_X7_undo_12, s_X7_undo_13, s_X7_undo_14, s_X7_undo_17, s_X7_undo_18, s_X7_undo_21, s_X7_undo_24, s_X7_undo_25, s_X7_undo_28, s_X7_undo_31, kS_4, rS_4_0, rS_4_1, rS_4_2, rS_4_3, rS_4_4, rS_4_5, rS_4_6, rS_4_7, Hs_27, Hs_63, Hs_72, Hs_19, Hs_90, Hs_98, kS_36, rS_36_0, kS_37, lS_37, kH, Hs_27, a2, nz, e1, r1, Option.toList_none, List.nil_append, cl_tl0, cl_tl1, rfv_some, if_true, if_false, or_true, true_or, eq_self, ite_true, ite_false, and_true, true_and, not_true_eq_false, not_false_eq_true]
      · rw [show 50 * (1 + u) = 50 + 50 * u by omega] at e2
        simp only [Nat.mul_zero] at e2
        simp only [e_X8_undo, s_X8_undo_0, s_X8_undo_1, s_X8_undo_4, s_X8_undo_7, s_X8_undo_9, s_X8_undo_10, s_X8_undo_11, s_X8_undo_12, s_X8_undo_15, s_X8_undo_16, s_X8_undo_17, s_X8_undo_20, s_X8_undo_21, s_X8_undo_23, s_X8_undo_25, s_X8_undo_26, s_X8_undo_29, s_X8_undo_30, s_X8_undo_31, s_X8_undo_32, s_X8_undo_35, s_X8_undo_36, s_X8_undo_39, kS_106, rS_106_0, rS_106_3, rS_106_4, rS_106_5, rS_106_6, rS_106_7, rS_106_11, kS_107, lS_107, kS_108, lS_108, kS_109, lS_109, kS_110, lS_110, kS_111, lS_111, kS_112, lS_112, kS_113, lS_113, q2, nz, ps1, up2_a, pk_mul, nI_add, e2, q3, Option.toList_none, List.nil_append, cl_tl0, cl_tl1, rfv_some, if_true, if_false, or_true, true_or, eq_self, ite_true, ite_false, and_true, true_and, not_true_eq_false, not_false_eq_true]
/-- an act: the past is kept, then the house changes; first in the class, then in the model -/
theorem act_ok {h h1 h2 h3 h4 : mMem} {t t' : Nat → Nat} {u : Nat} {ps : Nat → Nat → Nat} (w : Wf t) (hd : t 2 ≤ 999) (hu : u ≤ 24) (hp : ∀ i, i < u → Wf (ps i) ∧ St (ps i) t ∧ ps i 2 ≤ 999) (a : h 106 1 = nI 1) (ac : AcC h1 (kpU u) (kpS u ps t)) (f1 : Fr ar h h1) (c2 : Hc 27 t' h1 h2) (am : AcM h3 (kpU u) (kpS u ps t)) (f3 : Fr mr h2 h3) (m4 : Tc 0 t' h3 h4) (w' : Wf t') (hd' : t' 2 ≤ 999) (st : ∀ p, St p t → St p t') : I4 h4 ∧ Fr chg h h4 := by
  refine ⟨Or.inr ⟨t', kpU u, kpS u ps t, ⟨w', hd'⟩, ?_, ⟨CR_fr c2.1 (fun x i x1 x2 => ?_), m4.1⟩, ⟨AcC_fr (fun x i e => ?_) ac, AcM_fr (fun x i e => ?_) am⟩, kp_ok w hd hu hp st⟩, ?_⟩
  · rw [m4.2 106 1 (by unfold tw; omega), f3 106 1 (by unfold mr; omega), c2.2 106 1 (by unfold hs; omega), f1 106 1 (by unfold ar; omega), a]
  · rw [m4.2 x i (by unfold tw; omega), f3 x i (by unfold mr; omega)]
  · unfold ar at e
    rw [m4.2 x i (by unfold tw; omega), f3 x i (by unfold mr; omega), c2.2 x i (by unfold hs; omega)]
  · unfold mr at e
    rw [m4.2 x i (by unfold tw; omega)]
  · exact Fr_t (Fr_w (fun x i e => Or.inr (Or.inl e)) f1) (Fr_t (Fr_w (fun x i e => Or.inl e) c2.2) (Fr_t (Fr_w (fun x i e => by unfold mr at e; unfold chg; omega) f3) (Fr_w (fun x i e => by unfold tw at e; unfold chg; omega) m4.2)))
theorem I4_hi {h : mMem} {t : Nat → Nat} (k : I4 h) (g : I4g h t) (hz : 0 < t 0 ∨ 0 < t 1) : ∃ t u ps, HI h t u ps := by
  rcases k with ⟨-, d, f⟩ | k
  · exfalso
    have e0 := CR_0 g.1.1
    have e1 := CR_1 g.1.1
    rw [CR_0 d] at e0
    rw [CR_1 d] at e1
    have b := g.2.1
    have := (nI_eq (a := 0) (b := t 0) (by omega) (by omega)).mp e0
    have := (nI_eq (a := 0) (b := t 1) (by omega) (by omega)).mp e1
    omega
  · exact k
theorem q_wolves {d L : Nat} {xs : Nat → Int32} {h : mMem} {x : Int32} (k : INV xs h) : Eqm (d + 9) M_X7_wolves M_X8_wolves [.int x] L xs h := by
  rcases k.2.2.2.2.1 with ⟨⟨a, b, c⟩, cz, mz⟩ | ⟨t, u, ps, ⟨w, hd⟩, a, ⟨c, m⟩, ⟨ac, am⟩, hp⟩
  · have a1 := fun Q => p_hasHeir (d := d + 7) (L := L) (x := x) (Q := Q) Hs_27 (CR_0 cz)
    have b1 := fun Q => p_isHeir (d := d + 6) (L := L) (x := x) (n := 0) (h := h) (Q := Q) (by omega) (MR_0 mz 0 (by omega))
    rw [vB_0] at a1 b1
    refine ⟨.int (-1000001), h, h, k, fun Q => ?_, fun Q => ?_⟩
    · simp only [e_X7_wolves, s_X7_wolves_0, s_X7_wolves_1, s_X7_wolves_4, s_X7_wolves_5, s_X7_wolves_8, s_X7_wolves_11, s_X7_wolves_13, s_X7_wolves_14, s_X7_wolves_15, s_X7_wolves_18, s_X7_wolves_19, s_X7_wolves_22, s_X7_wolves_25, s_X7_wolves_26, s_X7_wolves_29, s_X7_wolves_30, s_X7_wolves_33, s_X7_wolves_34, s_X7_wolves_37, s_X7_wolves_40, s_X7_wolves_41, s_X7_wolves_42, kS_4, rS_4_0, rS_4_1, rS_4_2, rS_4_3, rS_4_4, rS_4_5, rS_4_6, rS_4_7, Hs_27, Hs_63, Hs_72, Hs_19, Hs_90, Hs_98, kH, rH1, rH2, rH4, rH5, rH6, rH7, rH8, kH_1, kH_2, kH_3, kH_4, kH_5, kH_6, kH_7, lH_1, lH_2, lH_3, lH_4, lH_5, lH_6, lH_7, a1, bI_f, z_0, Option.toList_some, List.cons_append, List.nil_append, cl_tl0, cl_tl1, rfv_some, if_true, if_false, or_true, true_or, eq_self, ite_true, ite_false, and_true, true_and, not_true_eq_false, not_false_eq_true]
    · simp only [e_X8_wolves, s_X8_wolves_0, s_X8_wolves_1, s_X8_wolves_2, s_X8_wolves_5, s_X8_wolves_8, s_X8_wolves_10, s_X8_wolves_11, s_X8_wolves_12, s_X8_wolves_15, s_X8_wolves_16, s_X8_wolves_19, s_X8_wolves_20, s_X8_wolves_21, s_X8_wolves_22, s_X8_wolves_23, s_X8_wolves_24, s_X8_wolves_25, s_X8_wolves_26, s_X8_wolves_27, s_X8_wolves_28, s_X8_wolves_31, s_X8_wolves_32, s_X8_wolves_33, s_X8_wolves_34, s_X8_wolves_35, kS_106, rS_106_0, rS_106_3, rS_106_4, rS_106_5, rS_106_6, rS_106_7, rS_106_11, kS_107, lS_107, kS_108, lS_108, kS_109, lS_109, kS_110, lS_110, kS_111, lS_111, kS_112, lS_112, kS_113, lS_113, b1, bI_f, z_0, Option.toList_some, List.cons_append, List.nil_append, cl_tl0, cl_tl1, rfv_some, if_true, if_false, or_true, true_or, eq_self, ite_true, ite_false, and_true, true_and, not_true_eq_false, not_false_eq_true]
  · have w1 := w.1
    have a1 := fun Q => p_hasHeir (d := d + 7) (L := L) (x := x) (Q := Q) Hs_27 (CR_0 c)
    have b1 := fun g (e : g 107 0 = nI (t 0)) Q => p_isHeir (d := d + 6) (L := L) (x := x) (n := t 0) (h := g) (Q := Q) (by omega) e
    have m00 := MR_0 m 0 (by omega)
    cases v1 : vB x (t 0)
    · rw [v1] at a1 b1
      refine ⟨.int (-1000001), h, h, k, fun Q => ?_, fun Q => ?_⟩
      · simp only [e_X7_wolves, s_X7_wolves_0, s_X7_wolves_1, s_X7_wolves_4, s_X7_wolves_5, s_X7_wolves_8, s_X7_wolves_11, s_X7_wolves_13, s_X7_wolves_14, s_X7_wolves_15, s_X7_wolves_18, s_X7_wolves_19, s_X7_wolves_22, s_X7_wolves_25, s_X7_wolves_26, s_X7_wolves_29, s_X7_wolves_30, s_X7_wolves_33, s_X7_wolves_34, s_X7_wolves_37, s_X7_wolves_40, s_X7_wolves_41, s_X7_wolves_42, kS_4, rS_4_0, rS_4_1, rS_4_2, rS_4_3, rS_4_4, rS_4_5, rS_4_6, rS_4_7, Hs_27, Hs_63, Hs_72, Hs_19, Hs_90, Hs_98, kH, rH1, rH2, rH4, rH5, rH6, rH7, rH8, kH_1, kH_2, kH_3, kH_4, kH_5, kH_6, kH_7, lH_1, lH_2, lH_3, lH_4, lH_5, lH_6, lH_7, a1, bI_f, z_0, Option.toList_some, List.cons_append, List.nil_append, cl_tl0, cl_tl1, rfv_some, if_true, if_false, or_true, true_or, eq_self, ite_true, ite_false, and_true, true_and, not_true_eq_false, not_false_eq_true]
      · simp only [e_X8_wolves, s_X8_wolves_0, s_X8_wolves_1, s_X8_wolves_2, s_X8_wolves_5, s_X8_wolves_8, s_X8_wolves_10, s_X8_wolves_11, s_X8_wolves_12, s_X8_wolves_15, s_X8_wolves_16, s_X8_wolves_19, s_X8_wolves_20, s_X8_wolves_21, s_X8_wolves_22, s_X8_wolves_23, s_X8_wolves_24, s_X8_wolves_25, s_X8_wolves_26, s_X8_wolves_27, s_X8_wolves_28, s_X8_wolves_31, s_X8_wolves_32, s_X8_wolves_33, s_X8_wolves_34, s_X8_wolves_35, kS_106, rS_106_0, rS_106_3, rS_106_4, rS_106_5, rS_106_6, rS_106_7, rS_106_11, kS_107, lS_107, kS_108, lS_108, kS_109, lS_109, kS_110, lS_110, kS_111, lS_111, kS_112, lS_112, kS_113, lS_113, m00, b1, bI_f, z_0, Option.toList_some, List.cons_append, List.nil_append, cl_tl0, cl_tl1, rfv_some, if_true, if_false, or_true, true_or, eq_self, ite_true, ite_false, and_true, true_and, not_true_eq_false, not_false_eq_true]
    · rw [v1] at a1 b1
      obtain ⟨i, hi, rfl⟩ := vB_t (by omega) v1
      have bi := (w.2.2.1 i hi).1
      obtain ⟨w', g0, g1, g2, g3, g4⟩ := wlf_p w hi
      obtain ⟨h1, ⟨ac1, f1⟩, e1⟩ := p_keep (d := d + 6) (L := L) c w ac
      have c1 : CR h1 27 t := CR_fr c (fun a i x1 x2 => f1 a i (by unfold ar; omega))
      obtain ⟨h2, c2, e2⟩ := p_comeWolves (d := d + 7) (L := L) Hs_27 c1 w hi
      have r4 := CR_4 c2.1 w' (k := i) (by omega)
      have fc : ∀ a i, 106 ≤ a → h2 a i = h a i := fun a i ha => by rw [c2.2 a i (by unfold hs; omega), f1 a i (by unfold ar; omega)]
      have m2 : MR h2 0 t := MR_fr m (fun i x1 x2 => fc 107 i (by omega))
      have am2 : AcM h2 u ps := AcM_fr (fun a i e => fc a i (by unfold mr at e; omega)) am
      obtain ⟨h3, ⟨am3, f3⟩, e3⟩ := p_keepPast (d := d + 6) (L := L) m2 am2
      have m3 : MR h3 0 t := MR_fr m2 (fun i x1 x2 => f3 107 i (by unfold mr; omega))
      have m4 := Tc_u (v := t (4 + i) / 2) (i := 50 * 0 + (4 + i)) m3 (show 4 + i < 50 by omega) rfl
      obtain ⟨n4, f4⟩ := act_ok w hd ac.1 hp a ac1 f1 c2 am3 f3 m4 w' (by omega) (fun p sp => St_tr g0 g1 (fun r hr => ⟨g4 _ (by omega), g4 _ (by omega), g4 _ (by omega), g4 _ (by omega)⟩) sp)
      have n00 := MR_0 m2 0 (by omega)
      have s4 := MR_0 m3 (4 + i) (by omega)
      have q := pk_div (a := t (4 + i)) (d := 2) (by omega) (by omega) (by omega)
      have n2z : (nI 2 = (0 : Int32)) = False := eq_false (by decide)
      have ew : wlf t i (4 + i) = t (4 + i) / 2 := ts_s _ _ _
      rw [ew] at r4
      refine ⟨.int (nI (t (4 + i) / 2)), h2, _, INV_chg f4 n4 k, fun Q => ?_, fun Q => ?_⟩
      · simp only [e_X7_wolves, s_X7_wolves_0, s_X7_wolves_1, s_X7_wolves_4, s_X7_wolves_5, s_X7_wolves_8, s_X7_wolves_11, s_X7_wolves_13, s_X7_wolves_14, s_X7_wolves_15, s_X7_wolves_18, s_X7_wolves_19, s_X7_wolves_22, s_X7_wolves_25, s_X7_wolves_26, s_X7_wolves_29, s_X7_wolves_30, s_X7_wolves_33, s_X7_wolves_34, s_X7_wolves_37, s_X7_wolves_40, s_X7_wolves_41, s_X7_wolves_42, kS_4, rS_4_0, rS_4_1, rS_4_2, rS_4_3, rS_4_4, rS_4_5, rS_4_6, rS_4_7, Hs_27, Hs_63, Hs_72, Hs_19, Hs_90, Hs_98, kH, rH1, rH2, rH4, rH5, rH6, rH7, rH8, kH_1, kH_2, kH_3, kH_4, kH_5, kH_6, kH_7, lH_1, lH_2, lH_3, lH_4, lH_5, lH_6, lH_7, kS_36, rS_36_0, kS_37, lS_37, Hs_27, show i < 5 by omega, a1, e1, e2, r4, bI_t, z_1, Option.toList_none, Option.toList_some, List.cons_append, List.nil_append, Nat.reduceAdd, Nat.reduceLT, cl_tl0, cl_tl1, rfv_some, if_true, if_false, or_true, true_or, eq_self, ite_true, ite_false, and_true, true_and, not_true_eq_false, not_false_eq_true]
      · simp only [e_X8_wolves, s_X8_wolves_0, s_X8_wolves_1, s_X8_wolves_2, s_X8_wolves_5, s_X8_wolves_8, s_X8_wolves_10, s_X8_wolves_11, s_X8_wolves_12, s_X8_wolves_15, s_X8_wolves_16, s_X8_wolves_19, s_X8_wolves_20, s_X8_wolves_21, s_X8_wolves_22, s_X8_wolves_23, s_X8_wolves_24, s_X8_wolves_25, s_X8_wolves_26, s_X8_wolves_27, s_X8_wolves_28, s_X8_wolves_31, s_X8_wolves_32, s_X8_wolves_33, s_X8_wolves_34, s_X8_wolves_35, kS_106, rS_106_0, rS_106_3, rS_106_4, rS_106_5, rS_106_6, rS_106_7, rS_106_11, kS_107, lS_107, kS_108, lS_108, kS_109, lS_109, kS_110, lS_110, kS_111, lS_111, kS_112, lS_112, kS_113, lS_113, n00, b1, e3, nI_add, show 4 + i < 1600 by omega, s4, q, n2z, up2_a, bI_t, z_1, Nat.mul_zero, Nat.zero_add, Option.toList_none, Option.toList_some, List.cons_append, List.nil_append, Nat.reduceLT, cl_tl0, cl_tl1, rfv_some, if_true, if_false, or_true, true_or, eq_self, ite_true, ite_false, and_true, true_and, not_true_eq_false, not_false_eq_true]
theorem I4_g2 {h : mMem} (k : I4 h) : ∃ t, I4g h t ∧ (0 < t 0 ∨ 0 < t 1 → ∃ u ps, HI h t u ps) := by
  rcases k with ⟨⟨a, b, c⟩, d, f⟩ | ⟨t, u, ps, w, a, ⟨c, d⟩, ⟨f, g⟩, p⟩
  · exact ⟨fun _ => 0, ⟨⟨d, f⟩, ⟨Nat.zero_le _, Nat.zero_le _⟩, a, fun x => absurd x (by simp)⟩, fun x => absurd x (by simp)⟩
  · have w1 := w.1.1
    have w2 := w.1.2.1
    refine ⟨t, ⟨⟨c, d⟩, ⟨w1.2, w2.2⟩, ?_, fun _ => w⟩, fun _ => ⟨u, ps, w, a, ⟨c, d⟩, ⟨f, g⟩, p⟩⟩
    rw [a, decide_eq_true (by omega)]
    rfl
theorem xrb : ∀ r, r < 7 → ∀ b, b < 128 → (nI b ^^^ (nI 1 <<< (nI r &&& 31))) = nI (b ^^^ 2 ^ r) ∧ b ^^^ 2 ^ r < 128 := by decide +kernel
