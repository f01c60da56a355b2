/-! ===== pure: acts on both sides ===== -/
def NR (h : mMem) (a : Nat) (t : Nat → Nat) : Prop := (∀ k, k < t 0 → h a k = nI (t (4 + k)) ∧ h a (5 + k) = nI (t (9 + k))) ∧ (∀ r, r < t 1 → h a (10 + r) = nI (t (35 + r))) ∧ h a 17 = nI (t 49) ∧ h a 18 = nI (t 2) ∧ h a 19 = nI (t 3)
theorem NR_fr {h h' : mMem} {a : Nat} {t : Nat → Nat} (n : NR h a t) (e : ∀ i, h' a i = h a i) : NR h' a t := by
  unfold NR at n ⊢
  simp only [e]
  exact n
def St (p t : Nat → Nat) : Prop := p 0 = t 0 ∧ p 1 = t 1 ∧ ∀ r, r < t 1 → p (14 + r) = t (14 + r) ∧ p (21 + r) = t (21 + r) ∧ p (28 + r) = t (28 + r) ∧ p (42 + r) = t (42 + r)
theorem p_writeNote {d L a : Nat} {t : Nat → Nat} {h : mMem} (c : CR h 27 t) (w : Wf t) (ka : kd (S0 L) a = 0) (la : ln (S0 L) a = 20) (ha : 36 < a) : Sp (d + 1) M_X4_writeNote [.ref 27, .ref a] L h none (fun h' => NR h' a t ∧ Fr (fun x _ => x = a) h h') := by
  have w1 := w.1
  have w2 := w.2.1
  obtain ⟨h1, e1⟩ : ∃ h1, cp2 h 28 0 a 0 5 = h1 := ⟨_, rfl⟩
  obtain ⟨h2, e2⟩ : ∃ h2, cp2 h1 29 0 a 5 5 = h2 := ⟨_, rfl⟩
  obtain ⟨h3, e3⟩ : ∃ h3, cp2 h2 33 0 a 10 7 = h3 := ⟨_, rfl⟩
  obtain ⟨h4, e4⟩ : ∃ h4, up2 h3 a 17 (h3 27 9) = h4 := ⟨_, rfl⟩
  obtain ⟨h5, e5⟩ : ∃ h5, up2 h4 a 18 (h4 27 10) = h5 := ⟨_, rfl⟩
  obtain ⟨h6, e6⟩ : ∃ h6, up2 h5 a 19 (h5 27 11) = h6 := ⟨_, rfl⟩
  have f1 : Fr (fun x _ => x = a) h h1 := by rw [← e1]; exact Fr_c (fun _ => rfl)
  have f2 : Fr (fun x _ => x = a) h h2 := by rw [← e2]; exact Fr_t f1 (Fr_c (fun _ => rfl))
  have f3 : Fr (fun x _ => x = a) h h3 := by rw [← e3]; exact Fr_t f2 (Fr_c (fun _ => rfl))
  have f4 : Fr (fun x _ => x = a) h h4 := by rw [← e4]; exact Fr_t f3 (Fr_u rfl)
  have f5 : Fr (fun x _ => x = a) h h5 := by rw [← e5]; exact Fr_t f4 (Fr_u rfl)
  have f6 : Fr (fun x _ => x = a) h h6 := by rw [← e6]; exact Fr_t f5 (Fr_u rfl)
  have g6 : ∀ i, i < 17 → h6 a i = h3 a i := fun i hi => by rw [← e6, up2_n (by omega), ← e5, up2_n (by omega), ← e4, up2_n (by omega)]
  refine ⟨h6, ⟨⟨fun k hk => ⟨?_, ?_⟩, fun r hr => ?_, ?_, ?_, ?_⟩, f6⟩, fun Q => ?_⟩
  · rw [g6 k (by omega), ← e3, cp2_out (by omega), ← e2, cp2_out (by omega), ← e1, cp2_in (by omega) (by omega)]
    have := CR_4 c w hk
    simpa using this
  · rw [g6 _ (by omega), ← e3, cp2_out (by omega), ← e2, cp2_in (by omega) (by omega), f1 29 _ (by omega)]
    have := CR_9 c w hk
    simpa using this
  · rw [g6 _ (by omega), ← e3, cp2_in (by omega) (by omega), f2 33 _ (by omega)]
    have := CR_35 c w hr
    simpa using this
  · rw [← e6, up2_n (by omega), ← e5, up2_n (by omega), ← e4, up2_a, f3 27 _ (by omega)]
    exact CR_49 c
  · rw [← e6, up2_n (by omega), ← e5, up2_a, f4 27 _ (by omega)]
    exact CR_2 c
  · rw [← e6, up2_a, f5 27 _ (by omega)]
    exact CR_3 c
  · simp only [e_X4_writeNote, s_X4_writeNote_0, s_X4_writeNote_1, s_X4_writeNote_4, s_X4_writeNote_5, s_X4_writeNote_6, s_X4_writeNote_7, s_X4_writeNote_8, s_X4_writeNote_11, s_X4_writeNote_12, s_X4_writeNote_15, s_X4_writeNote_16, s_X4_writeNote_17, s_X4_writeNote_18, s_X4_writeNote_19, s_X4_writeNote_22, s_X4_writeNote_23, s_X4_writeNote_26, s_X4_writeNote_27, s_X4_writeNote_28, s_X4_writeNote_30, s_X4_writeNote_32, s_X4_writeNote_35, s_X4_writeNote_36, s_X4_writeNote_38, s_X4_writeNote_39, s_X4_writeNote_42, s_X4_writeNote_43, s_X4_writeNote_44, s_X4_writeNote_46, s_X4_writeNote_47, s_X4_writeNote_50, s_X4_writeNote_51, s_X4_writeNote_52, s_X4_writeNote_54, s_X4_writeNote_55, s_X4_writeNote_58, s_X4_writeNote_59, kH, rH1, rH2, rH4, rH5, rH6, rH7, rH8, kH_1, kH_2, kH_3, kH_4, kH_5, kH_6, kH_7, lH_1, lH_2, lH_3, lH_4, lH_5, lH_6, lH_7, Hs_27, ka, la, Nat.reduceAdd, Nat.reduceLT, Nat.reduceLeDiff, e1, e2, e3, e4, e5, e6, cl_tl0, cl_tl1, rfv_some, if_true, if_false, or_true, true_or, eq_self, ite_true, ite_false, and_true, true_and, not_true_eq_false, not_false_eq_true]
theorem p_goBackTo {d L a : Nat} {t p : Nat → Nat} {h : mMem} (c : CR h 27 t) (w : Wf p) (st : St p t) (n : NR h a p) (ka : kd (S0 L) a = 0) (la : ln (S0 L) a = 20) (ha : 36 < a) : Sp (d + 1) M_X4_goBackTo [.ref 27, .ref a] L h none (Hc 27 p h) := by
  have w1 := w.1
  have w2 := w.2.1
  obtain ⟨s0, s1, s2⟩ := st
  obtain ⟨n1, n2, n3, n4, n5⟩ := n
  obtain ⟨h1, e1⟩ : ∃ h1, cp2 h a 0 28 0 5 = h1 := ⟨_, rfl⟩
  obtain ⟨h2, e2⟩ : ∃ h2, cp2 h1 a 5 29 0 5 = h2 := ⟨_, rfl⟩
  obtain ⟨h3, e3⟩ : ∃ h3, cp2 h2 a 10 33 0 7 = h3 := ⟨_, rfl⟩
  obtain ⟨h4, e4⟩ : ∃ h4, up2 h3 27 9 (h3 a 17) = h4 := ⟨_, rfl⟩
  obtain ⟨h5, e5⟩ : ∃ h5, up2 h4 27 10 (h4 a 18) = h5 := ⟨_, rfl⟩
  obtain ⟨h6, e6⟩ : ∃ h6, up2 h5 27 11 (h5 a 19) = h6 := ⟨_, rfl⟩
  have f1 : Fr (hs 27) h h1 := by rw [← e1]; exact Fr_c (fun _ => ⟨by omega, by omega⟩)
  have f2 : Fr (hs 27) h h2 := by rw [← e2]; exact Fr_t f1 (Fr_c (fun _ => ⟨by omega, by omega⟩))
  have f3 : Fr (hs 27) h h3 := by rw [← e3]; exact Fr_t f2 (Fr_c (fun _ => ⟨by omega, by omega⟩))
  have f4 : Fr (hs 27) h h4 := by rw [← e4]; exact Fr_t f3 (Fr_u ⟨by omega, by omega⟩)
  have f5 : Fr (hs 27) h h5 := by rw [← e5]; exact Fr_t f4 (Fr_u ⟨by omega, by omega⟩)
  have f6 : Fr (hs 27) h h6 := by rw [← e6]; exact Fr_t f5 (Fr_u ⟨by omega, by omega⟩)
  have g6 : ∀ x i, x ≠ 27 → h6 x i = h3 x i := fun x i hx => by rw [← e6, up2_n (by omega), ← e5, up2_n (by omega), ← e4, up2_n (by omega)]
  have g3 : ∀ x i, x ≠ 28 → x ≠ 29 → x ≠ 33 → h3 x i = h x i := fun x i q1 q2 q3 => by rw [← e3, cp2_out (by omega), ← e2, cp2_out (by omega), ← e1, cp2_out (by omega)]
  have g7 : ∀ i, i < 9 → h6 27 i = h 27 i := fun i hi => by rw [← e6, up2_n (by omega), ← e5, up2_n (by omega), ← e4, up2_n (by omega), g3 27 i (by omega) (by omega) (by omega)]
  refine ⟨h6, ⟨?_, f6⟩, fun Q => ?_⟩
  · have q0 := CR_0 c
    have q1 := CR_1 c
    have cl := c
    refine CR_ii w ?_ ?_ ?_ ?_ ?_ (fun k hk => ?_) (fun k hk => ?_) (fun k hk => ?_) (fun k hk => ?_) (fun k hk => ?_) (fun k hk => ?_) (fun k hk => ?_)
    · rw [g7 0 (by omega), q0, s0]
    · rw [g7 3 (by omega), q1, s1]
    · rw [← e6, up2_n (by omega), ← e5, up2_a, f4 a _ (by unfold hs; omega)]
      exact n4
    · rw [← e6, up2_a, f5 a _ (by unfold hs; omega)]
      exact n5
    · rw [← e6, up2_n (by omega), ← e5, up2_n (by omega), ← e4, up2_a, f3 a _ (by unfold hs; omega)]
      exact n3
    · rw [g6 _ _ (by omega), ← e3, cp2_out (by omega), ← e2, cp2_out (by omega), ← e1, cp2_in (by omega) (by omega)]
      have := (n1 k hk).1
      simpa using this
    · rw [g6 _ _ (by omega), ← e3, cp2_out (by omega), ← e2, cp2_in (by omega) (by omega), f1 a _ (by unfold hs; omega)]
      have := (n1 k hk).2
      simpa using this
    · rw [g6 _ _ (by omega), g3 _ _ (by omega) (by omega) (by omega), (s2 k (by omega)).1]
      have := cl (14 + k) (by unfold Rl; omega)
      rwa [lo_14 (by omega)] at this
    · rw [g6 _ _ (by omega), g3 _ _ (by omega) (by omega) (by omega), (s2 k (by omega)).2.1]
      have := cl (21 + k) (by unfold Rl; omega)
      rwa [lo_21 (by omega)] at this
    · rw [g6 _ _ (by omega), g3 _ _ (by omega) (by omega) (by omega), (s2 k (by omega)).2.2.1]
      have := cl (28 + k) (by unfold Rl; omega)
      rwa [lo_28 (by omega)] at this
    · rw [g6 _ _ (by omega), ← e3, cp2_in (by omega) (by omega), f2 a _ (by unfold hs; omega)]
      have := n2 k hk
      simpa using this
    · rw [g6 _ _ (by omega), g3 _ _ (by omega) (by omega) (by omega), (s2 k (by omega)).2.2.2]
      have := cl (42 + k) (by unfold Rl; omega)
      rwa [lo_42 (by omega)] at this
  · simp only [e_X4_goBackTo, s_X4_goBackTo_0, s_X4_goBackTo_1, s_X4_goBackTo_2, s_X4_goBackTo_3, s_X4_goBackTo_6, s_X4_goBackTo_7, s_X4_goBackTo_8, s_X4_goBackTo_11, s_X4_goBackTo_12, s_X4_goBackTo_13, s_X4_goBackTo_14, s_X4_goBackTo_17, s_X4_goBackTo_18, s_X4_goBackTo_19, s_X4_goBackTo_22, s_X4_goBackTo_23, s_X4_goBackTo_25, s_X4_goBackTo_26, s_X4_goBackTo_29, s_X4_goBackTo_30, s_X4_goBackTo_32, s_X4_goBackTo_35, s_X4_goBackTo_36, s_X4_goBackTo_37, s_X4_goBackTo_39, s_X4_goBackTo_40, s_X4_goBackTo_43, s_X4_goBackTo_44, s_X4_goBackTo_45, s_X4_goBackTo_47, s_X4_goBackTo_48, s_X4_goBackTo_51, s_X4_goBackTo_52, s_X4_goBackTo_53, s_X4_goBackTo_55, s_X4_goBackTo_56, s_X4_goBackTo_59, kH, rH1, rH2, rH4, rH5, rH6, rH7, rH8, kH_1, kH_2, kH_3, kH_4, kH_5, kH_6, kH_7, lH_1, lH_2, lH_3, lH_4, lH_5, lH_6, lH_7, Hs_27, ka, la, Nat.reduceAdd, Nat.reduceLT, Nat.reduceLeDiff, e1, e2, e3, e4, e5, e6, cl_tl0, cl_tl1, rfv_some, if_true, if_false, or_true, true_or, eq_self, ite_true, ite_false, and_true, true_and, not_true_eq_false, not_false_eq_true]
/-- the ring -/
def ar (a i : Nat) : Prop := a = 36 ∨ (38 ≤ a ∧ a < 62)
def AcC (h : mMem) (u : Nat) (ps : Nat → Nat → Nat) : Prop := u ≤ 24 ∧ h 36 2 = nI u ∧ ∃ q, q < 24 ∧ h 36 1 = nI q ∧ ∀ i, i < u → NR h (38 + (q + i) % 24) (ps i)
def kpU (u : Nat) : Nat := if u = 24 then 24 else u + 1
def kpS (u : Nat) (ps : Nat → Nat → Nat) (t : Nat → Nat) : Nat → Nat → Nat := fun i => if u = 24 then (if i = 23 then t else ps (i + 1)) else (if i = u then t else ps i)
theorem p_forget {d L : Nat} {h : mMem} {ps : Nat → Nat → Nat} : Sp (d + 1) M_X0_forget [.ref 36] L h none (fun h' => AcC h' 0 ps ∧ Fr ar h h') := by
  refine ⟨up2 (up2 h 36 1 (nI 0)) 36 2 (nI 0), ⟨⟨by omega, up2_a, 0, by omega, ?_, fun i hi => by omega⟩, Fr_t (Fr_u (Or.inl rfl)) (Fr_u (Or.inl rfl))⟩, fun Q => ?_⟩
  · rw [up2_n (by omega), up2_a]
  · simp only [e_X0_forget, s_X0_forget_0, s_X0_forget_1, s_X0_forget_2, s_X0_forget_5, s_X0_forget_6, s_X0_forget_7, s_X0_forget_10, kS_36, rS_36_0, kS_37, lS_37, cl_tl0, cl_tl1, rfv_some, if_true, if_false, or_true, true_or, eq_self, ite_true, ite_false, and_true, true_and, not_true_eq_false, not_false_eq_true]
theorem p_keep {d L u : Nat} {t : Nat → Nat} {ps : Nat → Nat → Nat} {h : mMem} (c : CR h 27 t) (w : Wf t) (ac : AcC h u ps) : Sp (d + 2) M_X0_keep [.ref 36, .ref 27] L h none (fun h' => AcC h' (kpU u) (kpS u ps t) ∧ Fr ar h h') := by
  obtain ⟨hu, a2, q, hq, a1, an⟩ := ac
  have n24 : (nI 24 = (0 : Int32)) = False := eq_false (by decide)
  have l1 : (nI u = nI 24) = (u = 24) := f_eq (by omega) (by omega)
  by_cases z : u = 24
  · subst z
    have m1 := pk_rem (a := q + 1) (d := 24) (by omega) (by omega) (by omega)
    have m2 := pk_rem (a := (q + 1) % 24 + 23) (d := 24) (by omega) (by omega) (by omega)
    obtain ⟨j, ej⟩ : ∃ j, ((q + 1) % 24 + 23) % 24 = j := ⟨_, rfl⟩
    rw [ej] at m2
    have hj : j < 24 := by omega
    obtain ⟨g1, g2, g3⟩ := grN L hj
    obtain ⟨h1, e1⟩ : ∃ h1, up2 (up2 h 36 1 (nI ((q + 1) % 24))) 36 2 (nI 23) = h1 := ⟨_, rfl⟩
    have f1 : Fr ar h h1 := by rw [← e1]; exact Fr_t (Fr_u (Or.inl rfl)) (Fr_u (Or.inl rfl))
    have r1 : h1 36 1 = nI ((q + 1) % 24) := by rw [← e1, up2_n (by omega), up2_a]
    have r2 : h1 36 2 = nI 23 := by rw [← e1, up2_a]
    have r3 : up2 h 36 1 (nI ((q + 1) % 24)) 36 2 = nI 24 := by rw [up2_n (by omega), a2]
    have c1 : CR h1 27 t := CR_fr c (fun a i h1 h2 => f1 a i (by unfold ar; omega))
    obtain ⟨h2, ⟨n2, f2⟩, e2⟩ := p_writeNote (d := d) (L := L) (a := 38 + j) c1 w g2 g3 (by omega)
    have r4 : h2 36 2 = nI 23 := (f2 36 2 (by omega)).trans r2
    have f2' : Fr ar h1 h2 := Fr_w (fun a i e => Or.inr (by omega)) f2
    refine ⟨up2 h2 36 2 (nI 24), ⟨⟨by decide, up2_a, (q + 1) % 24, by omega, ?_, fun i hi => ?_⟩, Fr_t f1 (Fr_t f2' (Fr_u (Or.inl rfl)))⟩, fun Q => ?_⟩
    · rw [up2_n (by omega), f2 36 1 (by omega), r1]
    · have hi' : i < 24 := hi
      by_cases zi : i = 23
      · subst zi
        rw [ej]
        exact NR_fr n2 (fun i => up2_n (by omega))
      · have e3 : kpS 24 ps t i = ps (i + 1) := by unfold kpS; rw [if_pos rfl, if_neg zi]
        rw [e3]
        have := an (i + 1) (by omega)
        rw [show (q + (i + 1)) % 24 = ((q + 1) % 24 + i) % 24 by omega] at this
        refine NR_fr this (fun x => ?_)
        rw [up2_n (by omega), f2 _ _ (by omega), ← e1, up2_n (by omega), up2_n (by omega)]
    · simp only [e_X0_keep, s_X0_keep_0, s_X0_keep_1, s_X0_keep_4, s_X0_keep_6, s_X0_keep_9, s_X0_keep_10, s_X0_keep_11, s_X0_keep_14, s_X0_keep_15, s_X0_keep_16, s_X0_keep_18, s_X0_keep_19, s_X0_keep_22, s_X0_keep_23, s_X0_keep_24, s_X0_keep_27, s_X0_keep_28, s_X0_keep_29, s_X0_keep_32, s_X0_keep_33, s_X0_keep_34, s_X0_keep_37, s_X0_keep_38, s_X0_keep_41, s_X0_keep_42, s_X0_keep_45, s_X0_keep_46, s_X0_keep_48, s_X0_keep_49, s_X0_keep_49g, s_X0_keep_50, s_X0_keep_53, s_X0_keep_54, s_X0_keep_55, s_X0_keep_58, s_X0_keep_59, s_X0_keep_60, s_X0_keep_63, kS_36, rS_36_0, kS_37, lS_37, a2, a1, l1, n24, m1, m2, r3, hj, g1, nI_add, pk_sub (show 1 ≤ 24 by omega), e1, r1, r2, r4, e2, kH, Hs_27, Option.toList_none, List.nil_append, Nat.reduceSub, Nat.reduceAdd, Nat.reduceLT, cl_tl0, cl_tl1, rfv_some, if_true, if_false, or_true, true_or, eq_self, ite_true, ite_false, and_true, true_and, not_true_eq_false, not_false_eq_true]
  · have m2 := pk_rem (a := q + u) (d := 24) (by omega) (by omega) (by omega)
    obtain ⟨j, ej⟩ : ∃ j, (q + u) % 24 = j := ⟨_, rfl⟩
    rw [ej] at m2
    have hj : j < 24 := by omega
    obtain ⟨g1, g2, g3⟩ := grN L hj
    obtain ⟨h2, ⟨n2, f2⟩, e2⟩ := p_writeNote (d := d) (L := L) (a := 38 + j) c w g2 g3 (by omega)
    have f2' : Fr ar h h2 := Fr_w (fun a i e => Or.inr (by omega)) f2
    have r4 : h2 36 2 = nI u := (f2 36 2 (by omega)).trans a2
    have ek : kpU u = u + 1 := if_neg z
    refine ⟨up2 h2 36 2 (nI (u + 1)), ⟨⟨by omega, by rw [ek, up2_a], q, by omega, ?_, fun i hi => ?_⟩, Fr_t f2' (Fr_u (Or.inl rfl))⟩, fun Q => ?_⟩
    · rw [up2_n (by omega), f2 36 1 (by omega), a1]
    · rw [ek] at hi
      by_cases zi : i = u
      · subst zi
        have e3 : kpS i ps t i = t := by unfold kpS; rw [if_neg z, if_pos rfl]
        rw [ej, e3]
        exact NR_fr n2 (fun i => up2_n (by omega))
      · have e3 : kpS u ps t i = ps i := by unfold kpS; rw [if_neg z, if_neg zi]
        rw [e3]
        refine NR_fr (an i (by omega)) (fun x => ?_)
        rw [up2_n (by omega), f2 _ _ (by omega)]
    · simp only [e_X0_keep, s_X0_keep_0, s_X0_keep_1, s_X0_keep_4, s_X0_keep_6, s_X0_keep_9, s_X0_keep_10, s_X0_keep_11, s_X0_keep_14, s_X0_keep_15, s_X0_keep_16, s_X0_keep_18, s_X0_keep_19, s_X0_keep_22, s_X0_keep_23, s_X0_keep_24, s_X0_keep_27, s_X0_keep_28, s_X0_keep_29, s_X0_keep_32, s_X0_keep_33, s_X0_keep_34, s_X0_keep_37, s_X0_keep_38, s_X0_keep_41, s_X0_keep_42, s_X0_keep_45, s_X0_keep_46, s_X0_keep_48, s_X0_keep_49, s_X0_keep_49g, s_X0_keep_50, s_X0_keep_53, s_X0_keep_54, s_X0_keep_55, s_X0_keep_58, s_X0_keep_59, s_X0_keep_60, s_X0_keep_63, kS_36, rS_36_0, kS_37, lS_37, a2, a1, l1, eq_false z, n24, m2, hj, g1, nI_add, r4, e2, kH, Hs_27, Option.toList_none, List.nil_append, Nat.reduceAdd, Nat.reduceLT, cl_tl0, cl_tl1, rfv_some, if_true, if_false, or_true, true_or, eq_self, ite_true, ite_false, and_true, true_and, not_true_eq_false, not_false_eq_true]
theorem p_takeBack {d L u : Nat} {t : Nat → Nat} {ps : Nat → Nat → Nat} {h : mMem} (c : CR h 27 t) (ac : AcC h (u + 1) ps) (w : Wf (ps u)) (st : St (ps u) t) : Sp (d + 2) M_X0_takeBack [.ref 36, .ref 27] L h none (fun h' => AcC h' u ps ∧ CR h' 27 (ps u) ∧ Fr (fun a i => ar a i ∨ hs 27 a i) h h') := by
  obtain ⟨hu, a2, q, hq, a1, an⟩ := ac
  have n24 : (nI 24 = (0 : Int32)) = False := eq_false (by decide)
  have l1 : (nI (u + 1) ≤ 0) = False := f_le0 (by omega) (by omega)
  have m2 := pk_rem (a := q + u) (d := 24) (by omega) (by omega) (by omega)
  obtain ⟨j, ej⟩ : ∃ j, (q + u) % 24 = j := ⟨_, rfl⟩
  rw [ej] at m2
  have hj : j < 24 := by omega
  obtain ⟨g1, g2, g3⟩ := grN L hj
  have f1 : Fr ar h (up2 h 36 2 (nI u)) := Fr_u (Or.inl rfl)
  have c1 : CR (up2 h 36 2 (nI u)) 27 t := CR_fr c (fun a i h1 h2 => f1 a i (by unfold ar; omega))
  have n1 := an u (by omega)
  rw [ej] at n1
  obtain ⟨h2, c2, e2⟩ := p_goBackTo (d := d) (L := L) (a := 38 + j) c1 w st (NR_fr n1 (fun i => up2_n (by omega))) g2 g3 (by omega)
  refine ⟨h2, ⟨⟨by omega, ?_, q, hq, ?_, fun i hi => ?_⟩, c2.1, Fr_t (Fr_w (fun a i e => Or.inl e) f1) (Fr_w (fun a i e => Or.inr e) c2.2)⟩, fun Q => ?_⟩
  · rw [c2.2 36 2 (by unfold hs; omega), up2_a]
  · rw [c2.2 36 1 (by unfold hs; omega), up2_n (by omega), a1]
  · refine NR_fr (an i (by omega)) (fun x => ?_)
    rw [c2.2 _ x (by unfold hs; omega), up2_n (by omega)]
  · have r1 : up2 h 36 2 (nI u) 36 1 = nI q := by rw [up2_n (by omega), a1]
    have ps1 := pk_sub (a := u + 1) (b := 1) (by omega)
    rw [Nat.add_sub_cancel] at ps1
    simp only [e_X0_takeBack, s_X0_takeBack_0, s_X0_takeBack_1, s_X0_takeBack_4, s_X0_takeBack_7, s_X0_takeBack_8, s_X0_takeBack_9, s_X0_takeBack_12, s_X0_takeBack_13, s_X0_takeBack_14, s_X0_takeBack_17, s_X0_takeBack_18, s_X0_takeBack_19, s_X0_takeBack_22, s_X0_takeBack_23, s_X0_takeBack_26, s_X0_takeBack_27, s_X0_takeBack_30, s_X0_takeBack_31, s_X0_takeBack_33, s_X0_takeBack_34, s_X0_takeBack_34g, s_X0_takeBack_35, s_X0_takeBack_38, kS_36, rS_36_0, kS_37, lS_37, a2, l1, n24, m2, hj, g1, nI_add, ps1, r1, up2_a, e2, kH, Hs_27, Option.toList_none, List.nil_append, Nat.reduceAdd, Nat.reduceLT, cl_tl0, cl_tl1, rfv_some, if_true, if_false, or_true, true_or, eq_self, ite_true, ite_false, and_true, true_and, not_true_eq_false, not_false_eq_true]
