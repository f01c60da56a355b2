/-! ===== pure: house: the class reads ===== -/
def TP (g : mMem) (N : Nat) (b : Nat → Nat) : Prop := N ≤ 100 ∧ g 17 1 = nI N ∧ ∀ i, i < N → b i < 256 ∧ g 18 i = nI (b i)
def TS (g : mMem) (s : Nat × Nat) : Prop := g 17 2 = nI s.1 ∧ g 17 3 = nI s.2
def aT (a i : Nat) : Prop := a = 17 ∧ (i = 2 ∨ i = 3)
theorem TP_fr {g g' : mMem} {N : Nat} {b : Nat → Nat} (f : ∀ a i, (a = 17 ∧ i = 1) ∨ a = 18 → g' a i = g a i) (k : TP g N b) : TP g' N b := by
  obtain ⟨h1, h2, h3⟩ := k
  exact ⟨h1, (f _ _ (by omega)).trans h2, fun i hi => ⟨(h3 i hi).1, (f _ _ (by omega)).trans (h3 i hi).2⟩⟩
theorem TP_t {g g' : mMem} {N : Nat} {b : Nat → Nat} (f : Fr aT g g') (k : TP g N b) : TP g' N b := TP_fr (fun a i h => f a i (by unfold aT; omega)) k
def baI (N : Nat) (b : Nat → Nat) (p : Nat) : Int32 := if p < N then nI (b p) else -(nI 1)
theorem baI_t {N : Nat} {b : Nat → Nat} {p : Nat} (h : p < N) : baI N b p = nI (b p) := if_pos h
theorem m1_n {c : Nat} (h : c < 1000) : (-(nI 1) = nI c) = False := eq_false (fun e => of_eq_false (n_m1 h) e.symm)
theorem baI_s {N : Nat} {b : Nat → Nat} {p c : Nat} (hb : p < N → b p < 256) (hc : c < 1000) : (baI N b p = nI c) = (sgB N b p c = true) := by
  unfold baI sgB
  by_cases h : p < N
  · have := hb h
    rw [if_pos h, f_eq (by omega) (by omega), decide_eq_true_eq]
    exact propext ⟨fun e => ⟨h, e⟩, fun e => e.2⟩
  · rw [if_neg h, m1_n hc, decide_eq_true_eq]
    exact propext ⟨fun e => e.elim, fun e => absurd e.1 h⟩
theorem p_byteAt {d L N p : Nat} {b : Nat → Nat} {g : mMem} {Q : mQ} (k : TP g N b) (hp : p < 1000) : WP (d + 1) M_X6_byteAt [.ref 17, .int (nI p)] (S0 L, g) Q = Q (some (.int (baI N b p))) (S0 L, g) := by
  obtain ⟨h1, h2, h3⟩ := k
  have z0 := f_lt0 (show p < 2147483648 by omega)
  by_cases h : p < N
  · have := (h3 p h).2
    rw [baI_t h]
    simp only [e_X6_byteAt, s_X6_byteAt_0, s_X6_byteAt_1, s_X6_byteAt_4, s_X6_byteAt_5, s_X6_byteAt_6, s_X6_byteAt_9, s_X6_byteAt_12, s_X6_byteAt_13, s_X6_byteAt_15, s_X6_byteAt_18, s_X6_byteAt_19, s_X6_byteAt_22, s_X6_byteAt_23, s_X6_byteAt_24, s_X6_byteAt_27, s_X6_byteAt_28, kS_17, rS_17_0, rS_17_4, kS_18, lS_18, z0, h2, l_no h, show N < 2147483648 by omega, l_no (show p < 100 by omega), show p < 100 by omega, this, Nat.reduceLT, cl_tl0, cl_tl1, rfv_some, if_true, if_false, or_true, true_or, eq_self, ite_true, ite_false, and_true, true_and, not_true_eq_false, not_false_eq_true]
  · have l : (nI N ≤ nI p) = True := by rw [f_le (by omega) (by omega)]; exact eq_true (by omega)
    unfold baI
    simp only [e_X6_byteAt, s_X6_byteAt_0, s_X6_byteAt_1, s_X6_byteAt_4, s_X6_byteAt_5, s_X6_byteAt_6, s_X6_byteAt_9, s_X6_byteAt_12, s_X6_byteAt_13, s_X6_byteAt_15, s_X6_byteAt_18, s_X6_byteAt_19, s_X6_byteAt_22, s_X6_byteAt_23, s_X6_byteAt_24, s_X6_byteAt_27, s_X6_byteAt_28, kS_17, rS_17_0, rS_17_4, kS_18, lS_18, z0, h2, l, eq_false h, Nat.reduceLT, cl_tl0, cl_tl1, rfv_some, if_true, if_false, or_true, true_or, eq_self, ite_true, ite_false, and_true, true_and, not_true_eq_false, not_false_eq_true]
theorem p_next {d L N : Nat} {b : Nat → Nat} {s : Nat × Nat} {g : mMem} {Q : mQ} (k : TP g N b) (t : TS g s) (hp : s.1 < 1000) : WP (d + 2) M_X6_next [.ref 17] (S0 L, g) Q = Q (some (.int (baI N b s.1))) (S0 L, g) := by
  have e1 := fun Q => p_byteAt (d := d) (L := L) (Q := Q) k hp
  simp only [e_X6_next, s_X6_next_0, s_X6_next_1, s_X6_next_2, s_X6_next_5, s_X6_next_8, kS_17, rS_17_0, rS_17_4, kS_18, lS_18, t.1, e1, Option.toList_some, List.cons_append, List.nil_append, cl_tl0, cl_tl1, rfv_some, if_true, if_false, or_true, true_or, eq_self, ite_true, ite_false, and_true, true_and, not_true_eq_false, not_false_eq_true]
theorem p_isFig {d L N p : Nat} {b : Nat → Nat} {g : mMem} {Q : mQ} (hb : p < N → b p < 256) : WP (d + 1) M_X6_isFigure [.int (baI N b p)] (S0 L, g) Q = Q (some (.int (bI (fgB N b p)))) (S0 L, g) := by
  by_cases h : p < N
  · have := hb h
    have l1 : (nI (b p) < nI 48) = (b p < 48) := f_lt (by omega) (by omega)
    have l2 : (nI 57 < nI (b p)) = (57 < b p) := f_lt (by omega) (by omega)
    rw [baI_t h]
    unfold fgB
    by_cases h1 : b p < 48
    · rw [decide_eq_false (by omega)]
      simp only [e_X6_isFigure, s_X6_isFigure_0, s_X6_isFigure_1, s_X6_isFigure_3, s_X6_isFigure_6, s_X6_isFigure_7, s_X6_isFigure_9, s_X6_isFigure_12, s_X6_isFigure_13, s_X6_isFigure_16, s_X6_isFigure_17, l1, eq_true h1, bI_f, n01_0, cl_tl0, cl_tl1, rfv_some, if_true, if_false, or_true, true_or, eq_self, ite_true, ite_false, and_true, true_and, not_true_eq_false, not_false_eq_true]
    · by_cases h2 : 57 < b p
      · rw [decide_eq_false (by omega)]
        simp only [e_X6_isFigure, s_X6_isFigure_0, s_X6_isFigure_1, s_X6_isFigure_3, s_X6_isFigure_6, s_X6_isFigure_7, s_X6_isFigure_9, s_X6_isFigure_12, s_X6_isFigure_13, s_X6_isFigure_16, s_X6_isFigure_17, l1, l2, eq_false h1, eq_true h2, bI_f, n01_0, cl_tl0, cl_tl1, rfv_some, if_true, if_false, or_true, true_or, eq_self, ite_true, ite_false, and_true, true_and, not_true_eq_false, not_false_eq_true]
      · rw [decide_eq_true (by omega)]
        simp only [e_X6_isFigure, s_X6_isFigure_0, s_X6_isFigure_1, s_X6_isFigure_3, s_X6_isFigure_6, s_X6_isFigure_7, s_X6_isFigure_9, s_X6_isFigure_12, s_X6_isFigure_13, s_X6_isFigure_16, s_X6_isFigure_17, l1, l2, eq_false h1, eq_false h2, bI_t, n01_1, cl_tl0, cl_tl1, rfv_some, if_true, if_false, or_true, true_or, eq_self, ite_true, ite_false, and_true, true_and, not_true_eq_false, not_false_eq_true]
  · have l1 : (-(nI 1) < nI 48) = True := eq_true (by decide)
    unfold fgB baI
    rw [decide_eq_false (by omega), if_neg h]
    simp only [e_X6_isFigure, s_X6_isFigure_0, s_X6_isFigure_1, s_X6_isFigure_3, s_X6_isFigure_6, s_X6_isFigure_7, s_X6_isFigure_9, s_X6_isFigure_12, s_X6_isFigure_13, s_X6_isFigure_16, s_X6_isFigure_17, l1, bI_f, n01_0, cl_tl0, cl_tl1, rfv_some, if_true, if_false, or_true, true_or, eq_self, ite_true, ite_false, and_true, true_and, not_true_eq_false, not_false_eq_true]
theorem p_sortOf {d L N p : Nat} {b : Nat → Nat} {g : mMem} {Q : mQ} (hb : p < N → b p < 256) : WP (d + 1) M_X6_sortOf [.int (baI N b p)] (S0 L, g) Q = Q (some (.int (nI (ksB N b p)))) (S0 L, g) := by
  by_cases h : p < N
  · have hb' := hb h
    rw [baI_t h]
    unfold ksB
    rw [if_pos h]
    obtain ⟨c, ec⟩ : ∃ c, b p = c := ⟨_, rfl⟩
    rw [ec] at hb' ⊢
    have fe : ∀ k, k < 1000 → (nI c = nI k) = (c = k) := fun k hk => f_eq (by omega) (by omega)
    by_cases c1 : c = 110
    · subst c1
      simp +decide only [e_X6_sortOf, s_X6_sortOf_0, s_X6_sortOf_1, s_X6_sortOf_76, s_X6_sortOf_77, s_X6_sortOf_78, s_X6_sortOf_79, s_X6_sortOf_80, s_X6_sortOf_81, s_X6_sortOf_82, s_X6_sortOf_83, s_X6_sortOf_84, s_X6_sortOf_85, s_X6_sortOf_86, s_X6_sortOf_87, nI_lite, klt, cl_tl0, cl_tl1, rfv_some, if_true, if_false, or_true, true_or, eq_self, ite_true, ite_false, and_true, true_and, not_true_eq_false, not_false_eq_true]
    by_cases c2 : c = 116
    · subst c2
      simp +decide only [e_X6_sortOf, s_X6_sortOf_0, s_X6_sortOf_1, s_X6_sortOf_76, s_X6_sortOf_77, s_X6_sortOf_78, s_X6_sortOf_79, s_X6_sortOf_80, s_X6_sortOf_81, s_X6_sortOf_82, s_X6_sortOf_83, s_X6_sortOf_84, s_X6_sortOf_85, s_X6_sortOf_86, s_X6_sortOf_87, nI_lite, klt, cl_tl0, cl_tl1, rfv_some, if_true, if_false, or_true, true_or, eq_self, ite_true, ite_false, and_true, true_and, not_true_eq_false, not_false_eq_true]
    by_cases c3 : c = 102
    · subst c3
      simp +decide only [e_X6_sortOf, s_X6_sortOf_0, s_X6_sortOf_1, s_X6_sortOf_76, s_X6_sortOf_77, s_X6_sortOf_78, s_X6_sortOf_79, s_X6_sortOf_80, s_X6_sortOf_81, s_X6_sortOf_82, s_X6_sortOf_83, s_X6_sortOf_84, s_X6_sortOf_85, s_X6_sortOf_86, s_X6_sortOf_87, nI_lite, klt, cl_tl0, cl_tl1, rfv_some, if_true, if_false, or_true, true_or, eq_self, ite_true, ite_false, and_true, true_and, not_true_eq_false, not_false_eq_true]
    by_cases c4 : c = 108
    · subst c4
      simp +decide only [e_X6_sortOf, s_X6_sortOf_0, s_X6_sortOf_1, s_X6_sortOf_76, s_X6_sortOf_77, s_X6_sortOf_78, s_X6_sortOf_79, s_X6_sortOf_80, s_X6_sortOf_81, s_X6_sortOf_82, s_X6_sortOf_83, s_X6_sortOf_84, s_X6_sortOf_85, s_X6_sortOf_86, s_X6_sortOf_87, nI_lite, klt, cl_tl0, cl_tl1, rfv_some, if_true, if_false, or_true, true_or, eq_self, ite_true, ite_false, and_true, true_and, not_true_eq_false, not_false_eq_true]
    by_cases c5 : c = 112
    · subst c5
      simp +decide only [e_X6_sortOf, s_X6_sortOf_0, s_X6_sortOf_1, s_X6_sortOf_76, s_X6_sortOf_77, s_X6_sortOf_78, s_X6_sortOf_79, s_X6_sortOf_80, s_X6_sortOf_81, s_X6_sortOf_82, s_X6_sortOf_83, s_X6_sortOf_84, s_X6_sortOf_85, s_X6_sortOf_86, s_X6_sortOf_87, nI_lite, klt, cl_tl0, cl_tl1, rfv_some, if_true, if_false, or_true, true_or, eq_self, ite_true, ite_false, and_true, true_and, not_true_eq_false, not_false_eq_true]
    have kz : klt c = 0 := by
      unfold klt
      rw [if_neg c1, if_neg c2, if_neg c3, if_neg c4, if_neg c5]
    rw [kz]
    simp only [e_X6_sortOf, s_X6_sortOf_0, s_X6_sortOf_1, s_X6_sortOf_76, s_X6_sortOf_77, s_X6_sortOf_78, s_X6_sortOf_79, s_X6_sortOf_80, s_X6_sortOf_81, s_X6_sortOf_82, s_X6_sortOf_83, s_X6_sortOf_84, s_X6_sortOf_85, s_X6_sortOf_86, s_X6_sortOf_87, fe 102 (by omega), fe 108 (by omega), fe 110 (by omega), fe 112 (by omega), fe 116 (by omega), eq_false c1, eq_false c2, eq_false c3, eq_false c4, eq_false c5, ite_self, cl_tl0, cl_tl1, rfv_some, if_true, if_false, or_true, true_or, eq_self, ite_true, ite_false, and_true, true_and, not_true_eq_false, not_false_eq_true]
  · unfold ksB baI
    rw [if_neg h, if_neg h]
    simp only [e_X6_sortOf, s_X6_sortOf_0, s_X6_sortOf_1, s_X6_sortOf_76, s_X6_sortOf_77, s_X6_sortOf_78, s_X6_sortOf_79, s_X6_sortOf_80, s_X6_sortOf_81, s_X6_sortOf_82, s_X6_sortOf_83, s_X6_sortOf_84, s_X6_sortOf_85, s_X6_sortOf_86, s_X6_sortOf_87, m1_n (show 102 < 1000 by omega), m1_n (show 108 < 1000 by omega), m1_n (show 110 < 1000 by omega), m1_n (show 112 < 1000 by omega), m1_n (show 116 < 1000 by omega), ite_self, cl_tl0, cl_tl1, rfv_some, if_true, if_false, or_true, true_or, eq_self, ite_true, ite_false, and_true, true_and, not_true_eq_false, not_false_eq_true]
theorem TS_u {g : mMem} {s : Nat × Nat} (t : TS g s) (f : Nat) : TS (up2 g 17 3 (nI f)) (s.1, f) ∧ Fr aT g (up2 g 17 3 (nI f)) := ⟨⟨by rw [up2_n (by omega)]; exact t.1, up2_a⟩, Fr_u ⟨rfl, Or.inr rfl⟩⟩
theorem TS_v {g : mMem} {s : Nat × Nat} (t : TS g s) (p : Nat) : TS (up2 g 17 2 (nI p)) (p, s.2) ∧ Fr aT g (up2 g 17 2 (nI p)) := ⟨⟨up2_a, by rw [up2_n (by omega)]; exact t.2⟩, Fr_u ⟨rfl, Or.inl rfl⟩⟩
theorem p_readLetter {d L : Nat} {can room : Bool} {s : Nat × Nat} {g : mMem} (t : TS g s) (hs : s.2 ≤ 3) : Sp (d + 1) M_X6_readLetter [.ref 17, .int (bI can), .int (bI room)] L g none (fun g' => TS g' (stL can room s) ∧ Fr aT g g') := by
  have z := f_eq0 (show s.2 < 2147483648 by omega)
  by_cases h : s.2 = 0
  · unfold stL
    rw [if_pos h]
    cases can
    · refine ⟨_, TS_u t 1, fun Q => ?_⟩
      simp only [e_X6_readLetter, s_X6_readLetter_0, s_X6_readLetter_1, s_X6_readLetter_4, s_X6_readLetter_7, s_X6_readLetter_8, s_X6_readLetter_9, s_X6_readLetter_12, s_X6_readLetter_13, s_X6_readLetter_14, s_X6_readLetter_17, s_X6_readLetter_20, s_X6_readLetter_21, s_X6_readLetter_24, s_X6_readLetter_25, s_X6_readLetter_26, s_X6_readLetter_29, s_X6_readLetter_32, s_X6_readLetter_33, s_X6_readLetter_34, s_X6_readLetter_37, s_X6_readLetter_38, s_X6_readLetter_39, s_X6_readLetter_42, kS_17, rS_17_0, rS_17_4, kS_18, lS_18, t.2, z, eq_true h, bI_f, z_0, cl_tl0, cl_tl1, rfv_some, if_true, if_false, or_true, true_or, eq_self, ite_true, ite_false, and_true, true_and, not_true_eq_false, not_false_eq_true]
    · cases room
      · refine ⟨_, TS_u t 3, fun Q => ?_⟩
        simp only [e_X6_readLetter, s_X6_readLetter_0, s_X6_readLetter_1, s_X6_readLetter_4, s_X6_readLetter_7, s_X6_readLetter_8, s_X6_readLetter_9, s_X6_readLetter_12, s_X6_readLetter_13, s_X6_readLetter_14, s_X6_readLetter_17, s_X6_readLetter_20, s_X6_readLetter_21, s_X6_readLetter_24, s_X6_readLetter_25, s_X6_readLetter_26, s_X6_readLetter_29, s_X6_readLetter_32, s_X6_readLetter_33, s_X6_readLetter_34, s_X6_readLetter_37, s_X6_readLetter_38, s_X6_readLetter_39, s_X6_readLetter_42, kS_17, rS_17_0, rS_17_4, kS_18, lS_18, t.2, z, eq_true h, bI_f, bI_t, z_0, z_1, cl_tl0, cl_tl1, rfv_some, if_true, if_false, or_true, true_or, eq_self, ite_true, ite_false, and_true, true_and, not_true_eq_false, not_false_eq_true]
      · have v := TS_v t (s.1 + 1)
        rw [h] at v
        refine ⟨_, v, fun Q => ?_⟩
        simp only [e_X6_readLetter, s_X6_readLetter_0, s_X6_readLetter_1, s_X6_readLetter_4, s_X6_readLetter_7, s_X6_readLetter_8, s_X6_readLetter_9, s_X6_readLetter_12, s_X6_readLetter_13, s_X6_readLetter_14, s_X6_readLetter_17, s_X6_readLetter_20, s_X6_readLetter_21, s_X6_readLetter_24, s_X6_readLetter_25, s_X6_readLetter_26, s_X6_readLetter_29, s_X6_readLetter_32, s_X6_readLetter_33, s_X6_readLetter_34, s_X6_readLetter_37, s_X6_readLetter_38, s_X6_readLetter_39, s_X6_readLetter_42, kS_17, rS_17_0, rS_17_4, kS_18, lS_18, t.1, t.2, z, eq_true h, bI_t, z_1, nI_add, cl_tl0, cl_tl1, rfv_some, if_true, if_false, or_true, true_or, eq_self, ite_true, ite_false, and_true, true_and, not_true_eq_false, not_false_eq_true]
  · rw [stL_f h]
    refine ⟨g, ⟨t, Fr_r⟩, fun Q => ?_⟩
    simp only [e_X6_readLetter, s_X6_readLetter_0, s_X6_readLetter_1, s_X6_readLetter_4, s_X6_readLetter_7, s_X6_readLetter_8, s_X6_readLetter_9, s_X6_readLetter_12, s_X6_readLetter_13, s_X6_readLetter_14, s_X6_readLetter_17, s_X6_readLetter_20, s_X6_readLetter_21, s_X6_readLetter_24, s_X6_readLetter_25, s_X6_readLetter_26, s_X6_readLetter_29, s_X6_readLetter_32, s_X6_readLetter_33, s_X6_readLetter_34, s_X6_readLetter_37, s_X6_readLetter_38, s_X6_readLetter_39, s_X6_readLetter_42, kS_17, rS_17_0, rS_17_4, kS_18, lS_18, t.2, z, eq_false h, cl_tl0, cl_tl1, rfv_some, if_true, if_false, or_true, true_or, eq_self, ite_true, ite_false, and_true, true_and, not_true_eq_false, not_false_eq_true]
theorem p_readSign {d L N c : Nat} {b : Nat → Nat} {s : Nat × Nat} {g : mMem} (k : TP g N b) (t : TS g s) (o : stO N s) (hc : c < 1000) : Sp (d + 3) M_X6_readSign [.ref 17, .int (nI c)] L g none (fun g' => TS g' (stS N b c s) ∧ Fr aT g g') := by
  have k1 := k.1
  have o1 := o.1
  have o2 := o.2
  have z := f_eq0 (show s.2 < 2147483648 by omega)
  have e1 := fun Q => p_next (d := d) (L := L) (Q := Q) k t (by omega)
  have e2 := baI_s (N := N) (b := b) (p := s.1) (c := c) (fun h => (k.2.2 _ h).1) hc
  by_cases h : s.2 = 0
  · cases h2 : sgB N b s.1 c
    · rw [stS_x h h2]
      refine ⟨_, TS_u t 1, fun Q => ?_⟩
      simp only [e_X6_readSign, s_X6_readSign_0, s_X6_readSign_1, s_X6_readSign_4, s_X6_readSign_7, s_X6_readSign_8, s_X6_readSign_9, s_X6_readSign_12, s_X6_readSign_13, s_X6_readSign_16, s_X6_readSign_17, s_X6_readSign_18, s_X6_readSign_21, s_X6_readSign_22, s_X6_readSign_23, s_X6_readSign_26, s_X6_readSign_29, s_X6_readSign_30, s_X6_readSign_31, s_X6_readSign_34, kS_17, rS_17_0, rS_17_4, kS_18, lS_18, t.2, z, eq_true h, e1, e2, h2, Bool.false_eq_true, Option.toList_some, List.cons_append, List.nil_append, cl_tl0, cl_tl1, rfv_some, if_true, if_false, or_true, true_or, eq_self, ite_true, ite_false, and_true, true_and, not_true_eq_false, not_false_eq_true]
    · rw [stS_t h h2]
      have v := TS_v t (s.1 + 1)
      rw [h] at v
      refine ⟨_, v, fun Q => ?_⟩
      simp only [e_X6_readSign, s_X6_readSign_0, s_X6_readSign_1, s_X6_readSign_4, s_X6_readSign_7, s_X6_readSign_8, s_X6_readSign_9, s_X6_readSign_12, s_X6_readSign_13, s_X6_readSign_16, s_X6_readSign_17, s_X6_readSign_18, s_X6_readSign_21, s_X6_readSign_22, s_X6_readSign_23, s_X6_readSign_26, s_X6_readSign_29, s_X6_readSign_30, s_X6_readSign_31, s_X6_readSign_34, kS_17, rS_17_0, rS_17_4, kS_18, lS_18, t.1, t.2, z, eq_true h, e1, e2, h2, nI_add, Option.toList_some, List.cons_append, List.nil_append, cl_tl0, cl_tl1, rfv_some, if_true, if_false, or_true, true_or, eq_self, ite_true, ite_false, and_true, true_and, not_true_eq_false, not_false_eq_true]
  · rw [stS_f h]
    refine ⟨g, ⟨t, Fr_r⟩, fun Q => ?_⟩
    simp only [e_X6_readSign, s_X6_readSign_0, s_X6_readSign_1, s_X6_readSign_4, s_X6_readSign_7, s_X6_readSign_8, s_X6_readSign_9, s_X6_readSign_12, s_X6_readSign_13, s_X6_readSign_16, s_X6_readSign_17, s_X6_readSign_18, s_X6_readSign_21, s_X6_readSign_22, s_X6_readSign_23, s_X6_readSign_26, s_X6_readSign_29, s_X6_readSign_30, s_X6_readSign_31, s_X6_readSign_34, kS_17, rS_17_0, rS_17_4, kS_18, lS_18, t.2, z, eq_false h, cl_tl0, cl_tl1, rfv_some, if_true, if_false, or_true, true_or, eq_self, ite_true, ite_false, and_true, true_and, not_true_eq_false, not_false_eq_true]
