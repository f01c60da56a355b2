/-! ===== the law: its loop ===== -/
theorem l_head {d L i : Nat} {xs : Nat → Int32} {h : mMem} (k : INV xs h) (hi : i + 6 ≤ L) (hL : L ≤ 384) (Q : mQ) : Wp (d + 9) M_L none 18 [.ref 0, .ref 4, .ref 106, .int (nI i)] [] (S0 L, h) Q = Wp (d + 9) M_L none 33 [.ref 0, .ref 4, .ref 106, .int (nI i)] [.int (xs i &&& nI 63)] (S0 L, h) Q := by
  have p0 : h 0 i = xs i := k.1.1 _
  have s1 := pk_sub (a := L) (b := 6) (by omega)
  have l1 : (nI (L - 6) < nI i) = False := by rw [f_lt (by omega) (by omega)]; exact eq_false (by omega)
  simp only [s_L_law_18, s_L_law_19, s_L_law_20, s_L_law_21, s_L_law_23, s_L_law_24, s_L_law_27, s_L_law_28, s_L_law_29o, s_L_law_30, s_L_law_32, kS_0, lS_0, s1, l1, p0, show i < L by omega, show L < 2147483648 by omega, cl_tl0, cl_tl1, rfv_some, if_true, if_false, or_true, true_or, eq_self, ite_true, ite_false, and_true, true_and, not_true_eq_false, not_false_eq_true]
theorem l_step {d L i : Nat} {xs : Nat → Int32} {h : mMem} (k : INV xs h) (hi : i + 6 ≤ L) (hL : L ≤ 384) : ∃ h', INV xs h' ∧ ∀ Q, Wp (d + 9) M_L none 18 [.ref 0, .ref 4, .ref 106, .int (nI i)] [] (S0 L, h) Q = Wp (d + 9) M_L none 18 [.ref 0, .ref 4, .ref 106, .int (nI (i + 6))] [] (S0 L, h') Q := by
  obtain ⟨j, hj, ej⟩ : ∃ j : Nat, j < 64 ∧ xs i &&& nI 63 = nI j := pk_andE (xs i) (m := nI 63) 6 (by decide)
  have hd := fun Q => l_head (d := d) k hi hL Q
  rw [ej] at hd
  have tl : ∀ (g : mMem) Q, Wp (d + 9) M_L none 1476 [.ref 0, .ref 4, .ref 106, .int (nI i)] [] (S0 L, g) Q = Wp (d + 9) M_L none 18 [.ref 0, .ref 4, .ref 106, .int (nI (i + 6))] [] (S0 L, g) Q := fun g Q => by
    simp only [s_L_law_1476, s_L_law_1479, nI_add]
  by_cases c0 : j = 0
  · subst c0
    obtain ⟨h', k', e'⟩ := c_0 (d := d) k hi hL
    refine ⟨h', k', fun Q => ?_⟩
    rw [hd, s_L_law_33, ← tl, ← e']
    simp +decide only [nI_lite, cl_tl0, cl_tl1, rfv_some, if_true, if_false, or_true, true_or, eq_self, ite_true, ite_false, and_true, true_and, not_true_eq_false, not_false_eq_true]
  by_cases c1 : j = 1
  · subst c1
    obtain ⟨h', k', e'⟩ := c_1 (d := d) k hi hL
    refine ⟨h', k', fun Q => ?_⟩
    rw [hd, s_L_law_33, ← tl, ← e']
    simp +decide only [nI_lite, cl_tl0, cl_tl1, rfv_some, if_true, if_false, or_true, true_or, eq_self, ite_true, ite_false, and_true, true_and, not_true_eq_false, not_false_eq_true]
  by_cases c2 : j = 2
  · subst c2
    obtain ⟨h', k', e'⟩ := c_2 (d := d) k hi hL
    refine ⟨h', k', fun Q => ?_⟩
    rw [hd, s_L_law_33, ← tl, ← e']
    simp +decide only [nI_lite, cl_tl0, cl_tl1, rfv_some, if_true, if_false, or_true, true_or, eq_self, ite_true, ite_false, and_true, true_and, not_true_eq_false, not_false_eq_true]
  by_cases c3 : j = 3
  · subst c3
    obtain ⟨h', k', e'⟩ := c_3 (d := d) k hi hL
    refine ⟨h', k', fun Q => ?_⟩
    rw [hd, s_L_law_33, ← tl, ← e']
    simp +decide only [nI_lite, cl_tl0, cl_tl1, rfv_some, if_true, if_false, or_true, true_or, eq_self, ite_true, ite_false, and_true, true_and, not_true_eq_false, not_false_eq_true]
  by_cases c4 : j = 4
  · subst c4
    obtain ⟨h', k', e'⟩ := c_4 (d := d) k hi hL
    refine ⟨h', k', fun Q => ?_⟩
    rw [hd, s_L_law_33, ← tl, ← e']
    simp +decide only [nI_lite, cl_tl0, cl_tl1, rfv_some, if_true, if_false, or_true, true_or, eq_self, ite_true, ite_false, and_true, true_and, not_true_eq_false, not_false_eq_true]
  by_cases c5 : j = 5
  · subst c5
    obtain ⟨h', k', e'⟩ := c_5 (d := d) k hi hL
    refine ⟨h', k', fun Q => ?_⟩
    rw [hd, s_L_law_33, ← tl, ← e']
    simp +decide only [nI_lite, cl_tl0, cl_tl1, rfv_some, if_true, if_false, or_true, true_or, eq_self, ite_true, ite_false, and_true, true_and, not_true_eq_false, not_false_eq_true]
  by_cases c6 : j = 6
  · subst c6
    obtain ⟨h', k', e'⟩ := c_6 (d := d) k hi hL
    refine ⟨h', k', fun Q => ?_⟩
    rw [hd, s_L_law_33, ← tl, ← e']
    simp +decide only [nI_lite, cl_tl0, cl_tl1, rfv_some, if_true, if_false, or_true, true_or, eq_self, ite_true, ite_false, and_true, true_and, not_true_eq_false, not_false_eq_true]
  by_cases c7 : j = 7
  · subst c7
    obtain ⟨h', k', e'⟩ := c_7 (d := d) k hi hL
    refine ⟨h', k', fun Q => ?_⟩
    rw [hd, s_L_law_33, ← tl, ← e']
    simp +decide only [nI_lite, cl_tl0, cl_tl1, rfv_some, if_true, if_false, or_true, true_or, eq_self, ite_true, ite_false, and_true, true_and, not_true_eq_false, not_false_eq_true]
  by_cases c8 : j = 8
  · subst c8
    obtain ⟨h', k', e'⟩ := c_8 (d := d) k hi hL
    refine ⟨h', k', fun Q => ?_⟩
    rw [hd, s_L_law_33, ← tl, ← e']
    simp +decide only [nI_lite, cl_tl0, cl_tl1, rfv_some, if_true, if_false, or_true, true_or, eq_self, ite_true, ite_false, and_true, true_and, not_true_eq_false, not_false_eq_true]
  by_cases c9 : j = 9
  · subst c9
    obtain ⟨h', k', e'⟩ := c_9 (d := d) k hi hL
    refine ⟨h', k', fun Q => ?_⟩
    rw [hd, s_L_law_33, ← tl, ← e']
    simp +decide only [nI_lite, cl_tl0, cl_tl1, rfv_some, if_true, if_false, or_true, true_or, eq_self, ite_true, ite_false, and_true, true_and, not_true_eq_false, not_false_eq_true]
  by_cases c10 : j = 10
  · subst c10
    obtain ⟨h', k', e'⟩ := c_10 (d := d) k hi hL
    refine ⟨h', k', fun Q => ?_⟩
    rw [hd, s_L_law_33, ← tl, ← e']
    simp +decide only [nI_lite, cl_tl0, cl_tl1, rfv_some, if_true, if_false, or_true, true_or, eq_self, ite_true, ite_false, and_true, true_and, not_true_eq_false, not_false_eq_true]
  by_cases c11 : j = 11
  · subst c11
    obtain ⟨h', k', e'⟩ := c_11 (d := d) k hi hL
    refine ⟨h', k', fun Q => ?_⟩
    rw [hd, s_L_law_33, ← tl, ← e']
    simp +decide only [nI_lite, cl_tl0, cl_tl1, rfv_some, if_true, if_false, or_true, true_or, eq_self, ite_true, ite_false, and_true, true_and, not_true_eq_false, not_false_eq_true]
  by_cases c12 : j = 12
  · subst c12
    obtain ⟨h', k', e'⟩ := c_12 (d := d) k hi hL
    refine ⟨h', k', fun Q => ?_⟩
    rw [hd, s_L_law_33, ← tl, ← e']
    simp +decide only [nI_lite, cl_tl0, cl_tl1, rfv_some, if_true, if_false, or_true, true_or, eq_self, ite_true, ite_false, and_true, true_and, not_true_eq_false, not_false_eq_true]
  by_cases c13 : j = 13
  · subst c13
    obtain ⟨h', k', e'⟩ := c_13 (d := d) k hi hL
    refine ⟨h', k', fun Q => ?_⟩
    rw [hd, s_L_law_33, ← tl, ← e']
    simp +decide only [nI_lite, cl_tl0, cl_tl1, rfv_some, if_true, if_false, or_true, true_or, eq_self, ite_true, ite_false, and_true, true_and, not_true_eq_false, not_false_eq_true]
  by_cases c14 : j = 14
  · subst c14
    obtain ⟨h', k', e'⟩ := c_14 (d := d) k hi hL
    refine ⟨h', k', fun Q => ?_⟩
    rw [hd, s_L_law_33, ← tl, ← e']
    simp +decide only [nI_lite, cl_tl0, cl_tl1, rfv_some, if_true, if_false, or_true, true_or, eq_self, ite_true, ite_false, and_true, true_and, not_true_eq_false, not_false_eq_true]
  by_cases c15 : j = 15
  · subst c15
    obtain ⟨h', k', e'⟩ := c_15 (d := d) k hi hL
    refine ⟨h', k', fun Q => ?_⟩
    rw [hd, s_L_law_33, ← tl, ← e']
    simp +decide only [nI_lite, cl_tl0, cl_tl1, rfv_some, if_true, if_false, or_true, true_or, eq_self, ite_true, ite_false, and_true, true_and, not_true_eq_false, not_false_eq_true]
  by_cases c16 : j = 16
  · subst c16
    obtain ⟨h', k', e'⟩ := c_16 (d := d) k hi hL
    refine ⟨h', k', fun Q => ?_⟩
    rw [hd, s_L_law_33, ← tl, ← e']
    simp +decide only [nI_lite, cl_tl0, cl_tl1, rfv_some, if_true, if_false, or_true, true_or, eq_self, ite_true, ite_false, and_true, true_and, not_true_eq_false, not_false_eq_true]
  by_cases c17 : j = 17
  · subst c17
    obtain ⟨h', k', e'⟩ := c_17 (d := d) k hi hL
    refine ⟨h', k', fun Q => ?_⟩
    rw [hd, s_L_law_33, ← tl, ← e']
    simp +decide only [nI_lite, cl_tl0, cl_tl1, rfv_some, if_true, if_false, or_true, true_or, eq_self, ite_true, ite_false, and_true, true_and, not_true_eq_false, not_false_eq_true]
  by_cases c18 : j = 18
  · subst c18
    obtain ⟨h', k', e'⟩ := c_18 (d := d) k hi hL
    refine ⟨h', k', fun Q => ?_⟩
    rw [hd, s_L_law_33, ← tl, ← e']
    simp +decide only [nI_lite, cl_tl0, cl_tl1, rfv_some, if_true, if_false, or_true, true_or, eq_self, ite_true, ite_false, and_true, true_and, not_true_eq_false, not_false_eq_true]
  by_cases c19 : j = 19
  · subst c19
    obtain ⟨h', k', e'⟩ := c_19 (d := d) k hi hL
    refine ⟨h', k', fun Q => ?_⟩
    rw [hd, s_L_law_33, ← tl, ← e']
    simp +decide only [nI_lite, cl_tl0, cl_tl1, rfv_some, if_true, if_false, or_true, true_or, eq_self, ite_true, ite_false, and_true, true_and, not_true_eq_false, not_false_eq_true]
  by_cases c20 : j = 20
  · subst c20
    obtain ⟨h', k', e'⟩ := c_20 (d := d) k hi hL
    refine ⟨h', k', fun Q => ?_⟩
    rw [hd, s_L_law_33, ← tl, ← e']
    simp +decide only [nI_lite, cl_tl0, cl_tl1, rfv_some, if_true, if_false, or_true, true_or, eq_self, ite_true, ite_false, and_true, true_and, not_true_eq_false, not_false_eq_true]
  by_cases c21 : j = 21
  · subst c21
    obtain ⟨h', k', e'⟩ := c_21 (d := d) k hi hL
    refine ⟨h', k', fun Q => ?_⟩
    rw [hd, s_L_law_33, ← tl, ← e']
    simp +decide only [nI_lite, cl_tl0, cl_tl1, rfv_some, if_true, if_false, or_true, true_or, eq_self, ite_true, ite_false, and_true, true_and, not_true_eq_false, not_false_eq_true]
  by_cases c22 : j = 22
  · subst c22
    obtain ⟨h', k', e'⟩ := c_22 (d := d) k hi hL
    refine ⟨h', k', fun Q => ?_⟩
    rw [hd, s_L_law_33, ← tl, ← e']
    simp +decide only [nI_lite, cl_tl0, cl_tl1, rfv_some, if_true, if_false, or_true, true_or, eq_self, ite_true, ite_false, and_true, true_and, not_true_eq_false, not_false_eq_true]
  by_cases c23 : j = 23
  · subst c23
    obtain ⟨h', k', e'⟩ := c_23 (d := d) k hi hL
    refine ⟨h', k', fun Q => ?_⟩
    rw [hd, s_L_law_33, ← tl, ← e']
    simp +decide only [nI_lite, cl_tl0, cl_tl1, rfv_some, if_true, if_false, or_true, true_or, eq_self, ite_true, ite_false, and_true, true_and, not_true_eq_false, not_false_eq_true]
  by_cases c24 : j = 24
  · subst c24
    obtain ⟨h', k', e'⟩ := c_24 (d := d) k hi hL
    refine ⟨h', k', fun Q => ?_⟩
    rw [hd, s_L_law_33, ← tl, ← e']
    simp +decide only [nI_lite, cl_tl0, cl_tl1, rfv_some, if_true, if_false, or_true, true_or, eq_self, ite_true, ite_false, and_true, true_and, not_true_eq_false, not_false_eq_true]
  by_cases c25 : j = 25
  · subst c25
    obtain ⟨h', k', e'⟩ := c_25 (d := d) k hi hL
    refine ⟨h', k', fun Q => ?_⟩
    rw [hd, s_L_law_33, ← tl, ← e']
    simp +decide only [nI_lite, cl_tl0, cl_tl1, rfv_some, if_true, if_false, or_true, true_or, eq_self, ite_true, ite_false, and_true, true_and, not_true_eq_false, not_false_eq_true]
  by_cases c26 : j = 26
  · subst c26
    obtain ⟨h', k', e'⟩ := c_26 (d := d) k hi hL
    refine ⟨h', k', fun Q => ?_⟩
    rw [hd, s_L_law_33, ← tl, ← e']
    simp +decide only [nI_lite, cl_tl0, cl_tl1, rfv_some, if_true, if_false, or_true, true_or, eq_self, ite_true, ite_false, and_true, true_and, not_true_eq_false, not_false_eq_true]
  by_cases c27 : j = 27
  · subst c27
    obtain ⟨h', k', e'⟩ := c_27 (d := d) k hi hL
    refine ⟨h', k', fun Q => ?_⟩
    rw [hd, s_L_law_33, ← tl, ← e']
    simp +decide only [nI_lite, cl_tl0, cl_tl1, rfv_some, if_true, if_false, or_true, true_or, eq_self, ite_true, ite_false, and_true, true_and, not_true_eq_false, not_false_eq_true]
  by_cases c28 : j = 28
  · subst c28
    obtain ⟨h', k', e'⟩ := c_28 (d := d) k hi hL
    refine ⟨h', k', fun Q => ?_⟩
    rw [hd, s_L_law_33, ← tl, ← e']
    simp +decide only [nI_lite, cl_tl0, cl_tl1, rfv_some, if_true, if_false, or_true, true_or, eq_self, ite_true, ite_false, and_true, true_and, not_true_eq_false, not_false_eq_true]
  by_cases c29 : j = 29
  · subst c29
    obtain ⟨h', k', e'⟩ := c_29 (d := d) k hi hL
    refine ⟨h', k', fun Q => ?_⟩
    rw [hd, s_L_law_33, ← tl, ← e']
    simp +decide only [nI_lite, cl_tl0, cl_tl1, rfv_some, if_true, if_false, or_true, true_or, eq_self, ite_true, ite_false, and_true, true_and, not_true_eq_false, not_false_eq_true]
  by_cases c30 : j = 30
  · subst c30
    obtain ⟨h', k', e'⟩ := c_30 (d := d) k hi hL
    refine ⟨h', k', fun Q => ?_⟩
    rw [hd, s_L_law_33, ← tl, ← e']
    simp +decide only [nI_lite, cl_tl0, cl_tl1, rfv_some, if_true, if_false, or_true, true_or, eq_self, ite_true, ite_false, and_true, true_and, not_true_eq_false, not_false_eq_true]
  by_cases c31 : j = 31
  · subst c31
    obtain ⟨h', k', e'⟩ := c_31 (d := d) k hi hL
    refine ⟨h', k', fun Q => ?_⟩
    rw [hd, s_L_law_33, ← tl, ← e']
    simp +decide only [nI_lite, cl_tl0, cl_tl1, rfv_some, if_true, if_false, or_true, true_or, eq_self, ite_true, ite_false, and_true, true_and, not_true_eq_false, not_false_eq_true]
  by_cases c32 : j = 32
  · subst c32
    obtain ⟨h', k', e'⟩ := c_32 (d := d) k hi hL
    refine ⟨h', k', fun Q => ?_⟩
    rw [hd, s_L_law_33, ← tl, ← e']
    simp +decide only [nI_lite, cl_tl0, cl_tl1, rfv_some, if_true, if_false, or_true, true_or, eq_self, ite_true, ite_false, and_true, true_and, not_true_eq_false, not_false_eq_true]
  by_cases c33 : j = 33
  · subst c33
    obtain ⟨h', k', e'⟩ := c_33 (d := d) k hi hL
    refine ⟨h', k', fun Q => ?_⟩
    rw [hd, s_L_law_33, ← tl, ← e']
    simp +decide only [nI_lite, cl_tl0, cl_tl1, rfv_some, if_true, if_false, or_true, true_or, eq_self, ite_true, ite_false, and_true, true_and, not_true_eq_false, not_false_eq_true]
  by_cases c34 : j = 34
  · subst c34
    obtain ⟨h', k', e'⟩ := c_34 (d := d) k hi hL
    refine ⟨h', k', fun Q => ?_⟩
    rw [hd, s_L_law_33, ← tl, ← e']
    simp +decide only [nI_lite, cl_tl0, cl_tl1, rfv_some, if_true, if_false, or_true, true_or, eq_self, ite_true, ite_false, and_true, true_and, not_true_eq_false, not_false_eq_true]
  by_cases c35 : j = 35
  · subst c35
    obtain ⟨h', k', e'⟩ := c_35 (d := d) k hi hL
    refine ⟨h', k', fun Q => ?_⟩
    rw [hd, s_L_law_33, ← tl, ← e']
    simp +decide only [nI_lite, cl_tl0, cl_tl1, rfv_some, if_true, if_false, or_true, true_or, eq_self, ite_true, ite_false, and_true, true_and, not_true_eq_false, not_false_eq_true]
  by_cases c36 : j = 36
  · subst c36
    obtain ⟨h', k', e'⟩ := c_36 (d := d) k hi hL
    refine ⟨h', k', fun Q => ?_⟩
    rw [hd, s_L_law_33, ← tl, ← e']
    simp +decide only [nI_lite, cl_tl0, cl_tl1, rfv_some, if_true, if_false, or_true, true_or, eq_self, ite_true, ite_false, and_true, true_and, not_true_eq_false, not_false_eq_true]
  by_cases c37 : j = 37
  · subst c37
    obtain ⟨h', k', e'⟩ := c_37 (d := d) k hi hL
    refine ⟨h', k', fun Q => ?_⟩
    rw [hd, s_L_law_33, ← tl, ← e']
    simp +decide only [nI_lite, cl_tl0, cl_tl1, rfv_some, if_true, if_false, or_true, true_or, eq_self, ite_true, ite_false, and_true, true_and, not_true_eq_false, not_false_eq_true]
  by_cases c38 : j = 38
  · subst c38
    obtain ⟨h', k', e'⟩ := c_38 (d := d) k hi hL
    refine ⟨h', k', fun Q => ?_⟩
    rw [hd, s_L_law_33, ← tl, ← e']
    simp +decide only [nI_lite, cl_tl0, cl_tl1, rfv_some, if_true, if_false, or_true, true_or, eq_self, ite_true, ite_false, and_true, true_and, not_true_eq_false, not_false_eq_true]
  by_cases c39 : j = 39
  · subst c39
    obtain ⟨h', k', e'⟩ := c_39 (d := d) k hi hL
    refine ⟨h', k', fun Q => ?_⟩
    rw [hd, s_L_law_33, ← tl, ← e']
    simp +decide only [nI_lite, cl_tl0, cl_tl1, rfv_some, if_true, if_false, or_true, true_or, eq_self, ite_true, ite_false, and_true, true_and, not_true_eq_false, not_false_eq_true]
  by_cases c40 : j = 40
  · subst c40
    obtain ⟨h', k', e'⟩ := c_40 (d := d) k hi hL
    refine ⟨h', k', fun Q => ?_⟩
    rw [hd, s_L_law_33, ← tl, ← e']
    simp +decide only [nI_lite, cl_tl0, cl_tl1, rfv_some, if_true, if_false, or_true, true_or, eq_self, ite_true, ite_false, and_true, true_and, not_true_eq_false, not_false_eq_true]
  refine ⟨h, k, fun Q => ?_⟩
  rw [hd, s_L_law_33, ← tl]
  have fe : ∀ n, n < 64 → (nI j = nI n) = (j = n) := fun n hn => f_eq (by omega) (by omega)
  simp only [fe 0 (by omega), fe 1 (by omega), fe 2 (by omega), fe 3 (by omega), fe 4 (by omega), fe 5 (by omega), fe 6 (by omega), fe 7 (by omega), fe 8 (by omega), fe 9 (by omega), fe 10 (by omega), fe 11 (by omega), fe 12 (by omega), fe 13 (by omega), fe 14 (by omega), fe 15 (by omega), fe 16 (by omega), fe 17 (by omega), fe 18 (by omega), fe 19 (by omega), fe 20 (by omega), fe 21 (by omega), fe 22 (by omega), fe 23 (by omega), fe 24 (by omega), fe 25 (by omega), fe 26 (by omega), fe 27 (by omega), fe 28 (by omega), fe 29 (by omega), fe 30 (by omega), fe 31 (by omega), fe 32 (by omega), fe 33 (by omega), fe 34 (by omega), fe 35 (by omega), fe 36 (by omega), fe 37 (by omega), fe 38 (by omega), fe 39 (by omega), fe 40 (by omega), eq_false c0, eq_false c1, eq_false c2, eq_false c3, eq_false c4, eq_false c5, eq_false c6, eq_false c7, eq_false c8, eq_false c9, eq_false c10, eq_false c11, eq_false c12, eq_false c13, eq_false c14, eq_false c15, eq_false c16, eq_false c17, eq_false c18, eq_false c19, eq_false c20, eq_false c21, eq_false c22, eq_false c23, eq_false c24, eq_false c25, eq_false c26, eq_false c27, eq_false c28, eq_false c29, eq_false c30, eq_false c31, eq_false c32, eq_false c33, eq_false c34, eq_false c35, eq_false c36, eq_false c37, eq_false c38, eq_false c39, eq_false c40, cl_tl0, cl_tl1, rfv_some, if_true, if_false, or_true, true_or, eq_self, ite_true, ite_false, and_true, true_and, not_true_eq_false, not_false_eq_true]
theorem l_end {d L i : Nat} {h : mMem} (hi : ¬ i + 6 ≤ L) (hL : L ≤ 384) (hi2 : i ≤ 1000) (Q : mQ) : Wp (d + 9) M_L none 18 [.ref 0, .ref 4, .ref 106, .int (nI i)] [] (S0 L, h) Q = Q (some (.int (nI 1))) (S0 L, h) := by
  have l1 : (nI L - nI 6 < nI i) = True := eq_true (by
    rw [Int32.lt_iff_toInt_lt, pk_sub_toInt (by omega) (by omega), nI_toInt (by omega)]
    omega)
  simp only [s_L_law_18, s_L_law_19, s_L_law_20, s_L_law_21, s_L_law_23, s_L_law_24, s_L_law_1482, s_L_law_1483, kS_0, lS_0, l1, n01_1, cl_tl0, cl_tl1, rfv_some, if_true, if_false, or_true, true_or, eq_self, ite_true, ite_false, and_true, true_and, not_true_eq_false, not_false_eq_true]
theorem l_all {d L : Nat} {xs : Nat → Int32} (hL : L ≤ 384) : ∀ n i h, L ≤ i + n → i ≤ 390 → INV xs h → Wp (d + 9) M_L none 18 [.ref 0, .ref 4, .ref 106, .int (nI i)] [] (S0 L, h) (fun r _ => r = some (.int 1)) := by
  intro n
  induction n with
  | zero =>
    intro i h hn hi k
    rw [l_end (by omega) hL (by omega)]
    rfl
  | succ n ih =>
    intro i h hn hi k
    by_cases c : i + 6 ≤ L
    · obtain ⟨h', k', e'⟩ := l_step (d := d) k c hL
      rw [e']
      exact ih (i + 6) h' (by omega) (by omega) k'
    · rw [l_end c hL (by omega)]
      rfl
/-- what holds at the beginning -/
theorem hin_v (xs : Nat → Int32) : INV xs (hin xs) := by
  refine ⟨⟨fun i => rfl, fun i => rfl, fun i => rfl, fun i => rfl⟩, fun r hr => ?_, ⟨0, by omega, rfl, rfl, fun i hi => by omega⟩, ⟨rfl, rfl⟩, Or.inl ⟨⟨rfl, rfl, rfl⟩, fun j hj => ?_, fun j hj => rfl⟩, fun j hj => ?_, ⟨0, by omega, rfl, rfl, fun i hi => by omega⟩⟩
  · rcases (show r = 0 ∨ r = 1 ∨ r = 2 ∨ r = 3 ∨ r = 4 ∨ r = 5 ∨ r = 6 ∨ r = 7 by omega) with rfl | rfl | rfl | rfl | rfl | rfl | rfl | rfl <;> exact Or.inl ⟨rfl, rfl⟩
  · have hl : 27 ≤ (lo 27 j).1 ∧ (lo 27 j).1 < 35 := lo_in
    generalize (lo 27 j).1 = a at hl
    generalize (lo 27 j).2 = b
    rcases (show a = 27 ∨ a = 28 ∨ a = 29 ∨ a = 30 ∨ a = 31 ∨ a = 32 ∨ a = 33 ∨ a = 34 by omega) with rfl | rfl | rfl | rfl | rfl | rfl | rfl | rfl <;> rfl
  · rcases (show j = 0 ∨ j = 1 by omega) with rfl | rfl <;> exact Or.inl ⟨rfl, rfl⟩
theorem pure_all (L : Nat) (hL : L ≤ 384) (xs : Nat → Int32) : Wp 40 M_L none 18 [.ref 0, .ref 4, .ref 106, .int (nI 0)] [] (S0 L, hin xs) (fun r _ => r = some (.int 1)) := l_all (d := 31) hL 384 0 (hin xs) (by omega) (by omega) (hin_v xs)
