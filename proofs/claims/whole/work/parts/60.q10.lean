/-! ===== pure: method by method: findings, drop ===== -/
theorem p_found {d L : Nat} {x : Int32} {h : mMem} {Q : mQ} : WP (d + 1) M_X7_found [.ref 4, .int x] (S0 L, h) Q = Q (some (.int (-1000010 - x))) (S0 L, up2 h 4 9 x) := by
  simp only [e_X7_found, s_X7_found_0, s_X7_found_1, s_X7_found_2, s_X7_found_5, s_X7_found_8, s_X7_found_9, s_X7_found_10, kS_4, rS_4_0, rS_4_1, rS_4_2, rS_4_3, rS_4_4, rS_4_5, rS_4_6, rS_4_7, Hs_27, Hs_63, Hs_72, Hs_19, Hs_90, Hs_98, cl_tl0, cl_tl1, rfv_some, if_true, if_false, or_true, true_or, eq_self, ite_true, ite_false, and_true, true_and, not_true_eq_false, not_false_eq_true]
theorem p_foundNothing {d L : Nat} {x : Int32} {h : mMem} {Q : mQ} : WP (d + 1) M_X7_foundNothing [.ref 4, .int x] (S0 L, h) Q = Q (some (.int x)) (S0 L, up2 h 4 9 (nI 0)) := by
  simp only [e_X7_foundNothing, s_X7_foundNothing_0, s_X7_foundNothing_1, s_X7_foundNothing_2, s_X7_foundNothing_5, s_X7_foundNothing_6, kS_4, rS_4_0, rS_4_1, rS_4_2, rS_4_3, rS_4_4, rS_4_5, rS_4_6, rS_4_7, Hs_27, Hs_63, Hs_72, Hs_19, Hs_90, Hs_98, cl_tl0, cl_tl1, rfv_some, if_true, if_false, or_true, true_or, eq_self, ite_true, ite_false, and_true, true_and, not_true_eq_false, not_false_eq_true]
theorem p_find {d L : Nat} {x : Int32} {h : mMem} {Q : mQ} : WP (d + 1) M_X8_find [.ref 106, .int x] (S0 L, h) Q = Q (some (.int (-1000010 - x))) (S0 L, up2 h 106 10 x) := by
  simp only [e_X8_find, s_X8_find_0, s_X8_find_1, s_X8_find_2, s_X8_find_5, s_X8_find_7, s_X8_find_8, s_X8_find_9, kS_106, rS_106_0, rS_106_3, rS_106_4, rS_106_5, rS_106_6, rS_106_7, rS_106_11, kS_107, lS_107, kS_108, lS_108, kS_109, lS_109, kS_110, lS_110, kS_111, lS_111, kS_112, lS_112, kS_113, lS_113, cl_tl0, cl_tl1, rfv_some, if_true, if_false, or_true, true_or, eq_self, ite_true, ite_false, and_true, true_and, not_true_eq_false, not_false_eq_true]
theorem p_well {d L : Nat} {x : Int32} {h : mMem} {Q : mQ} : WP (d + 1) M_X8_well [.ref 106, .int x] (S0 L, h) Q = Q (some (.int x)) (S0 L, up2 h 106 10 (nI 0)) := by
  simp only [e_X8_well, s_X8_well_0, s_X8_well_1, s_X8_well_2, s_X8_well_5, s_X8_well_6, kS_106, rS_106_0, rS_106_3, rS_106_4, rS_106_5, rS_106_6, rS_106_7, rS_106_11, kS_107, lS_107, kS_108, lS_108, kS_109, lS_109, kS_110, lS_110, kS_111, lS_111, kS_112, lS_112, kS_113, lS_113, cl_tl0, cl_tl1, rfv_some, if_true, if_false, or_true, true_or, eq_self, ite_true, ite_false, and_true, true_and, not_true_eq_false, not_false_eq_true]
/-- the finding is told on both sides -/
theorem INV_st {xs : Nat → Int32} {h h' : mMem} {v : Int32} (f : Fr (fun a i => scr a i ∨ (a = 4 ∧ i = 9) ∨ (a = 106 ∧ i = 10)) h h') (e1 : h' 4 9 = v) (e2 : h' 106 10 = v) (k : INV xs h) : INV xs h' := by
  obtain ⟨k0, k1, k2, k3, k4, k5, k6⟩ := k
  refine ⟨I0_fr (fun a i x => f a i ?_) k0, I1_fr (fun a i x => f a i ?_) k1, I2_fr (fun a i x => f a i ?_) k2, ⟨?_, e1.trans e2.symm⟩, I4_fr (fun a i x => f a i ?_) k4, I5_fr (fun a i x => f a i ?_) k5, I6_fr (fun a i x => f a i ?_) k6⟩
  · unfold scr hs; omega
  · unfold r1 at x; unfold scr hs; omega
  · unfold r2 at x; unfold scr hs; omega
  · rw [f 4 8 (by unfold scr hs; omega), f 106 9 (by unfold scr hs; omega)]
    exact k3.1
  · unfold r4 ar hs at x; unfold scr hs; omega
  · unfold r5 at x; unfold scr hs; omega
  · unfold r6 at x; unfold scr hs; omega
theorem INV_s2 {xs : Nat → Int32} {h : mMem} {v : Int32} (k : INV xs h) : INV xs (up2 (up2 h 4 9 v) 106 10 v) := INV_st (Fr_t (Fr_u (Or.inr (Or.inl ⟨rfl, rfl⟩))) (Fr_u (Or.inr (Or.inr ⟨rfl, rfl⟩)))) (by rw [up2_n (by omega), up2_a]) up2_a k
/-- rows changed on both sides -/
theorem INV_rw {xs : Nat → Int32} {h h' : mMem} {v : Int32} (f : Fr (fun a i => r1 a i ∨ (a = 4 ∧ i = 9) ∨ (a = 106 ∧ i = 10)) h h') (e1 : h' 4 9 = v) (e2 : h' 106 10 = v) (n1 : I1 h') (k : INV xs h) : INV xs h' := by
  obtain ⟨k0, k1, k2, k3, k4, k5, k6⟩ := k
  refine ⟨I0_fr (fun a i x => f a i ?_) k0, n1, I2_fr (fun a i x => f a i ?_) k2, ⟨?_, e1.trans e2.symm⟩, I4_fr (fun a i x => f a i ?_) k4, I5_fr (fun a i x => f a i ?_) k5, I6_fr (fun a i x => f a i ?_) k6⟩
  · unfold r1; omega
  · unfold r2 at x; unfold r1; omega
  · rw [f 4 8 (by unfold r1; omega), f 106 9 (by unfold r1; omega)]
    exact k3.1
  · unfold r4 ar hs at x; unfold r1; omega
  · unfold r5 at x; unfold r1; omega
  · unfold r6 at x; unfold r1; omega
theorem m1_lt : (-(nI 1) < (0 : Int32)) = True := eq_true (by decide)
theorem m1_ge : (0 ≤ -(nI 1)) = False := eq_false (by decide)
theorem n_ge {n : Nat} (h : n < 1000) : (0 ≤ nI n) = True := by
  have := f_le (a := 0) (b := n) (by omega) (by omega)
  rw [nI_0] at this
  rw [this]
  exact eq_true (Nat.zero_le _)
theorem n_m1 {n : Nat} (h : n < 1000) : (nI n = -(nI 1)) = False := eq_false (fun e => by
  have h1 := n_ge h
  rw [e, m1_ge] at h1
  exact h1.mpr trivial)
theorem q_drop {d L : Nat} {xs : Nat → Int32} {h : mMem} {x : Int32} (k : INV xs h) : Eqm (d + 9) M_X7_drop M_X8_drop [.int x] L xs h := by
  have a1 := fun Q => p_isRow (d := d + 6) (L := L) (x := x) (h := h) (Q := Q)
  have b1 := fun g Q => p_misRow (d := d + 6) (L := L) (x := x) (h := g) (Q := Q)
  cases v1 : inB x 0 7
  · rw [v1] at a1 b1
    refine ⟨.int (-1000001), h, h, k, fun Q => ?_, fun Q => ?_⟩
    · simp only [e_X7_drop, s_X7_drop_0, s_X7_drop_1, s_X7_drop_4, s_X7_drop_7, s_X7_drop_9, s_X7_drop_10, s_X7_drop_11, s_X7_drop_14, s_X7_drop_17, s_X7_drop_18, s_X7_drop_19, s_X7_drop_20, s_X7_drop_21, s_X7_drop_22, s_X7_drop_25, s_X7_drop_26, s_X7_drop_27, s_X7_drop_30, s_X7_drop_31, s_X7_drop_32, s_X7_drop_35, s_X7_drop_38, s_X7_drop_39, s_X7_drop_40, s_X7_drop_41, s_X7_drop_42, s_X7_drop_43, s_X7_drop_46, kS_4, rS_4_0, rS_4_1, rS_4_2, rS_4_3, rS_4_4, rS_4_5, rS_4_6, rS_4_7, Hs_27, Hs_63, Hs_72, Hs_19, Hs_90, Hs_98, a1, bI_f, z_0, Option.toList_some, List.cons_append, List.nil_append, cl_tl0, cl_tl1, rfv_some, if_true, if_false, or_true, true_or, eq_self, ite_true, ite_false, and_true, true_and, not_true_eq_false, not_false_eq_true]
    · simp only [e_X8_drop, s_X8_drop_0, s_X8_drop_1, s_X8_drop_4, s_X8_drop_7, s_X8_drop_9, s_X8_drop_10, s_X8_drop_11, s_X8_drop_14, s_X8_drop_15, s_X8_drop_16, s_X8_drop_19, s_X8_drop_20, s_X8_drop_21, s_X8_drop_24, s_X8_drop_25, s_X8_drop_26, s_X8_drop_29, s_X8_drop_30, s_X8_drop_31, s_X8_drop_32, s_X8_drop_33, s_X8_drop_36, s_X8_drop_37, s_X8_drop_38, s_X8_drop_39, s_X8_drop_40, s_X8_drop_41, s_X8_drop_44, kS_106, rS_106_0, rS_106_3, rS_106_4, rS_106_5, rS_106_6, rS_106_7, rS_106_11, kS_107, lS_107, kS_108, lS_108, kS_109, lS_109, kS_110, lS_110, kS_111, lS_111, kS_112, lS_112, kS_113, lS_113, b1, bI_f, z_0, Option.toList_some, List.cons_append, List.nil_append, cl_tl0, cl_tl1, rfv_some, if_true, if_false, or_true, true_or, eq_self, ite_true, ite_false, and_true, true_and, not_true_eq_false, not_false_eq_true]
  rw [v1] at a1 b1
  obtain ⟨r, -, hr, rfl⟩ := inB_t (by omega) (by omega) v1
  have hr8 : r < 8 := by omega
  rcases k.2.1 r hr8 with ⟨e1, e2⟩ | ⟨n, l, hn, hl, e1, e2, e3, e4, e5⟩
  · have e2' : up2 h 4 9 (nI 1) 110 r = -(nI 1) := by rw [up2_n (by omega), e2]
    refine ⟨.int (-1000010 - nI 1), up2 h 4 9 (nI 1), up2 (up2 h 4 9 (nI 1)) 106 10 (nI 1), INV_s2 k, fun Q => ?_, fun Q => ?_⟩
    · simp only [e_X7_drop, s_X7_drop_0, s_X7_drop_1, s_X7_drop_4, s_X7_drop_7, s_X7_drop_9, s_X7_drop_10, s_X7_drop_11, s_X7_drop_14, s_X7_drop_17, s_X7_drop_18, s_X7_drop_19, s_X7_drop_20, s_X7_drop_21, s_X7_drop_22, s_X7_drop_25, s_X7_drop_26, s_X7_drop_27, s_X7_drop_30, s_X7_drop_31, s_X7_drop_32, s_X7_drop_35, s_X7_drop_38, s_X7_drop_39, s_X7_drop_40, s_X7_drop_41, s_X7_drop_42, s_X7_drop_43, s_X7_drop_46, kS_4, rS_4_0, rS_4_1, rS_4_2, rS_4_3, rS_4_4, rS_4_5, rS_4_6, rS_4_7, Hs_27, Hs_63, Hs_72, Hs_19, Hs_90, Hs_98, kS_5, rS_5_0, rS_5_1, rS_5_2, kS_6, lS_6, kS_15, lS_15, kS_16, lS_16, hr8, a1, e1, p_found, bI_t, z_1, Option.toList_some, List.cons_append, List.nil_append, Nat.reduceLT, cl_tl0, cl_tl1, rfv_some, if_true, if_false, or_true, true_or, eq_self, ite_true, ite_false, and_true, true_and, not_true_eq_false, not_false_eq_true]
    · simp only [e_X8_drop, s_X8_drop_0, s_X8_drop_1, s_X8_drop_4, s_X8_drop_7, s_X8_drop_9, s_X8_drop_10, s_X8_drop_11, s_X8_drop_14, s_X8_drop_15, s_X8_drop_16, s_X8_drop_19, s_X8_drop_20, s_X8_drop_21, s_X8_drop_24, s_X8_drop_25, s_X8_drop_26, s_X8_drop_29, s_X8_drop_30, s_X8_drop_31, s_X8_drop_32, s_X8_drop_33, s_X8_drop_36, s_X8_drop_37, s_X8_drop_38, s_X8_drop_39, s_X8_drop_40, s_X8_drop_41, s_X8_drop_44, kS_106, rS_106_0, rS_106_3, rS_106_4, rS_106_5, rS_106_6, rS_106_7, rS_106_11, kS_107, lS_107, kS_108, lS_108, kS_109, lS_109, kS_110, lS_110, kS_111, lS_111, kS_112, lS_112, kS_113, lS_113, hr8, b1, e2', m1_ge, p_find, bI_t, z_1, Option.toList_some, List.cons_append, List.nil_append, Nat.reduceLT, cl_tl0, cl_tl1, rfv_some, if_true, if_false, or_true, true_or, eq_self, ite_true, ite_false, and_true, true_and, not_true_eq_false, not_false_eq_true]
  · obtain ⟨h1, eh1⟩ : ∃ h1, up2 (up2 h 16 r (-(nI 1))) 4 9 (nI 0) = h1 := ⟨_, rfl⟩
    obtain ⟨h2, eh2⟩ : ∃ h2, up2 (up2 h1 110 r (-(nI 1))) 106 10 (nI 0) = h2 := ⟨_, rfl⟩
    have q1 : h1 110 r = nI n := by rw [← eh1, up2_n (by omega), up2_n (by omega), e2]
    have fz : Fr (fun a i => (a = 16 ∧ i = r) ∨ (a = 110 ∧ i = r) ∨ (a = 4 ∧ i = 9) ∨ (a = 106 ∧ i = 10)) h h2 := fun a i hq => by
      rw [← eh2, up2_n (by omega), up2_n (by omega), ← eh1, up2_n (by omega), up2_n (by omega)]
    refine ⟨.int (nI n), h1, h2, INV_rw (v := nI 0) (Fr_w (fun a i e => by unfold r1; omega) fz) ?_ ?_ (fun s hs => ?_) k, fun Q => ?_, fun Q => ?_⟩
    · rw [← eh2, up2_n (by omega), up2_n (by omega), ← eh1, up2_a]
    · rw [← eh2, up2_a]
    · by_cases es : s = r
      · subst es
        exact Or.inl ⟨by rw [← eh2, up2_n (by omega), up2_n (by omega), ← eh1, up2_n (by omega), up2_a], by rw [← eh2, up2_n (by omega), up2_a]⟩
      · exact RW_fr hs (fz _ _ (by omega)) (fz _ _ (by omega)) (fz _ _ (by omega)) (fz _ _ (by omega)) (fun i => fz _ _ (by omega)) (fun i _ => fz _ _ (by omega)) (k.2.1 s hs)
    · simp only [e_X7_drop, s_X7_drop_0, s_X7_drop_1, s_X7_drop_4, s_X7_drop_7, s_X7_drop_9, s_X7_drop_10, s_X7_drop_11, s_X7_drop_14, s_X7_drop_17, s_X7_drop_18, s_X7_drop_19, s_X7_drop_20, s_X7_drop_21, s_X7_drop_22, s_X7_drop_25, s_X7_drop_26, s_X7_drop_27, s_X7_drop_30, s_X7_drop_31, s_X7_drop_32, s_X7_drop_35, s_X7_drop_38, s_X7_drop_39, s_X7_drop_40, s_X7_drop_41, s_X7_drop_42, s_X7_drop_43, s_X7_drop_46, kS_4, rS_4_0, rS_4_1, rS_4_2, rS_4_3, rS_4_4, rS_4_5, rS_4_6, rS_4_7, Hs_27, Hs_63, Hs_72, Hs_19, Hs_90, Hs_98, kS_5, rS_5_0, rS_5_1, rS_5_2, kS_6, lS_6, kS_15, lS_15, kS_16, lS_16, hr8, a1, e1, n_m1 (show n < 1000 by omega), p_foundNothing, eh1, bI_t, z_1, Option.toList_some, List.cons_append, List.nil_append, Nat.reduceLT, cl_tl0, cl_tl1, rfv_some, if_true, if_false, or_true, true_or, eq_self, ite_true, ite_false, and_true, true_and, not_true_eq_false, not_false_eq_true]
    · simp only [e_X8_drop, s_X8_drop_0, s_X8_drop_1, s_X8_drop_4, s_X8_drop_7, s_X8_drop_9, s_X8_drop_10, s_X8_drop_11, s_X8_drop_14, s_X8_drop_15, s_X8_drop_16, s_X8_drop_19, s_X8_drop_20, s_X8_drop_21, s_X8_drop_24, s_X8_drop_25, s_X8_drop_26, s_X8_drop_29, s_X8_drop_30, s_X8_drop_31, s_X8_drop_32, s_X8_drop_33, s_X8_drop_36, s_X8_drop_37, s_X8_drop_38, s_X8_drop_39, s_X8_drop_40, s_X8_drop_41, s_X8_drop_44, kS_106, rS_106_0, rS_106_3, rS_106_4, rS_106_5, rS_106_6, rS_106_7, rS_106_11, kS_107, lS_107, kS_108, lS_108, kS_109, lS_109, kS_110, lS_110, kS_111, lS_111, kS_112, lS_112, kS_113, lS_113, hr8, b1, q1, n_ge (show n < 1000 by omega), p_well, eh2, bI_t, z_1, Option.toList_some, List.cons_append, List.nil_append, Nat.reduceLT, cl_tl0, cl_tl1, rfv_some, if_true, if_false, or_true, true_or, eq_self, ite_true, ite_false, and_true, true_and, not_true_eq_false, not_false_eq_true]
