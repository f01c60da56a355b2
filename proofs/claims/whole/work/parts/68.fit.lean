/-! ===== pure: the model: what fits what is told ===== -/
theorem p_isSoBy {d L x q y a n : Nat} {t : Nat → Nat} {it : Nat → Int32} {h : mMem} (c : MR h 0 t) (w : Wf t) (hd : t 2 ≤ 999) (hx : x < t 1) (hq : 1 ≤ q ∧ q ≤ 5) (hy : y < 8) (hn : n ≤ 40) (han : a + n ≤ 40) (hit : ∀ i, i < n → h 111 (40 * y + a + i) = it i) : Sp (d + 5) M_X8_isSoBy [.ref 106, .int (nI x), .int (nI q), .int (nI y), .int (nI a), .int (nI n)] L h (some (.int (bI (eday (t (35 + x)) it n 0 (tset t (14 + x) q))))) (Fr (tw 27) h) := by
  have w1 := w.1
  have w2 := w.2.1
  obtain ⟨a1, a2, a3, a4, a5⟩ := w.2.2.2.1 x hx
  have wt : Wf (tset t (14 + x) q) := Wf_set w (by omega) (fun k => by omega) (by omega)
  have t0 : tset t (14 + x) q 0 = t 0 := ts_o (by omega)
  have t2 : tset t (14 + x) q 2 = t 2 := ts_o (by omega)
  obtain ⟨g0, k0, e0⟩ := p_copyTown (d := d + 3) (L := L) (a := 0) (b := 27) (by decide) (by decide) (by decide) c
  simp only [Nat.mul_zero, Nat.reduceMul] at e0
  have k1 := Tc_t k0 (Tc_u (v := q) (i := 1364 + x) (j := 14 + x) k0.1 (by omega) (by omega))
  have c35 := MR_0 c (35 + x) (by omega)
  have e1 : ∀ m i g u, i + m = n → DP (tset t (14 + x) q) i u → Tc 27 u h g → ∃ g', Fr (tw 27) h g' ∧ ∀ Q, Wp (d + 4) M_X8_isSoBy none 22 [.ref 106, .int (nI x), .int (nI q), .int (nI y), .int (nI a), .int (nI n), .int (nI i)] [] (S0 L, g) Q = Q (some (.int (bI (eday (t (35 + x)) it m i u)))) (S0 L, g') := by
    intro m
    induction m with
    | zero =>
      intro i g u hi p cu
      obtain rfl : i = n := by omega
      refine ⟨g, cu.2, fun Q => ?_⟩
      rw [s_X8_isSoBy_22]
      simp only [s_X8_isSoBy_0, s_X8_isSoBy_1, s_X8_isSoBy_2, s_X8_isSoBy_5, s_X8_isSoBy_8, s_X8_isSoBy_9, s_X8_isSoBy_12, s_X8_isSoBy_15, s_X8_isSoBy_16, s_X8_isSoBy_17, s_X8_isSoBy_18, s_X8_isSoBy_19, s_X8_isSoBy_20, s_X8_isSoBy_24, s_X8_isSoBy_26, s_X8_isSoBy_29, s_X8_isSoBy_30, s_X8_isSoBy_33, s_X8_isSoBy_36, s_X8_isSoBy_37, s_X8_isSoBy_38, s_X8_isSoBy_41, s_X8_isSoBy_44, s_X8_isSoBy_45, s_X8_isSoBy_48, s_X8_isSoBy_50, s_X8_isSoBy_51, s_X8_isSoBy_52, s_X8_isSoBy_53, s_X8_isSoBy_54, s_X8_isSoBy_55, s_X8_isSoBy_56, s_X8_isSoBy_59, s_X8_isSoBy_61, s_X8_isSoBy_62, s_X8_isSoBy_63, s_X8_isSoBy_65, s_X8_isSoBy_66, s_X8_isSoBy_68, s_X8_isSoBy_69, s_X8_isSoBy_70, s_X8_isSoBy_73, s_X8_isSoBy_74, s_X8_isSoBy_75, s_X8_isSoBy_78, s_X8_isSoBy_81, s_X8_isSoBy_82, l_ye, show i < 2147483648 by omega, eday, bI_t, n01_1, cl_tl0, cl_tl1, rfv_some, if_true, if_false, or_true, true_or, eq_self, ite_true, ite_false, and_true, true_and, not_true_eq_false, not_false_eq_true]
    | succ m ih =>
      intro i g u hi p cu
      have p2 := p.2.2.2
      have p0 := p.2.1
      obtain ⟨g', c', e'⟩ := p_pass (d := d) (L := L) (b := 27) (by decide) cu.1 p.1 (by omega)
      simp only [Nat.reduceMul] at e'
      have p' := DP_s p
      have r4 := c'.1 (4 + t (35 + x)) (by omega)
      rw [show 50 * 27 + (4 + t (35 + x)) = 1354 + t (35 + x) by omega] at r4
      have cc := Tc_t cu c'
      have ri : g' 111 (40 * y + a + i) = it i := (cc.2 111 _ (by unfold tw; omega)).trans (hit i (by omega))
      have r35 : g' 107 (35 + x) = nI (t (35 + x)) := (cc.2 107 _ (by unfold tw; omega)).trans c35
      by_cases z : nI (dayT u (4 + t (35 + x))) = it i
      · obtain ⟨g4, f4, e4⟩ := ih (i + 1) g' (dayT u) (by omega) p' cc
        refine ⟨g4, f4, fun Q => ?_⟩
        rw [s_X8_isSoBy_22, eday, decide_eq_true z, Bool.true_and]
        simp only [s_X8_isSoBy_0, s_X8_isSoBy_1, s_X8_isSoBy_2, s_X8_isSoBy_5, s_X8_isSoBy_8, s_X8_isSoBy_9, s_X8_isSoBy_12, s_X8_isSoBy_15, s_X8_isSoBy_16, s_X8_isSoBy_17, s_X8_isSoBy_18, s_X8_isSoBy_19, s_X8_isSoBy_20, s_X8_isSoBy_24, s_X8_isSoBy_26, s_X8_isSoBy_29, s_X8_isSoBy_30, s_X8_isSoBy_33, s_X8_isSoBy_36, s_X8_isSoBy_37, s_X8_isSoBy_38, s_X8_isSoBy_41, s_X8_isSoBy_44, s_X8_isSoBy_45, s_X8_isSoBy_48, s_X8_isSoBy_50, s_X8_isSoBy_51, s_X8_isSoBy_52, s_X8_isSoBy_53, s_X8_isSoBy_54, s_X8_isSoBy_55, s_X8_isSoBy_56, s_X8_isSoBy_59, s_X8_isSoBy_61, s_X8_isSoBy_62, s_X8_isSoBy_63, s_X8_isSoBy_65, s_X8_isSoBy_66, s_X8_isSoBy_68, s_X8_isSoBy_69, s_X8_isSoBy_70, s_X8_isSoBy_73, s_X8_isSoBy_74, s_X8_isSoBy_75, s_X8_isSoBy_78, s_X8_isSoBy_81, s_X8_isSoBy_82, kS_106, rS_106_0, rS_106_3, rS_106_4, rS_106_5, rS_106_6, rS_106_7, rS_106_11, kS_107, lS_107, kS_108, lS_108, kS_109, lS_109, kS_110, lS_110, kS_111, lS_111, kS_112, lS_112, kS_113, lS_113, show 40 * y + a + i < 320 by omega, show 35 + x < 1600 by omega, show 1354 + t (35 + x) < 1600 by omega, e', e4, r4, ri, r35, eq_true z, l_no (show i < n by omega), show n < 2147483648 by omega, pk_mul, nI_add, Option.toList_some, List.cons_append, List.nil_append, Nat.reduceAdd, Nat.reduceLT, cl_tl0, cl_tl1, rfv_some, if_true, if_false, or_true, true_or, eq_self, ite_true, ite_false, and_true, true_and, not_true_eq_false, not_false_eq_true]
      · refine ⟨g', cc.2, fun Q => ?_⟩
        rw [s_X8_isSoBy_22, eday, decide_eq_false z, Bool.false_and]
        simp only [s_X8_isSoBy_0, s_X8_isSoBy_1, s_X8_isSoBy_2, s_X8_isSoBy_5, s_X8_isSoBy_8, s_X8_isSoBy_9, s_X8_isSoBy_12, s_X8_isSoBy_15, s_X8_isSoBy_16, s_X8_isSoBy_17, s_X8_isSoBy_18, s_X8_isSoBy_19, s_X8_isSoBy_20, s_X8_isSoBy_24, s_X8_isSoBy_26, s_X8_isSoBy_29, s_X8_isSoBy_30, s_X8_isSoBy_33, s_X8_isSoBy_36, s_X8_isSoBy_37, s_X8_isSoBy_38, s_X8_isSoBy_41, s_X8_isSoBy_44, s_X8_isSoBy_45, s_X8_isSoBy_48, s_X8_isSoBy_50, s_X8_isSoBy_51, s_X8_isSoBy_52, s_X8_isSoBy_53, s_X8_isSoBy_54, s_X8_isSoBy_55, s_X8_isSoBy_56, s_X8_isSoBy_59, s_X8_isSoBy_61, s_X8_isSoBy_62, s_X8_isSoBy_63, s_X8_isSoBy_65, s_X8_isSoBy_66, s_X8_isSoBy_68, s_X8_isSoBy_69, s_X8_isSoBy_70, s_X8_isSoBy_73, s_X8_isSoBy_74, s_X8_isSoBy_75, s_X8_isSoBy_78, s_X8_isSoBy_81, s_X8_isSoBy_82, kS_106, rS_106_0, rS_106_3, rS_106_4, rS_106_5, rS_106_6, rS_106_7, rS_106_11, kS_107, lS_107, kS_108, lS_108, kS_109, lS_109, kS_110, lS_110, kS_111, lS_111, kS_112, lS_112, kS_113, lS_113, show 40 * y + a + i < 320 by omega, show 35 + x < 1600 by omega, show 1354 + t (35 + x) < 1600 by omega, e', r4, ri, r35, eq_false z, l_no (show i < n by omega), show n < 2147483648 by omega, pk_mul, nI_add, bI_f, n01_0, Option.toList_some, List.cons_append, List.nil_append, Nat.reduceAdd, Nat.reduceLT, cl_tl0, cl_tl1, rfv_some, if_true, if_false, or_true, true_or, eq_self, ite_true, ite_false, and_true, true_and, not_true_eq_false, not_false_eq_true]
  obtain ⟨g', f', e'⟩ := e1 n 0 _ _ (by omega) (DP_0 wt) k1
  refine ⟨g', f', fun Q => ?_⟩
  simp only [e_X8_isSoBy, s_X8_isSoBy_0, s_X8_isSoBy_1, s_X8_isSoBy_2, s_X8_isSoBy_5, s_X8_isSoBy_8, s_X8_isSoBy_9, s_X8_isSoBy_12, s_X8_isSoBy_15, s_X8_isSoBy_16, s_X8_isSoBy_17, s_X8_isSoBy_18, s_X8_isSoBy_19, s_X8_isSoBy_20, s_X8_isSoBy_24, s_X8_isSoBy_26, s_X8_isSoBy_29, s_X8_isSoBy_30, s_X8_isSoBy_33, s_X8_isSoBy_36, s_X8_isSoBy_37, s_X8_isSoBy_38, s_X8_isSoBy_41, s_X8_isSoBy_44, s_X8_isSoBy_45, s_X8_isSoBy_48, s_X8_isSoBy_50, s_X8_isSoBy_51, s_X8_isSoBy_52, s_X8_isSoBy_53, s_X8_isSoBy_54, s_X8_isSoBy_55, s_X8_isSoBy_56, s_X8_isSoBy_59, s_X8_isSoBy_61, s_X8_isSoBy_62, s_X8_isSoBy_63, s_X8_isSoBy_65, s_X8_isSoBy_66, s_X8_isSoBy_68, s_X8_isSoBy_69, s_X8_isSoBy_70, s_X8_isSoBy_73, s_X8_isSoBy_74, s_X8_isSoBy_75, s_X8_isSoBy_78, s_X8_isSoBy_81, s_X8_isSoBy_82, kS_106, rS_106_0, rS_106_3, rS_106_4, rS_106_5, rS_106_6, rS_106_7, rS_106_11, kS_107, lS_107, kS_108, lS_108, kS_109, lS_109, kS_110, lS_110, kS_111, lS_111, kS_112, lS_112, kS_113, lS_113, e0, e', nI_add, show 1364 + x < 1600 by omega, Option.toList_none, List.nil_append, Nat.reduceLT, cl_tl0, cl_tl1, rfv_some, if_true, if_false, or_true, true_or, eq_self, ite_true, ite_false, and_true, true_and, not_true_eq_false, not_false_eq_true]
theorem aat_itr {it : Nat → Int32} {t : Nat → Nat} : ∀ n i b, itr (fun i b => b && decide (nI (t (4 + i)) = it i)) n i b = (b && aat it t n i) := by
  intro n
  induction n with
  | zero => intro i b; cases b <;> rfl
  | succ n ih =>
    intro i b
    show itr _ n (i + 1) (b && decide (nI (t (4 + i)) = it i)) = _
    rw [ih, aat, Bool.and_assoc]
theorem p_isSoldSo {d L r k n y a : Nat} {t : Nat → Nat} {it : Nat → Int32} {h : mMem} (c : MR h 0 t) (w : Wf t) (hd : t 2 ≤ 999) (hr : r < t 1) (hk : k < t 0) (hn : n < 1000) (hy : y < 8) (han : a + t 0 ≤ 40) (hit : ∀ i, i < t 0 → h 111 (40 * y + a + i) = it i) : Sp (d + 5) M_X8_isSoldSo [.ref 106, .int (nI r), .int (nI k), .int (nI n), .int (nI y), .int (nI a)] L h (some (.int (bI (ftN it t r k n)))) (Fr (tw 27) h) := by
  have w1 := w.1
  have w2 := w.2.1
  have e1 := fun Q => p_maySell (d := d) (L := L) (b := 0) (n := n) (Q := Q) (by omega) c w (by omega) hr hk (by omega)
  simp only [Nat.mul_zero] at e1
  unfold ftN
  cases b : cB t r k n
  · rw [b] at e1
    refine ⟨h, Fr_r, fun Q => ?_⟩
    simp only [e_X8_isSoldSo, s_X8_isSoldSo_0, s_X8_isSoldSo_1, s_X8_isSoldSo_2, s_X8_isSoldSo_3, s_X8_isSoldSo_4, s_X8_isSoldSo_5, s_X8_isSoldSo_8, s_X8_isSoldSo_11, s_X8_isSoldSo_12, s_X8_isSoldSo_13, s_X8_isSoldSo_14, s_X8_isSoldSo_15, s_X8_isSoldSo_18, s_X8_isSoldSo_21, s_X8_isSoldSo_22, s_X8_isSoldSo_25, s_X8_isSoldSo_26, s_X8_isSoldSo_27, s_X8_isSoldSo_28, s_X8_isSoldSo_31, s_X8_isSoldSo_32, s_X8_isSoldSo_34, s_X8_isSoldSo_35, s_X8_isSoldSo_39, s_X8_isSoldSo_40, s_X8_isSoldSo_43, s_X8_isSoldSo_44, s_X8_isSoldSo_45, s_X8_isSoldSo_48, s_X8_isSoldSo_50, s_X8_isSoldSo_53, s_X8_isSoldSo_54, s_X8_isSoldSo_57, s_X8_isSoldSo_60, s_X8_isSoldSo_62, s_X8_isSoldSo_63, s_X8_isSoldSo_64, s_X8_isSoldSo_65, s_X8_isSoldSo_68, s_X8_isSoldSo_70, s_X8_isSoldSo_72, s_X8_isSoldSo_73, s_X8_isSoldSo_75, s_X8_isSoldSo_76, s_X8_isSoldSo_78, s_X8_isSoldSo_79, s_X8_isSoldSo_80, s_X8_isSoldSo_83, s_X8_isSoldSo_84, s_X8_isSoldSo_87, s_X8_isSoldSo_88, s_X8_isSoldSo_90, s_X8_isSoldSo_93, s_X8_isSoldSo_96, s_X8_isSoldSo_98, kS_106, rS_106_0, rS_106_3, rS_106_4, rS_106_5, rS_106_6, rS_106_7, rS_106_11, kS_107, lS_107, kS_108, lS_108, kS_109, lS_109, kS_110, lS_110, kS_111, lS_111, kS_112, lS_112, kS_113, lS_113, e1, bI_f, z_0, n01_0, Bool.false_and, Option.toList_some, List.cons_append, List.nil_append, cl_tl0, cl_tl1, rfv_some, if_true, if_false, or_true, true_or, eq_self, ite_true, ite_false, and_true, true_and, not_true_eq_false, not_false_eq_true]
  · rw [b] at e1
    obtain ⟨hnk, hko⟩ := cB_n b
    obtain ⟨g0, k0, e0⟩ := p_copyTown (d := d + 3) (L := L) (a := 0) (b := 27) (by decide) (by decide) (by decide) c
    simp only [Nat.mul_zero, Nat.reduceMul] at e0
    obtain ⟨g1, k1, e2⟩ := p_doSell (d := d + 1) (L := L) (b := 27) (by decide) k0.1 w hr hk hnk
    simp only [Nat.reduceMul] at e2
    have kk := Tc_t k0 k1
    obtain ⟨u, eu⟩ : ∃ u, trd t r k n = u := ⟨_, rfl⟩
    rw [eu] at kk
    have c0 : g1 107 0 = nI (t 0) := (kk.2 107 0 (by unfold tw; omega)).trans (MR_0 c 0 (by omega))
    obtain ⟨-, e3⟩ := lpr (N := t 0) (f := fun i b => b && decide (nI (u (4 + i)) = it i)) (I := fun _ _ => True) (W := fun i b Q => Wp (d + 4) M_X8_isSoldSo none 37 [.ref 106, .int (nI r), .int (nI k), .int (nI n), .int (nI y), .int (nI a), .int (bI b), .int (nI i)] [] (S0 L, g1) Q) (by
      intro i b hi _
      refine ⟨trivial, fun Q => ?_⟩
      have ri : g1 111 (40 * y + a + i) = it i := (kk.2 111 _ (by unfold tw; omega)).trans (hit i hi)
      have r4 := kk.1 (4 + i) (by omega)
      rw [show 50 * 27 + (4 + i) = 1354 + i by omega] at r4
      rw [s_X8_isSoldSo_37]
      cases b
      · simp only [s_X8_isSoldSo_0, s_X8_isSoldSo_1, s_X8_isSoldSo_2, s_X8_isSoldSo_3, s_X8_isSoldSo_4, s_X8_isSoldSo_5, s_X8_isSoldSo_8, s_X8_isSoldSo_11, s_X8_isSoldSo_12, s_X8_isSoldSo_13, s_X8_isSoldSo_14, s_X8_isSoldSo_15, s_X8_isSoldSo_18, s_X8_isSoldSo_21, s_X8_isSoldSo_22, s_X8_isSoldSo_25, s_X8_isSoldSo_26, s_X8_isSoldSo_27, s_X8_isSoldSo_28, s_X8_isSoldSo_31, s_X8_isSoldSo_32, s_X8_isSoldSo_34, s_X8_isSoldSo_35, s_X8_isSoldSo_39, s_X8_isSoldSo_40, s_X8_isSoldSo_43, s_X8_isSoldSo_44, s_X8_isSoldSo_45, s_X8_isSoldSo_48, s_X8_isSoldSo_50, s_X8_isSoldSo_53, s_X8_isSoldSo_54, s_X8_isSoldSo_57, s_X8_isSoldSo_60, s_X8_isSoldSo_62, s_X8_isSoldSo_63, s_X8_isSoldSo_64, s_X8_isSoldSo_65, s_X8_isSoldSo_68, s_X8_isSoldSo_70, s_X8_isSoldSo_72, s_X8_isSoldSo_73, s_X8_isSoldSo_75, s_X8_isSoldSo_76, s_X8_isSoldSo_78, s_X8_isSoldSo_79, s_X8_isSoldSo_80, s_X8_isSoldSo_83, s_X8_isSoldSo_84, s_X8_isSoldSo_87, s_X8_isSoldSo_88, s_X8_isSoldSo_90, s_X8_isSoldSo_93, s_X8_isSoldSo_96, s_X8_isSoldSo_98, kS_106, rS_106_0, rS_106_3, rS_106_4, rS_106_5, rS_106_6, rS_106_7, rS_106_11, kS_107, lS_107, kS_108, lS_108, kS_109, lS_109, kS_110, lS_110, kS_111, lS_111, kS_112, lS_112, kS_113, lS_113, c0, bI_f, z_0, Bool.false_and, l_no hi, show t 0 < 2147483648 by omega, nI_add, Nat.reduceLT, cl_tl0, cl_tl1, rfv_some, if_true, if_false, or_true, true_or, eq_self, ite_true, ite_false, and_true, true_and, not_true_eq_false, not_false_eq_true]
      · by_cases z : nI (u (4 + i)) = it i
        · rw [decide_eq_true z, Bool.true_and]
          simp only [s_X8_isSoldSo_0, s_X8_isSoldSo_1, s_X8_isSoldSo_2, s_X8_isSoldSo_3, s_X8_isSoldSo_4, s_X8_isSoldSo_5, s_X8_isSoldSo_8, s_X8_isSoldSo_11, s_X8_isSoldSo_12, s_X8_isSoldSo_13, s_X8_isSoldSo_14, s_X8_isSoldSo_15, s_X8_isSoldSo_18, s_X8_isSoldSo_21, s_X8_isSoldSo_22, s_X8_isSoldSo_25, s_X8_isSoldSo_26, s_X8_isSoldSo_27, s_X8_isSoldSo_28, s_X8_isSoldSo_31, s_X8_isSoldSo_32, s_X8_isSoldSo_34, s_X8_isSoldSo_35, s_X8_isSoldSo_39, s_X8_isSoldSo_40, s_X8_isSoldSo_43, s_X8_isSoldSo_44, s_X8_isSoldSo_45, s_X8_isSoldSo_48, s_X8_isSoldSo_50, s_X8_isSoldSo_53, s_X8_isSoldSo_54, s_X8_isSoldSo_57, s_X8_isSoldSo_60, s_X8_isSoldSo_62, s_X8_isSoldSo_63, s_X8_isSoldSo_64, s_X8_isSoldSo_65, s_X8_isSoldSo_68, s_X8_isSoldSo_70, s_X8_isSoldSo_72, s_X8_isSoldSo_73, s_X8_isSoldSo_75, s_X8_isSoldSo_76, s_X8_isSoldSo_78, s_X8_isSoldSo_79, s_X8_isSoldSo_80, s_X8_isSoldSo_83, s_X8_isSoldSo_84, s_X8_isSoldSo_87, s_X8_isSoldSo_88, s_X8_isSoldSo_90, s_X8_isSoldSo_93, s_X8_isSoldSo_96, s_X8_isSoldSo_98, kS_106, rS_106_0, rS_106_3, rS_106_4, rS_106_5, rS_106_6, rS_106_7, rS_106_11, kS_107, lS_107, kS_108, lS_108, kS_109, lS_109, kS_110, lS_110, kS_111, lS_111, kS_112, lS_112, kS_113, lS_113, c0, r4, ri, eq_true z, show 40 * y + a + i < 320 by omega, show 1354 + i < 1600 by omega, bI_t, z_1, l_no hi, show t 0 < 2147483648 by omega, pk_mul, nI_add, Nat.reduceLT, cl_tl0, cl_tl1, rfv_some, if_true, if_false, or_true, true_or, eq_self, ite_true, ite_false, and_true, true_and, not_true_eq_false, not_false_eq_true]
        · rw [decide_eq_false z, Bool.true_and]
          simp only [s_X8_isSoldSo_0, s_X8_isSoldSo_1, s_X8_isSoldSo_2, s_X8_isSoldSo_3, s_X8_isSoldSo_4, s_X8_isSoldSo_5, s_X8_isSoldSo_8, s_X8_isSoldSo_11, s_X8_isSoldSo_12, s_X8_isSoldSo_13, s_X8_isSoldSo_14, s_X8_isSoldSo_15, s_X8_isSoldSo_18, s_X8_isSoldSo_21, s_X8_isSoldSo_22, s_X8_isSoldSo_25, s_X8_isSoldSo_26, s_X8_isSoldSo_27, s_X8_isSoldSo_28, s_X8_isSoldSo_31, s_X8_isSoldSo_32, s_X8_isSoldSo_34, s_X8_isSoldSo_35, s_X8_isSoldSo_39, s_X8_isSoldSo_40, s_X8_isSoldSo_43, s_X8_isSoldSo_44, s_X8_isSoldSo_45, s_X8_isSoldSo_48, s_X8_isSoldSo_50, s_X8_isSoldSo_53, s_X8_isSoldSo_54, s_X8_isSoldSo_57, s_X8_isSoldSo_60, s_X8_isSoldSo_62, s_X8_isSoldSo_63, s_X8_isSoldSo_64, s_X8_isSoldSo_65, s_X8_isSoldSo_68, s_X8_isSoldSo_70, s_X8_isSoldSo_72, s_X8_isSoldSo_73, s_X8_isSoldSo_75, s_X8_isSoldSo_76, s_X8_isSoldSo_78, s_X8_isSoldSo_79, s_X8_isSoldSo_80, s_X8_isSoldSo_83, s_X8_isSoldSo_84, s_X8_isSoldSo_87, s_X8_isSoldSo_88, s_X8_isSoldSo_90, s_X8_isSoldSo_93, s_X8_isSoldSo_96, s_X8_isSoldSo_98, kS_106, rS_106_0, rS_106_3, rS_106_4, rS_106_5, rS_106_6, rS_106_7, rS_106_11, kS_107, lS_107, kS_108, lS_108, kS_109, lS_109, kS_110, lS_110, kS_111, lS_111, kS_112, lS_112, kS_113, lS_113, c0, r4, ri, eq_false z, show 40 * y + a + i < 320 by omega, show 1354 + i < 1600 by omega, bI_t, bI_f, z_1, l_no hi, show t 0 < 2147483648 by omega, pk_mul, nI_add, Nat.reduceLT, cl_tl0, cl_tl1, rfv_some, if_true, if_false, or_true, true_or, eq_self, ite_true, ite_false, and_true, true_and, not_true_eq_false, not_false_eq_true]) (t 0) 0 true (by omega) trivial
    rw [aat_itr, Bool.true_and, bI_t] at e3
    refine ⟨g1, kk.2, fun Q => ?_⟩
    rw [Bool.true_and]
    simp only [e_X8_isSoldSo, s_X8_isSoldSo_0, s_X8_isSoldSo_1, s_X8_isSoldSo_2, s_X8_isSoldSo_3, s_X8_isSoldSo_4, s_X8_isSoldSo_5, s_X8_isSoldSo_8, s_X8_isSoldSo_11, s_X8_isSoldSo_12, s_X8_isSoldSo_13, s_X8_isSoldSo_14, s_X8_isSoldSo_15, s_X8_isSoldSo_18, s_X8_isSoldSo_21, s_X8_isSoldSo_22, s_X8_isSoldSo_25, s_X8_isSoldSo_26, s_X8_isSoldSo_27, s_X8_isSoldSo_28, s_X8_isSoldSo_31, s_X8_isSoldSo_32, s_X8_isSoldSo_34, s_X8_isSoldSo_35, s_X8_isSoldSo_39, s_X8_isSoldSo_40, s_X8_isSoldSo_43, s_X8_isSoldSo_44, s_X8_isSoldSo_45, s_X8_isSoldSo_48, s_X8_isSoldSo_50, s_X8_isSoldSo_53, s_X8_isSoldSo_54, s_X8_isSoldSo_57, s_X8_isSoldSo_60, s_X8_isSoldSo_62, s_X8_isSoldSo_63, s_X8_isSoldSo_64, s_X8_isSoldSo_65, s_X8_isSoldSo_68, s_X8_isSoldSo_70, s_X8_isSoldSo_72, s_X8_isSoldSo_73, s_X8_isSoldSo_75, s_X8_isSoldSo_76, s_X8_isSoldSo_78, s_X8_isSoldSo_79, s_X8_isSoldSo_80, s_X8_isSoldSo_83, s_X8_isSoldSo_84, s_X8_isSoldSo_87, s_X8_isSoldSo_88, s_X8_isSoldSo_90, s_X8_isSoldSo_93, s_X8_isSoldSo_96, s_X8_isSoldSo_98, kS_106, rS_106_0, rS_106_3, rS_106_4, rS_106_5, rS_106_6, rS_106_7, rS_106_11, kS_107, lS_107, kS_108, lS_108, kS_109, lS_109, kS_110, lS_110, kS_111, lS_111, kS_112, lS_112, kS_113, lS_113, e1, e0, e2, e3, bI_t, z_1, Option.toList_none, Option.toList_some, List.cons_append, List.nil_append, cl_tl0, cl_tl1, rfv_some, if_true, if_false, or_true, true_or, eq_self, ite_true, ite_false, and_true, true_and, not_true_eq_false, not_false_eq_true]
    rw [s_X8_isSoldSo_37]
    simp only [s_X8_isSoldSo_0, s_X8_isSoldSo_1, s_X8_isSoldSo_2, s_X8_isSoldSo_3, s_X8_isSoldSo_4, s_X8_isSoldSo_5, s_X8_isSoldSo_8, s_X8_isSoldSo_11, s_X8_isSoldSo_12, s_X8_isSoldSo_13, s_X8_isSoldSo_14, s_X8_isSoldSo_15, s_X8_isSoldSo_18, s_X8_isSoldSo_21, s_X8_isSoldSo_22, s_X8_isSoldSo_25, s_X8_isSoldSo_26, s_X8_isSoldSo_27, s_X8_isSoldSo_28, s_X8_isSoldSo_31, s_X8_isSoldSo_32, s_X8_isSoldSo_34, s_X8_isSoldSo_35, s_X8_isSoldSo_39, s_X8_isSoldSo_40, s_X8_isSoldSo_43, s_X8_isSoldSo_44, s_X8_isSoldSo_45, s_X8_isSoldSo_48, s_X8_isSoldSo_50, s_X8_isSoldSo_53, s_X8_isSoldSo_54, s_X8_isSoldSo_57, s_X8_isSoldSo_60, s_X8_isSoldSo_62, s_X8_isSoldSo_63, s_X8_isSoldSo_64, s_X8_isSoldSo_65, s_X8_isSoldSo_68, s_X8_isSoldSo_70, s_X8_isSoldSo_72, s_X8_isSoldSo_73, s_X8_isSoldSo_75, s_X8_isSoldSo_76, s_X8_isSoldSo_78, s_X8_isSoldSo_79, s_X8_isSoldSo_80, s_X8_isSoldSo_83, s_X8_isSoldSo_84, s_X8_isSoldSo_87, s_X8_isSoldSo_88, s_X8_isSoldSo_90, s_X8_isSoldSo_93, s_X8_isSoldSo_96, s_X8_isSoldSo_98, kS_106, rS_106_0, rS_106_3, rS_106_4, rS_106_5, rS_106_6, rS_106_7, rS_106_11, kS_107, lS_107, kS_108, lS_108, kS_109, lS_109, kS_110, lS_110, kS_111, lS_111, kS_112, lS_112, kS_113, lS_113, c0, l_ye, show t 0 < 2147483648 by omega, bI_01, eu, Nat.reduceLT, cl_tl0, cl_tl1, rfv_some, if_true, if_false, or_true, true_or, eq_self, ite_true, ite_false, and_true, true_and, not_true_eq_false, not_false_eq_true]
theorem aat_x {it : Nat → Int32} {t : Nat → Nat} : ∀ n i, aat it t n i = true → ∀ j, j < n → nI (t (4 + (i + j))) = it (i + j) := by
  intro n
  induction n with
  | zero => intro i _ j hj; omega
  | succ n ih =>
    intro i h j hj
    rw [aat, Bool.and_eq_true] at h
    rcases Nat.eq_zero_or_pos j with rfl | hj0
    · exact of_decide_eq_true h.1
    · have := ih (i + 1) h.2 (j - 1) (by omega)
      rwa [show i + 1 + (j - 1) = i + j by omega] at this
theorem trd_k {t : Nat → Nat} {r k n : Nat} (hk : k < 5) (ho : k ≠ t (35 + r)) : trd t r k n (4 + k) = t (4 + k) - n := by
  unfold trd gts
  rw [ts_o (by omega), ts_o (by omega), ts_o (by omega), ts_s]
theorem ftN_1 {it : Nat → Int32} {t : Nat → Nat} (w : Wf t) {r k n : Nat} (hk : k < t 0) (hn : 1 ≤ n) (h : ftN it t r k n = true) : fts it t r k = true ∧ n = (nI (t (4 + k)) - it k).toNatClampNeg := by
  have w1 := w.1
  have bk := (w.2.2.1 k hk).1
  have h' := h
  unfold ftN at h
  rw [Bool.and_eq_true] at h
  obtain ⟨hnk, hko⟩ := cB_n h.1
  have e1 := aat_x (t 0) 0 h.2 k hk
  rw [Nat.zero_add, trd_k (by omega) hko] at e1
  have e2 : nI (t (4 + k)) - it k = nI n := by
    rw [← e1, pk_sub (by omega)]
    congr 1
    omega
  have e3 : (nI (t (4 + k)) - it k).toNatClampNeg = n := by rw [e2]; exact nI_clamp (by omega)
  refine ⟨?_, e3.symm⟩
  unfold fts
  rw [if_neg, e3]
  · exact h'
  · rw [e2]
    exact nI_nlt (by omega) (by omega)
theorem fts_1 {it : Nat → Int32} {t : Nat → Nat} (w : Wf t) {r k : Nat} (hk : k < t 0) (h : fts it t r k = true) : 1 ≤ (nI (t (4 + k)) - it k).toNatClampNeg ∧ (nI (t (4 + k)) - it k).toNatClampNeg < 100 ∧ ftN it t r k (nI (t (4 + k)) - it k).toNatClampNeg = true := by
  have bk := (w.2.2.1 k hk).1
  unfold fts at h
  by_cases z : nI (t (4 + k)) - it k < nI 1
  · rw [if_pos z] at h
    cases h
  · rw [if_neg z] at h
    obtain ⟨n, h1, h2, h3, h4⟩ := nI_clm1 z
    rw [h4] at h ⊢
    have h5 := h
    unfold ftN at h5
    rw [Bool.and_eq_true] at h5
    have := (cB_n h5.1).1
    exact ⟨h1, by omega, h⟩
theorem itr_no {α : Type} {P : Nat → Bool} {g : α → α} : ∀ m i p, (∀ n, i ≤ n → n < i + m → P n = false) → itr (fun n p => if P n then g p else p) m i p = p := by
  intro m
  induction m with
  | zero => intro i p _; rfl
  | succ m ih =>
    intro i p h
    show itr _ m (i + 1) (if P i then g p else p) = p
    rw [h i (by omega) (by omega)]
    exact ih (i + 1) p (fun n h1 h2 => h n (by omega) (by omega))
theorem itr_one {α : Type} {P : Nat → Bool} {g : α → α} {n0 : Nat} (h0 : P n0 = true) : ∀ m i p, i ≤ n0 → n0 < i + m → (∀ n, i ≤ n → n < i + m → n ≠ n0 → P n = false) → itr (fun n p => if P n then g p else p) m i p = g p := by
  intro m
  induction m with
  | zero => intro i p h1 h2; omega
  | succ m ih =>
    intro i p h1 h2 h
    show itr _ m (i + 1) (if P i then g p else p) = g p
    by_cases e : i = n0
    · subst e
      rw [h0]
      exact itr_no m (i + 1) (g p) (fun n q1 q2 => h n (by omega) (by omega) (by omega))
    · rw [h i (by omega) (by omega) e]
      exact ih (i + 1) p (by omega) (by omega) (fun n q1 q2 q3 => h n (by omega) (by omega) q3)
theorem fit_n {it : Nat → Int32} {t : Nat → Nat} (w : Wf t) {r k : Nat} (hk : k < t 0) (p : Int32 × Int32) : itr (fun n (p : Int32 × Int32) => if ftN it t r k n then (p.1 + nI 1, nI (10 * r + k)) else p) 99 1 p = ssF (fts it t) r k p := by
  cases e : fts it t r k
  · rw [ssF_f e]
    refine itr_no (g := fun p : Int32 × Int32 => (p.1 + nI 1, nI (10 * r + k))) 99 1 p (fun n h1 h2 => ?_)
    cases b : ftN it t r k n
    · rfl
    · have := (ftN_1 w hk h1 b).1
      rw [e] at this
      cases this
  · rw [ssF_t e]
    obtain ⟨h1, h2, h3⟩ := fts_1 w hk e
    refine itr_one (g := fun p : Int32 × Int32 => (p.1 + nI 1, nI (10 * r + k))) h3 99 1 p h1 (by omega) (fun n q1 q2 q3 => ?_)
    cases b : ftN it t r k n
    · rfl
    · exact absurd (ftN_1 w hk q1 b).2 q3
