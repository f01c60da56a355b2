/-! ===== pure: days to come, on both sides ===== -/
def DP (t : Nat → Nat) (i : Nat) (u : Nat → Nat) : Prop := Wf u ∧ u 0 = t 0 ∧ u 1 = t 1 ∧ u 2 = t 2 + i
theorem DP_0 {t : Nat → Nat} (w : Wf t) : DP t 0 t := ⟨w, rfl, rfl, rfl⟩
theorem DP_s {t u : Nat → Nat} {i : Nat} (p : DP t i u) : DP t (i + 1) (dayT u) := by
  obtain ⟨w, a, b, c⟩ := p
  obtain ⟨x, y, z, v⟩ := dayT_p w
  exact ⟨x, y.trans a, z.trans b, by omega⟩
def dys (n : Nat) (t : Nat → Nat) : Nat → Nat := itr (fun _ u => dayT u) n 0 t
theorem dys_p {t : Nat → Nat} (w : Wf t) (n : Nat) : DP t n (dys n t) := itr_inv (P := fun i u => DP t i u) (N := n) (fun i a _ hp => DP_s hp) n 0 t (by omega) (DP_0 w)
theorem f_gt {a b : Nat} (ha : a < 2147483648) (hb : b < 2147483648) : (nI a > nI b) = (b < a) := f_lt hb ha
theorem p_look {d L n : Nat} {t : Nat → Nat} {h : mMem} (c : CR h 27 t) (w : Wf t) (hd : t 2 ≤ 999) (hn : n ≤ 60) : Sp (d + 5) M_X3_look [.ref 62, .ref 27, .int (nI n)] L h (some (.ref 63)) (Hc 63 (dys n t) h) := by
  obtain ⟨h0, c0, e0⟩ := p_become (d := d + 3) (L := L) (o := 63) (p := 27) Hs_63 Hs_27 (by decide) c w
  obtain ⟨h', ⟨-, c1⟩, e1⟩ := lp (N := n) (f := fun _ u => dayT u) (I := fun i u g => DP t i u ∧ Hc 63 u h g) (W := fun i u g Q => Wp (d + 4) M_X3_look none 10 [.ref 62, .ref 27, .int (nI n), .int (nI i)] [] (S0 L, g) Q) (by
    rintro i u g hi ⟨p, cu⟩
    have p2 := p.2.2.2
    obtain ⟨g', c', e'⟩ := p_passDay (d := d) (L := L) Hs_63 cu.1 p.1 (by omega)
    refine ⟨g', ⟨DP_s p, Hc_t cu c'⟩, fun Q => ?_⟩
    rw [s_X3_look_10]
    simp only [s_X3_look_0, s_X3_look_1, s_X3_look_4, s_X3_look_5, s_X3_look_8, s_X3_look_9, s_X3_look_11, s_X3_look_12, s_X3_look_15, s_X3_look_16, s_X3_look_19, s_X3_look_22, s_X3_look_23, s_X3_look_26, s_X3_look_29, s_X3_look_30, s_X3_look_33, kS_62, rS_62_0, kH, Hs_63, e', l_no hi, show n < 2147483648 by omega, nI_add, Option.toList_some, List.cons_append, List.nil_append, Nat.reduceLT, cl_tl0, cl_tl1, rfv_some, if_true, if_false, or_true, true_or, eq_self, ite_true, ite_false, and_true, true_and, not_true_eq_false, not_false_eq_true]) n 0 t h0 (by omega) ⟨DP_0 w, c0⟩
  refine ⟨h', c1, fun Q => ?_⟩
  simp only [e_X3_look, s_X3_look_0, s_X3_look_1, s_X3_look_4, s_X3_look_5, s_X3_look_8, s_X3_look_9, s_X3_look_11, s_X3_look_12, s_X3_look_15, s_X3_look_16, s_X3_look_19, s_X3_look_22, s_X3_look_23, s_X3_look_26, s_X3_look_29, s_X3_look_30, s_X3_look_33, kS_62, rS_62_0, kH, Hs_63, e0, e1, Option.toList_none, List.nil_append, cl_tl0, cl_tl1, rfv_some, if_true, if_false, or_true, true_or, eq_self, ite_true, ite_false, and_true, true_and, not_true_eq_false, not_false_eq_true]
  rw [s_X3_look_10]
  simp only [s_X3_look_0, s_X3_look_1, s_X3_look_4, s_X3_look_5, s_X3_look_8, s_X3_look_9, s_X3_look_11, s_X3_look_12, s_X3_look_15, s_X3_look_16, s_X3_look_19, s_X3_look_22, s_X3_look_23, s_X3_look_26, s_X3_look_29, s_X3_look_30, s_X3_look_33, kS_62, rS_62_0, kH, Hs_63, l_ye, show n < 2147483648 by omega, cl_tl0, cl_tl1, rfv_some, if_true, if_false, or_true, true_or, eq_self, ite_true, ite_false, and_true, true_and, not_true_eq_false, not_false_eq_true]
theorem p_layTried {d L n : Nat} {t : Nat → Nat} {h : mMem} (c : MR h 0 t) (w : Wf t) (hd : t 2 ≤ 999) (hn : n ≤ 60) : Sp (d + 5) M_X8_layTried [.ref 106, .int (nI n)] L h none (Tc 27 (dys n t) h) := by
  obtain ⟨h0, c0, e0⟩ := p_copyTown (d := d + 3) (L := L) (a := 0) (b := 27) (by decide) (by decide) (by decide) c
  obtain ⟨h', ⟨-, c1⟩, e1⟩ := lp (N := n) (f := fun _ u => dayT u) (I := fun i u g => DP t i u ∧ Tc 27 u h g) (W := fun i u g Q => Wp (d + 4) M_X8_layTried none 10 [.ref 106, .int (nI n), .int (nI i)] [] (S0 L, g) Q) (by
    rintro i u g hi ⟨p, cu⟩
    have p2 := p.2.2.2
    obtain ⟨g', c', e'⟩ := p_pass (d := d) (L := L) (b := 27) (by decide) cu.1 p.1 (by omega)
    refine ⟨g', ⟨DP_s p, Tc_t cu c'⟩, fun Q => ?_⟩
    rw [s_X8_layTried_10]
    simp only [Nat.reduceMul] at e'
    simp only [s_X8_layTried_0, s_X8_layTried_1, s_X8_layTried_2, s_X8_layTried_5, s_X8_layTried_8, s_X8_layTried_9, s_X8_layTried_11, s_X8_layTried_12, s_X8_layTried_15, s_X8_layTried_16, s_X8_layTried_19, s_X8_layTried_22, s_X8_layTried_23, s_X8_layTried_26, s_X8_layTried_29, kS_106, rS_106_0, rS_106_3, rS_106_4, rS_106_5, rS_106_6, rS_106_7, rS_106_11, kS_107, lS_107, kS_108, lS_108, kS_109, lS_109, kS_110, lS_110, kS_111, lS_111, kS_112, lS_112, kS_113, lS_113, e', l_no hi, show n < 2147483648 by omega, nI_add, Option.toList_some, List.cons_append, List.nil_append, Nat.reduceLT, cl_tl0, cl_tl1, rfv_some, if_true, if_false, or_true, true_or, eq_self, ite_true, ite_false, and_true, true_and, not_true_eq_false, not_false_eq_true]) n 0 t h0 (by omega) ⟨DP_0 w, c0⟩
  refine ⟨h', c1, fun Q => ?_⟩
  simp only [Nat.reduceMul] at e0
  simp only [e_X8_layTried, s_X8_layTried_0, s_X8_layTried_1, s_X8_layTried_2, s_X8_layTried_5, s_X8_layTried_8, s_X8_layTried_9, s_X8_layTried_11, s_X8_layTried_12, s_X8_layTried_15, s_X8_layTried_16, s_X8_layTried_19, s_X8_layTried_22, s_X8_layTried_23, s_X8_layTried_26, s_X8_layTried_29, kS_106, rS_106_0, rS_106_3, rS_106_4, rS_106_5, rS_106_6, rS_106_7, rS_106_11, kS_107, lS_107, kS_108, lS_108, kS_109, lS_109, kS_110, lS_110, kS_111, lS_111, kS_112, lS_112, kS_113, lS_113, e0, e1, Option.toList_none, List.nil_append, cl_tl0, cl_tl1, rfv_some, if_true, if_false, or_true, true_or, eq_self, ite_true, ite_false, and_true, true_and, not_true_eq_false, not_false_eq_true]
  rw [s_X8_layTried_10]
  simp only [s_X8_layTried_0, s_X8_layTried_1, s_X8_layTried_2, s_X8_layTried_5, s_X8_layTried_8, s_X8_layTried_9, s_X8_layTried_11, s_X8_layTried_12, s_X8_layTried_15, s_X8_layTried_16, s_X8_layTried_19, s_X8_layTried_22, s_X8_layTried_23, s_X8_layTried_26, s_X8_layTried_29, l_ye, show n < 2147483648 by omega, cl_tl0, cl_tl1, rfv_some, if_true, if_false, or_true, true_or, eq_self, ite_true, ite_false, and_true, true_and, not_true_eq_false, not_false_eq_true]
/-- meals -/
def mls (k : Nat) (i : Nat) (p : (Nat → Nat) × Int32) : (Nat → Nat) × Int32 := (dayT p.1, p.2 + ((nI (dayF p.1) >>> (nI k &&& 31)) &&& nI 1))
theorem p_mealsOf {d L k n : Nat} {t : Nat → Nat} {h : mMem} (c : CR h 27 t) (w : Wf t) (hd : t 2 ≤ 999) (hn : n ≤ 60) : Sp (d + 5) M_X3_mealsOf [.ref 62, .ref 27, .int (nI k), .int (nI n)] L h (some (.int (itr (mls k) n 0 (t, nI 0)).2)) (Fr (hs 63) h) := by
  obtain ⟨h0, c0, e0⟩ := p_become (d := d + 3) (L := L) (o := 63) (p := 27) Hs_63 Hs_27 (by decide) c w
  obtain ⟨h', ⟨-, c1⟩, e1⟩ := lp (N := n) (f := mls k) (I := fun i u g => DP t i u.1 ∧ Hc 63 u.1 h g) (W := fun i u g Q => Wp (d + 4) M_X3_mealsOf none 14 [.ref 62, .ref 27, .int (nI k), .int (nI n), .int u.2, .int (nI i)] [] (S0 L, g) Q) (by
    rintro i u g hi ⟨p, cu⟩
    have p2 := p.2.2.2
    obtain ⟨g', c', e'⟩ := p_passDay (d := d) (L := L) Hs_63 cu.1 p.1 (by omega)
    refine ⟨g', ⟨DP_s p, Hc_t cu c'⟩, fun Q => ?_⟩
    rw [s_X3_mealsOf_14]
    simp only [s_X3_mealsOf_0, s_X3_mealsOf_1, s_X3_mealsOf_3, s_X3_mealsOf_4, s_X3_mealsOf_7, s_X3_mealsOf_8, s_X3_mealsOf_11, s_X3_mealsOf_12, s_X3_mealsOf_16, s_X3_mealsOf_17, s_X3_mealsOf_20, s_X3_mealsOf_22, s_X3_mealsOf_23, s_X3_mealsOf_26, s_X3_mealsOf_29, s_X3_mealsOf_30, s_X3_mealsOf_31, s_X3_mealsOf_32, s_X3_mealsOf_33, s_X3_mealsOf_34, s_X3_mealsOf_36, s_X3_mealsOf_39, s_X3_mealsOf_42, s_X3_mealsOf_44, kS_62, rS_62_0, kH, Hs_63, e', l_no hi, show n < 2147483648 by omega, nI_add, mls, Option.toList_some, List.cons_append, List.nil_append, Nat.reduceLT, cl_tl0, cl_tl1, rfv_some, if_true, if_false, or_true, true_or, eq_self, ite_true, ite_false, and_true, true_and, not_true_eq_false, not_false_eq_true]) n 0 (t, nI 0) h0 (by omega) ⟨DP_0 w, c0⟩
  refine ⟨h', c1.2, fun Q => ?_⟩
  simp only [e_X3_mealsOf, s_X3_mealsOf_0, s_X3_mealsOf_1, s_X3_mealsOf_3, s_X3_mealsOf_4, s_X3_mealsOf_7, s_X3_mealsOf_8, s_X3_mealsOf_11, s_X3_mealsOf_12, s_X3_mealsOf_16, s_X3_mealsOf_17, s_X3_mealsOf_20, s_X3_mealsOf_22, s_X3_mealsOf_23, s_X3_mealsOf_26, s_X3_mealsOf_29, s_X3_mealsOf_30, s_X3_mealsOf_31, s_X3_mealsOf_32, s_X3_mealsOf_33, s_X3_mealsOf_34, s_X3_mealsOf_36, s_X3_mealsOf_39, s_X3_mealsOf_42, s_X3_mealsOf_44, kS_62, rS_62_0, kH, Hs_63, e0, e1, Option.toList_none, List.nil_append, cl_tl0, cl_tl1, rfv_some, if_true, if_false, or_true, true_or, eq_self, ite_true, ite_false, and_true, true_and, not_true_eq_false, not_false_eq_true]
  rw [s_X3_mealsOf_14]
  simp only [s_X3_mealsOf_0, s_X3_mealsOf_1, s_X3_mealsOf_3, s_X3_mealsOf_4, s_X3_mealsOf_7, s_X3_mealsOf_8, s_X3_mealsOf_11, s_X3_mealsOf_12, s_X3_mealsOf_16, s_X3_mealsOf_17, s_X3_mealsOf_20, s_X3_mealsOf_22, s_X3_mealsOf_23, s_X3_mealsOf_26, s_X3_mealsOf_29, s_X3_mealsOf_30, s_X3_mealsOf_31, s_X3_mealsOf_32, s_X3_mealsOf_33, s_X3_mealsOf_34, s_X3_mealsOf_36, s_X3_mealsOf_39, s_X3_mealsOf_42, s_X3_mealsOf_44, kS_62, rS_62_0, kH, Hs_63, l_ye, show n < 2147483648 by omega, cl_tl0, cl_tl1, rfv_some, if_true, if_false, or_true, true_or, eq_self, ite_true, ite_false, and_true, true_and, not_true_eq_false, not_false_eq_true]
/-- starving -/
def stv (k : Nat) (i : Nat) (u : Nat → Nat) : (Nat → Nat) ⊕ Nat := if u (9 + k) = 20 then .inr i else .inl (dayT u)
def rw' : (Nat → Nat) ⊕ Nat → Int32
  | .inl _ => -1000000
  | .inr k => nI k
theorem stv_t {k i : Nat} {u : Nat → Nat} (z : u (9 + k) = 20) : stv k i u = .inr i := if_pos z
theorem stv_f {k i : Nat} {u : Nat → Nat} (z : ¬ u (9 + k) = 20) : stv k i u = .inl (dayT u) := if_neg z
theorem p_daysToStarving {d L k : Nat} {t : Nat → Nat} {h : mMem} (c : CR h 27 t) (w : Wf t) (hd : t 2 ≤ 999) (hk : k < t 0) : Sp (d + 5) M_X3_daysToStarving [.ref 62, .ref 27, .int (nI k)] L h (some (.int (rw' (itx (stv k) 61 0 t)))) (Fr (hs 63) h) := by
  have h1 := w.1
  obtain ⟨h0, c0, e0⟩ := p_become (d := d + 3) (L := L) (o := 63) (p := 27) Hs_63 Hs_27 (by decide) c w
  have e1 := lpx (N := 61) (f := stv k) (I := fun i u g => DP t i u ∧ Hc 63 u h g) (J := fun (_ : Nat) g => Fr (hs 63) h g) (W := fun i u g Q => Wp (d + 4) M_X3_daysToStarving none 10 [.ref 62, .ref 27, .int (nI k), .int (nI i)] [] (S0 L, g) Q) (X := fun b g Q => Q (some (.int (nI b))) (S0 L, g)) (by
    rintro i u g hi ⟨p, cu⟩
    have p2 := p.2.2.2
    have p0 := p.2.1
    have b9 := (p.1.2.2.1 k (by omega)).2
    have r9 := CR_9 cu.1 p.1 (k := k) (by omega)
    have l1 : (nI 60 < nI i) = False := by rw [f_lt (by omega) (by omega)]; exact eq_false (by omega)
    have l2 : (nI (u (9 + k)) = nI 20) = (u (9 + k) = 20) := f_eq (by omega) (by omega)
    by_cases z : u (9 + k) = 20
    · rw [stv_t z]
      refine ⟨g, cu.2, fun Q => ?_⟩
      rw [s_X3_daysToStarving_10]
      simp only [s_X3_daysToStarving_0, s_X3_daysToStarving_1, s_X3_daysToStarving_4, s_X3_daysToStarving_5, s_X3_daysToStarving_8, s_X3_daysToStarving_9, s_X3_daysToStarving_11, s_X3_daysToStarving_13, s_X3_daysToStarving_16, s_X3_daysToStarving_17, s_X3_daysToStarving_20, s_X3_daysToStarving_23, s_X3_daysToStarving_24, s_X3_daysToStarving_25, s_X3_daysToStarving_27, s_X3_daysToStarving_30, s_X3_daysToStarving_31, s_X3_daysToStarving_32, s_X3_daysToStarving_33, s_X3_daysToStarving_36, s_X3_daysToStarving_39, s_X3_daysToStarving_40, s_X3_daysToStarving_43, s_X3_daysToStarving_46, s_X3_daysToStarving_48, kS_62, rS_62_0, kH, rH1, rH2, rH4, rH5, rH6, rH7, rH8, kH_1, kH_2, kH_3, kH_4, kH_5, kH_6, kH_7, lH_1, lH_2, lH_3, lH_4, lH_5, lH_6, lH_7, Hs_63, show k < 5 by omega, r9, l1, l2, eq_true z, Nat.reduceAdd, Nat.reduceLT, cl_tl0, cl_tl1, rfv_some, if_true, if_false, or_true, true_or, eq_self, ite_true, ite_false, and_true, true_and, not_true_eq_false, not_false_eq_true]
    · rw [stv_f z]
      obtain ⟨g', c', e'⟩ := p_passDay (d := d) (L := L) Hs_63 cu.1 p.1 (by omega)
      refine ⟨g', ⟨DP_s p, Hc_t cu c'⟩, fun Q => ?_⟩
      rw [s_X3_daysToStarving_10]
      simp only [s_X3_daysToStarving_0, s_X3_daysToStarving_1, s_X3_daysToStarving_4, s_X3_daysToStarving_5, s_X3_daysToStarving_8, s_X3_daysToStarving_9, s_X3_daysToStarving_11, s_X3_daysToStarving_13, s_X3_daysToStarving_16, s_X3_daysToStarving_17, s_X3_daysToStarving_20, s_X3_daysToStarving_23, s_X3_daysToStarving_24, s_X3_daysToStarving_25, s_X3_daysToStarving_27, s_X3_daysToStarving_30, s_X3_daysToStarving_31, s_X3_daysToStarving_32, s_X3_daysToStarving_33, s_X3_daysToStarving_36, s_X3_daysToStarving_39, s_X3_daysToStarving_40, s_X3_daysToStarving_43, s_X3_daysToStarving_46, s_X3_daysToStarving_48, kS_62, rS_62_0, kH, rH1, rH2, rH4, rH5, rH6, rH7, rH8, kH_1, kH_2, kH_3, kH_4, kH_5, kH_6, kH_7, lH_1, lH_2, lH_3, lH_4, lH_5, lH_6, lH_7, Hs_63, show k < 5 by omega, r9, l1, l2, eq_false z, e', nI_add, Option.toList_some, List.cons_append, List.nil_append, Nat.reduceAdd, Nat.reduceLT, cl_tl0, cl_tl1, rfv_some, if_true, if_false, or_true, true_or, eq_self, ite_true, ite_false, and_true, true_and, not_true_eq_false, not_false_eq_true]) 61 0 t h0 (by omega) ⟨DP_0 w, c0⟩
  cases e : itx (stv k) 61 0 t with
  | inl x =>
    rw [e] at e1
    obtain ⟨g, ⟨-, c1⟩, e1⟩ := e1
    refine ⟨g, c1.2, fun Q => ?_⟩
    simp only [e_X3_daysToStarving, s_X3_daysToStarving_0, s_X3_daysToStarving_1, s_X3_daysToStarving_4, s_X3_daysToStarving_5, s_X3_daysToStarving_8, s_X3_daysToStarving_9, s_X3_daysToStarving_11, s_X3_daysToStarving_13, s_X3_daysToStarving_16, s_X3_daysToStarving_17, s_X3_daysToStarving_20, s_X3_daysToStarving_23, s_X3_daysToStarving_24, s_X3_daysToStarving_25, s_X3_daysToStarving_27, s_X3_daysToStarving_30, s_X3_daysToStarving_31, s_X3_daysToStarving_32, s_X3_daysToStarving_33, s_X3_daysToStarving_36, s_X3_daysToStarving_39, s_X3_daysToStarving_40, s_X3_daysToStarving_43, s_X3_daysToStarving_46, s_X3_daysToStarving_48, kS_62, rS_62_0, kH, Hs_63, e0, e1, Option.toList_none, List.nil_append, cl_tl0, cl_tl1, rfv_some, if_true, if_false, or_true, true_or, eq_self, ite_true, ite_false, and_true, true_and, not_true_eq_false, not_false_eq_true]
    rw [s_X3_daysToStarving_10]
    simp +decide only [s_X3_daysToStarving_0, s_X3_daysToStarving_1, s_X3_daysToStarving_4, s_X3_daysToStarving_5, s_X3_daysToStarving_8, s_X3_daysToStarving_9, s_X3_daysToStarving_11, s_X3_daysToStarving_13, s_X3_daysToStarving_16, s_X3_daysToStarving_17, s_X3_daysToStarving_20, s_X3_daysToStarving_23, s_X3_daysToStarving_24, s_X3_daysToStarving_25, s_X3_daysToStarving_27, s_X3_daysToStarving_30, s_X3_daysToStarving_31, s_X3_daysToStarving_32, s_X3_daysToStarving_33, s_X3_daysToStarving_36, s_X3_daysToStarving_39, s_X3_daysToStarving_40, s_X3_daysToStarving_43, s_X3_daysToStarving_46, s_X3_daysToStarving_48, f_lt, rw', Nat.reduceLT, cl_tl0, cl_tl1, rfv_some, if_true, if_false, or_true, true_or, eq_self, ite_true, ite_false, and_true, true_and, not_true_eq_false, not_false_eq_true]
  | inr x =>
    rw [e] at e1
    obtain ⟨g, c1, e1⟩ := e1
    refine ⟨g, c1, fun Q => ?_⟩
    simp only [e_X3_daysToStarving, s_X3_daysToStarving_0, s_X3_daysToStarving_1, s_X3_daysToStarving_4, s_X3_daysToStarving_5, s_X3_daysToStarving_8, s_X3_daysToStarving_9, s_X3_daysToStarving_11, s_X3_daysToStarving_13, s_X3_daysToStarving_16, s_X3_daysToStarving_17, s_X3_daysToStarving_20, s_X3_daysToStarving_23, s_X3_daysToStarving_24, s_X3_daysToStarving_25, s_X3_daysToStarving_27, s_X3_daysToStarving_30, s_X3_daysToStarving_31, s_X3_daysToStarving_32, s_X3_daysToStarving_33, s_X3_daysToStarving_36, s_X3_daysToStarving_39, s_X3_daysToStarving_40, s_X3_daysToStarving_43, s_X3_daysToStarving_46, s_X3_daysToStarving_48, kS_62, rS_62_0, kH, Hs_63, e0, e1, rw', Option.toList_none, List.nil_append, cl_tl0, cl_tl1, rfv_some, if_true, if_false, or_true, true_or, eq_self, ite_true, ite_false, and_true, true_and, not_true_eq_false, not_false_eq_true]
/-- the cheapest day -/
def chp (r : Nat) (i : Nat) (p : (Nat → Nat) × Nat × Nat) : (Nat → Nat) × Nat × Nat := (dayT p.1, if prc (dayT p.1) r < p.2.2 then (i, prc (dayT p.1) r) else p.2)
theorem p_cheapest {d L r n x : Nat} {t : Nat → Nat} {h : mMem} (c : CR h 27 t) (w : Wf t) (hd : t 2 ≤ 999) (hr : r < t 1) (hn : n ≤ 60) (hx : x < 2) : Sp (d + 5) M_X3_cheapest [.ref 62, .ref 27, .int (nI r), .int (nI n), .int (nI x)] L h (some (.int (if x = 0 then nI (itr (chp r) n 1 (t, 0, prc t r)).2.1 else nI (itr (chp r) n 1 (t, 0, prc t r)).2.2))) (Fr (hs 63) h) := by
  obtain ⟨h0, c0, e0⟩ := p_become (d := d + 3) (L := L) (o := 63) (p := 27) Hs_63 Hs_27 (by decide) c w
  have w0 := fun Q => p_priceOf (d := d + 1) (L := L) (Q := Q) Hs_63 c0.1 w (by omega) hr
  obtain ⟨h', u', ⟨-, c1, -⟩, e1⟩ := lpj (N := n + 1) (f := chp r) (I := fun i u g => (∃ j, i = j + 1 ∧ DP t j u.1) ∧ Hc 63 u.1 h g ∧ u.2.2 ≤ 181) (W := fun i u (v : Value) g Q => Wp (d + 4) M_X3_cheapest none 24 [.ref 62, .ref 27, .int (nI r), .int (nI n), .int (nI x), .int (nI u.2.1), .int (nI u.2.2), .int (nI i), v] [] (S0 L, g) Q) (by
    rintro i u v g hi ⟨⟨j, rfl, p⟩, cu, hm⟩
    have p2 := p.2.2.2
    obtain ⟨g', c', e'⟩ := p_passDay (d := d) (L := L) Hs_63 cu.1 p.1 (by omega)
    have p' := DP_s p
    have p2' := p'.2.2.2
    have p1' := p'.2.2.1
    have hp := prc_l p'.1 (r := r) (by omega)
    have w1 := fun Q => p_priceOf (d := d + 1) (L := L) (Q := Q) Hs_63 c'.1 p'.1 (by omega) (show r < dayT u.1 1 by omega)
    have l1 : (nI n < nI (j + 1)) = False := by rw [f_lt (by omega) (by omega)]; exact eq_false (by omega)
    have l2 : (nI u.2.2 ≤ nI (prc (dayT u.1) r)) = (u.2.2 ≤ prc (dayT u.1) r) := f_le (by omega) (by omega)
    by_cases z : prc (dayT u.1) r < u.2.2
    · have ef : chp r (j + 1) u = (dayT u.1, j + 1, prc (dayT u.1) r) := by unfold chp; rw [if_pos z]
      rw [ef]
      refine ⟨g', .int (nI (prc (dayT u.1) r)), ⟨⟨j + 1, rfl, p'⟩, Hc_t cu c', hp⟩, fun Q => ?_⟩
      rw [s_X3_cheapest_24]
      change ∀ Q, WP _ _ _ _ Q = Q (some (.int (nI (prc (dayT u.1) r)))) _ at w1
      simp only [s_X3_cheapest_0, s_X3_cheapest_1, s_X3_cheapest_4, s_X3_cheapest_5, s_X3_cheapest_8, s_X3_cheapest_9, s_X3_cheapest_11, s_X3_cheapest_12, s_X3_cheapest_15, s_X3_cheapest_16, s_X3_cheapest_19, s_X3_cheapest_21, s_X3_cheapest_22, s_X3_cheapest_26, s_X3_cheapest_27, s_X3_cheapest_30, s_X3_cheapest_31, s_X3_cheapest_34, s_X3_cheapest_37, s_X3_cheapest_38, s_X3_cheapest_39, s_X3_cheapest_42, s_X3_cheapest_43, s_X3_cheapest_46, s_X3_cheapest_48, s_X3_cheapest_50, s_X3_cheapest_52, s_X3_cheapest_55, s_X3_cheapest_57, s_X3_cheapest_59, s_X3_cheapest_61, s_X3_cheapest_63, s_X3_cheapest_66, s_X3_cheapest_69, s_X3_cheapest_71, s_X3_cheapest_74, s_X3_cheapest_76, s_X3_cheapest_79, s_X3_cheapest_81, kS_62, rS_62_0, kH, Hs_63, e', w1, l1, l2, eq_false (show ¬ (u.2.2 ≤ prc (dayT u.1) r) by omega), nI_add, Option.toList_some, List.cons_append, List.nil_append, Nat.reduceLT, cl_tl0, cl_tl1, rfv_some, if_true, if_false, or_true, true_or, eq_self, ite_true, ite_false, and_true, true_and, not_true_eq_false, not_false_eq_true]
    · have ef : chp r (j + 1) u = (dayT u.1, u.2) := by unfold chp; rw [if_neg z]
      rw [ef]
      refine ⟨g', .int (nI (prc (dayT u.1) r)), ⟨⟨j + 1, rfl, p'⟩, Hc_t cu c', hm⟩, fun Q => ?_⟩
      rw [s_X3_cheapest_24]
      change ∀ Q, WP _ _ _ _ Q = Q (some (.int (nI (prc (dayT u.1) r)))) _ at w1
      simp only [s_X3_cheapest_0, s_X3_cheapest_1, s_X3_cheapest_4, s_X3_cheapest_5, s_X3_cheapest_8, s_X3_cheapest_9, s_X3_cheapest_11, s_X3_cheapest_12, s_X3_cheapest_15, s_X3_cheapest_16, s_X3_cheapest_19, s_X3_cheapest_21, s_X3_cheapest_22, s_X3_cheapest_26, s_X3_cheapest_27, s_X3_cheapest_30, s_X3_cheapest_31, s_X3_cheapest_34, s_X3_cheapest_37, s_X3_cheapest_38, s_X3_cheapest_39, s_X3_cheapest_42, s_X3_cheapest_43, s_X3_cheapest_46, s_X3_cheapest_48, s_X3_cheapest_50, s_X3_cheapest_52, s_X3_cheapest_55, s_X3_cheapest_57, s_X3_cheapest_59, s_X3_cheapest_61, s_X3_cheapest_63, s_X3_cheapest_66, s_X3_cheapest_69, s_X3_cheapest_71, s_X3_cheapest_74, s_X3_cheapest_76, s_X3_cheapest_79, s_X3_cheapest_81, kS_62, rS_62_0, kH, Hs_63, e', w1, l1, l2, eq_true (show (u.2.2 ≤ prc (dayT u.1) r) by omega), nI_add, Option.toList_some, List.cons_append, List.nil_append, Nat.reduceLT, cl_tl0, cl_tl1, rfv_some, if_true, if_false, or_true, true_or, eq_self, ite_true, ite_false, and_true, true_and, not_true_eq_false, not_false_eq_true]) n 1 (t, 0, prc t r) jnk h0 (by omega) ⟨⟨0, rfl, DP_0 w⟩, c0, prc_l w hr⟩
  refine ⟨h', c1.2, fun Q => ?_⟩
  change ∀ Q, WP _ _ _ _ Q = Q (some (.int (nI (prc t r)))) _ at w0
  have l3 : (nI n < nI (n + 1)) = True := by rw [f_lt (by omega) (by omega)]; exact eq_true (by omega)
  simp only [e_X3_cheapest, s_X3_cheapest_0, s_X3_cheapest_1, s_X3_cheapest_4, s_X3_cheapest_5, s_X3_cheapest_8, s_X3_cheapest_9, s_X3_cheapest_11, s_X3_cheapest_12, s_X3_cheapest_15, s_X3_cheapest_16, s_X3_cheapest_19, s_X3_cheapest_21, s_X3_cheapest_22, s_X3_cheapest_26, s_X3_cheapest_27, s_X3_cheapest_30, s_X3_cheapest_31, s_X3_cheapest_34, s_X3_cheapest_37, s_X3_cheapest_38, s_X3_cheapest_39, s_X3_cheapest_42, s_X3_cheapest_43, s_X3_cheapest_46, s_X3_cheapest_48, s_X3_cheapest_50, s_X3_cheapest_52, s_X3_cheapest_55, s_X3_cheapest_57, s_X3_cheapest_59, s_X3_cheapest_61, s_X3_cheapest_63, s_X3_cheapest_66, s_X3_cheapest_69, s_X3_cheapest_71, s_X3_cheapest_74, s_X3_cheapest_76, s_X3_cheapest_79, s_X3_cheapest_81, kS_62, rS_62_0, kH, Hs_63, e0, w0, e1, Option.toList_some, Option.toList_none, List.cons_append, List.nil_append, cl_tl0, cl_tl1, rfv_some, if_true, if_false, or_true, true_or, eq_self, ite_true, ite_false, and_true, true_and, not_true_eq_false, not_false_eq_true]
  rw [s_X3_cheapest_24]
  rcases (show x = 0 ∨ x = 1 by omega) with rfl | rfl
  · simp +decide only [s_X3_cheapest_0, s_X3_cheapest_1, s_X3_cheapest_4, s_X3_cheapest_5, s_X3_cheapest_8, s_X3_cheapest_9, s_X3_cheapest_11, s_X3_cheapest_12, s_X3_cheapest_15, s_X3_cheapest_16, s_X3_cheapest_19, s_X3_cheapest_21, s_X3_cheapest_22, s_X3_cheapest_26, s_X3_cheapest_27, s_X3_cheapest_30, s_X3_cheapest_31, s_X3_cheapest_34, s_X3_cheapest_37, s_X3_cheapest_38, s_X3_cheapest_39, s_X3_cheapest_42, s_X3_cheapest_43, s_X3_cheapest_46, s_X3_cheapest_48, s_X3_cheapest_50, s_X3_cheapest_52, s_X3_cheapest_55, s_X3_cheapest_57, s_X3_cheapest_59, s_X3_cheapest_61, s_X3_cheapest_63, s_X3_cheapest_66, s_X3_cheapest_69, s_X3_cheapest_71, s_X3_cheapest_74, s_X3_cheapest_76, s_X3_cheapest_79, s_X3_cheapest_81, l3, z_0, cl_tl0, cl_tl1, rfv_some, if_true, if_false, or_true, true_or, eq_self, ite_true, ite_false, and_true, true_and, not_true_eq_false, not_false_eq_true]
  · simp +decide only [s_X3_cheapest_0, s_X3_cheapest_1, s_X3_cheapest_4, s_X3_cheapest_5, s_X3_cheapest_8, s_X3_cheapest_9, s_X3_cheapest_11, s_X3_cheapest_12, s_X3_cheapest_15, s_X3_cheapest_16, s_X3_cheapest_19, s_X3_cheapest_21, s_X3_cheapest_22, s_X3_cheapest_26, s_X3_cheapest_27, s_X3_cheapest_30, s_X3_cheapest_31, s_X3_cheapest_34, s_X3_cheapest_37, s_X3_cheapest_38, s_X3_cheapest_39, s_X3_cheapest_42, s_X3_cheapest_43, s_X3_cheapest_46, s_X3_cheapest_48, s_X3_cheapest_50, s_X3_cheapest_52, s_X3_cheapest_55, s_X3_cheapest_57, s_X3_cheapest_59, s_X3_cheapest_61, s_X3_cheapest_63, s_X3_cheapest_66, s_X3_cheapest_69, s_X3_cheapest_71, s_X3_cheapest_74, s_X3_cheapest_76, s_X3_cheapest_79, s_X3_cheapest_81, l3, z_1, cl_tl0, cl_tl1, rfv_some, if_true, if_false, or_true, true_or, eq_self, ite_true, ite_false, and_true, true_and, not_true_eq_false, not_false_eq_true]
