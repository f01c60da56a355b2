/-! ===== pure: Foresight: sales that fit, drawn years ===== -/
def aat (it : Nat → Int32) (t : Nat → Nat) : Nat → Nat → Bool
  | 0, _ => true
  | n + 1, i => decide (nI (t (4 + i)) = it i) && aat it t n (i + 1)
theorem p_haveAll {d L a s : Nat} {t : Nat → Nat} {it : Nat → Int32} {h : mMem} {Q : mQ} (c : CR h 63 t) (w : Wf t) (ka : kd (S0 L) a = 0) (la : ln (S0 L) a = 40) (hsn : s + t 0 ≤ 40) (hit : ∀ i, i < t 0 → h a (s + i) = it i) : WP (d + 1) M_X3_haveAllAsTold [.ref 62, .ref a, .int (nI s)] (S0 L, h) Q = Q (some (.int (bI (aat it t (t 0) 0)))) (S0 L, h) := by
  have h1 := w.1
  have e1 : ∀ m i, i + m = t 0 → ∀ Q, Wp d M_X3_haveAllAsTold none 2 [.ref 62, .ref a, .int (nI s), .int (nI i)] [] (S0 L, h) Q = Q (some (.int (bI (aat it t m i)))) (S0 L, h) := by
    intro m
    induction m with
    | zero =>
      intro i hi Q
      obtain rfl : i = t 0 := by omega
      rw [s_X3_haveAllAsTold_2]
      simp only [s_X3_haveAllAsTold_0, s_X3_haveAllAsTold_1, s_X3_haveAllAsTold_3, s_X3_haveAllAsTold_4, s_X3_haveAllAsTold_7, s_X3_haveAllAsTold_10, s_X3_haveAllAsTold_13, s_X3_haveAllAsTold_14, s_X3_haveAllAsTold_17, s_X3_haveAllAsTold_20, s_X3_haveAllAsTold_21, s_X3_haveAllAsTold_22, s_X3_haveAllAsTold_23, s_X3_haveAllAsTold_24, s_X3_haveAllAsTold_25, s_X3_haveAllAsTold_26, s_X3_haveAllAsTold_27, s_X3_haveAllAsTold_30, s_X3_haveAllAsTold_31, s_X3_haveAllAsTold_32, s_X3_haveAllAsTold_35, s_X3_haveAllAsTold_38, s_X3_haveAllAsTold_39, kS_62, rS_62_0, kH, rH1, rH2, rH4, rH5, rH6, rH7, rH8, kH_1, kH_2, kH_3, kH_4, kH_5, kH_6, kH_7, lH_1, lH_2, lH_3, lH_4, lH_5, lH_6, lH_7, Hs_63, CR_0 c, l_ye, show t 0 < 2147483648 by omega, aat, bI_t, n01_1, cl_tl0, cl_tl1, rfv_some, if_true, if_false, or_true, true_or, eq_self, ite_true, ite_false, and_true, true_and, not_true_eq_false, not_false_eq_true]
    | succ m ih =>
      intro i hi Q
      have r4 := CR_4 c w (k := i) (by omega)
      have ri := hit i (by omega)
      rw [s_X3_haveAllAsTold_2, aat]
      by_cases z : nI (t (4 + i)) = it i
      · rw [decide_eq_true z, Bool.true_and]
        simp only [s_X3_haveAllAsTold_0, s_X3_haveAllAsTold_1, s_X3_haveAllAsTold_3, s_X3_haveAllAsTold_4, s_X3_haveAllAsTold_7, s_X3_haveAllAsTold_10, s_X3_haveAllAsTold_13, s_X3_haveAllAsTold_14, s_X3_haveAllAsTold_17, s_X3_haveAllAsTold_20, s_X3_haveAllAsTold_21, s_X3_haveAllAsTold_22, s_X3_haveAllAsTold_23, s_X3_haveAllAsTold_24, s_X3_haveAllAsTold_25, s_X3_haveAllAsTold_26, s_X3_haveAllAsTold_27, s_X3_haveAllAsTold_30, s_X3_haveAllAsTold_31, s_X3_haveAllAsTold_32, s_X3_haveAllAsTold_35, s_X3_haveAllAsTold_38, s_X3_haveAllAsTold_39, kS_62, rS_62_0, kH, rH1, rH2, rH4, rH5, rH6, rH7, rH8, kH_1, kH_2, kH_3, kH_4, kH_5, kH_6, kH_7, lH_1, lH_2, lH_3, lH_4, lH_5, lH_6, lH_7, Hs_63, show i < 5 by omega, ka, la, show s + i < 40 by omega, CR_0 c, r4, ri, eq_true z, l_no (show i < t 0 by omega), show t 0 < 2147483648 by omega, nI_add, ih (i + 1) (by omega), Nat.reduceAdd, Nat.reduceLT, cl_tl0, cl_tl1, rfv_some, if_true, if_false, or_true, true_or, eq_self, ite_true, ite_false, and_true, true_and, not_true_eq_false, not_false_eq_true]
      · rw [decide_eq_false z, Bool.false_and]
        simp only [s_X3_haveAllAsTold_0, s_X3_haveAllAsTold_1, s_X3_haveAllAsTold_3, s_X3_haveAllAsTold_4, s_X3_haveAllAsTold_7, s_X3_haveAllAsTold_10, s_X3_haveAllAsTold_13, s_X3_haveAllAsTold_14, s_X3_haveAllAsTold_17, s_X3_haveAllAsTold_20, s_X3_haveAllAsTold_21, s_X3_haveAllAsTold_22, s_X3_haveAllAsTold_23, s_X3_haveAllAsTold_24, s_X3_haveAllAsTold_25, s_X3_haveAllAsTold_26, s_X3_haveAllAsTold_27, s_X3_haveAllAsTold_30, s_X3_haveAllAsTold_31, s_X3_haveAllAsTold_32, s_X3_haveAllAsTold_35, s_X3_haveAllAsTold_38, s_X3_haveAllAsTold_39, kS_62, rS_62_0, kH, rH1, rH2, rH4, rH5, rH6, rH7, rH8, kH_1, kH_2, kH_3, kH_4, kH_5, kH_6, kH_7, lH_1, lH_2, lH_3, lH_4, lH_5, lH_6, lH_7, Hs_63, show i < 5 by omega, ka, la, show s + i < 40 by omega, CR_0 c, r4, ri, eq_false z, l_no (show i < t 0 by omega), show t 0 < 2147483648 by omega, nI_add, bI_f, n01_0, Nat.reduceAdd, Nat.reduceLT, cl_tl0, cl_tl1, rfv_some, if_true, if_false, or_true, true_or, eq_self, ite_true, ite_false, and_true, true_and, not_true_eq_false, not_false_eq_true]
  simp only [e_X3_haveAllAsTold, s_X3_haveAllAsTold_0, s_X3_haveAllAsTold_1, s_X3_haveAllAsTold_3, s_X3_haveAllAsTold_4, s_X3_haveAllAsTold_7, s_X3_haveAllAsTold_10, s_X3_haveAllAsTold_13, s_X3_haveAllAsTold_14, s_X3_haveAllAsTold_17, s_X3_haveAllAsTold_20, s_X3_haveAllAsTold_21, s_X3_haveAllAsTold_22, s_X3_haveAllAsTold_23, s_X3_haveAllAsTold_24, s_X3_haveAllAsTold_25, s_X3_haveAllAsTold_26, s_X3_haveAllAsTold_27, s_X3_haveAllAsTold_30, s_X3_haveAllAsTold_31, s_X3_haveAllAsTold_32, s_X3_haveAllAsTold_35, s_X3_haveAllAsTold_38, s_X3_haveAllAsTold_39, e1 (t 0) 0 (by omega), cl_tl0, cl_tl1, rfv_some, if_true, if_false, or_true, true_or, eq_self, ite_true, ite_false, and_true, true_and, not_true_eq_false, not_false_eq_true]
/-- a sale that leaves all as told -/
def ftN (it : Nat → Int32) (t : Nat → Nat) (r k n : Nat) : Bool := cB t r k n && aat it (trd t r k n) (t 0) 0
def fts (it : Nat → Int32) (t : Nat → Nat) (r k : Nat) : Bool := if nI (t (4 + k)) - it k < nI 1 then false else ftN it t r k (nI (t (4 + k)) - it k).toNatClampNeg
theorem nI_clm1 {x : Int32} (h : ¬ x < nI 1) : ∃ n, 1 ≤ n ∧ n < 2147483648 ∧ x = nI n ∧ x.toNatClampNeg = n := by
  have h0 : ¬ x < 0 := by
    intro h2
    apply h
    have e1 := Int32.lt_iff_toInt_lt.mp h2
    apply Int32.lt_iff_toInt_lt.mpr
    have e3 : (0 : Int32).toInt = 0 := rfl
    rw [nI_toInt (by omega)]
    omega
  obtain ⟨n, hn, rfl⟩ := nI_of h0
  refine ⟨n, ?_, hn, rfl, ?_⟩
  · rcases Nat.eq_zero_or_pos n with rfl | h1
    · exact absurd (by decide) h
    · exact h1
  · unfold Int32.toNatClampNeg
    rw [nI_toInt (by omega)]
    rfl
theorem cB_n {t : Nat → Nat} {r k n : Nat} (h : cB t r k n = true) : n ≤ t (4 + k) ∧ k ≠ t (35 + r) := by
  unfold cB at h
  simp at h
  exact ⟨h.1.1.2, h.1.1.1.1⟩
theorem p_fitsSale {d L a s r k : Nat} {t : Nat → Nat} {it : Nat → Int32} {h : mMem} (c : CR h 27 t) (w : Wf t) (hd : t 2 ≤ 999) (hr : r < t 1) (hk : k < t 0) (ka : kd (S0 L) a = 0) (la : ln (S0 L) a = 40) (hsn : s + t 0 ≤ 40) (ha : a < 63) (hit : ∀ i, i < t 0 → h a (s + i) = it i) : Sp (d + 4) M_X3_fitsSale [.ref 62, .ref 27, .int (nI r), .int (nI k), .ref a, .int (nI s)] L h (some (.int (bI (fts it t r k)))) (Fr (hs 63) h) := by
  have h1 := w.1
  have hk5 : k < 5 := by omega
  have r4 := CR_4 c w hk
  have ri := hit k hk
  simp only [Nat.reduceAdd] at r4
  unfold fts
  by_cases z : nI (t (4 + k)) - it k < nI 1
  · rw [if_pos z]
    refine ⟨h, Fr_r, fun Q => ?_⟩
    simp only [e_X3_fitsSale, s_X3_fitsSale_0, s_X3_fitsSale_1, s_X3_fitsSale_4, s_X3_fitsSale_5, s_X3_fitsSale_6, s_X3_fitsSale_8, s_X3_fitsSale_10, s_X3_fitsSale_11, s_X3_fitsSale_12, s_X3_fitsSale_13, s_X3_fitsSale_14, s_X3_fitsSale_16, s_X3_fitsSale_18, s_X3_fitsSale_19, s_X3_fitsSale_22, s_X3_fitsSale_23, s_X3_fitsSale_24, s_X3_fitsSale_25, s_X3_fitsSale_27, s_X3_fitsSale_30, s_X3_fitsSale_33, s_X3_fitsSale_34, s_X3_fitsSale_35, s_X3_fitsSale_36, s_X3_fitsSale_39, s_X3_fitsSale_40, s_X3_fitsSale_43, s_X3_fitsSale_44, s_X3_fitsSale_47, s_X3_fitsSale_48, s_X3_fitsSale_49, s_X3_fitsSale_51, s_X3_fitsSale_54, s_X3_fitsSale_55, s_X3_fitsSale_57, s_X3_fitsSale_59, s_X3_fitsSale_62, kH, rH1, rH2, rH4, rH5, rH6, rH7, rH8, kH_1, kH_2, kH_3, kH_4, kH_5, kH_6, kH_7, lH_1, lH_2, lH_3, lH_4, lH_5, lH_6, lH_7, Hs_27, hk5, ka, la, show s + k < 40 by omega, r4, ri, eq_true z, nI_add, bI_f, n01_0, Nat.reduceAdd, Nat.reduceLT, cl_tl0, cl_tl1, rfv_some, if_true, if_false, or_true, true_or, eq_self, ite_true, ite_false, and_true, true_and, not_true_eq_false, not_false_eq_true]
  · rw [if_neg z]
    obtain ⟨n, hn1, hn2, en, ec⟩ := nI_clm1 z
    rw [ec]
    rw [en] at z
    have w1 := fun Q => p_canBuy (d := d) (L := L) (n := n) (Q := Q) Hs_27 c w (by omega) hr hk hn2
    unfold ftN
    cases b : cB t r k n
    · refine ⟨h, Fr_r, fun Q => ?_⟩
      rw [b] at w1
      simp only [e_X3_fitsSale, s_X3_fitsSale_0, s_X3_fitsSale_1, s_X3_fitsSale_4, s_X3_fitsSale_5, s_X3_fitsSale_6, s_X3_fitsSale_8, s_X3_fitsSale_10, s_X3_fitsSale_11, s_X3_fitsSale_12, s_X3_fitsSale_13, s_X3_fitsSale_14, s_X3_fitsSale_16, s_X3_fitsSale_18, s_X3_fitsSale_19, s_X3_fitsSale_22, s_X3_fitsSale_23, s_X3_fitsSale_24, s_X3_fitsSale_25, s_X3_fitsSale_27, s_X3_fitsSale_30, s_X3_fitsSale_33, s_X3_fitsSale_34, s_X3_fitsSale_35, s_X3_fitsSale_36, s_X3_fitsSale_39, s_X3_fitsSale_40, s_X3_fitsSale_43, s_X3_fitsSale_44, s_X3_fitsSale_47, s_X3_fitsSale_48, s_X3_fitsSale_49, s_X3_fitsSale_51, s_X3_fitsSale_54, s_X3_fitsSale_55, s_X3_fitsSale_57, s_X3_fitsSale_59, s_X3_fitsSale_62, kH, rH1, rH2, rH4, rH5, rH6, rH7, rH8, kH_1, kH_2, kH_3, kH_4, kH_5, kH_6, kH_7, lH_1, lH_2, lH_3, lH_4, lH_5, lH_6, lH_7, Hs_27, hk5, ka, la, show s + k < 40 by omega, r4, ri, en, eq_false z, w1, nI_add, bI_f, n01_0, z_0, Bool.false_and, Option.toList_some, List.cons_append, List.nil_append, Nat.reduceAdd, Nat.reduceLT, cl_tl0, cl_tl1, rfv_some, if_true, if_false, or_true, true_or, eq_self, ite_true, ite_false, and_true, true_and, not_true_eq_false, not_false_eq_true]
    · rw [b] at w1
      have hn4 := (cB_n b).1
      obtain ⟨g1, c1, e1⟩ := p_become (d := d + 2) (L := L) (o := 63) (p := 27) Hs_63 Hs_27 (by decide) c w
      obtain ⟨g2, c2, e2⟩ := p_trade (d := d + 1) (L := L) (n := n) Hs_63 c1.1 w hr hk hn4
      obtain ⟨wt, t0, t1, t2, t3⟩ := trd_p w (n := n) hr hk
      have f2 := Fr_t c1.2 c2.2
      have e3 := fun Q => p_haveAll (d := d + 2) (L := L) (a := a) (s := s) (it := it) (Q := Q) c2.1 wt ka la (by omega) (fun i hi => (f2 a _ (by unfold hs; omega)).trans (hit i (by omega)))
      rw [t0] at e3
      refine ⟨g2, f2, fun Q => ?_⟩
      simp only [e_X3_fitsSale, s_X3_fitsSale_0, s_X3_fitsSale_1, s_X3_fitsSale_4, s_X3_fitsSale_5, s_X3_fitsSale_6, s_X3_fitsSale_8, s_X3_fitsSale_10, s_X3_fitsSale_11, s_X3_fitsSale_12, s_X3_fitsSale_13, s_X3_fitsSale_14, s_X3_fitsSale_16, s_X3_fitsSale_18, s_X3_fitsSale_19, s_X3_fitsSale_22, s_X3_fitsSale_23, s_X3_fitsSale_24, s_X3_fitsSale_25, s_X3_fitsSale_27, s_X3_fitsSale_30, s_X3_fitsSale_33, s_X3_fitsSale_34, s_X3_fitsSale_35, s_X3_fitsSale_36, s_X3_fitsSale_39, s_X3_fitsSale_40, s_X3_fitsSale_43, s_X3_fitsSale_44, s_X3_fitsSale_47, s_X3_fitsSale_48, s_X3_fitsSale_49, s_X3_fitsSale_51, s_X3_fitsSale_54, s_X3_fitsSale_55, s_X3_fitsSale_57, s_X3_fitsSale_59, s_X3_fitsSale_62, kS_62, rS_62_0, kH, rH1, rH2, rH4, rH5, rH6, rH7, rH8, kH_1, kH_2, kH_3, kH_4, kH_5, kH_6, kH_7, lH_1, lH_2, lH_3, lH_4, lH_5, lH_6, lH_7, Hs_27, Hs_63, hk5, ka, la, show s + k < 40 by omega, r4, ri, en, eq_false z, w1, e1, e2, e3, nI_add, bI_t, bI_01, z_1, Bool.true_and, Option.toList_none, Option.toList_some, List.cons_append, List.nil_append, Nat.reduceAdd, Nat.reduceLT, cl_tl0, cl_tl1, rfv_some, if_true, if_false, or_true, true_or, eq_self, ite_true, ite_false, and_true, true_and, not_true_eq_false, not_false_eq_true]
/-- drawn years -/
def drw (i : Nat) (p : (Nat → Nat) × Nat) : (Nat → Nat) × Nat := (dayT (if isS p.1 (p.2 * 16807 % 2147483647 % p.1 1) (p.2 * 16807 % 2147483647 % p.1 0) then trd p.1 (p.2 * 16807 % 2147483647 % p.1 1) (p.2 * 16807 % 2147483647 % p.1 0) (prc p.1 (p.2 * 16807 % 2147483647 % p.1 1)) else p.1), p.2 * 16807 % 2147483647)
theorem drw_t {i : Nat} {p : (Nat → Nat) × Nat} {m : Nat} (hm : p.2 * 16807 % 2147483647 = m) (b : isS p.1 (m % p.1 1) (m % p.1 0) = true) : drw i p = (dayT (trd p.1 (m % p.1 1) (m % p.1 0) (prc p.1 (m % p.1 1))), m) := by
  unfold drw
  rw [hm, b]
  rfl
theorem drw_f {i : Nat} {p : (Nat → Nat) × Nat} {m : Nat} (hm : p.2 * 16807 % 2147483647 = m) (b : isS p.1 (m % p.1 1) (m % p.1 0) = false) : drw i p = (dayT p.1, m) := by
  unfold drw
  rw [hm, b]
  rfl
theorem p_drawYears {d L n s : Nat} {t : Nat → Nat} {h : mMem} (c : CR h 27 t) (w : Wf t) (hd : t 2 ≤ 999) (hn : n ≤ 60) (hs' : s < 2147483647) : Sp (d + 5) M_X3_drawYears [.ref 62, .ref 27, .int (nI n), .int (nI s)] L h (some (.int (nI ((itr drw n 0 (t, s)).1 3) - nI (t 3)))) (fun g => Hc 63 (itr drw n 0 (t, s)).1 h g ∧ DP t n (itr drw n 0 (t, s)).1) := by
  have h1 := w.1
  obtain ⟨h0, c0, e0⟩ := p_become (d := d + 3) (L := L) (o := 63) (p := 27) Hs_63 Hs_27 (by decide) c w
  have w0 := fun Q => p_stands (d := d + 3) (L := L) (Q := Q) Hs_63 c0.1 w
  obtain ⟨h', u', ⟨p1, c1, hm1⟩, e1⟩ := lpj (N := n) (f := drw) (I := fun i u g => DP t i u.1 ∧ Hc 63 u.1 h g ∧ u.2 < 2147483647) (W := fun i u (v : Value × Value × Value) g Q => Wp (d + 4) M_X3_drawYears none 37 [.ref 62, .ref 27, .int (nI n), .int (nI s), .long (lN u.2), sec, .int (nI i), v.1, v.2.1, v.2.2] [] (S0 L, g) Q) (by
    rintro i u v g hi ⟨p, cu, hm⟩
    obtain ⟨m, em⟩ : ∃ m, u.2 * 16807 % 2147483647 = m := ⟨_, rfl⟩
    have hml : m < 2147483647 := by omega
    have wu := p.1
    have u0 := wu.1
    have u1 := wu.2.1
    have p2 := p.2.2.2
    have hr : m % u.1 1 < u.1 1 := Nat.mod_lt _ (by omega)
    have hk : m % u.1 0 < u.1 0 := Nat.mod_lt _ (by omega)
    have k1 : lN u.2 * 16807 = lN (u.2 * 16807) := lN_mul u.2 16807
    have k2 : lN (u.2 * 16807) - lN (u.2 * 16807) / 2147483647 * 2147483647 = lN m := by
      rw [← em]
      exact pk_lRem (b := 2147483647) (by omega) (by omega) (by omega)
    have k3 : lN m - lN m / lN (u.1 1) * lN (u.1 1) = lN (m % u.1 1) := pk_lRem (by omega) (by omega) (by omega)
    have k4 : lN m - lN m / lN (u.1 0) * lN (u.1 0) = lN (m % u.1 0) := pk_lRem (by omega) (by omega) (by omega)
    have k5 := nI_l (n := u.1 1) (by omega)
    have k6 := nI_l (n := u.1 0) (by omega)
    have hp := prc_l wu hr
    have w1 := fun Q => p_priceOf (d := d + 1) (L := L) (Q := Q) Hs_63 cu.1 wu (by omega) hr
    change ∀ Q, WP _ _ _ _ Q = Q (some (.int (nI (prc u.1 (m % u.1 1))))) _ at w1
    have w2 := fun Q => p_canBuy (d := d + 1) (L := L) (n := prc u.1 (m % u.1 1)) (Q := Q) Hs_63 cu.1 wu (by omega) hr hk (by omega)
    have z1 : (lN (u.1 1) = 0) = False := eq_false (by
      have := pk_lEQ (a := u.1 1) (b := 0) (by omega) (by omega)
      intro e
      have := this.mp e
      omega)
    have z2 : (lN (u.1 0) = 0) = False := eq_false (by
      have := pk_lEQ (a := u.1 0) (b := 0) (by omega) (by omega)
      intro e
      have := this.mp e
      omega)
    have z3 : ((2147483647 : Int64) = 0) = False := eq_false (by decide)
    cases b : isS u.1 (m % u.1 1) (m % u.1 0)
    · rw [drw_f em b]
      unfold isS at b
      rw [b] at w2
      obtain ⟨g', c', e'⟩ := p_passDay (d := d) (L := L) Hs_63 cu.1 wu (by omega)
      refine ⟨g', (.int (nI (m % u.1 1)), .int (nI (m % u.1 0)), .int (nI (prc u.1 (m % u.1 1)))), ⟨DP_s p, Hc_t cu c', hml⟩, fun Q => ?_⟩
      rw [s_X3_drawYears_37]
      simp only [s_X3_drawYears_0, s_X3_drawYears_1, s_X3_drawYears_4, s_X3_drawYears_5, s_X3_drawYears_8, s_X3_drawYears_9, s_X3_drawYears_12, s_X3_drawYears_15, s_X3_drawYears_18, s_X3_drawYears_19, s_X3_drawYears_22, s_X3_drawYears_25, s_X3_drawYears_28, s_X3_drawYears_29, s_X3_drawYears_30, s_X3_drawYears_31, s_X3_drawYears_32, s_X3_drawYears_34, s_X3_drawYears_35, s_X3_drawYears_39, s_X3_drawYears_40, s_X3_drawYears_43, s_X3_drawYears_45, s_X3_drawYears_48, s_X3_drawYears_49, s_X3_drawYears_52, s_X3_drawYears_53, s_X3_drawYears_55, s_X3_drawYears_57, s_X3_drawYears_58, s_X3_drawYears_61, s_X3_drawYears_64, s_X3_drawYears_65, s_X3_drawYears_66, s_X3_drawYears_67, s_X3_drawYears_69, s_X3_drawYears_71, s_X3_drawYears_72, s_X3_drawYears_75, s_X3_drawYears_78, s_X3_drawYears_79, s_X3_drawYears_80, s_X3_drawYears_81, s_X3_drawYears_83, s_X3_drawYears_84, s_X3_drawYears_87, s_X3_drawYears_89, s_X3_drawYears_92, s_X3_drawYears_94, s_X3_drawYears_95, s_X3_drawYears_98, s_X3_drawYears_100, s_X3_drawYears_102, s_X3_drawYears_104, s_X3_drawYears_107, s_X3_drawYears_110, s_X3_drawYears_111, s_X3_drawYears_114, s_X3_drawYears_116, s_X3_drawYears_118, s_X3_drawYears_120, s_X3_drawYears_123, s_X3_drawYears_124, s_X3_drawYears_127, s_X3_drawYears_130, s_X3_drawYears_131, s_X3_drawYears_134, s_X3_drawYears_137, s_X3_drawYears_138, s_X3_drawYears_141, s_X3_drawYears_144, s_X3_drawYears_145, s_X3_drawYears_148, s_X3_drawYears_149, kS_62, rS_62_0, kH, rH1, rH2, rH4, rH5, rH6, rH7, rH8, kH_1, kH_2, kH_3, kH_4, kH_5, kH_6, kH_7, lH_1, lH_2, lH_3, lH_4, lH_5, lH_6, lH_7, Hs_63, CR_0 cu.1, CR_1 cu.1, k1, k2, k3, k4, k5, k6, lN_i, w1, w2, z1, z2, z3, bI_f, z_0, e', l_no hi, show n < 2147483648 by omega, nI_add, Option.toList_some, List.cons_append, List.nil_append, Nat.reduceAdd, Nat.reduceLT, cl_tl0, cl_tl1, rfv_some, if_true, if_false, or_true, true_or, eq_self, ite_true, ite_false, and_true, true_and, not_true_eq_false, not_false_eq_true]
    · rw [drw_t em b]
      unfold isS at b
      rw [b] at w2
      have hn4 := (cB_n b).1
      obtain ⟨g2, c2, e2⟩ := p_trade (d := d + 2) (L := L) (n := prc u.1 (m % u.1 1)) Hs_63 cu.1 wu hr hk hn4
      obtain ⟨wt, t0, t1, t2, t3⟩ := trd_p wu (n := prc u.1 (m % u.1 1)) hr hk
      have pt : DP t i (trd u.1 (m % u.1 1) (m % u.1 0) (prc u.1 (m % u.1 1))) := ⟨wt, t0.trans p.2.1, t1.trans p.2.2.1, t2.trans p2⟩
      obtain ⟨g', c', e'⟩ := p_passDay (d := d) (L := L) Hs_63 c2.1 wt (by omega)
      refine ⟨g', (.int (nI (m % u.1 1)), .int (nI (m % u.1 0)), .int (nI (prc u.1 (m % u.1 1)))), ⟨DP_s pt, Hc_t cu (Hc_t c2 c'), hml⟩, fun Q => ?_⟩
      rw [s_X3_drawYears_37]
      simp only [s_X3_drawYears_0, s_X3_drawYears_1, s_X3_drawYears_4, s_X3_drawYears_5, s_X3_drawYears_8, s_X3_drawYears_9, s_X3_drawYears_12, s_X3_drawYears_15, s_X3_drawYears_18, s_X3_drawYears_19, s_X3_drawYears_22, s_X3_drawYears_25, s_X3_drawYears_28, s_X3_drawYears_29, s_X3_drawYears_30, s_X3_drawYears_31, s_X3_drawYears_32, s_X3_drawYears_34, s_X3_drawYears_35, s_X3_drawYears_39, s_X3_drawYears_40, s_X3_drawYears_43, s_X3_drawYears_45, s_X3_drawYears_48, s_X3_drawYears_49, s_X3_drawYears_52, s_X3_drawYears_53, s_X3_drawYears_55, s_X3_drawYears_57, s_X3_drawYears_58, s_X3_drawYears_61, s_X3_drawYears_64, s_X3_drawYears_65, s_X3_drawYears_66, s_X3_drawYears_67, s_X3_drawYears_69, s_X3_drawYears_71, s_X3_drawYears_72, s_X3_drawYears_75, s_X3_drawYears_78, s_X3_drawYears_79, s_X3_drawYears_80, s_X3_drawYears_81, s_X3_drawYears_83, s_X3_drawYears_84, s_X3_drawYears_87, s_X3_drawYears_89, s_X3_drawYears_92, s_X3_drawYears_94, s_X3_drawYears_95, s_X3_drawYears_98, s_X3_drawYears_100, s_X3_drawYears_102, s_X3_drawYears_104, s_X3_drawYears_107, s_X3_drawYears_110, s_X3_drawYears_111, s_X3_drawYears_114, s_X3_drawYears_116, s_X3_drawYears_118, s_X3_drawYears_120, s_X3_drawYears_123, s_X3_drawYears_124, s_X3_drawYears_127, s_X3_drawYears_130, s_X3_drawYears_131, s_X3_drawYears_134, s_X3_drawYears_137, s_X3_drawYears_138, s_X3_drawYears_141, s_X3_drawYears_144, s_X3_drawYears_145, s_X3_drawYears_148, s_X3_drawYears_149, kS_62, rS_62_0, kH, rH1, rH2, rH4, rH5, rH6, rH7, rH8, kH_1, kH_2, kH_3, kH_4, kH_5, kH_6, kH_7, lH_1, lH_2, lH_3, lH_4, lH_5, lH_6, lH_7, Hs_63, CR_0 cu.1, CR_1 cu.1, k1, k2, k3, k4, k5, k6, lN_i, w1, w2, z1, z2, z3, bI_t, z_1, e2, e', l_no hi, show n < 2147483648 by omega, nI_add, Option.toList_none, Option.toList_some, List.cons_append, List.nil_append, Nat.reduceAdd, Nat.reduceLT, cl_tl0, cl_tl1, rfv_some, if_true, if_false, or_true, true_or, eq_self, ite_true, ite_false, and_true, true_and, not_true_eq_false, not_false_eq_true]) n 0 (t, s) (jnk, jnk, jnk) h0 (by omega) ⟨DP_0 w, c0, hs'⟩
  refine ⟨h', ⟨c1, p1⟩, fun Q => ?_⟩
  have z0 : (nI (t 0) = (0 : Int32)) = False := eq_false (by rw [f_eq0 (by omega)]; omega)
  have k7 := nI_l (n := s) (by omega)
  have cn : CR h' 27 t := CR_fr c (fun a i h1 h2 => c1.2 a i (by unfold hs; omega))
  simp only [e_X3_drawYears, s_X3_drawYears_0, s_X3_drawYears_1, s_X3_drawYears_4, s_X3_drawYears_5, s_X3_drawYears_8, s_X3_drawYears_9, s_X3_drawYears_12, s_X3_drawYears_15, s_X3_drawYears_18, s_X3_drawYears_19, s_X3_drawYears_22, s_X3_drawYears_25, s_X3_drawYears_28, s_X3_drawYears_29, s_X3_drawYears_30, s_X3_drawYears_31, s_X3_drawYears_32, s_X3_drawYears_34, s_X3_drawYears_35, s_X3_drawYears_39, s_X3_drawYears_40, s_X3_drawYears_43, s_X3_drawYears_45, s_X3_drawYears_48, s_X3_drawYears_49, s_X3_drawYears_52, s_X3_drawYears_53, s_X3_drawYears_55, s_X3_drawYears_57, s_X3_drawYears_58, s_X3_drawYears_61, s_X3_drawYears_64, s_X3_drawYears_65, s_X3_drawYears_66, s_X3_drawYears_67, s_X3_drawYears_69, s_X3_drawYears_71, s_X3_drawYears_72, s_X3_drawYears_75, s_X3_drawYears_78, s_X3_drawYears_79, s_X3_drawYears_80, s_X3_drawYears_81, s_X3_drawYears_83, s_X3_drawYears_84, s_X3_drawYears_87, s_X3_drawYears_89, s_X3_drawYears_92, s_X3_drawYears_94, s_X3_drawYears_95, s_X3_drawYears_98, s_X3_drawYears_100, s_X3_drawYears_102, s_X3_drawYears_104, s_X3_drawYears_107, s_X3_drawYears_110, s_X3_drawYears_111, s_X3_drawYears_114, s_X3_drawYears_116, s_X3_drawYears_118, s_X3_drawYears_120, s_X3_drawYears_123, s_X3_drawYears_124, s_X3_drawYears_127, s_X3_drawYears_130, s_X3_drawYears_131, s_X3_drawYears_134, s_X3_drawYears_137, s_X3_drawYears_138, s_X3_drawYears_141, s_X3_drawYears_144, s_X3_drawYears_145, s_X3_drawYears_148, s_X3_drawYears_149, kS_62, rS_62_0, kH, rH1, rH2, rH4, rH5, rH6, rH7, rH8, kH_1, kH_2, kH_3, kH_4, kH_5, kH_6, kH_7, lH_1, lH_2, lH_3, lH_4, lH_5, lH_6, lH_7, Hs_63, e0, w0, CR_0 c0.1, z_1, z0, k7, Option.toList_none, Option.toList_some, List.cons_append, List.nil_append, cl_tl0, cl_tl1, rfv_some, if_true, if_false, or_true, true_or, eq_self, ite_true, ite_false, and_true, true_and, not_true_eq_false, not_false_eq_true]
  rw [e1, s_X3_drawYears_37]
  simp only [s_X3_drawYears_0, s_X3_drawYears_1, s_X3_drawYears_4, s_X3_drawYears_5, s_X3_drawYears_8, s_X3_drawYears_9, s_X3_drawYears_12, s_X3_drawYears_15, s_X3_drawYears_18, s_X3_drawYears_19, s_X3_drawYears_22, s_X3_drawYears_25, s_X3_drawYears_28, s_X3_drawYears_29, s_X3_drawYears_30, s_X3_drawYears_31, s_X3_drawYears_32, s_X3_drawYears_34, s_X3_drawYears_35, s_X3_drawYears_39, s_X3_drawYears_40, s_X3_drawYears_43, s_X3_drawYears_45, s_X3_drawYears_48, s_X3_drawYears_49, s_X3_drawYears_52, s_X3_drawYears_53, s_X3_drawYears_55, s_X3_drawYears_57, s_X3_drawYears_58, s_X3_drawYears_61, s_X3_drawYears_64, s_X3_drawYears_65, s_X3_drawYears_66, s_X3_drawYears_67, s_X3_drawYears_69, s_X3_drawYears_71, s_X3_drawYears_72, s_X3_drawYears_75, s_X3_drawYears_78, s_X3_drawYears_79, s_X3_drawYears_80, s_X3_drawYears_81, s_X3_drawYears_83, s_X3_drawYears_84, s_X3_drawYears_87, s_X3_drawYears_89, s_X3_drawYears_92, s_X3_drawYears_94, s_X3_drawYears_95, s_X3_drawYears_98, s_X3_drawYears_100, s_X3_drawYears_102, s_X3_drawYears_104, s_X3_drawYears_107, s_X3_drawYears_110, s_X3_drawYears_111, s_X3_drawYears_114, s_X3_drawYears_116, s_X3_drawYears_118, s_X3_drawYears_120, s_X3_drawYears_123, s_X3_drawYears_124, s_X3_drawYears_127, s_X3_drawYears_130, s_X3_drawYears_131, s_X3_drawYears_134, s_X3_drawYears_137, s_X3_drawYears_138, s_X3_drawYears_141, s_X3_drawYears_144, s_X3_drawYears_145, s_X3_drawYears_148, s_X3_drawYears_149, kS_62, rS_62_0, kH, rH1, rH2, rH4, rH5, rH6, rH7, rH8, kH_1, kH_2, kH_3, kH_4, kH_5, kH_6, kH_7, lH_1, lH_2, lH_3, lH_4, lH_5, lH_6, lH_7, Hs_63, Hs_27, CR_3 c1.1, CR_3 cn, l_ye, show n < 2147483648 by omega, cl_tl0, cl_tl1, rfv_some, if_true, if_false, or_true, true_or, eq_self, ite_true, ite_false, and_true, true_and, not_true_eq_false, not_false_eq_true]
