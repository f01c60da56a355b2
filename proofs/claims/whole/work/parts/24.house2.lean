/-! ===== pure: the class's houses: sales, what a day brings ===== -/
def bd (t : Nat → Nat) (r : Nat) : Nat := t 49 / 2 ^ r % 2
theorem shb : ∀ r, r < 7 → ∀ b, b < 128 → ((nI b >>> (nI r &&& 31)) &&& nI 1) = nI (b / 2 ^ r % 2) := by decide +kernel
theorem p_isBound {d L o r : Nat} {t : Nat → Nat} {h : mMem} {Q : mQ} (ho : Hs o) (c : CR h o t) (w : Wf t) (hr : r < 7) : WP (d + 1) M_X4_isBound [.ref o, .int (nI r)] (S0 L, h) Q = Q (some (.int (nI (bd t r)))) (S0 L, h) := by
  have e := shb r hr (t 49) w.2.2.2.2
  have hb : bd t r = t 49 / 2 ^ r % 2 := rfl
  rw [← hb] at e
  rcases (show bd t r = 0 ∨ bd t r = 1 by omega) with hh | hh <;> rw [hh] at e ⊢ <;> simp +decide only [e_X4_isBound, s_X4_isBound_0, s_X4_isBound_1, s_X4_isBound_4, s_X4_isBound_5, s_X4_isBound_6, s_X4_isBound_7, s_X4_isBound_8, s_X4_isBound_9, s_X4_isBound_12, s_X4_isBound_13, s_X4_isBound_16, s_X4_isBound_17, kH, rH1, rH2, rH4, rH5, rH6, rH7, rH8, kH_1, kH_2, kH_3, kH_4, kH_5, kH_6, kH_7, lH_1, lH_2, lH_3, lH_4, lH_5, lH_6, lH_7, ho, CR_49 c, e, nI_lite, Nat.reduceLT, cl_tl0, cl_tl1, rfv_some, if_true, if_false, or_true, true_or, eq_self, ite_true, ite_false, and_true, true_and, not_true_eq_false, not_false_eq_true]
theorem wrt_le {t : Nat → Nat} (w : Wf t) {r k : Nat} (hr : r < t 1) : wrt t r k ≤ 180 := by
  have b2 := w.2.2.2.1 r hr
  have m1 : t (21 + r) * min (t (28 + r) - t 2) 9 ≤ 20 * 9 := Nat.mul_le_mul b2.2.1.2 (by omega)
  unfold wrt
  repeat' split
  all_goals omega
theorem p_priceOf {d L o r : Nat} {t : Nat → Nat} {h : mMem} {Q : mQ} (ho : Hs o) (c : CR h o t) (w : Wf t) (hd : t 2 ≤ 2000) (hr : r < t 1) : WP (d + 3) M_X4_priceOf [.ref o, .int (nI r)] (S0 L, h) Q = Q (some (.int (nI (wrt t r (t (35 + r)) + 1)))) (S0 L, h) := by
  have h2 := w.2.1
  have hr7 : r < 7 := by omega
  have hw := fun Q => p_worthTo (d := d) (L := L) (Q := Q) ho c w hd hr (w.2.2.2.1 r hr).2.2.2.1
  simp only [e_X4_priceOf, s_X4_priceOf_0, s_X4_priceOf_1, s_X4_priceOf_2, s_X4_priceOf_3, s_X4_priceOf_6, s_X4_priceOf_7, s_X4_priceOf_8, s_X4_priceOf_11, s_X4_priceOf_12, s_X4_priceOf_13, kH, rH1, rH2, rH4, rH5, rH6, rH7, rH8, kH_1, kH_2, kH_3, kH_4, kH_5, kH_6, kH_7, lH_1, lH_2, lH_3, lH_4, lH_5, lH_6, lH_7, ho, hr7, CR_35 c w hr, hw, nI_add, Nat.reduceLT, cl_tl0, cl_tl1, rfv_some, if_true, if_false, or_true, true_or, eq_self, ite_true, ite_false, and_true, true_and, not_true_eq_false, not_false_eq_true]
/-- it can be sold -/
def cB (t : Nat → Nat) (r k n : Nat) : Bool := decide (k ≠ t (35 + r)) && decide (bd t r = 0) && decide (n ≤ t (4 + k)) && decide (wrt t r (t (35 + r)) < n) && decide (n ≤ wrt t r k)
theorem p_canBuy {d L o r k n : Nat} {t : Nat → Nat} {h : mMem} {Q : mQ} (ho : Hs o) (c : CR h o t) (w : Wf t) (hd : t 2 ≤ 2000) (hr : r < t 1) (hk : k < t 0) (hn : n < 2147483648) : WP (d + 3) M_X4_canBuy [.ref o, .int (nI r), .int (nI k), .int (nI n)] (S0 L, h) Q = Q (some (.int (bI (cB t r k n)))) (S0 L, h) := by
  have h1 := w.1
  have h2 := w.2.1
  have hr7 : r < 7 := by omega
  have hk5 : k < 5 := by omega
  have b2 := w.2.2.2.1 r hr
  have b1 := (w.2.2.1 k hk).1
  have hw1 := fun Q => p_worthTo (d := d) (L := L) (Q := Q) ho c w hd hr b2.2.2.2.1
  have hw2 := fun Q => p_worthTo (d := d) (L := L) (Q := Q) ho c w hd hr hk
  have hb := fun Q => p_isBound (d := d + 1) (L := L) (Q := Q) ho c w hr7
  have l1 := wrt_le w (k := t (35 + r)) hr
  have l2 := wrt_le w (k := k) hr
  have hbd : bd t r = 0 ∨ bd t r = 1 := by unfold bd; omega
  have e1 : (nI k = nI (t (35 + r))) = (k = t (35 + r)) := f_eq (by omega) (by omega)
  have e2 : (nI n ≤ nI (t (4 + k))) = (n ≤ t (4 + k)) := f_le (by omega) (by omega)
  have e2' : (nI (t (4 + k)) < nI n) = (t (4 + k) < n) := f_lt (by omega) (by omega)
  have e3 : (nI n ≤ nI (wrt t r (t (35 + r)))) = (n ≤ wrt t r (t (35 + r))) := f_le (by omega) (by omega)
  have e4 : (nI (wrt t r k) < nI n) = (wrt t r k < n) := f_lt (by omega) (by omega)
  have e5 : (nI (bd t r) = (0 : Int32)) = (bd t r = 0) := f_eq0 (by omega)
  simp only [e_X4_canBuy, s_X4_canBuy_0, s_X4_canBuy_1, s_X4_canBuy_2, s_X4_canBuy_5, s_X4_canBuy_6, s_X4_canBuy_7, s_X4_canBuy_10, s_X4_canBuy_11, s_X4_canBuy_12, s_X4_canBuy_15, s_X4_canBuy_18, s_X4_canBuy_19, s_X4_canBuy_22, s_X4_canBuy_23, s_X4_canBuy_24, s_X4_canBuy_25, s_X4_canBuy_28, s_X4_canBuy_29, s_X4_canBuy_30, s_X4_canBuy_31, s_X4_canBuy_32, s_X4_canBuy_35, s_X4_canBuy_36, s_X4_canBuy_37, s_X4_canBuy_40, s_X4_canBuy_43, s_X4_canBuy_44, s_X4_canBuy_45, s_X4_canBuy_46, s_X4_canBuy_49, s_X4_canBuy_50, s_X4_canBuy_53, s_X4_canBuy_54, s_X4_canBuy_57, s_X4_canBuy_58, kH, rH1, rH2, rH4, rH5, rH6, rH7, rH8, kH_1, kH_2, kH_3, kH_4, kH_5, kH_6, kH_7, lH_1, lH_2, lH_3, lH_4, lH_5, lH_6, lH_7, ho, hr7, hk5, CR_35 c w hr, CR_4 c w hk, hw1, hw2, hb, e1, e2, e2', e3, e4, e5, Nat.reduceLT, cl_tl0, cl_tl1, rfv_some, if_true, if_false, or_true, true_or, eq_self, ite_true, ite_false, and_true, true_and, not_true_eq_false, not_false_eq_true]
  unfold cB bI
  by_cases a1 : k = t (35 + r)
  · simp [a1]
  by_cases a2 : bd t r = 0
  · by_cases a3 : t (4 + k) < n
    · simp [a1, a2, a3, show ¬ (n ≤ t (4 + k)) by omega]
    by_cases a4 : n ≤ wrt t r (t (35 + r))
    · simp [a1, a2, a3, a4, show ¬ (wrt t r (t (35 + r)) < n) by omega]
    by_cases a5 : wrt t r k < n
    · simp [a1, a2, a3, a4, a5, show ¬ (n ≤ wrt t r k) by omega]
    · simp [a1, a2, a3, a4, a5, show (n ≤ t (4 + k)) by omega, show (wrt t r (t (35 + r)) < n) by omega, show (n ≤ wrt t r k) by omega]
  · simp [a1, a2]
