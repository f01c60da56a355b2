/-! ===== pure: how likely: Euclid's, cases ===== -/
theorem lcz {n : Nat} (h : n < 2147483648) : (lg_cmp (lN n) (lN 0) = 0) = (n = 0) := by
  rw [propext (lg_cmp_eq _ _), propext (lN_eq (by omega) (by omega))]
theorem lnz {n : Nat} (h : n < 2147483648) (h0 : 0 < n) : (lN n = 0) = False := eq_false (fun e => by
  have := (lN_eq (a := n) (b := 0) (by omega) (by omega)).mp e
  omega)
theorem gcd_s (x y : Nat) : Nat.gcd x y = Nat.gcd y (x % y) := by
  rw [Nat.gcd_comm x y, Nat.gcd_rec y x, Nat.gcd_comm]
theorem p_gcd {d L A B : Nat} {h : mMem} {Q : mQ} (hAB : A ≤ B) (h0 : 0 < B) (hB : B < 2147483648) : WP (d + 1) M_X7_greatestDivisor [.long (lN A), .long (lN B)] (S0 L, h) Q = Q (some (.long (lN (Nat.gcd B A)))) (S0 L, h) := by
  have e1 : ∀ n i a b (u : Value × Value), i + n = 128 → b ≤ a → 0 < a → a < 2147483648 → a * b < 2 ^ n → Wp d M_X7_greatestDivisor none 9 [.long (lN A), sec, .long (lN B), sec, .long (lN a), sec, .long (lN b), sec, .int (nI i), u.1, u.2] [] (S0 L, h) Q = Q (some (.long (lN (Nat.gcd a b)))) (S0 L, h) := by
    intro n
    induction n with
    | zero =>
      intro i a b u hi hb ha ha2 hm
      obtain rfl : i = 128 := by omega
      have hb0 : b = 0 := by
        rcases Nat.eq_zero_or_pos b with e | e
        · exact e
        · have := Nat.mul_pos ha e
          rw [Nat.pow_zero] at hm
          omega
      subst hb0
      rw [s_X7_greatestDivisor_9, Nat.gcd_zero_right]
      simp only [s_X7_greatestDivisor_0, s_X7_greatestDivisor_1, s_X7_greatestDivisor_3, s_X7_greatestDivisor_4, s_X7_greatestDivisor_6, s_X7_greatestDivisor_7, s_X7_greatestDivisor_11, s_X7_greatestDivisor_14, s_X7_greatestDivisor_17, s_X7_greatestDivisor_19, s_X7_greatestDivisor_20, s_X7_greatestDivisor_21, s_X7_greatestDivisor_24, s_X7_greatestDivisor_26, s_X7_greatestDivisor_28, s_X7_greatestDivisor_29, s_X7_greatestDivisor_31, s_X7_greatestDivisor_33, s_X7_greatestDivisor_35, s_X7_greatestDivisor_37, s_X7_greatestDivisor_39, s_X7_greatestDivisor_42, s_X7_greatestDivisor_45, s_X7_greatestDivisor_47, s_X7_greatestDivisor_48, s_X7_greatestDivisor_49, s_X7_greatestDivisor_52, s_X7_greatestDivisor_53, s_X7_greatestDivisor_56, s_X7_greatestDivisor_58, l_ye, lcz ha2, eq_false (show ¬ (a = 0) by omega), Nat.reduceLT, cl_tl0, cl_tl1, rfv_some, if_true, if_false, or_true, true_or, eq_self, ite_true, ite_false, and_true, true_and, not_true_eq_false, not_false_eq_true]
    | succ n ih =>
      intro i a b u hi hb ha ha2 hm
      rw [s_X7_greatestDivisor_9]
      rcases Nat.eq_zero_or_pos b with rfl | hb0
      · rw [Nat.gcd_zero_right]
        simp only [s_X7_greatestDivisor_0, s_X7_greatestDivisor_1, s_X7_greatestDivisor_3, s_X7_greatestDivisor_4, s_X7_greatestDivisor_6, s_X7_greatestDivisor_7, s_X7_greatestDivisor_11, s_X7_greatestDivisor_14, s_X7_greatestDivisor_17, s_X7_greatestDivisor_19, s_X7_greatestDivisor_20, s_X7_greatestDivisor_21, s_X7_greatestDivisor_24, s_X7_greatestDivisor_26, s_X7_greatestDivisor_28, s_X7_greatestDivisor_29, s_X7_greatestDivisor_31, s_X7_greatestDivisor_33, s_X7_greatestDivisor_35, s_X7_greatestDivisor_37, s_X7_greatestDivisor_39, s_X7_greatestDivisor_42, s_X7_greatestDivisor_45, s_X7_greatestDivisor_47, s_X7_greatestDivisor_48, s_X7_greatestDivisor_49, s_X7_greatestDivisor_52, s_X7_greatestDivisor_53, s_X7_greatestDivisor_56, s_X7_greatestDivisor_58, l_no (show i < 128 by omega), lcz ha2, lcz (show 0 < 2147483648 by omega), eq_false (show ¬ (a = 0) by omega), Nat.reduceLT, cl_tl0, cl_tl1, rfv_some, if_true, if_false, or_true, true_or, eq_self, ite_true, ite_false, and_true, true_and, not_true_eq_false, not_false_eq_true]
      · have hr : a % b < b := Nat.mod_lt _ hb0
        have hq : a % b + b ≤ a := by
          have e1 := Nat.div_add_mod a b
          have e2 : 1 ≤ a / b := (Nat.le_div_iff_mul_le hb0).mpr (by omega)
          have e3 : b * 1 ≤ b * (a / b) := Nat.mul_le_mul_left b e2
          omega
        have hm2 : b * (a % b) < 2 ^ n := by
          have e1 : b * (2 * (a % b)) ≤ b * a := Nat.mul_le_mul_left b (by omega)
          rw [Nat.mul_left_comm, Nat.mul_comm b a] at e1
          rw [Nat.pow_succ] at hm
          omega
        have k1 := pk_lRem (a := a) (b := b) (by omega) hb0 (by omega)
        have e2 := ih (i + 1) b (a % b) (.long (lN (a % b)), sec) (by omega) (by omega) hb0 (by omega) hm2
        rw [gcd_s a b]
        simp only [s_X7_greatestDivisor_0, s_X7_greatestDivisor_1, s_X7_greatestDivisor_3, s_X7_greatestDivisor_4, s_X7_greatestDivisor_6, s_X7_greatestDivisor_7, s_X7_greatestDivisor_11, s_X7_greatestDivisor_14, s_X7_greatestDivisor_17, s_X7_greatestDivisor_19, s_X7_greatestDivisor_20, s_X7_greatestDivisor_21, s_X7_greatestDivisor_24, s_X7_greatestDivisor_26, s_X7_greatestDivisor_28, s_X7_greatestDivisor_29, s_X7_greatestDivisor_31, s_X7_greatestDivisor_33, s_X7_greatestDivisor_35, s_X7_greatestDivisor_37, s_X7_greatestDivisor_39, s_X7_greatestDivisor_42, s_X7_greatestDivisor_45, s_X7_greatestDivisor_47, s_X7_greatestDivisor_48, s_X7_greatestDivisor_49, s_X7_greatestDivisor_52, s_X7_greatestDivisor_53, s_X7_greatestDivisor_56, s_X7_greatestDivisor_58, l_no (show i < 128 by omega), lcz (show b < 2147483648 by omega), eq_false (show ¬ (b = 0) by omega), lnz (show b < 2147483648 by omega) hb0, k1, e2, nI_add, Nat.reduceLT, cl_tl0, cl_tl1, rfv_some, if_true, if_false, or_true, true_or, eq_self, ite_true, ite_false, and_true, true_and, not_true_eq_false, not_false_eq_true]
  have e2 := e1 128 0 B A (jnk, jnk) (by omega) hAB h0 hB (by
    have : B * A ≤ 2147483648 * 2147483648 := Nat.mul_le_mul (by omega) (by omega)
    have h2 : (2147483648 * 2147483648 : Nat) < 2 ^ 128 := by decide
    omega)
  simp only [e_X7_greatestDivisor, s_X7_greatestDivisor_0, s_X7_greatestDivisor_1, s_X7_greatestDivisor_3, s_X7_greatestDivisor_4, s_X7_greatestDivisor_6, s_X7_greatestDivisor_7, s_X7_greatestDivisor_11, s_X7_greatestDivisor_14, s_X7_greatestDivisor_17, s_X7_greatestDivisor_19, s_X7_greatestDivisor_20, s_X7_greatestDivisor_21, s_X7_greatestDivisor_24, s_X7_greatestDivisor_26, s_X7_greatestDivisor_28, s_X7_greatestDivisor_29, s_X7_greatestDivisor_31, s_X7_greatestDivisor_33, s_X7_greatestDivisor_35, s_X7_greatestDivisor_37, s_X7_greatestDivisor_39, s_X7_greatestDivisor_42, s_X7_greatestDivisor_45, s_X7_greatestDivisor_47, s_X7_greatestDivisor_48, s_X7_greatestDivisor_49, s_X7_greatestDivisor_52, s_X7_greatestDivisor_53, s_X7_greatestDivisor_56, s_X7_greatestDivisor_58, e2, cl_tl0, cl_tl1, rfv_some, if_true, if_false, or_true, true_or, eq_self, ite_true, ite_false, and_true, true_and, not_true_eq_false, not_false_eq_true]
theorem p_allCases {d L n : Nat} {h : mMem} {Q : mQ} (hn : n ≤ 5) : WP (d + 1) M_X3_allCases [.int (nI n)] (S0 L, h) Q = Q (some (.long (lN (10 ^ n)))) (S0 L, h) := by
  have k1 : ∀ x, lN x * 10 = lN (x * 10) := fun x => lN_mul x 10
  obtain ⟨-, e1⟩ := lpr (N := n) (f := fun _ x => x * 10) (I := fun _ _ => True) (W := fun i x Q => Wp d M_X3_allCases none 4 [.int (nI n), .long (lN x), sec, .int (nI i)] [] (S0 L, h) Q) (by
    intro i x hi _
    refine ⟨trivial, fun Q => ?_⟩
    rw [s_X3_allCases_4]
    simp only [s_X3_allCases_0, s_X3_allCases_1, s_X3_allCases_2, s_X3_allCases_3, s_X3_allCases_5, s_X3_allCases_6, s_X3_allCases_9, s_X3_allCases_10, s_X3_allCases_13, s_X3_allCases_14, s_X3_allCases_15, s_X3_allCases_18, s_X3_allCases_21, s_X3_allCases_22, k1, l_no hi, show n < 2147483648 by omega, nI_add, Nat.reduceLT, cl_tl0, cl_tl1, rfv_some, if_true, if_false, or_true, true_or, eq_self, ite_true, ite_false, and_true, true_and, not_true_eq_false, not_false_eq_true]) n 0 1 (by omega) trivial
  have e2 : itr (fun _ x => x * 10) n 0 1 = 10 ^ n := by
    rcases (show n = 0 ∨ n = 1 ∨ n = 2 ∨ n = 3 ∨ n = 4 ∨ n = 5 by omega) with rfl | rfl | rfl | rfl | rfl | rfl <;> decide
  rw [e2] at e1
  simp only [e_X3_allCases, s_X3_allCases_0, s_X3_allCases_1, s_X3_allCases_2, s_X3_allCases_3, s_X3_allCases_5, s_X3_allCases_6, s_X3_allCases_9, s_X3_allCases_10, s_X3_allCases_13, s_X3_allCases_14, s_X3_allCases_15, s_X3_allCases_18, s_X3_allCases_21, s_X3_allCases_22, e1, cl_tl0, cl_tl1, rfv_some, if_true, if_false, or_true, true_or, eq_self, ite_true, ite_false, and_true, true_and, not_true_eq_false, not_false_eq_true]
  rw [s_X3_allCases_4]
  simp only [s_X3_allCases_0, s_X3_allCases_1, s_X3_allCases_2, s_X3_allCases_3, s_X3_allCases_5, s_X3_allCases_6, s_X3_allCases_9, s_X3_allCases_10, s_X3_allCases_13, s_X3_allCases_14, s_X3_allCases_15, s_X3_allCases_18, s_X3_allCases_21, s_X3_allCases_22, l_ye, show n < 2147483648 by omega, Nat.reduceLT, cl_tl0, cl_tl1, rfv_some, if_true, if_false, or_true, true_or, eq_self, ite_true, ite_false, and_true, true_and, not_true_eq_false, not_false_eq_true]
def wtF (s p : Nat) (i : Nat) (x : Nat) : Nat := if s / 2 ^ i % 2 = 1 then x * p else x * (10 - p)
def wtN (n p s : Nat) : Nat := itr (wtF s p) n 0 1
theorem wvs_N1 {s p : Nat} : ∀ n i (u : (Nat → Nat) × Int64) x, u.2 = lN x → (itr (wvf s p) n i u).2 = lN (itr (wtF s p) n i x) := by
  intro n
  induction n with
  | zero => intro i u x e; exact e
  | succ n ih =>
    intro i u x e
    refine ih (i + 1) (wvf s p i u) (wtF s p i x) ?_
    unfold wvf wtF
    split
    · show u.2 * lN p = _
      rw [e, lN_mul]
    · show u.2 * lN (10 - p) = _
      rw [e, lN_mul]
theorem wvs_N {t : Nat → Nat} {p s : Nat} : (wvs t p s).2 = lN (wtN (t 0) p s) := wvs_N1 (t 0) 0 (t, lN 1) 1 rfl
def csN (t : Nat → Nat) (k p : Nat) (s : Nat) (x : Nat) : Nat := if k ≤ pop (dayF (wvs t p s).1) then x + wtN (t 0) p s else x
def prA (t : Nat → Nat) (k p : Nat) : Nat := itr (csN t k p) (2 ^ t 0) 0 0
theorem cse_N1 {t : Nat → Nat} {k p : Nat} : ∀ n i x, itr (cse t k p) n i (lN x) = lN (itr (csN t k p) n i x) := by
  intro n
  induction n with
  | zero => intro i x; rfl
  | succ n ih =>
    intro i x
    show itr _ n (i + 1) (cse t k p i (lN x)) = lN (itr _ n (i + 1) (csN t k p i x))
    rw [← ih]
    congr 1
    unfold cse csN
    split
    · rw [wvs_N, lN_add]
    · rfl
theorem cse_N {t : Nat → Nat} {k p : Nat} : itr (cse t k p) (2 ^ t 0) 0 (lN 0) = lN (prA t k p) := cse_N1 (2 ^ t 0) 0 0
theorem blw : ∀ n, n < 6 → ∀ p, p < 11 → itr (fun s x => x + wtN n p s) (2 ^ n) 0 0 = 10 ^ n := by decide +kernel
theorem prA_le1 {t : Nat → Nat} {k p : Nat} : ∀ n i x y, x ≤ y → itr (csN t k p) n i x ≤ itr (fun s x => x + wtN (t 0) p s) n i y := by
  intro n
  induction n with
  | zero => intro i x y h; exact h
  | succ n ih =>
    intro i x y h
    refine ih (i + 1) _ _ ?_
    unfold csN
    split
    · exact Nat.add_le_add_right h _
    · exact Nat.le_trans h (Nat.le_add_right _ _)
theorem prA_le {t : Nat → Nat} {k p : Nat} (h5 : t 0 ≤ 5) (hp : p ≤ 10) : prA t k p ≤ 10 ^ t 0 := by
  have := prA_le1 (t := t) (k := k) (p := p) (2 ^ t 0) 0 0 0 (Nat.le_refl _)
  rw [blw (t 0) (by omega) p (by omega)] at this
  exact this
theorem pw10 {n : Nat} (h : n ≤ 5) : 0 < 10 ^ n ∧ 10 ^ n ≤ 100000 := by
  rcases (show n = 0 ∨ n = 1 ∨ n = 2 ∨ n = 3 ∨ n = 4 ∨ n = 5 by omega) with rfl | rfl | rfl | rfl | rfl | rfl <;> decide
def prF (t : Nat → Nat) (k p : Nat) (s : Nat) (a : Nat × Nat) : Nat × Nat := (csN t k p s a.1, a.2 + wtN (t 0) p s)
theorem prF_all {t : Nat → Nat} {k p : Nat} (h5 : t 0 ≤ 5) (hp : p ≤ 10) : itr (prF t k p) (2 ^ t 0) 0 (0, 0) = (prA t k p, 10 ^ t 0) := by
  rw [show itr (prF t k p) (2 ^ t 0) 0 (0, 0) = _ from itr_2 (f := csN t k p) (g := fun s x => x + wtN (t 0) p s) (2 ^ t 0) 0 (0, 0), ← blw (t 0) (by omega) p (by omega)]
  rfl
