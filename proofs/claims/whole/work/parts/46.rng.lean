/-! ===== pure: bounds, on both sides ===== -/
def inB (x : Int32) (a b : Nat) : Bool := decide (nI a ≤ x ∧ x ≤ nI b)
def vB (x : Int32) (n : Nat) : Bool := decide (nI 0 ≤ x ∧ x < nI n)
theorem inB_t {x : Int32} {a b : Nat} (ha : a < 2147483648) (hb : b < 2147483648) (h : inB x a b = true) : ∃ k, a ≤ k ∧ k ≤ b ∧ x = nI k := (rg_iff ha hb).mpr (of_decide_eq_true h)
theorem vB_t {x : Int32} {n : Nat} (hn : n < 2147483648) (h : vB x n = true) : ∃ k, k < n ∧ x = nI k := by
  obtain ⟨h1, h2⟩ := of_decide_eq_true h
  have h0 : ¬ x < 0 := by
    intro h3
    have e1 := Int32.le_iff_toInt_le.mp h1
    have e2 := Int32.lt_iff_toInt_lt.mp h3
    rw [nI_0] at e1
    omega
  obtain ⟨k, hk, rfl⟩ := nI_of h0
  exact ⟨k, (nI_ltI (by omega) (by omega)).mp h2, rfl⟩
theorem vB_k {k n : Nat} (hn : n < 2147483648) (h : k < n) : vB (nI k) n = true := decide_eq_true ⟨(nI_leI (by omega) (by omega)).mpr (by omega), (nI_ltI (by omega) (by omega)).mpr h⟩
theorem vB_0 (x : Int32) : vB x 0 = false := by
  unfold vB
  apply decide_eq_false
  rintro ⟨h1, h2⟩
  have e1 := Int32.le_iff_toInt_le.mp h1
  have e2 := Int32.lt_iff_toInt_lt.mp h2
  omega
theorem i_nlt {x y : Int32} : (¬ x < y) = (y ≤ x) := propext (by
  rw [Int32.lt_iff_toInt_lt, Int32.le_iff_toInt_le]
  omega)
theorem p_isWithin {d L a b : Nat} {x : Int32} {h : mMem} {Q : mQ} : WP (d + 1) M_X7_isWithin [.int x, .int (nI a), .int (nI b)] (S0 L, h) Q = Q (some (.int (bI (inB x a b)))) (S0 L, h) := by
  unfold inB
  by_cases h1 : x < nI a
  · have e : ¬ (nI a ≤ x ∧ x ≤ nI b) := fun hh => by rw [← i_nlt] at hh; exact hh.1 h1
    rw [decide_eq_false e]
    simp only [e_X7_isWithin, s_X7_isWithin_0, s_X7_isWithin_1, s_X7_isWithin_2, s_X7_isWithin_5, s_X7_isWithin_6, s_X7_isWithin_7, s_X7_isWithin_10, s_X7_isWithin_11, s_X7_isWithin_14, s_X7_isWithin_15, eq_true h1, bI_f, n01_0, cl_tl0, cl_tl1, rfv_some, if_true, if_false, or_true, true_or, eq_self, ite_true, ite_false, and_true, true_and, not_true_eq_false, not_false_eq_true]
  · by_cases h2 : nI b < x
    · have e : ¬ (nI a ≤ x ∧ x ≤ nI b) := fun hh => by
        have := hh.2
        rw [← i_nlt] at this
        exact this h2
      rw [decide_eq_false e]
      simp only [e_X7_isWithin, s_X7_isWithin_0, s_X7_isWithin_1, s_X7_isWithin_2, s_X7_isWithin_5, s_X7_isWithin_6, s_X7_isWithin_7, s_X7_isWithin_10, s_X7_isWithin_11, s_X7_isWithin_14, s_X7_isWithin_15, eq_false h1, eq_true h2, bI_f, n01_0, cl_tl0, cl_tl1, rfv_some, if_true, if_false, or_true, true_or, eq_self, ite_true, ite_false, and_true, true_and, not_true_eq_false, not_false_eq_true]
    · have e : nI a ≤ x ∧ x ≤ nI b := by rw [i_nlt] at h1 h2; exact ⟨h1, h2⟩
      rw [decide_eq_true e]
      simp only [e_X7_isWithin, s_X7_isWithin_0, s_X7_isWithin_1, s_X7_isWithin_2, s_X7_isWithin_5, s_X7_isWithin_6, s_X7_isWithin_7, s_X7_isWithin_10, s_X7_isWithin_11, s_X7_isWithin_14, s_X7_isWithin_15, eq_false h1, eq_false h2, bI_t, n01_1, cl_tl0, cl_tl1, rfv_some, if_true, if_false, or_true, true_or, eq_self, ite_true, ite_false, and_true, true_and, not_true_eq_false, not_false_eq_true]
theorem p_isRow {d L : Nat} {x : Int32} {h : mMem} {Q : mQ} : WP (d + 2) M_X7_isRow [.int x] (S0 L, h) Q = Q (some (.int (bI (inB x 0 7)))) (S0 L, h) := by
  simp only [e_X7_isRow, s_X7_isRow_0, s_X7_isRow_1, s_X7_isRow_2, s_X7_isRow_4, s_X7_isRow_7, p_isWithin, bI_01, Option.toList_some, List.cons_append, List.nil_append, cl_tl0, cl_tl1, rfv_some, if_true, if_false, or_true, true_or, eq_self, ite_true, ite_false, and_true, true_and, not_true_eq_false, not_false_eq_true]
theorem l_ge (x : Int32) (a : Nat) (ha : a < 2147483648) : (x.toInt64 < lN a) = (x < nI a) := propext (by
  rw [Int64.lt_iff_toInt_lt, Int32.lt_iff_toInt_lt, lN_toInt (by omega), nI_toInt (by omega), Int32.toInt_toInt64])
theorem l_le (x : Int32) (a : Nat) (ha : a < 2147483648) : (lN a < x.toInt64) = (nI a < x) := propext (by
  rw [Int64.lt_iff_toInt_lt, Int32.lt_iff_toInt_lt, lN_toInt (by omega), nI_toInt (by omega), Int32.toInt_toInt64])
theorem p_in {d L a b : Nat} {x : Int32} {A B : Int64} {h : mMem} {Q : mQ} (hA : A = lN a) (hB : B = lN b) (ha : a < 2147483648) (hb : b < 2147483648) : WP (d + 1) M_X8_in [.long x.toInt64, .long A, .long B] (S0 L, h) Q = Q (some (.int (bI (inB x a b)))) (S0 L, h) := by
  subst hA hB
  have e1 : (lg_cmp x.toInt64 (lN a) < 0) = (x < nI a) := by rw [propext (lg_cmp_lt _ _), l_ge x a ha]
  have e2 : (0 < lg_cmp x.toInt64 (lN b)) = (nI b < x) := by rw [propext (lg_cmp_gt _ _), l_le x b hb]
  unfold inB
  by_cases h1 : x < nI a
  · have e : ¬ (nI a ≤ x ∧ x ≤ nI b) := fun hh => by rw [← i_nlt] at hh; exact hh.1 h1
    rw [decide_eq_false e]
    simp only [e_X8_in, s_X8_in_0, s_X8_in_1, s_X8_in_2, s_X8_in_3, s_X8_in_6, s_X8_in_7, s_X8_in_9, s_X8_in_10, s_X8_in_13, s_X8_in_14, s_X8_in_17, s_X8_in_18, e1, e2, eq_true h1, bI_f, n01_0, cl_tl0, cl_tl1, rfv_some, if_true, if_false, or_true, true_or, eq_self, ite_true, ite_false, and_true, true_and, not_true_eq_false, not_false_eq_true]
  · by_cases h2 : nI b < x
    · have e : ¬ (nI a ≤ x ∧ x ≤ nI b) := fun hh => by
        have := hh.2
        rw [← i_nlt] at this
        exact this h2
      rw [decide_eq_false e]
      simp only [e_X8_in, s_X8_in_0, s_X8_in_1, s_X8_in_2, s_X8_in_3, s_X8_in_6, s_X8_in_7, s_X8_in_9, s_X8_in_10, s_X8_in_13, s_X8_in_14, s_X8_in_17, s_X8_in_18, e1, e2, eq_false h1, eq_true h2, bI_f, n01_0, cl_tl0, cl_tl1, rfv_some, if_true, if_false, or_true, true_or, eq_self, ite_true, ite_false, and_true, true_and, not_true_eq_false, not_false_eq_true]
    · have e : nI a ≤ x ∧ x ≤ nI b := by rw [i_nlt] at h1 h2; exact ⟨h1, h2⟩
      rw [decide_eq_true e]
      simp only [e_X8_in, s_X8_in_0, s_X8_in_1, s_X8_in_2, s_X8_in_3, s_X8_in_6, s_X8_in_7, s_X8_in_9, s_X8_in_10, s_X8_in_13, s_X8_in_14, s_X8_in_17, s_X8_in_18, e1, e2, eq_false h1, eq_false h2, bI_t, n01_1, cl_tl0, cl_tl1, rfv_some, if_true, if_false, or_true, true_or, eq_self, ite_true, ite_false, and_true, true_and, not_true_eq_false, not_false_eq_true]
theorem p_hasHeir {d L o n : Nat} {x : Int32} {h : mMem} {Q : mQ} (ho : Hs o) (c : h o 0 = nI n) : WP (d + 1) M_X4_hasHeir [.ref o, .int x] (S0 L, h) Q = Q (some (.int (bI (vB x n)))) (S0 L, h) := by
  unfold vB
  by_cases h1 : x < 0
  · have e : ¬ (nI 0 ≤ x ∧ x < nI n) := fun hh => by
      have := hh.1
      rw [← i_nlt] at this
      exact this h1
    rw [decide_eq_false e]
    simp only [e_X4_hasHeir, s_X4_hasHeir_0, s_X4_hasHeir_1, s_X4_hasHeir_4, s_X4_hasHeir_5, s_X4_hasHeir_6, s_X4_hasHeir_9, s_X4_hasHeir_12, s_X4_hasHeir_13, s_X4_hasHeir_16, s_X4_hasHeir_17, kH, rH1, rH2, rH4, rH5, rH6, rH7, rH8, kH_1, kH_2, kH_3, kH_4, kH_5, kH_6, kH_7, lH_1, lH_2, lH_3, lH_4, lH_5, lH_6, lH_7, ho, c, eq_true h1, bI_f, n01_0, cl_tl0, cl_tl1, rfv_some, if_true, if_false, or_true, true_or, eq_self, ite_true, ite_false, and_true, true_and, not_true_eq_false, not_false_eq_true]
  · by_cases h2 : nI n ≤ x
    · have e : ¬ (nI 0 ≤ x ∧ x < nI n) := fun hh => by
        rw [← i_nlt] at h2
        exact h2 hh.2
      rw [decide_eq_false e]
      simp only [e_X4_hasHeir, s_X4_hasHeir_0, s_X4_hasHeir_1, s_X4_hasHeir_4, s_X4_hasHeir_5, s_X4_hasHeir_6, s_X4_hasHeir_9, s_X4_hasHeir_12, s_X4_hasHeir_13, s_X4_hasHeir_16, s_X4_hasHeir_17, kH, rH1, rH2, rH4, rH5, rH6, rH7, rH8, kH_1, kH_2, kH_3, kH_4, kH_5, kH_6, kH_7, lH_1, lH_2, lH_3, lH_4, lH_5, lH_6, lH_7, ho, c, eq_false h1, eq_true h2, bI_f, n01_0, cl_tl0, cl_tl1, rfv_some, if_true, if_false, or_true, true_or, eq_self, ite_true, ite_false, and_true, true_and, not_true_eq_false, not_false_eq_true]
    · have e : nI 0 ≤ x ∧ x < nI n := ⟨by rw [i_nlt] at h1; exact h1, by rw [← i_nlt] at h2; exact Decidable.not_not.mp h2⟩
      rw [decide_eq_true e]
      simp only [e_X4_hasHeir, s_X4_hasHeir_0, s_X4_hasHeir_1, s_X4_hasHeir_4, s_X4_hasHeir_5, s_X4_hasHeir_6, s_X4_hasHeir_9, s_X4_hasHeir_12, s_X4_hasHeir_13, s_X4_hasHeir_16, s_X4_hasHeir_17, kH, rH1, rH2, rH4, rH5, rH6, rH7, rH8, kH_1, kH_2, kH_3, kH_4, kH_5, kH_6, kH_7, lH_1, lH_2, lH_3, lH_4, lH_5, lH_6, lH_7, ho, c, eq_false h1, eq_false h2, bI_t, n01_1, cl_tl0, cl_tl1, rfv_some, if_true, if_false, or_true, true_or, eq_self, ite_true, ite_false, and_true, true_and, not_true_eq_false, not_false_eq_true]
theorem p_hasRight {d L o n : Nat} {x : Int32} {h : mMem} {Q : mQ} (ho : Hs o) (c : h o 3 = nI n) : WP (d + 1) M_X4_hasRight [.ref o, .int x] (S0 L, h) Q = Q (some (.int (bI (vB x n)))) (S0 L, h) := by
  unfold vB
  by_cases h1 : x < 0
  · have e : ¬ (nI 0 ≤ x ∧ x < nI n) := fun hh => by
      have := hh.1
      rw [← i_nlt] at this
      exact this h1
    rw [decide_eq_false e]
    simp only [e_X4_hasRight, s_X4_hasRight_0, s_X4_hasRight_1, s_X4_hasRight_4, s_X4_hasRight_5, s_X4_hasRight_6, s_X4_hasRight_9, s_X4_hasRight_12, s_X4_hasRight_13, s_X4_hasRight_16, s_X4_hasRight_17, kH, rH1, rH2, rH4, rH5, rH6, rH7, rH8, kH_1, kH_2, kH_3, kH_4, kH_5, kH_6, kH_7, lH_1, lH_2, lH_3, lH_4, lH_5, lH_6, lH_7, ho, c, eq_true h1, bI_f, n01_0, cl_tl0, cl_tl1, rfv_some, if_true, if_false, or_true, true_or, eq_self, ite_true, ite_false, and_true, true_and, not_true_eq_false, not_false_eq_true]
  · by_cases h2 : nI n ≤ x
    · have e : ¬ (nI 0 ≤ x ∧ x < nI n) := fun hh => by
        rw [← i_nlt] at h2
        exact h2 hh.2
      rw [decide_eq_false e]
      simp only [e_X4_hasRight, s_X4_hasRight_0, s_X4_hasRight_1, s_X4_hasRight_4, s_X4_hasRight_5, s_X4_hasRight_6, s_X4_hasRight_9, s_X4_hasRight_12, s_X4_hasRight_13, s_X4_hasRight_16, s_X4_hasRight_17, kH, rH1, rH2, rH4, rH5, rH6, rH7, rH8, kH_1, kH_2, kH_3, kH_4, kH_5, kH_6, kH_7, lH_1, lH_2, lH_3, lH_4, lH_5, lH_6, lH_7, ho, c, eq_false h1, eq_true h2, bI_f, n01_0, cl_tl0, cl_tl1, rfv_some, if_true, if_false, or_true, true_or, eq_self, ite_true, ite_false, and_true, true_and, not_true_eq_false, not_false_eq_true]
    · have e : nI 0 ≤ x ∧ x < nI n := ⟨by rw [i_nlt] at h1; exact h1, by rw [← i_nlt] at h2; exact Decidable.not_not.mp h2⟩
      rw [decide_eq_true e]
      simp only [e_X4_hasRight, s_X4_hasRight_0, s_X4_hasRight_1, s_X4_hasRight_4, s_X4_hasRight_5, s_X4_hasRight_6, s_X4_hasRight_9, s_X4_hasRight_12, s_X4_hasRight_13, s_X4_hasRight_16, s_X4_hasRight_17, kH, rH1, rH2, rH4, rH5, rH6, rH7, rH8, kH_1, kH_2, kH_3, kH_4, kH_5, kH_6, kH_7, lH_1, lH_2, lH_3, lH_4, lH_5, lH_6, lH_7, ho, c, eq_false h1, eq_false h2, bI_t, n01_1, cl_tl0, cl_tl1, rfv_some, if_true, if_false, or_true, true_or, eq_self, ite_true, ite_false, and_true, true_and, not_true_eq_false, not_false_eq_true]
/-- the model's: in(x, 0, n - 1) -/
theorem vB_in {x : Int32} {n : Nat} (h1 : 1 ≤ n) (hn : n < 2147483648) : vB x n = inB x 0 (n - 1) := by
  unfold vB inB
  congr 1
  apply propext
  refine and_congr_right (fun _ => ?_)
  rw [Int32.lt_iff_toInt_lt, Int32.le_iff_toInt_le, nI_toInt (by omega), nI_toInt (by omega)]
  omega
theorem p_inN {d L n : Nat} {x : Int32} {h : mMem} {Q : mQ} (hn : n < 2147483648) : WP (d + 1) M_X8_in [.long x.toInt64, .long (lN 0), .long (nI n - nI 1).toInt64] (S0 L, h) Q = Q (some (.int (bI (vB x n)))) (S0 L, h) := by
  rcases Nat.eq_zero_or_pos n with rfl | h1
  · have eB : (nI 0 - nI 1).toInt64 = -1 := by decide
    have e1 : (lg_cmp x.toInt64 (lN 0) < 0) = (x < nI 0) := by rw [propext (lg_cmp_lt _ _), l_ge x 0 (by omega)]
    rw [vB_0, eB]
    by_cases h2 : x < nI 0
    · simp only [e_X8_in, s_X8_in_0, s_X8_in_1, s_X8_in_2, s_X8_in_3, s_X8_in_6, s_X8_in_7, s_X8_in_9, s_X8_in_10, s_X8_in_13, s_X8_in_14, s_X8_in_17, s_X8_in_18, e1, eq_true h2, bI_f, n01_0, cl_tl0, cl_tl1, rfv_some, if_true, if_false, or_true, true_or, eq_self, ite_true, ite_false, and_true, true_and, not_true_eq_false, not_false_eq_true]
    · have e2 : (0 < lg_cmp x.toInt64 (-1)) = True := eq_true (by
        rw [lg_cmp_gt, Int64.lt_iff_toInt_lt, Int32.toInt_toInt64]
        have := h2
        rw [i_nlt] at this
        have := Int32.le_iff_toInt_le.mp this
        have e3 : (nI 0).toInt = 0 := rfl
        have e4 : (-1 : Int64).toInt = -1 := rfl
        omega)
      simp only [e_X8_in, s_X8_in_0, s_X8_in_1, s_X8_in_2, s_X8_in_3, s_X8_in_6, s_X8_in_7, s_X8_in_9, s_X8_in_10, s_X8_in_13, s_X8_in_14, s_X8_in_17, s_X8_in_18, e1, e2, eq_false h2, bI_f, n01_0, cl_tl0, cl_tl1, rfv_some, if_true, if_false, or_true, true_or, eq_self, ite_true, ite_false, and_true, true_and, not_true_eq_false, not_false_eq_true]
  · rw [pk_sub (by omega), nI_l (by omega), vB_in h1 hn]
    exact p_in rfl rfl (by omega) (by omega)
theorem p_isHeir {d L n : Nat} {x : Int32} {h : mMem} {Q : mQ} (hn : n < 2147483648) (c : h 107 0 = nI n) : WP (d + 2) M_X8_isHeir [.ref 106, .int x] (S0 L, h) Q = Q (some (.int (bI (vB x n)))) (S0 L, h) := by
  have e := fun Q => p_inN (d := d) (L := L) (x := x) (h := h) (Q := Q) hn
  simp only [e_X8_isHeir, s_X8_isHeir_0, s_X8_isHeir_1, s_X8_isHeir_2, s_X8_isHeir_3, s_X8_isHeir_4, s_X8_isHeir_7, s_X8_isHeir_8, s_X8_isHeir_9, s_X8_isHeir_10, s_X8_isHeir_11, s_X8_isHeir_12, s_X8_isHeir_15, kS_106, rS_106_0, rS_106_3, rS_106_4, rS_106_5, rS_106_6, rS_106_7, rS_106_11, kS_107, lS_107, kS_108, lS_108, kS_109, lS_109, kS_110, lS_110, kS_111, lS_111, kS_112, lS_112, kS_113, lS_113, c, e, bI_01, Option.toList_some, List.cons_append, List.nil_append, Nat.reduceLT, cl_tl0, cl_tl1, rfv_some, if_true, if_false, or_true, true_or, eq_self, ite_true, ite_false, and_true, true_and, not_true_eq_false, not_false_eq_true]
theorem p_isRight {d L n : Nat} {x : Int32} {h : mMem} {Q : mQ} (hn : n < 2147483648) (c : h 107 1 = nI n) : WP (d + 2) M_X8_isRight [.ref 106, .int x] (S0 L, h) Q = Q (some (.int (bI (vB x n)))) (S0 L, h) := by
  have e := fun Q => p_inN (d := d) (L := L) (x := x) (h := h) (Q := Q) hn
  simp only [e_X8_isRight, s_X8_isRight_0, s_X8_isRight_1, s_X8_isRight_2, s_X8_isRight_3, s_X8_isRight_4, s_X8_isRight_7, s_X8_isRight_8, s_X8_isRight_9, s_X8_isRight_10, s_X8_isRight_11, s_X8_isRight_12, s_X8_isRight_15, kS_106, rS_106_0, rS_106_3, rS_106_4, rS_106_5, rS_106_6, rS_106_7, rS_106_11, kS_107, lS_107, kS_108, lS_108, kS_109, lS_109, kS_110, lS_110, kS_111, lS_111, kS_112, lS_112, kS_113, lS_113, c, e, bI_01, Option.toList_some, List.cons_append, List.nil_append, Nat.reduceLT, cl_tl0, cl_tl1, rfv_some, if_true, if_false, or_true, true_or, eq_self, ite_true, ite_false, and_true, true_and, not_true_eq_false, not_false_eq_true]
theorem p_misRow {d L : Nat} {x : Int32} {h : mMem} {Q : mQ} : WP (d + 2) M_X8_isRow [.int x] (S0 L, h) Q = Q (some (.int (bI (inB x 0 7)))) (S0 L, h) := by
  have e := fun Q => p_in (d := d) (L := L) (x := x) (A := lN 0) (B := 7) (a := 0) (b := 7) (h := h) (Q := Q) rfl rfl (by omega) (by omega)
  simp only [e_X8_isRow, s_X8_isRow_0, s_X8_isRow_1, s_X8_isRow_2, s_X8_isRow_3, s_X8_isRow_6, s_X8_isRow_9, e, bI_01, Option.toList_some, List.cons_append, List.nil_append, cl_tl0, cl_tl1, rfv_some, if_true, if_false, or_true, true_or, eq_self, ite_true, ite_false, and_true, true_and, not_true_eq_false, not_false_eq_true]
