/-! ===== pure: places in a row, on both sides ===== -/
def spB (i n : Int32) (m : Nat) : Bool := decide (¬ i < 0 ∧ ¬ n < 0 ∧ i.toInt + n.toInt ≤ (m : Int))
theorem spB_t {i n : Int32} {m : Nat} (h : spB i n m = true) : ∃ a b, i = nI a ∧ n = nI b ∧ a + b ≤ m := by
  obtain ⟨h1, h2, h3⟩ := of_decide_eq_true h
  obtain ⟨a, ha, rfl⟩ := nI_of h1
  obtain ⟨b, hb, rfl⟩ := nI_of h2
  rw [nI_toInt ha, nI_toInt hb] at h3
  exact ⟨a, b, rfl, rfl, by omega⟩
theorem spB_n {a b m : Nat} (ha : a < 2147483648) (hb : b < 2147483648) : (¬ nI a < 0 ∧ ¬ nI b < 0 ∧ (nI a).toInt + (nI b).toInt ≤ (m : Int)) = (a + b ≤ m) := propext (by
  rw [nI_toInt ha, nI_toInt hb]
  constructor
  · rintro ⟨-, -, h⟩
    omega
  · intro h
    exact ⟨nI_pos ha, nI_pos hb, by omega⟩)
theorem spB_a {i : Int32} {n m : Nat} (hn : n < 2147483648) (h : spB i (nI n) m = true) : ∃ a, i = nI a ∧ a + n ≤ m := by
  obtain ⟨h1, h2, h3⟩ := of_decide_eq_true h
  obtain ⟨a, ha, rfl⟩ := nI_of h1
  rw [nI_toInt ha, nI_toInt hn] at h3
  exact ⟨a, rfl, by omega⟩
theorem p_holds {d L r m : Nat} {i n : Int32} {h : mMem} {Q : mQ} (hr : r < 8) (hm : m ≤ 40) (c : h 16 r = nI m) : WP (d + 1) M_X5_holds [.ref 5, .int (nI r), .int i, .int n] (S0 L, h) Q = Q (some (.int (bI (spB i n m)))) (S0 L, h) := by
  unfold spB
  by_cases h1 : i < 0
  · rw [decide_eq_false (fun hh => hh.1 h1)]
    simp only [e_X5_holds, s_X5_holds_0, s_X5_holds_1, s_X5_holds_4, s_X5_holds_5, s_X5_holds_8, s_X5_holds_9, s_X5_holds_10, s_X5_holds_13, s_X5_holds_14, s_X5_holds_15, s_X5_holds_16, s_X5_holds_17, s_X5_holds_20, s_X5_holds_21, s_X5_holds_24, s_X5_holds_25, eq_true h1, bI_f, n01_0, cl_tl0, cl_tl1, rfv_some, if_true, if_false, or_true, true_or, eq_self, ite_true, ite_false, and_true, true_and, not_true_eq_false, not_false_eq_true]
  · by_cases h2 : n < 0
    · rw [decide_eq_false (fun hh => hh.2.1 h2)]
      simp only [e_X5_holds, s_X5_holds_0, s_X5_holds_1, s_X5_holds_4, s_X5_holds_5, s_X5_holds_8, s_X5_holds_9, s_X5_holds_10, s_X5_holds_13, s_X5_holds_14, s_X5_holds_15, s_X5_holds_16, s_X5_holds_17, s_X5_holds_20, s_X5_holds_21, s_X5_holds_24, s_X5_holds_25, eq_false h1, eq_true h2, bI_f, n01_0, cl_tl0, cl_tl1, rfv_some, if_true, if_false, or_true, true_or, eq_self, ite_true, ite_false, and_true, true_and, not_true_eq_false, not_false_eq_true]
    · obtain ⟨a, ha, rfl⟩ := nI_of h1
      obtain ⟨b, hb, rfl⟩ := nI_of h2
      have l1 : (nI m - nI b < nI a) = ¬ (a + b ≤ m) := propext (by
        rw [Int32.lt_iff_toInt_lt, Int32.toInt_sub, nI_toInt (by omega), nI_toInt (by omega), nI_toInt (by omega), Int.bmod_eq_of_le (by omega) (by omega)]
        omega)
      simp only [spB_n ha hb]
      by_cases h3 : a + b ≤ m
      · rw [decide_eq_true h3]
        simp only [e_X5_holds, s_X5_holds_0, s_X5_holds_1, s_X5_holds_4, s_X5_holds_5, s_X5_holds_8, s_X5_holds_9, s_X5_holds_10, s_X5_holds_13, s_X5_holds_14, s_X5_holds_15, s_X5_holds_16, s_X5_holds_17, s_X5_holds_20, s_X5_holds_21, s_X5_holds_24, s_X5_holds_25, kS_5, rS_5_0, rS_5_1, rS_5_2, kS_6, lS_6, kS_15, lS_15, kS_16, lS_16, hr, eq_false h1, eq_false h2, c, l1, eq_true h3, bI_t, n01_1, Nat.reduceLT, cl_tl0, cl_tl1, rfv_some, if_true, if_false, or_true, true_or, eq_self, ite_true, ite_false, and_true, true_and, not_true_eq_false, not_false_eq_true]
      · rw [decide_eq_false h3]
        simp only [e_X5_holds, s_X5_holds_0, s_X5_holds_1, s_X5_holds_4, s_X5_holds_5, s_X5_holds_8, s_X5_holds_9, s_X5_holds_10, s_X5_holds_13, s_X5_holds_14, s_X5_holds_15, s_X5_holds_16, s_X5_holds_17, s_X5_holds_20, s_X5_holds_21, s_X5_holds_24, s_X5_holds_25, kS_5, rS_5_0, rS_5_1, rS_5_2, kS_6, lS_6, kS_15, lS_15, kS_16, lS_16, hr, eq_false h1, eq_false h2, c, l1, eq_false h3, bI_f, n01_0, Nat.reduceLT, cl_tl0, cl_tl1, rfv_some, if_true, if_false, or_true, true_or, eq_self, ite_true, ite_false, and_true, true_and, not_true_eq_false, not_false_eq_true]
theorem p_isSpan {d L r m : Nat} {i n : Int32} {h : mMem} {Q : mQ} (hr : r < 8) (hm : m ≤ 40) (c : h 110 r = nI m) : WP (d + 1) M_X8_isSpan [.ref 106, .int (nI r), .int i, .int n] (S0 L, h) Q = Q (some (.int (bI (spB i n m)))) (S0 L, h) := by
  unfold spB
  by_cases h1 : i < 0
  · rw [decide_eq_false (fun hh => hh.1 h1)]
    simp only [e_X8_isSpan, s_X8_isSpan_0, s_X8_isSpan_1, s_X8_isSpan_4, s_X8_isSpan_5, s_X8_isSpan_8, s_X8_isSpan_9, s_X8_isSpan_10, s_X8_isSpan_11, s_X8_isSpan_12, s_X8_isSpan_13, s_X8_isSpan_14, s_X8_isSpan_17, s_X8_isSpan_18, s_X8_isSpan_19, s_X8_isSpan_20, s_X8_isSpan_21, s_X8_isSpan_24, s_X8_isSpan_25, s_X8_isSpan_28, s_X8_isSpan_29, eq_true h1, bI_f, n01_0, cl_tl0, cl_tl1, rfv_some, if_true, if_false, or_true, true_or, eq_self, ite_true, ite_false, and_true, true_and, not_true_eq_false, not_false_eq_true]
  · by_cases h2 : n < 0
    · rw [decide_eq_false (fun hh => hh.2.1 h2)]
      simp only [e_X8_isSpan, s_X8_isSpan_0, s_X8_isSpan_1, s_X8_isSpan_4, s_X8_isSpan_5, s_X8_isSpan_8, s_X8_isSpan_9, s_X8_isSpan_10, s_X8_isSpan_11, s_X8_isSpan_12, s_X8_isSpan_13, s_X8_isSpan_14, s_X8_isSpan_17, s_X8_isSpan_18, s_X8_isSpan_19, s_X8_isSpan_20, s_X8_isSpan_21, s_X8_isSpan_24, s_X8_isSpan_25, s_X8_isSpan_28, s_X8_isSpan_29, eq_false h1, eq_true h2, bI_f, n01_0, cl_tl0, cl_tl1, rfv_some, if_true, if_false, or_true, true_or, eq_self, ite_true, ite_false, and_true, true_and, not_true_eq_false, not_false_eq_true]
    · obtain ⟨a, ha, rfl⟩ := nI_of h1
      obtain ⟨b, hb, rfl⟩ := nI_of h2
      have l1 : (0 < lg_cmp (lN (a + b)) (lN m)) = ¬ (a + b ≤ m) := by
        rw [propext (lg_cmp_gt _ _), propext (pk_lLT (by omega) (by omega))]
        exact propext (by omega)
      have na := nI_l ha
      have nb := nI_l hb
      have nm := nI_l (n := m) (by omega)
      simp only [spB_n ha hb]
      by_cases h3 : a + b ≤ m
      · rw [decide_eq_true h3]
        simp only [e_X8_isSpan, s_X8_isSpan_0, s_X8_isSpan_1, s_X8_isSpan_4, s_X8_isSpan_5, s_X8_isSpan_8, s_X8_isSpan_9, s_X8_isSpan_10, s_X8_isSpan_11, s_X8_isSpan_12, s_X8_isSpan_13, s_X8_isSpan_14, s_X8_isSpan_17, s_X8_isSpan_18, s_X8_isSpan_19, s_X8_isSpan_20, s_X8_isSpan_21, s_X8_isSpan_24, s_X8_isSpan_25, s_X8_isSpan_28, s_X8_isSpan_29, kS_106, rS_106_0, rS_106_3, rS_106_4, rS_106_5, rS_106_6, rS_106_7, rS_106_11, kS_107, lS_107, kS_108, lS_108, kS_109, lS_109, kS_110, lS_110, kS_111, lS_111, kS_112, lS_112, kS_113, lS_113, hr, eq_false h1, eq_false h2, c, na, nb, nm, lN_add, l1, eq_true h3, bI_t, n01_1, Nat.reduceLT, cl_tl0, cl_tl1, rfv_some, if_true, if_false, or_true, true_or, eq_self, ite_true, ite_false, and_true, true_and, not_true_eq_false, not_false_eq_true]
      · rw [decide_eq_false h3]
        simp only [e_X8_isSpan, s_X8_isSpan_0, s_X8_isSpan_1, s_X8_isSpan_4, s_X8_isSpan_5, s_X8_isSpan_8, s_X8_isSpan_9, s_X8_isSpan_10, s_X8_isSpan_11, s_X8_isSpan_12, s_X8_isSpan_13, s_X8_isSpan_14, s_X8_isSpan_17, s_X8_isSpan_18, s_X8_isSpan_19, s_X8_isSpan_20, s_X8_isSpan_21, s_X8_isSpan_24, s_X8_isSpan_25, s_X8_isSpan_28, s_X8_isSpan_29, kS_106, rS_106_0, rS_106_3, rS_106_4, rS_106_5, rS_106_6, rS_106_7, rS_106_11, kS_107, lS_107, kS_108, lS_108, kS_109, lS_109, kS_110, lS_110, kS_111, lS_111, kS_112, lS_112, kS_113, lS_113, hr, eq_false h1, eq_false h2, c, na, nb, nm, lN_add, l1, eq_false h3, bI_f, n01_0, Nat.reduceLT, cl_tl0, cl_tl1, rfv_some, if_true, if_false, or_true, true_or, eq_self, ite_true, ite_false, and_true, true_and, not_true_eq_false, not_false_eq_true]
theorem p_findingIn0 {d L r : Nat} {i n : Int32} {h : mMem} {Q : mQ} (hr : r < 8) (c : h 16 r = -(nI 1)) : WP (d + 2) M_X5_findingIn [.ref 5, .int (nI r), .int i, .int n] (S0 L, h) Q = Q (some (.int (nI 1))) (S0 L, h) := by
  simp only [e_X5_findingIn, s_X5_findingIn_0, s_X5_findingIn_1, s_X5_findingIn_4, s_X5_findingIn_5, s_X5_findingIn_6, s_X5_findingIn_7, s_X5_findingIn_10, s_X5_findingIn_11, s_X5_findingIn_12, s_X5_findingIn_13, s_X5_findingIn_14, s_X5_findingIn_15, s_X5_findingIn_16, s_X5_findingIn_19, s_X5_findingIn_22, s_X5_findingIn_23, s_X5_findingIn_26, s_X5_findingIn_27, kS_5, rS_5_0, rS_5_1, rS_5_2, kS_6, lS_6, kS_15, lS_15, kS_16, lS_16, hr, c, Nat.reduceLT, cl_tl0, cl_tl1, rfv_some, if_true, if_false, or_true, true_or, eq_self, ite_true, ite_false, and_true, true_and, not_true_eq_false, not_false_eq_true]
theorem p_findingIn {d L r m : Nat} {i n : Int32} {h : mMem} {Q : mQ} (hr : r < 8) (hm : m ≤ 40) (c : h 16 r = nI m) : WP (d + 2) M_X5_findingIn [.ref 5, .int (nI r), .int i, .int n] (S0 L, h) Q = Q (some (.int (if spB i n m then nI 0 else nI 2))) (S0 L, h) := by
  have e1 := fun Q => p_holds (d := d) (L := L) (i := i) (n := n) (Q := Q) hr hm c
  cases v : spB i n m
  · rw [v] at e1
    simp only [e_X5_findingIn, s_X5_findingIn_0, s_X5_findingIn_1, s_X5_findingIn_4, s_X5_findingIn_5, s_X5_findingIn_6, s_X5_findingIn_7, s_X5_findingIn_10, s_X5_findingIn_11, s_X5_findingIn_12, s_X5_findingIn_13, s_X5_findingIn_14, s_X5_findingIn_15, s_X5_findingIn_16, s_X5_findingIn_19, s_X5_findingIn_22, s_X5_findingIn_23, s_X5_findingIn_26, s_X5_findingIn_27, kS_5, rS_5_0, rS_5_1, rS_5_2, kS_6, lS_6, kS_15, lS_15, kS_16, lS_16, hr, c, n_m1 (show m < 1000 by omega), e1, bI_f, z_0, Bool.false_eq_true, Option.toList_some, List.cons_append, List.nil_append, Nat.reduceLT, cl_tl0, cl_tl1, rfv_some, if_true, if_false, or_true, true_or, eq_self, ite_true, ite_false, and_true, true_and, not_true_eq_false, not_false_eq_true]
  · rw [v] at e1
    simp only [e_X5_findingIn, s_X5_findingIn_0, s_X5_findingIn_1, s_X5_findingIn_4, s_X5_findingIn_5, s_X5_findingIn_6, s_X5_findingIn_7, s_X5_findingIn_10, s_X5_findingIn_11, s_X5_findingIn_12, s_X5_findingIn_13, s_X5_findingIn_14, s_X5_findingIn_15, s_X5_findingIn_16, s_X5_findingIn_19, s_X5_findingIn_22, s_X5_findingIn_23, s_X5_findingIn_26, s_X5_findingIn_27, kS_5, rS_5_0, rS_5_1, rS_5_2, kS_6, lS_6, kS_15, lS_15, kS_16, lS_16, hr, c, n_m1 (show m < 1000 by omega), e1, bI_t, z_1, Option.toList_some, List.cons_append, List.nil_append, Nat.reduceLT, cl_tl0, cl_tl1, rfv_some, if_true, if_false, or_true, true_or, eq_self, ite_true, ite_false, and_true, true_and, not_true_eq_false, not_false_eq_true]
theorem p_noItems0 {d L r : Nat} {i n : Int32} {h : mMem} {Q : mQ} (hr : r < 8) (c : h 110 r = -(nI 1)) : WP (d + 2) M_X8_noItems [.ref 106, .int (nI r), .int i, .int n] (S0 L, h) Q = Q (some (.int (-1000010 - nI 1))) (S0 L, up2 h 106 10 (nI 1)) := by
  simp only [e_X8_noItems, s_X8_noItems_0, s_X8_noItems_1, s_X8_noItems_4, s_X8_noItems_5, s_X8_noItems_6, s_X8_noItems_9, s_X8_noItems_10, s_X8_noItems_11, s_X8_noItems_14, s_X8_noItems_17, s_X8_noItems_18, s_X8_noItems_19, s_X8_noItems_20, s_X8_noItems_21, s_X8_noItems_24, s_X8_noItems_27, s_X8_noItems_28, s_X8_noItems_31, s_X8_noItems_32, s_X8_noItems_33, s_X8_noItems_36, kS_106, rS_106_0, rS_106_3, rS_106_4, rS_106_5, rS_106_6, rS_106_7, rS_106_11, kS_107, lS_107, kS_108, lS_108, kS_109, lS_109, kS_110, lS_110, kS_111, lS_111, kS_112, lS_112, kS_113, lS_113, hr, c, m1_ge, p_find, Option.toList_some, List.cons_append, List.nil_append, Nat.reduceLT, cl_tl0, cl_tl1, rfv_some, if_true, if_false, or_true, true_or, eq_self, ite_true, ite_false, and_true, true_and, not_true_eq_false, not_false_eq_true]
theorem p_noItemsf {d L r m : Nat} {i n : Int32} {h : mMem} {Q : mQ} (hr : r < 8) (hm : m ≤ 40) (c : h 110 r = nI m) (v : spB i n m = false) : WP (d + 2) M_X8_noItems [.ref 106, .int (nI r), .int i, .int n] (S0 L, h) Q = Q (some (.int (-1000010 - nI 2))) (S0 L, up2 h 106 10 (nI 2)) := by
  have e1 := fun Q => p_isSpan (d := d) (L := L) (i := i) (n := n) (Q := Q) hr hm c
  rw [v] at e1
  simp only [e_X8_noItems, s_X8_noItems_0, s_X8_noItems_1, s_X8_noItems_4, s_X8_noItems_5, s_X8_noItems_6, s_X8_noItems_9, s_X8_noItems_10, s_X8_noItems_11, s_X8_noItems_14, s_X8_noItems_17, s_X8_noItems_18, s_X8_noItems_19, s_X8_noItems_20, s_X8_noItems_21, s_X8_noItems_24, s_X8_noItems_27, s_X8_noItems_28, s_X8_noItems_31, s_X8_noItems_32, s_X8_noItems_33, s_X8_noItems_36, kS_106, rS_106_0, rS_106_3, rS_106_4, rS_106_5, rS_106_6, rS_106_7, rS_106_11, kS_107, lS_107, kS_108, lS_108, kS_109, lS_109, kS_110, lS_110, kS_111, lS_111, kS_112, lS_112, kS_113, lS_113, hr, c, n_ge (show m < 1000 by omega), e1, p_find, bI_f, z_0, Option.toList_some, List.cons_append, List.nil_append, Nat.reduceLT, cl_tl0, cl_tl1, rfv_some, if_true, if_false, or_true, true_or, eq_self, ite_true, ite_false, and_true, true_and, not_true_eq_false, not_false_eq_true]
theorem p_noItemst {d L r m : Nat} {i n : Int32} {h : mMem} {Q : mQ} (hr : r < 8) (hm : m ≤ 40) (c : h 110 r = nI m) (v : spB i n m = true) : WP (d + 2) M_X8_noItems [.ref 106, .int (nI r), .int i, .int n] (S0 L, h) Q = Q (some (.int (nI 0))) (S0 L, h) := by
  have e1 := fun Q => p_isSpan (d := d) (L := L) (i := i) (n := n) (Q := Q) hr hm c
  rw [v] at e1
  simp only [e_X8_noItems, s_X8_noItems_0, s_X8_noItems_1, s_X8_noItems_4, s_X8_noItems_5, s_X8_noItems_6, s_X8_noItems_9, s_X8_noItems_10, s_X8_noItems_11, s_X8_noItems_14, s_X8_noItems_17, s_X8_noItems_18, s_X8_noItems_19, s_X8_noItems_20, s_X8_noItems_21, s_X8_noItems_24, s_X8_noItems_27, s_X8_noItems_28, s_X8_noItems_31, s_X8_noItems_32, s_X8_noItems_33, s_X8_noItems_36, kS_106, rS_106_0, rS_106_3, rS_106_4, rS_106_5, rS_106_6, rS_106_7, rS_106_11, kS_107, lS_107, kS_108, lS_108, kS_109, lS_109, kS_110, lS_110, kS_111, lS_111, kS_112, lS_112, kS_113, lS_113, hr, c, n_ge (show m < 1000 by omega), e1, bI_t, z_1, Option.toList_some, List.cons_append, List.nil_append, Nat.reduceLT, cl_tl0, cl_tl1, rfv_some, if_true, if_false, or_true, true_or, eq_self, ite_true, ite_false, and_true, true_and, not_true_eq_false, not_false_eq_true]
theorem fd_1 : ((-1000010 : Int32) - nI 1 = 0) = False := eq_false (by decide)
theorem fd_2 : ((-1000010 : Int32) - nI 2 = 0) = False := eq_false (by decide)
theorem z_2 : (nI 2 = (0 : Int32)) = False := eq_false (by decide)
theorem rS_6r (L : Nat) {r : Nat} (h : r < 8) : rfo (S0 L) 6 r = some (7 + r) := by
  rcases (show r = 0 ∨ r = 1 ∨ r = 2 ∨ r = 3 ∨ r = 4 ∨ r = 5 ∨ r = 6 ∨ r = 7 by omega) with rfl | rfl | rfl | rfl | rfl | rfl | rfl | rfl <;> rfl
theorem kS_7r (L : Nat) {r : Nat} (h : r < 8) : kd (S0 L) (7 + r) = 0 := by
  rcases (show r = 0 ∨ r = 1 ∨ r = 2 ∨ r = 3 ∨ r = 4 ∨ r = 5 ∨ r = 6 ∨ r = 7 by omega) with rfl | rfl | rfl | rfl | rfl | rfl | rfl | rfl <;> rfl
theorem lS_7r (L : Nat) {r : Nat} (h : r < 8) : ln (S0 L) (7 + r) = 40 := by
  rcases (show r = 0 ∨ r = 1 ∨ r = 2 ∨ r = 3 ∨ r = 4 ∨ r = 5 ∨ r = 6 ∨ r = 7 by omega) with rfl | rfl | rfl | rfl | rfl | rfl | rfl | rfl <;> rfl
