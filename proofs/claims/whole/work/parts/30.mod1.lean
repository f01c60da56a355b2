/-! ===== pure: the model: what its towns are worth, a day ===== -/
theorem m4 {k : Nat} (h : k < 5) : (4 + k < 50) = True := eq_true (by omega)
theorem m9 {k : Nat} (h : k < 5) : (9 + k < 50) = True := eq_true (by omega)
theorem m14 {k : Nat} (h : k < 7) : (14 + k < 50) = True := eq_true (by omega)
theorem m21 {k : Nat} (h : k < 7) : (21 + k < 50) = True := eq_true (by omega)
theorem m28 {k : Nat} (h : k < 7) : (28 + k < 50) = True := eq_true (by omega)
theorem m35 {k : Nat} (h : k < 7) : (35 + k < 50) = True := eq_true (by omega)
theorem m42 {k : Nat} (h : k < 7) : (42 + k < 50) = True := eq_true (by omega)
theorem q0 {b j : Nat} (hb : b < 32) (h : j < 50) : (50 * b + j < 1600) = True := eq_true (by omega)
theorem q0b {b : Nat} (hb : b < 32) : (50 * b < 1600) = True := eq_true (by omega)
theorem q4 {b k : Nat} (hb : b < 32) (h : k < 5) : (50 * b + (4 + k) < 1600) = True := eq_true (by omega)
theorem q9 {b k : Nat} (hb : b < 32) (h : k < 5) : (50 * b + (9 + k) < 1600) = True := eq_true (by omega)
theorem q14 {b k : Nat} (hb : b < 32) (h : k < 7) : (50 * b + (14 + k) < 1600) = True := eq_true (by omega)
theorem q21 {b k : Nat} (hb : b < 32) (h : k < 7) : (50 * b + (21 + k) < 1600) = True := eq_true (by omega)
theorem q28 {b k : Nat} (hb : b < 32) (h : k < 7) : (50 * b + (28 + k) < 1600) = True := eq_true (by omega)
theorem q35 {b k : Nat} (hb : b < 32) (h : k < 7) : (50 * b + (35 + k) < 1600) = True := eq_true (by omega)
theorem q42 {b k : Nat} (hb : b < 32) (h : k < 7) : (50 * b + (42 + k) < 1600) = True := eq_true (by omega)
theorem MR_i {h : mMem} {b : Nat} {t : Nat → Nat} (c : MR h b t) : ∀ j, j < 50 → h 107 (50 * b + j) = nI (t j) := c
theorem MR_z {h : mMem} {b : Nat} {t : Nat → Nat} (c : MR h b t) : h 107 (50 * b) = nI (t 0) := c 0 (by omega)
theorem p_most {d L a b : Nat} {h : mMem} {Q : mQ} (ha : a < 1073741824) (hb : b < 1073741824) : WP (d + 1) M_X8_most [.int (nI a), .int (nI b)] (S0 L, h) Q = Q (some (.int (nI (min a b)))) (S0 L, h) := by
  have l : (nI a ≤ nI b) = (a ≤ b) := f_le (by omega) (by omega)
  by_cases hl : a ≤ b
  · simp only [e_X8_most, s_X8_most_0, s_X8_most_1, s_X8_most_2, s_X8_most_5, s_X8_most_6, s_X8_most_9, s_X8_most_10, l, hl, Nat.min_eq_left, cl_tl0, cl_tl1, rfv_some, if_true, if_false, or_true, true_or, eq_self, ite_true, ite_false, and_true, true_and, not_true_eq_false, not_false_eq_true]
  · simp only [e_X8_most, s_X8_most_0, s_X8_most_1, s_X8_most_2, s_X8_most_5, s_X8_most_6, s_X8_most_9, s_X8_most_10, l, hl, show min a b = b by omega, cl_tl0, cl_tl1, rfv_some, if_true, if_false, or_true, true_or, eq_self, ite_true, ite_false, and_true, true_and, not_true_eq_false, not_false_eq_true]
theorem p_least {d L a b : Nat} {h : mMem} {Q : mQ} (ha : a < 1073741824) (hb : b < 1073741824) : WP (d + 1) M_X8_least [.int (nI a - nI b)] (S0 L, h) Q = Q (some (.int (nI (a - b)))) (S0 L, h) := by
  rcases Nat.lt_or_ge a b with hl | hl
  · have e : (nI a - nI b < 0) := pk_sneg (by omega) hl
    have e2 : (0 ≤ nI a - nI b) = False := eq_false (by
      intro h2
      have x1 := Int32.le_iff_toInt_le.mp h2
      have x2 := Int32.lt_iff_toInt_lt.mp e
      omega)
    simp only [e_X8_least, s_X8_least_0, s_X8_least_1, s_X8_least_4, s_X8_least_5, s_X8_least_8, s_X8_least_9, e2, show a - b = 0 by omega, cl_tl0, cl_tl1, rfv_some, if_true, if_false, or_true, true_or, eq_self, ite_true, ite_false, and_true, true_and, not_true_eq_false, not_false_eq_true]
  · have e2 : (0 ≤ nI (a - b)) = True := eq_true ((nI_leI (a := 0) (by omega) (by omega)).mpr (by omega))
    simp only [e_X8_least, s_X8_least_0, s_X8_least_1, s_X8_least_4, s_X8_least_5, s_X8_least_8, s_X8_least_9, pk_sub hl, e2, cl_tl0, cl_tl1, rfv_some, if_true, if_false, or_true, true_or, eq_self, ite_true, ite_false, and_true, true_and, not_true_eq_false, not_false_eq_true]
theorem p_worthOf {d L b r k : Nat} {t : Nat → Nat} {h : mMem} {Q : mQ} (hb : b < 32) (c : MR h b t) (w : Wf t) (hd : t 2 ≤ 2000) (hr : r < t 1) (hk : k < t 0) : WP (d + 2) M_X8_worthOf [.ref 106, .int (nI (50 * b)), .int (nI r), .int (nI k)] (S0 L, h) Q = Q (some (.int (nI (wrt t r k)))) (S0 L, h) := by
  have h1 := w.1
  have h2 := w.2.1
  have hr7 : r < 7 := by omega
  have hk5 : k < 5 := by omega
  have b1 := (w.2.2.1 k hk).2
  have b2 := w.2.2.2.1 r hr
  have m1 : t (9 + k) * (t (28 + r) - t 2) ≤ 20 * 60 := Nat.mul_le_mul b1 (by omega)
  have m2 : t (21 + r) * min (t (28 + r) - t 2) 9 ≤ 20 * 9 := Nat.mul_le_mul b2.2.1.2 (by omega)
  have x1 := fun Q => p_least (d := d) (L := L) (h := h) (Q := Q) (a := t (28 + r)) (b := t 2) (by omega) (by omega)
  have l1 : (nI (t 2) ≤ nI (t (28 + r))) = (t 2 ≤ t (28 + r)) := f_le (by omega) (by omega)
  have q2 := pk_div (a := t (21 + r)) (d := 2) (by omega) (by omega) (by omega)
  have q3 := pk_div (a := t (21 + r) * min (t (28 + r) - t 2) 9 - t (9 + k)) (d := 2) (by omega) (by omega) (by omega)
  have x2 := fun Q => p_least (d := d) (L := L) (h := h) (Q := Q) (a := t (21 + r)) (b := t (9 + k) * (t (28 + r) - t 2)) (by omega) (by omega)
  have x3 := fun Q => p_least (d := d) (L := L) (h := h) (Q := Q) (a := t (21 + r) / 2) (b := t (9 + k) * (t (28 + r) - t 2)) (by omega) (by omega)
  have x4 := fun Q => p_least (d := d) (L := L) (h := h) (Q := Q) (a := 3 * t (21 + r)) (b := t (9 + k) * (t (28 + r) - t 2)) (by omega) (by omega)
  have x5 := fun Q => p_most (d := d) (L := L) (h := h) (Q := Q) (a := t (28 + r) - t 2) (b := 9) (by omega) (by omega)
  have x6 := fun Q => p_least (d := d) (L := L) (h := h) (Q := Q) (a := t (21 + r) * min (t (28 + r) - t 2) 9) (b := t (9 + k)) (by omega) (by omega)
  have n2z : (nI 2 = (0 : Int32)) = False := eq_false (by decide)
  have cr := MR_i c
  have ek := cr (14 + r) (by omega)
  unfold wrt
  rcases (show t (14 + r) = 1 ∨ t (14 + r) = 2 ∨ t (14 + r) = 3 ∨ t (14 + r) = 4 ∨ t (14 + r) = 5 by omega) with e | e | e | e | e <;> rw [e] at ek <;> by_cases hp : t 2 ≤ t (28 + r) <;> simp +decide only [e_X8_worthOf, s_X8_worthOf_0, s_X8_worthOf_1, s_X8_worthOf_4, s_X8_worthOf_5, s_X8_worthOf_7, s_X8_worthOf_8, s_X8_worthOf_9, s_X8_worthOf_10, s_X8_worthOf_11, s_X8_worthOf_12, s_X8_worthOf_15, s_X8_worthOf_16, s_X8_worthOf_17, s_X8_worthOf_18, s_X8_worthOf_19, s_X8_worthOf_20, s_X8_worthOf_23, s_X8_worthOf_25, s_X8_worthOf_26, s_X8_worthOf_29, s_X8_worthOf_30, s_X8_worthOf_31, s_X8_worthOf_32, s_X8_worthOf_33, s_X8_worthOf_34, s_X8_worthOf_37, s_X8_worthOf_38, s_X8_worthOf_40, s_X8_worthOf_41, s_X8_worthOf_42, s_X8_worthOf_43, s_X8_worthOf_44, s_X8_worthOf_47, s_X8_worthOf_48, s_X8_worthOf_51, s_X8_worthOf_52, s_X8_worthOf_54, s_X8_worthOf_55, s_X8_worthOf_58, s_X8_worthOf_59, s_X8_worthOf_61, s_X8_worthOf_62, s_X8_worthOf_63, s_X8_worthOf_64, s_X8_worthOf_65, s_X8_worthOf_67, s_X8_worthOf_68, s_X8_worthOf_71, s_X8_worthOf_72, s_X8_worthOf_74, s_X8_worthOf_75, s_X8_worthOf_76, s_X8_worthOf_77, s_X8_worthOf_78, s_X8_worthOf_80, s_X8_worthOf_81, s_X8_worthOf_84, s_X8_worthOf_85, s_X8_worthOf_87, s_X8_worthOf_88, s_X8_worthOf_89, s_X8_worthOf_90, s_X8_worthOf_91, s_X8_worthOf_120, s_X8_worthOf_122, s_X8_worthOf_125, s_X8_worthOf_126, s_X8_worthOf_129, s_X8_worthOf_131, s_X8_worthOf_133, s_X8_worthOf_135, s_X8_worthOf_136, s_X8_worthOf_137, s_X8_worthOf_140, s_X8_worthOf_141, s_X8_worthOf_143, s_X8_worthOf_146, s_X8_worthOf_147, s_X8_worthOf_150, s_X8_worthOf_152, s_X8_worthOf_153, s_X8_worthOf_154, s_X8_worthOf_156, s_X8_worthOf_158, s_X8_worthOf_159, s_X8_worthOf_160, s_X8_worthOf_163, s_X8_worthOf_164, s_X8_worthOf_165, s_X8_worthOf_167, s_X8_worthOf_168, s_X8_worthOf_170, s_X8_worthOf_172, s_X8_worthOf_173, s_X8_worthOf_174, s_X8_worthOf_177, s_X8_worthOf_178, s_X8_worthOf_180, s_X8_worthOf_182, s_X8_worthOf_184, s_X8_worthOf_187, s_X8_worthOf_188, s_X8_worthOf_190, s_X8_worthOf_191, s_X8_worthOf_194, s_X8_worthOf_195, s_X8_worthOf_197, s_X8_worthOf_199, s_X8_worthOf_201, s_X8_worthOf_204, s_X8_worthOf_205, s_X8_worthOf_207, s_X8_worthOf_208, s_X8_worthOf_211, s_X8_worthOf_212, s_X8_worthOf_213, kS_106, rS_106_0, rS_106_3, rS_106_4, rS_106_5, rS_106_6, rS_106_7, rS_106_11, kS_107, lS_107, kS_108, lS_108, kS_109, lS_109, kS_110, lS_110, kS_111, lS_111, kS_112, lS_112, kS_113, lS_113, m4, m9, m14, m21, m28, m35, m42, q0, q0b, q4, q9, q14, q21, q28, q35, q42, Nat.add_assoc, Nat.reduceAdd, nI_add, Nat.add_zero, hb, hr7, hk5, e, ek, hp, show (t (28 + r) < t 2) = ¬ (t 2 ≤ t (28 + r)) by simp, cr, x1, x2, x3, x4, x5, x6, q2, q3, n2z, l1, pk_mul, z_0, z_1, nI_lite, Nat.reduceLT, Option.toList_some, List.cons_append, List.nil_append, cl_tl0, cl_tl1, rfv_some, if_true, if_false, or_true, true_or, eq_self, ite_true, ite_false, and_true, true_and, not_true_eq_false, not_false_eq_true]
