/-! ===== pure: the class's houses: reads ===== -/
theorem mx0 {a b : Nat} (ha : a < 1073741824) (hb : b < 1073741824) : (if nI a - nI b < nI 0 then nI 0 else nI a - nI b) = nI (a - b) := by
  rcases Nat.lt_or_ge a b with h | h
  · rw [if_pos (by rw [nI_0]; exact pk_sneg (by omega) h), show a - b = 0 by omega]
  · rw [if_neg, pk_sub h]
    rw [pk_sub h]
    exact nI_pos (by omega)
theorem mx0' {a b : Nat} (ha : a < 1073741824) (hb : b < 1073741824) : (if nI a - nI b < 0 then nI 0 else nI a - nI b) = nI (a - b) := mx0 ha hb
theorem mn0 {a b : Nat} (ha : a < 1073741824) (hb : b < 1073741824) : (if nI b < nI a then nI b else nI a) = nI (min a b) := by
  rcases Nat.lt_or_ge b a with h | h
  · rw [if_pos (nI_lt h (by omega)), show min a b = b by omega]
  · rw [if_neg (nI_nlt h (by omega)), show min a b = a by omega]
/-- WORTH -/
def wrt (t : Nat → Nat) (r k : Nat) : Nat :=
  if t (14 + r) = 1 then (if t (28 + r) < t 2 then 0 else t (21 + r) - t (9 + k) * (t (28 + r) - t 2))
  else if t (14 + r) = 2 then (if t (28 + r) < t 2 then 0 else t (21 + r) / 2 - t (9 + k) * (t (28 + r) - t 2))
  else if t (14 + r) = 3 then 3 * t (21 + r) - t (9 + k) * (t (28 + r) - t 2)
  else if t (14 + r) = 4 then t (21 + r) * min (t (28 + r) - t 2) 9 - t (9 + k)
  else (t (21 + r) * min (t (28 + r) - t 2) 9 - t (9 + k)) / 2
theorem f_le0 {n : Nat} (h : 1 ≤ n) (h2 : n < 2147483648) : (nI n ≤ 0) = False := eq_false (nI_nle (by omega) (by omega))
theorem f_lt0 {n : Nat} (h2 : n < 2147483648) : (nI n < 0) = False := eq_false (nI_pos (by omega))
theorem f_le {a b : Nat} (ha : a < 2147483648) (hb : b < 2147483648) : (nI a ≤ nI b) = (a ≤ b) := propext (nI_leI (by omega) (by omega))
theorem f_lt {a b : Nat} (ha : a < 2147483648) (hb : b < 2147483648) : (nI a < nI b) = (a < b) := propext (nI_ltI (by omega) (by omega))
theorem f_eq {a b : Nat} (ha : a < 2147483648) (hb : b < 2147483648) : (nI a = nI b) = (a = b) := propext (nI_eq (by omega) (by omega))
theorem f_eq0 {a : Nat} (ha : a < 2147483648) : (nI a = (0 : Int32)) = (a = 0) := propext (nI_eq (b := 0) (by omega) (by omega))
theorem p_stands {d L o : Nat} {t : Nat → Nat} {h : mMem} {Q : mQ} (ho : Hs o) (c : CR h o t) (w : Wf t) : WP (d + 1) M_X4_stands [.ref o] (S0 L, h) Q = Q (some (.int (nI 1))) (S0 L, h) := by
  have h1 := w.2.1
  have e := f_le0 h1.1 (show t 1 < 2147483648 by omega)
  simp only [e_X4_stands, s_X4_stands_0, s_X4_stands_1, s_X4_stands_4, s_X4_stands_7, s_X4_stands_8, s_X4_stands_11, s_X4_stands_12, kH, rH1, rH2, rH4, rH5, rH6, rH7, rH8, kH_1, kH_2, kH_3, kH_4, kH_5, kH_6, kH_7, lH_1, lH_2, lH_3, lH_4, lH_5, lH_6, lH_7, ho, CR_1 c, e, cl_tl0, cl_tl1, rfv_some, if_true, if_false, or_true, true_or, eq_self, ite_true, ite_false, and_true, true_and, not_true_eq_false, not_false_eq_true]
theorem p_stands_f {d L o : Nat} {h : mMem} {Q : mQ} (ho : Hs o) (c : h o 3 = nI 0) : WP (d + 1) M_X4_stands [.ref o] (S0 L, h) Q = Q (some (.int (nI 0))) (S0 L, h) := by
  have e : (nI 0 ≤ 0) = True := eq_true (by decide)
  simp only [e_X4_stands, s_X4_stands_0, s_X4_stands_1, s_X4_stands_4, s_X4_stands_7, s_X4_stands_8, s_X4_stands_11, s_X4_stands_12, kH, rH1, rH2, rH4, rH5, rH6, rH7, rH8, kH_1, kH_2, kH_3, kH_4, kH_5, kH_6, kH_7, lH_1, lH_2, lH_3, lH_4, lH_5, lH_6, lH_7, ho, c, e, cl_tl0, cl_tl1, rfv_some, if_true, if_false, or_true, true_or, eq_self, ite_true, ite_false, and_true, true_and, not_true_eq_false, not_false_eq_true]
theorem p_hasHeir_t {d L o k : Nat} {t : Nat → Nat} {h : mMem} {Q : mQ} (ho : Hs o) (c : CR h o t) (w : Wf t) (hk : k < t 0) : WP (d + 1) M_X4_hasHeir [.ref o, .int (nI k)] (S0 L, h) Q = Q (some (.int (nI 1))) (S0 L, h) := by
  have h1 := w.1
  have e1 := f_lt0 (show k < 2147483648 by omega)
  have e2 : (nI (t 0) ≤ nI k) = False := by rw [f_le (by omega) (by omega)]; exact eq_false (by omega)
  simp only [e_X4_hasHeir, s_X4_hasHeir_0, s_X4_hasHeir_1, s_X4_hasHeir_4, s_X4_hasHeir_5, s_X4_hasHeir_6, s_X4_hasHeir_9, s_X4_hasHeir_12, s_X4_hasHeir_13, s_X4_hasHeir_16, s_X4_hasHeir_17, kH, rH1, rH2, rH4, rH5, rH6, rH7, rH8, kH_1, kH_2, kH_3, kH_4, kH_5, kH_6, kH_7, lH_1, lH_2, lH_3, lH_4, lH_5, lH_6, lH_7, ho, CR_0 c, e1, e2, cl_tl0, cl_tl1, rfv_some, if_true, if_false, or_true, true_or, eq_self, ite_true, ite_false, and_true, true_and, not_true_eq_false, not_false_eq_true]
theorem p_hasHeir_f {d L o n : Nat} {x : Int32} {h : mMem} {Q : mQ} (ho : Hs o) (c : h o 0 = nI n) (hn : n < 2147483648) (hx : ¬ ∃ k, k < n ∧ x = nI k) : WP (d + 1) M_X4_hasHeir [.ref o, .int x] (S0 L, h) Q = Q (some (.int (nI 0))) (S0 L, h) := by
  simp only [e_X4_hasHeir, s_X4_hasHeir_0, s_X4_hasHeir_1, s_X4_hasHeir_4, s_X4_hasHeir_5, s_X4_hasHeir_6, s_X4_hasHeir_9, s_X4_hasHeir_12, s_X4_hasHeir_13, s_X4_hasHeir_16, s_X4_hasHeir_17, kH, rH1, rH2, rH4, rH5, rH6, rH7, rH8, kH_1, kH_2, kH_3, kH_4, kH_5, kH_6, kH_7, lH_1, lH_2, lH_3, lH_4, lH_5, lH_6, lH_7, ho, c, cl_tl0, cl_tl1, rfv_some, if_true, if_false, or_true, true_or, eq_self, ite_true, ite_false, and_true, true_and, not_true_eq_false, not_false_eq_true]
  by_cases h0 : x < 0
  · rw [if_pos h0]
  · obtain ⟨k, hk, rfl⟩ := nI_of h0
    rw [if_neg h0, if_pos]
    exact (nI_leI (by omega) (by omega)).mpr (Nat.le_of_not_lt fun hlt => hx ⟨k, hlt, rfl⟩)
theorem p_hasRight_t {d L o k : Nat} {t : Nat → Nat} {h : mMem} {Q : mQ} (ho : Hs o) (c : CR h o t) (w : Wf t) (hk : k < t 1) : WP (d + 1) M_X4_hasRight [.ref o, .int (nI k)] (S0 L, h) Q = Q (some (.int (nI 1))) (S0 L, h) := by
  have h1 := w.2.1
  have e1 := f_lt0 (show k < 2147483648 by omega)
  have e2 : (nI (t 1) ≤ nI k) = False := by rw [f_le (by omega) (by omega)]; exact eq_false (by omega)
  simp only [e_X4_hasRight, s_X4_hasRight_0, s_X4_hasRight_1, s_X4_hasRight_4, s_X4_hasRight_5, s_X4_hasRight_6, s_X4_hasRight_9, s_X4_hasRight_12, s_X4_hasRight_13, s_X4_hasRight_16, s_X4_hasRight_17, kH, rH1, rH2, rH4, rH5, rH6, rH7, rH8, kH_1, kH_2, kH_3, kH_4, kH_5, kH_6, kH_7, lH_1, lH_2, lH_3, lH_4, lH_5, lH_6, lH_7, ho, CR_1 c, e1, e2, cl_tl0, cl_tl1, rfv_some, if_true, if_false, or_true, true_or, eq_self, ite_true, ite_false, and_true, true_and, not_true_eq_false, not_false_eq_true]
theorem p_hasRight_f {d L o n : Nat} {x : Int32} {h : mMem} {Q : mQ} (ho : Hs o) (c : h o 3 = nI n) (hn : n < 2147483648) (hx : ¬ ∃ k, k < n ∧ x = nI k) : WP (d + 1) M_X4_hasRight [.ref o, .int x] (S0 L, h) Q = Q (some (.int (nI 0))) (S0 L, h) := by
  simp only [e_X4_hasRight, s_X4_hasRight_0, s_X4_hasRight_1, s_X4_hasRight_4, s_X4_hasRight_5, s_X4_hasRight_6, s_X4_hasRight_9, s_X4_hasRight_12, s_X4_hasRight_13, s_X4_hasRight_16, s_X4_hasRight_17, kH, rH1, rH2, rH4, rH5, rH6, rH7, rH8, kH_1, kH_2, kH_3, kH_4, kH_5, kH_6, kH_7, lH_1, lH_2, lH_3, lH_4, lH_5, lH_6, lH_7, ho, c, cl_tl0, cl_tl1, rfv_some, if_true, if_false, or_true, true_or, eq_self, ite_true, ite_false, and_true, true_and, not_true_eq_false, not_false_eq_true]
  by_cases h0 : x < 0
  · rw [if_pos h0]
  · obtain ⟨k, hk, rfl⟩ := nI_of h0
    rw [if_neg h0, if_pos]
    exact (nI_leI (by omega) (by omega)).mpr (Nat.le_of_not_lt fun hlt => hx ⟨k, hlt, rfl⟩)
theorem p_worthAsLent {d L o r k f : Nat} {t : Nat → Nat} {h : mMem} {Q : mQ} (ho : Hs o) (c : CR h o t) (w : Wf t) (hf : f < 10000) (hr : r < t 1) (hk : k < t 0) : WP (d + 1) M_X4_worthAsLent [.ref o, .int (nI r), .int (nI k), .int (nI f)] (S0 L, h) Q = Q (some (.int (nI (t (21 + r) * min f 9 - t (9 + k))))) (S0 L, h) := by
  have h1 := w.1
  have h2 := w.2.1
  have hr7 : r < 7 := by omega
  have hk5 : k < 5 := by omega
  have b1 := (w.2.2.1 k hk).2
  have b2 := (w.2.2.2.1 r hr).2.1
  have m1 : t (21 + r) * min f 9 ≤ 20 * 9 := Nat.mul_le_mul b2.2 (by omega)
  simp only [e_X4_worthAsLent, s_X4_worthAsLent_0, s_X4_worthAsLent_1, s_X4_worthAsLent_4, s_X4_worthAsLent_5, s_X4_worthAsLent_6, s_X4_worthAsLent_7, s_X4_worthAsLent_9, s_X4_worthAsLent_12, s_X4_worthAsLent_13, s_X4_worthAsLent_14, s_X4_worthAsLent_17, s_X4_worthAsLent_18, s_X4_worthAsLent_19, s_X4_worthAsLent_20, s_X4_worthAsLent_21, s_X4_worthAsLent_24, kH, rH1, rH2, rH4, rH5, rH6, rH7, rH8, kH_1, kH_2, kH_3, kH_4, kH_5, kH_6, kH_7, lH_1, lH_2, lH_3, lH_4, lH_5, lH_6, lH_7, ho, hr7, hk5, CR_21 c w hr, CR_9 c w hk, Nat.reduceLT, cl_tl0, cl_tl1, rfv_some, if_true, if_false, or_true, true_or, eq_self, ite_true, ite_false, and_true, true_and, not_true_eq_false, not_false_eq_true]
  rw [mn0 (by omega) (by omega), pk_mul, mx0 (by omega) (by omega)]
theorem p_worthTo {d L o r k : Nat} {t : Nat → Nat} {h : mMem} {Q : mQ} (ho : Hs o) (c : CR h o t) (w : Wf t) (hd : t 2 ≤ 2000) (hr : r < t 1) (hk : k < t 0) : WP (d + 2) M_X4_worthTo [.ref o, .int (nI r), .int (nI k)] (S0 L, h) Q = Q (some (.int (nI (wrt t r k)))) (S0 L, h) := by
  have h1 := w.1
  have h2 := w.2.1
  have hr7 : r < 7 := by omega
  have hk5 : k < 5 := by omega
  have b1 := (w.2.2.1 k hk).2
  have b2 := w.2.2.2.1 r hr
  have m1 : t (9 + k) * (t (28 + r) - t 2) ≤ 20 * 60 := Nat.mul_le_mul b1 (by omega)
  have w1 : ∀ Q, WP (d + 1) M_X4_worthAsLent [.ref o, .int (nI r), .int (nI k), .int (nI (t (28 + r) - t 2))] (S0 L, h) Q = Q (some (.int (nI (t (21 + r) * min (t (28 + r) - t 2) 9 - t (9 + k))))) (S0 L, h) := fun Q => p_worthAsLent ho c w (by omega) hr hk
  have x1 := mx0 (a := t (28 + r)) (b := t 2) (by omega) (by omega)
  have l1 : (nI (t 2) ≤ nI (t (28 + r))) = (t 2 ≤ t (28 + r)) := f_le (by omega) (by omega)
  have q2 := pk_div (a := t (21 + r)) (d := 2) (by omega) (by omega) (by omega)
  have q3 := pk_div (a := t (21 + r) * min (t (28 + r) - t 2) 9 - t (9 + k)) (d := 2) (by have : t (21 + r) * min (t (28 + r) - t 2) 9 ≤ 20 * 9 := Nat.mul_le_mul b2.2.1.2 (by omega); omega) (by omega) (by omega)
  have x2 := mx0 (a := t (21 + r)) (b := t (9 + k) * (t (28 + r) - t 2)) (by omega) (by omega)
  have x3 := mx0 (a := t (21 + r) / 2) (b := t (9 + k) * (t (28 + r) - t 2)) (by omega) (by omega)
  have x4 := mx0 (a := 3 * t (21 + r)) (b := t (9 + k) * (t (28 + r) - t 2)) (by omega) (by omega)
  have n2z : (nI 2 = (0 : Int32)) = False := eq_false (by decide)
  have ek := CR_14 c w hr
  unfold wrt
  rcases (show t (14 + r) = 1 ∨ t (14 + r) = 2 ∨ t (14 + r) = 3 ∨ t (14 + r) = 4 ∨ t (14 + r) = 5 by omega) with e | e | e | e | e <;> rw [e] at ek <;> by_cases hp : t 2 ≤ t (28 + r) <;> simp +decide only [e_X4_worthTo, s_X4_worthTo_0, s_X4_worthTo_1, s_X4_worthTo_4, s_X4_worthTo_5, s_X4_worthTo_6, s_X4_worthTo_7, s_X4_worthTo_10, s_X4_worthTo_11, s_X4_worthTo_12, s_X4_worthTo_15, s_X4_worthTo_16, s_X4_worthTo_17, s_X4_worthTo_20, s_X4_worthTo_21, s_X4_worthTo_22, s_X4_worthTo_23, s_X4_worthTo_24, s_X4_worthTo_26, s_X4_worthTo_27, s_X4_worthTo_30, s_X4_worthTo_31, s_X4_worthTo_34, s_X4_worthTo_35, s_X4_worthTo_36, s_X4_worthTo_39, s_X4_worthTo_40, s_X4_worthTo_43, s_X4_worthTo_44, s_X4_worthTo_46, s_X4_worthTo_47, s_X4_worthTo_50, s_X4_worthTo_51, s_X4_worthTo_52, s_X4_worthTo_84, s_X4_worthTo_86, s_X4_worthTo_89, s_X4_worthTo_90, s_X4_worthTo_93, s_X4_worthTo_94, s_X4_worthTo_97, s_X4_worthTo_98, s_X4_worthTo_99, s_X4_worthTo_101, s_X4_worthTo_102, s_X4_worthTo_103, s_X4_worthTo_106, s_X4_worthTo_107, s_X4_worthTo_109, s_X4_worthTo_112, s_X4_worthTo_113, s_X4_worthTo_116, s_X4_worthTo_117, s_X4_worthTo_120, s_X4_worthTo_121, s_X4_worthTo_122, s_X4_worthTo_123, s_X4_worthTo_124, s_X4_worthTo_126, s_X4_worthTo_127, s_X4_worthTo_128, s_X4_worthTo_131, s_X4_worthTo_132, s_X4_worthTo_133, s_X4_worthTo_134, s_X4_worthTo_137, s_X4_worthTo_138, s_X4_worthTo_139, s_X4_worthTo_140, s_X4_worthTo_142, s_X4_worthTo_143, s_X4_worthTo_144, s_X4_worthTo_147, s_X4_worthTo_148, s_X4_worthTo_149, s_X4_worthTo_150, s_X4_worthTo_151, s_X4_worthTo_152, s_X4_worthTo_155, s_X4_worthTo_156, s_X4_worthTo_157, s_X4_worthTo_158, s_X4_worthTo_159, s_X4_worthTo_160, s_X4_worthTo_163, s_X4_worthTo_164, s_X4_worthTo_165, kH, rH1, rH2, rH4, rH5, rH6, rH7, rH8, kH_1, kH_2, kH_3, kH_4, kH_5, kH_6, kH_7, lH_1, lH_2, lH_3, lH_4, lH_5, lH_6, lH_7, ho, hr7, hk5, e, ek, hp, show (t (28 + r) < t 2) = ¬ (t 2 ≤ t (28 + r)) by simp, CR_21 c w hr, CR_9 c w hk, CR_28 c w hr, CR_2 c, x1, x2, x3, x4, q2, q3, n2z, l1, w1, pk_mul, z_0, z_1, nI_lite, Nat.reduceLT, cl_tl0, cl_tl1, rfv_some, if_true, if_false, or_true, true_or, eq_self, ite_true, ite_false, and_true, true_and, not_true_eq_false, not_false_eq_true]
