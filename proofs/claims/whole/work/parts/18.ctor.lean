/-! ===== what the constructors make ===== -/
theorem cl_tl1 (x : Value) (r : List Value) : (some x).toList ++ r = x :: r := rfl
theorem cl_tl0 (r : List Value) : (none : Option Value).toList ++ r = r := rfl
theorem kd_app (P cs : mSh) (c : Nat × Nat × List (Option Nat)) : kd (P ++ c :: cs) P.length = c.1 := by simp [kd, cel]
theorem rfo_app (P cs : mSh) (c : Nat × Nat × List (Option Nat)) (k : Nat) : rfo (P ++ c :: cs) P.length k = c.2.2.getD k none := by simp [rfo, cel]
theorem setR_app (P cs : mSh) (c : Nat × Nat × List (Option Nat)) (k : Nat) (r : Option Nat) : setR (P ++ c :: cs) P.length k r = P ++ (c.1, c.2.1, c.2.2.set k r) :: cs := by
  unfold setR
  rw [show cel (P ++ c :: cs) P.length = c by simp [cel]]
  simp
theorem cel_appk (P cs : mSh) (k : Nat) : cel (P ++ cs) (P.length + k) = cel cs k := by
  unfold cel
  rw [List.getD_eq_getElem?_getD, List.getD_eq_getElem?_getD, List.getElem?_append_right (by omega), show P.length + k - P.length = k by omega]
theorem kd_appk (P cs : mSh) (k : Nat) : kd (P ++ cs) (P.length + k) = kd cs k := by unfold kd; rw [cel_appk]
theorem ln_appk (P cs : mSh) (k : Nat) : ln (P ++ cs) (P.length + k) = ln cs k := by unfold ln; rw [cel_appk]
theorem rfo_appk (P cs : mSh) (a k : Nat) : rfo (P ++ cs) (P.length + a) k = rfo cs a k := by unfold rfo; rw [cel_appk]
theorem setR_appk (P cs : mSh) (a k : Nat) (r : Option Nat) (h : a < cs.length) : setR (P ++ cs) (P.length + a) k r = P ++ setR cs a k r := by
  unfold setR
  rw [cel_appk, List.set_append_right _ _ (by omega), show P.length + a - P.length = a by omega]
theorem cl2_cl2 (h : mMem) (a b : Nat) (hb : a ≤ b) : cl2 (cl2 h a) b = cl2 h a := by
  funext x j
  simp only [cl2]
  by_cases h1 : b ≤ x
  · rw [if_pos h1, if_pos (by omega)]
  · rw [if_neg h1]
theorem kd_appl {S cs : mSh} {a : Nat} (h : a < S.length) : kd (S ++ cs) a = kd S a := by unfold kd; rw [cel_app_l h]
theorem ln_appl {S cs : mSh} {a : Nat} (h : a < S.length) : ln (S ++ cs) a = ln S a := by unfold ln; rw [cel_app_l h]
theorem rfo_appl {S cs : mSh} {a k : Nat} (h : a < S.length) : rfo (S ++ cs) a k = rfo S a k := by unfold rfo; rw [cel_app_l h]
theorem setR_cel (S : mSh) (a k : Nat) (r : Option Nat) (j : Nat) : (cel (setR S a k r) j).1 = (cel S j).1 ∧ (cel (setR S a k r) j).2.1 = (cel S j).2.1 ∧ (j ≠ a → cel (setR S a k r) j = cel S j) := by
  rcases Nat.lt_or_ge a S.length with h | h
  · unfold setR
    rw [cel_set h]
    by_cases e : j = a
    · subst e
      rw [if_pos rfl]
      exact ⟨rfl, rfl, fun h => absurd rfl h⟩
    · rw [if_neg e]
      exact ⟨rfl, rfl, fun _ => rfl⟩
  · unfold setR
    rw [List.set_eq_of_length_le h]
    exact ⟨rfl, rfl, fun _ => rfl⟩
theorem kd_setR (S : mSh) (a k : Nat) (r : Option Nat) (j : Nat) : kd (setR S a k r) j = kd S j := (setR_cel S a k r j).1
theorem ln_setR (S : mSh) (a k : Nat) (r : Option Nat) (j : Nat) : ln (setR S a k r) j = ln S j := (setR_cel S a k r j).2.1
theorem rfo_setR {S : mSh} {a k : Nat} {r : Option Nat} {j i : Nat} (h : j ≠ a) : rfo (setR S a k r) j i = rfo S j i := by unfold rfo; rw [(setR_cel S a k r j).2.2 h]
theorem len_setR (S : mSh) (a k : Nat) (r : Option Nat) : (setR S a k r).length = S.length := setR_sum2.2
theorem sum_setR (S : mSh) (a k : Nat) (r : Option Nat) : ssum (setR S a k r) = ssum S := setR_sum2.1
/-- a house's cells, the object at a -/
def hsc (a : Nat) : mSh := [(14, 12, [none, some (a + 1), some (a + 2), none, some (a + 3), some (a + 4), some (a + 5), some (a + 6), some (a + 7), none, none, none]), (0, 5, []), (0, 5, []), (0, 7, []), (0, 7, []), (0, 7, []), (0, 7, []), (0, 7, [])]
set_option maxRecDepth 100000 in
set_option maxHeartbeats 4000000 in
theorem p_X4_init {d : Nat} {P : mSh} {h : mMem} {Q : mQ} : WP (d + 1) M_X4_init [.ref P.length] (P ++ [(14, 12, List.replicate 12 none)], h) Q = Q none (P ++ hsc P.length, cl2 h (P.length + 1)) := by
  rw [e_X4_init]
  simp only [s_X4_init_0, s_X4_init_1, s_X4_init_4, s_X4_init_5, s_X4_init_6, s_X4_init_8, s_X4_init_11, s_X4_init_12, s_X4_init_13, s_X4_init_15, s_X4_init_18, s_X4_init_19, s_X4_init_21, s_X4_init_23, s_X4_init_26, s_X4_init_27, s_X4_init_29, s_X4_init_31, s_X4_init_34, s_X4_init_35, s_X4_init_37, s_X4_init_39, s_X4_init_42, s_X4_init_43, s_X4_init_45, s_X4_init_47, s_X4_init_50, s_X4_init_51, s_X4_init_53, s_X4_init_55, s_X4_init_58, kd_app, setR_app, rfo_app, List.append_assoc, List.cons_append, List.nil_append, List.length_append, List.length_cons, List.length_nil, List.length_replicate, ssum_app, ssum_cons, ssum_nil, ssum_rep, Nat.zero_add, Nat.add_zero, Nat.reduceAdd, Nat.reduceLeDiff, Nat.reduceMul, Nat.add_assoc, Nat.add_le_add_iff_left, cl_tl0, cl_tl1, Nat.le_refl, cl2_cl2]
  rfl
/-- the shelf's cells -/
def shf (a : Nat) : mSh := [(15, 3, [some (a + 1), some (a + 10), some (a + 11)]), (3, 8, [some (a + 2), some (a + 3), some (a + 4), some (a + 5), some (a + 6), some (a + 7), some (a + 8), some (a + 9)]), (0, 40, []), (0, 40, []), (0, 40, []), (0, 40, []), (0, 40, []), (0, 40, []), (0, 40, []), (0, 40, []), (0, 8, []), (0, 8, [])]
/-- eight times -1 -/
def m18 (h : mMem) (b : Nat) : mMem := fun a i => if a = b ∧ i < 8 then -(nI 1) else h a i
theorem m18_eq (h : mMem) (b : Nat) : up2 (up2 (up2 (up2 (up2 (up2 (up2 (up2 h b 0 (-(nI 1))) b 1 (-(nI 1))) b 2 (-(nI 1))) b 3 (-(nI 1))) b 4 (-(nI 1))) b 5 (-(nI 1))) b 6 (-(nI 1))) b 7 (-(nI 1)) = m18 h b := by
  funext a i
  simp only [up2, m18]
  by_cases ha : a = b
  · by_cases hi : i < 8
    · rw [if_pos (show a = b ∧ i < 8 from ⟨ha, hi⟩)]
      rcases (show i = 0 ∨ i = 1 ∨ i = 2 ∨ i = 3 ∨ i = 4 ∨ i = 5 ∨ i = 6 ∨ i = 7 by omega) with rfl | rfl | rfl | rfl | rfl | rfl | rfl | rfl <;> simp [ha]
    · rw [if_neg (show ¬ (a = b ∧ i < 8) from fun h => hi h.2)]
      simp only [show ¬ i = 0 by omega, show ¬ i = 1 by omega, show ¬ i = 2 by omega, show ¬ i = 3 by omega, show ¬ i = 4 by omega, show ¬ i = 5 by omega, show ¬ i = 6 by omega, show ¬ i = 7 by omega, and_false, if_false]
  · simp [ha]
theorem cl2_m18 (h : mMem) (a b c : Nat) (h1 : a ≤ c) (h2 : b + 1 ≤ c) : cl2 (m18 (cl2 h a) b) c = m18 (cl2 h a) b := by
  funext x j
  simp only [cl2, m18]
  by_cases hc : c ≤ x
  · rw [if_pos hc, if_neg (fun h => by omega), if_pos (by omega)]
  · rw [if_neg hc]
theorem nI_lit (a b : Nat) (ha : a < 2147483648) (hb : b < 2147483648) : (nI a ≤ nI b) = (a ≤ b) := propext (nI_leI (by omega) (by omega))
theorem nI_litl (a b : Nat) (ha : a < 2147483648) (hb : b < 2147483648) : (nI a < nI b) = (a < b) := propext (nI_ltI (by omega) (by omega))
theorem nI_lite (a b : Nat) (ha : a < 2147483648) (hb : b < 2147483648) : (nI a = nI b) = (a = b) := propext (nI_eq (by omega) (by omega))
theorem rfv_some (b : Nat) : rfv (some b) = .ref b := rfl
set_option maxRecDepth 100000 in
set_option maxHeartbeats 4000000 in
theorem p_X5_init {d : Nat} {P : mSh} {h : mMem} {Q : mQ} : WP (d + 1) M_X5_init [.ref P.length] (P ++ [(15, 3, List.replicate 3 none)], h) Q = Q none (P ++ shf P.length, m18 (cl2 h (P.length + 1)) (P.length + 11)) := by
  rw [e_X5_init]
  simp only [s_X5_init_0, s_X5_init_1, s_X5_init_4, s_X5_init_5, s_X5_init_7, s_X5_init_9, s_X5_init_13, s_X5_init_16, s_X5_init_17, s_X5_init_19, s_X5_init_21, s_X5_init_24, s_X5_init_25, s_X5_init_27, s_X5_init_29, s_X5_init_32, s_X5_init_33, s_X5_init_35, s_X5_init_37, s_X5_init_40, s_X5_init_41, s_X5_init_44, s_X5_init_45, s_X5_init_46, s_X5_init_47, s_X5_init_50, s_X5_init_53, kd_app, setR_app, rfo_app, List.append_assoc, List.cons_append, List.nil_append, List.length_append, List.length_cons, List.length_nil, List.length_replicate, ssum_app, ssum_cons, ssum_nil, ssum_rep, Nat.zero_add, Nat.add_zero, Nat.reduceAdd, Nat.reduceLeDiff, Nat.reduceMul, Nat.add_assoc, Nat.add_le_add_iff_left, cl_tl0, cl_tl1, Nat.le_refl, cl2_cl2]
  show Wp d M_X5_init (some (P.length + 12, ssum P + 347)) 34 [.ref P.length, .int (nI 0)] [] (P ++ shf P.length, cl2 h (P.length + 1)) Q = _
  have k0 : kd (P ++ shf P.length) P.length = 15 := (kd_appk P (shf P.length) 0).trans rfl
  have r2 : rfo (P ++ shf P.length) P.length 2 = some (P.length + 11) := (rfo_appk P (shf P.length) 0 2).trans rfl
  have k1 : kd (P ++ shf P.length) (P.length + 11) = 0 := (kd_appk P (shf P.length) 11).trans rfl
  have l1 : ln (P ++ shf P.length) (P.length + 11) = 8 := (ln_appk P (shf P.length) 11).trans rfl
  have z1 : (P ++ shf P.length).length = P.length + 12 := by rw [List.length_append]; rfl
  have z2 : ssum (P ++ shf P.length) = ssum P + 347 := by rw [ssum_app]; rfl
  generalize P ++ shf P.length = S at k0 r2 k1 l1 z1 z2 ⊢
  simp +decide only [s_X5_init_0, s_X5_init_1, s_X5_init_4, s_X5_init_5, s_X5_init_7, s_X5_init_9, s_X5_init_13, s_X5_init_16, s_X5_init_17, s_X5_init_19, s_X5_init_21, s_X5_init_24, s_X5_init_25, s_X5_init_27, s_X5_init_29, s_X5_init_32, s_X5_init_33, s_X5_init_34, s_X5_init_35, s_X5_init_37, s_X5_init_40, s_X5_init_41, s_X5_init_44, s_X5_init_45, s_X5_init_46, s_X5_init_47, s_X5_init_50, s_X5_init_53, k0, r2, k1, l1, z1, z2, rfv_some, nI_add, nI_lit, Nat.reduceAdd, Nat.reduceLeDiff, Nat.reduceLT, if_true, if_false]
  rw [m18_eq]
theorem q_X4_init {d a : Nat} {S P : mSh} {h : mMem} {Q : mQ} (hS : S = P ++ [(14, 12, List.replicate 12 none)]) (ha : a = P.length) : WP (d + 1) M_X4_init [.ref a] (S, h) Q = Q none (P ++ hsc P.length, cl2 h (P.length + 1)) := by
  subst hS; subst ha; exact p_X4_init
theorem q_X5_init {d a : Nat} {S P : mSh} {h : mMem} {Q : mQ} (hS : S = P ++ [(15, 3, List.replicate 3 none)]) (ha : a = P.length) : WP (d + 1) M_X5_init [.ref a] (S, h) Q = Q none (P ++ shf P.length, m18 (cl2 h (P.length + 1)) (P.length + 11)) := by
  subst hS; subst ha; exact p_X5_init
/-- the acts' cells -/
def act (a : Nat) : mSh := (10, 3, [some (a + 1), none, none]) :: (3, 24, (List.range 24).map (fun j => some (a + (2 + j)))) :: List.replicate 24 (0, 20, [])
set_option maxRecDepth 100000 in
theorem q_X0_init {d a : Nat} {S P : mSh} {h : mMem} {Q : mQ} (hS : S = P ++ [(10, 3, List.replicate 3 none)]) (ha : a = P.length) : WP (d + 1) M_X0_init [.ref a] (S, h) Q = Q none (P ++ act P.length, cl2 h (P.length + 1)) := by
  subst hS; subst ha
  rw [e_X0_init]
  simp only [s_X0_init_0, s_X0_init_1, s_X0_init_4, s_X0_init_5, s_X0_init_7, s_X0_init_9, s_X0_init_13, s_X0_init_16, kd_app, setR_app, rfo_app, List.append_assoc, List.cons_append, List.nil_append, List.length_append, List.length_cons, List.length_nil, List.length_replicate, ssum_app, ssum_cons, ssum_nil, ssum_rep, Nat.zero_add, Nat.add_zero, Nat.reduceAdd, Nat.reduceLeDiff, Nat.reduceMul, Nat.add_assoc, Nat.add_le_add_iff_left, cl_tl0, cl_tl1, Nat.le_refl, cl2_cl2]
  rfl
def askc (a : Nat) : mSh := [(11, 7, [some (a + 1), none, none, none, none, none, none]), (0, 16, [])]
set_option maxRecDepth 100000 in
theorem q_X1_init {d a : Nat} {S P : mSh} {h : mMem} {Q : mQ} (hS : S = P ++ [(11, 7, List.replicate 7 none)]) (ha : a = P.length) : WP (d + 1) M_X1_init [.ref a] (S, h) Q = Q none (P ++ askc P.length, cl2 h (P.length + 1)) := by
  subst hS; subst ha
  rw [e_X1_init]
  simp only [s_X1_init_0, s_X1_init_1, s_X1_init_4, s_X1_init_5, s_X1_init_7, s_X1_init_9, s_X1_init_12, kd_app, setR_app, rfo_app, List.append_assoc, List.cons_append, List.nil_append, List.length_append, List.length_cons, List.length_nil, List.length_replicate, ssum_app, ssum_cons, ssum_nil, ssum_rep, Nat.zero_add, Nat.add_zero, Nat.reduceAdd, Nat.reduceLeDiff, Nat.reduceMul, Nat.add_assoc, Nat.add_le_add_iff_left, cl_tl0, cl_tl1, Nat.le_refl, cl2_cl2]
  rfl
theorem hsc_len (a : Nat) : (hsc a).length = 8 := rfl
theorem hsc_sum (a : Nat) : ssum (hsc a) = 57 := rfl
set_option maxRecDepth 100000 in
theorem shf_len (a : Nat) : (shf a).length = 12 := rfl
set_option maxRecDepth 100000 in
theorem shf_sum (a : Nat) : ssum (shf a) = 347 := rfl
set_option maxRecDepth 100000 in
theorem act_len (a : Nat) : (act a).length = 26 := rfl
set_option maxRecDepth 100000 in
theorem act_sum (a : Nat) : ssum (act a) = 507 := rfl
theorem askc_len (a : Nat) : (askc a).length = 2 := rfl
theorem askc_sum (a : Nat) : ssum (askc a) = 23 := rfl
def fsc (a : Nat) : mSh := (13, 1, [some (a + 1)]) :: hsc (a + 1)
theorem fsc_len (a : Nat) : (fsc a).length = 9 := rfl
theorem fsc_sum (a : Nat) : ssum (fsc a) = 58 := rfl
set_option maxRecDepth 100000 in
theorem q_X3_init {d a : Nat} {S P : mSh} {h : mMem} {Q : mQ} (hS : S = P ++ [(13, 1, List.replicate 1 none)]) (ha : a = P.length) : WP (d + 2) M_X3_init [.ref a] (S, h) Q = Q none (P ++ fsc P.length, cl2 h (P.length + 1)) := by
  subst hS; subst ha
  rw [e_X3_init]
  simp only [s_X3_init_0, s_X3_init_1, s_X3_init_4, s_X3_init_5, s_X3_init_8, s_X3_init_9, s_X3_init_12, s_X3_init_15, kd_app, setR_app, rfo_app, List.append_assoc, List.cons_append, List.nil_append, List.length_append, List.length_cons, List.length_nil, List.length_replicate, ssum_app, ssum_cons, ssum_nil, ssum_rep, Nat.zero_add, Nat.add_zero, Nat.reduceAdd, Nat.reduceLeDiff, Nat.reduceMul, Nat.add_assoc, Nat.add_le_add_iff_left, cl_tl0, cl_tl1, Nat.le_refl, cl2_cl2]
  rw [q_X4_init (P := P ++ [(13, 1, List.replicate 1 none)]) (by simp) (by simp)]
  simp only [s_X3_init_0, s_X3_init_1, s_X3_init_4, s_X3_init_5, s_X3_init_8, s_X3_init_9, s_X3_init_12, s_X3_init_15, hsc_len, hsc_sum, kd_app, setR_app, rfo_app, List.append_assoc, List.cons_append, List.nil_append, List.length_append, List.length_cons, List.length_nil, List.length_replicate, ssum_app, ssum_cons, ssum_nil, ssum_rep, Nat.zero_add, Nat.add_zero, Nat.reduceAdd, Nat.reduceLeDiff, Nat.reduceMul, Nat.add_assoc, Nat.add_le_add_iff_left, cl_tl0, cl_tl1, Nat.le_refl, cl2_cl2]
  rfl
def bar (a : Nat) : mSh := (12, 4, [some (a + 1), some (a + 9), none, none]) :: (hsc (a + 1) ++ (3, 7, (List.range 7).map (fun j => some (a + (10 + j)))) :: List.replicate 7 (0, 5, []))
set_option maxRecDepth 100000 in
theorem bar_len (a : Nat) : (bar a).length = 17 := rfl
set_option maxRecDepth 100000 in
theorem bar_sum (a : Nat) : ssum (bar a) = 103 := rfl
set_option maxRecDepth 100000 in
theorem q_X2_init {d a : Nat} {S P : mSh} {h : mMem} {Q : mQ} (hS : S = P ++ [(12, 4, List.replicate 4 none)]) (ha : a = P.length) : WP (d + 2) M_X2_init [.ref a] (S, h) Q = Q none (P ++ bar P.length, cl2 h (P.length + 1)) := by
  subst hS; subst ha
  rw [e_X2_init]
  simp only [s_X2_init_0, s_X2_init_1, s_X2_init_4, s_X2_init_5, s_X2_init_8, s_X2_init_9, s_X2_init_12, s_X2_init_15, s_X2_init_16, s_X2_init_18, s_X2_init_19, s_X2_init_23, s_X2_init_26, kd_app, setR_app, rfo_app, List.append_assoc, List.cons_append, List.nil_append, List.length_append, List.length_cons, List.length_nil, List.length_replicate, ssum_app, ssum_cons, ssum_nil, ssum_rep, Nat.zero_add, Nat.add_zero, Nat.reduceAdd, Nat.reduceLeDiff, Nat.reduceMul, Nat.add_assoc, Nat.add_le_add_iff_left, cl_tl0, cl_tl1, Nat.le_refl, cl2_cl2]
  rw [q_X4_init (P := P ++ [(12, 4, List.replicate 4 none)]) (by simp) (by simp)]
  simp only [s_X2_init_0, s_X2_init_1, s_X2_init_4, s_X2_init_5, s_X2_init_8, s_X2_init_9, s_X2_init_12, s_X2_init_15, s_X2_init_16, s_X2_init_18, s_X2_init_19, s_X2_init_23, s_X2_init_26, hsc_len, hsc_sum, kd_app, setR_app, rfo_app, List.append_assoc, List.cons_append, List.nil_append, List.length_append, List.length_cons, List.length_nil, List.length_replicate, ssum_app, ssum_cons, ssum_nil, ssum_rep, Nat.zero_add, Nat.add_zero, Nat.reduceAdd, Nat.reduceLeDiff, Nat.reduceMul, Nat.add_assoc, Nat.add_le_add_iff_left, cl_tl0, cl_tl1, Nat.le_refl, cl2_cl2]
  rfl
def tap (a : Nat) : mSh := (16, 5, [some (a + 1), none, none, none, some (a + 2)]) :: (0, 100, []) :: hsc (a + 2)
set_option maxRecDepth 100000 in
theorem tap_len (a : Nat) : (tap a).length = 10 := rfl
set_option maxRecDepth 100000 in
theorem tap_sum (a : Nat) : ssum (tap a) = 162 := rfl
set_option maxRecDepth 100000 in
theorem q_X6_init {d a : Nat} {S P : mSh} {h : mMem} {Q : mQ} (hS : S = P ++ [(16, 5, List.replicate 5 none)]) (ha : a = P.length) : WP (d + 2) M_X6_init [.ref a] (S, h) Q = Q none (P ++ tap P.length, cl2 h (P.length + 1)) := by
  subst hS; subst ha
  rw [e_X6_init]
  simp only [s_X6_init_0, s_X6_init_1, s_X6_init_4, s_X6_init_5, s_X6_init_7, s_X6_init_9, s_X6_init_12, s_X6_init_13, s_X6_init_16, s_X6_init_17, s_X6_init_20, s_X6_init_23, kd_app, setR_app, rfo_app, List.append_assoc, List.cons_append, List.nil_append, List.length_append, List.length_cons, List.length_nil, List.length_replicate, ssum_app, ssum_cons, ssum_nil, ssum_rep, Nat.zero_add, Nat.add_zero, Nat.reduceAdd, Nat.reduceLeDiff, Nat.reduceMul, Nat.add_assoc, Nat.add_le_add_iff_left, cl_tl0, cl_tl1, Nat.le_refl, cl2_cl2]
  rw [q_X4_init (P := P ++ [(16, 5, (List.replicate 5 none).set 0 (some (P.length + 1))), (0, 100, [])]) (by simp) (by simp)]
  simp only [s_X6_init_0, s_X6_init_1, s_X6_init_4, s_X6_init_5, s_X6_init_7, s_X6_init_9, s_X6_init_12, s_X6_init_13, s_X6_init_16, s_X6_init_17, s_X6_init_20, s_X6_init_23, hsc_len, hsc_sum, kd_app, setR_app, rfo_app, List.append_assoc, List.cons_append, List.nil_append, List.length_append, List.length_cons, List.length_nil, List.length_replicate, ssum_app, ssum_cons, ssum_nil, ssum_rep, Nat.zero_add, Nat.add_zero, Nat.reduceAdd, Nat.reduceLeDiff, Nat.reduceMul, Nat.add_assoc, Nat.add_le_add_iff_left, cl_tl0, cl_tl1, Nat.le_refl, cl2_cl2]
  rfl
/-- the class's cells, the object at a; before its images are made -/
def scl0 (a : Nat) : mSh := (17, 10, [some (a + 1), some (a + 13), some (a + 23), some (a + 31), some (a + 32), some (a + 58), some (a + 67), some (a + 84), none, none]) :: (shf (a + 1) ++ (tap (a + 13) ++ (hsc (a + 23) ++ ((2, 2, [none, none]) :: (act (a + 32) ++ (fsc (a + 58) ++ (bar (a + 67) ++ askc (a + 84))))))))
def scl (a : Nat) : mSh := (17, 10, [some (a + 1), some (a + 13), some (a + 23), some (a + 31), some (a + 32), some (a + 58), some (a + 67), some (a + 84), none, none]) :: (shf (a + 1) ++ (tap (a + 13) ++ (hsc (a + 23) ++ ((2, 2, [some (a + 86), some (a + 94)]) :: (act (a + 32) ++ (fsc (a + 58) ++ (bar (a + 67) ++ (askc (a + 84) ++ (hsc (a + 86) ++ hsc (a + 94))))))))))
set_option maxRecDepth 100000 in
set_option maxHeartbeats 4000000 in
theorem q_X7_init {d a : Nat} {S P : mSh} {h : mMem} {Q : mQ} (hS : S = P ++ [(17, 10, List.replicate 10 none)]) (ha : a = P.length) : WP (d + 3) M_X7_init [.ref a] (S, h) Q = Q none (P ++ scl P.length, m18 (cl2 h (P.length + 1)) (P.length + 12)) := by
  subst hS; subst ha
  rw [e_X7_init]
  simp only [s_X7_init_0, s_X7_init_1, s_X7_init_4, s_X7_init_5, s_X7_init_8, s_X7_init_9, s_X7_init_12, s_X7_init_15, s_X7_init_16, s_X7_init_19, s_X7_init_20, s_X7_init_23, s_X7_init_26, s_X7_init_27, s_X7_init_30, s_X7_init_31, s_X7_init_34, s_X7_init_37, s_X7_init_38, s_X7_init_39, s_X7_init_42, s_X7_init_45, s_X7_init_46, s_X7_init_49, s_X7_init_50, s_X7_init_53, s_X7_init_56, s_X7_init_57, s_X7_init_60, s_X7_init_61, s_X7_init_64, s_X7_init_67, s_X7_init_68, s_X7_init_71, s_X7_init_72, s_X7_init_75, s_X7_init_78, s_X7_init_79, s_X7_init_82, s_X7_init_83, s_X7_init_86, s_X7_init_89, s_X7_init_90, s_X7_init_92, s_X7_init_93, s_X7_init_96, s_X7_init_97, s_X7_init_100, s_X7_init_101, s_X7_init_104, s_X7_init_105, s_X7_init_108, s_X7_init_109, s_X7_init_112, s_X7_init_115, kd_app, setR_app, rfo_app, List.append_assoc, List.cons_append, List.nil_append, List.length_append, List.length_cons, List.length_nil, List.length_replicate, ssum_app, ssum_cons, ssum_nil, ssum_rep, Nat.zero_add, Nat.add_zero, Nat.reduceAdd, Nat.reduceLeDiff, Nat.reduceMul, Nat.add_assoc, Nat.add_le_add_iff_left, cl_tl0, cl_tl1, Nat.le_refl, cl2_cl2]
  rw [q_X5_init (P := P ++ [(17, 10, List.replicate 10 none)]) (by simp) (by simp)]
  simp only [s_X7_init_0, s_X7_init_1, s_X7_init_4, s_X7_init_5, s_X7_init_8, s_X7_init_9, s_X7_init_12, s_X7_init_15, s_X7_init_16, s_X7_init_19, s_X7_init_20, s_X7_init_23, s_X7_init_26, s_X7_init_27, s_X7_init_30, s_X7_init_31, s_X7_init_34, s_X7_init_37, s_X7_init_38, s_X7_init_39, s_X7_init_42, s_X7_init_45, s_X7_init_46, s_X7_init_49, s_X7_init_50, s_X7_init_53, s_X7_init_56, s_X7_init_57, s_X7_init_60, s_X7_init_61, s_X7_init_64, s_X7_init_67, s_X7_init_68, s_X7_init_71, s_X7_init_72, s_X7_init_75, s_X7_init_78, s_X7_init_79, s_X7_init_82, s_X7_init_83, s_X7_init_86, s_X7_init_89, s_X7_init_90, s_X7_init_92, s_X7_init_93, s_X7_init_96, s_X7_init_97, s_X7_init_100, s_X7_init_101, s_X7_init_104, s_X7_init_105, s_X7_init_108, s_X7_init_109, s_X7_init_112, s_X7_init_115, shf_len, shf_sum, cl2_m18, kd_app, setR_app, rfo_app, List.append_assoc, List.cons_append, List.nil_append, List.length_append, List.length_cons, List.length_nil, List.length_replicate, ssum_app, ssum_cons, ssum_nil, ssum_rep, Nat.zero_add, Nat.add_zero, Nat.reduceAdd, Nat.reduceLeDiff, Nat.reduceMul, Nat.add_assoc, Nat.add_le_add_iff_left, cl_tl0, cl_tl1, Nat.le_refl, cl2_cl2]
  rw [q_X6_init (P := P ++ (17, 10, (List.replicate 10 none).set 0 (some (P.length + 1))) :: shf (P.length + 1)) (by simp) (by simp [shf_len])]
  simp only [s_X7_init_0, s_X7_init_1, s_X7_init_4, s_X7_init_5, s_X7_init_8, s_X7_init_9, s_X7_init_12, s_X7_init_15, s_X7_init_16, s_X7_init_19, s_X7_init_20, s_X7_init_23, s_X7_init_26, s_X7_init_27, s_X7_init_30, s_X7_init_31, s_X7_init_34, s_X7_init_37, s_X7_init_38, s_X7_init_39, s_X7_init_42, s_X7_init_45, s_X7_init_46, s_X7_init_49, s_X7_init_50, s_X7_init_53, s_X7_init_56, s_X7_init_57, s_X7_init_60, s_X7_init_61, s_X7_init_64, s_X7_init_67, s_X7_init_68, s_X7_init_71, s_X7_init_72, s_X7_init_75, s_X7_init_78, s_X7_init_79, s_X7_init_82, s_X7_init_83, s_X7_init_86, s_X7_init_89, s_X7_init_90, s_X7_init_92, s_X7_init_93, s_X7_init_96, s_X7_init_97, s_X7_init_100, s_X7_init_101, s_X7_init_104, s_X7_init_105, s_X7_init_108, s_X7_init_109, s_X7_init_112, s_X7_init_115, shf_len, shf_sum, tap_len, tap_sum, cl2_m18, kd_app, setR_app, rfo_app, List.append_assoc, List.cons_append, List.nil_append, List.length_append, List.length_cons, List.length_nil, List.length_replicate, ssum_app, ssum_cons, ssum_nil, ssum_rep, Nat.zero_add, Nat.add_zero, Nat.reduceAdd, Nat.reduceLeDiff, Nat.reduceMul, Nat.add_assoc, Nat.add_le_add_iff_left, cl_tl0, cl_tl1, Nat.le_refl, cl2_cl2]
  rw [q_X4_init (P := P ++ (17, 10, (((List.replicate 10 none).set 0 (some (P.length + 1))).set 1 (some (P.length + 13)))) :: (shf (P.length + 1) ++ tap (P.length + 13))) (by simp) (by simp [shf_len, tap_len])]
  simp only [s_X7_init_0, s_X7_init_1, s_X7_init_4, s_X7_init_5, s_X7_init_8, s_X7_init_9, s_X7_init_12, s_X7_init_15, s_X7_init_16, s_X7_init_19, s_X7_init_20, s_X7_init_23, s_X7_init_26, s_X7_init_27, s_X7_init_30, s_X7_init_31, s_X7_init_34, s_X7_init_37, s_X7_init_38, s_X7_init_39, s_X7_init_42, s_X7_init_45, s_X7_init_46, s_X7_init_49, s_X7_init_50, s_X7_init_53, s_X7_init_56, s_X7_init_57, s_X7_init_60, s_X7_init_61, s_X7_init_64, s_X7_init_67, s_X7_init_68, s_X7_init_71, s_X7_init_72, s_X7_init_75, s_X7_init_78, s_X7_init_79, s_X7_init_82, s_X7_init_83, s_X7_init_86, s_X7_init_89, s_X7_init_90, s_X7_init_92, s_X7_init_93, s_X7_init_96, s_X7_init_97, s_X7_init_100, s_X7_init_101, s_X7_init_104, s_X7_init_105, s_X7_init_108, s_X7_init_109, s_X7_init_112, s_X7_init_115, hsc_len, hsc_sum, shf_len, shf_sum, tap_len, tap_sum, act_len, act_sum, fsc_len, fsc_sum, bar_len, bar_sum, askc_len, askc_sum, cl2_m18, kd_app, setR_app, rfo_app, List.append_assoc, List.cons_append, List.nil_append, List.length_append, List.length_cons, List.length_nil, List.length_replicate, ssum_app, ssum_cons, ssum_nil, ssum_rep, Nat.zero_add, Nat.add_zero, Nat.reduceAdd, Nat.reduceLeDiff, Nat.reduceMul, Nat.add_assoc, Nat.add_le_add_iff_left, cl_tl0, cl_tl1, Nat.le_refl, cl2_cl2]
  rw [q_X0_init (P := P ++ (17, 10, (((((List.replicate 10 none).set 0 (some (P.length + 1))).set 1 (some (P.length + 13))).set 2 (some (P.length + 23))).set 3 (some (P.length + 31)))) :: (shf (P.length + 1) ++ (tap (P.length + 13) ++ (hsc (P.length + 23) ++ [(2, 2, List.replicate 2 none)])))) (by simp) (by simp [shf_len, tap_len, hsc_len])]
  simp only [s_X7_init_0, s_X7_init_1, s_X7_init_4, s_X7_init_5, s_X7_init_8, s_X7_init_9, s_X7_init_12, s_X7_init_15, s_X7_init_16, s_X7_init_19, s_X7_init_20, s_X7_init_23, s_X7_init_26, s_X7_init_27, s_X7_init_30, s_X7_init_31, s_X7_init_34, s_X7_init_37, s_X7_init_38, s_X7_init_39, s_X7_init_42, s_X7_init_45, s_X7_init_46, s_X7_init_49, s_X7_init_50, s_X7_init_53, s_X7_init_56, s_X7_init_57, s_X7_init_60, s_X7_init_61, s_X7_init_64, s_X7_init_67, s_X7_init_68, s_X7_init_71, s_X7_init_72, s_X7_init_75, s_X7_init_78, s_X7_init_79, s_X7_init_82, s_X7_init_83, s_X7_init_86, s_X7_init_89, s_X7_init_90, s_X7_init_92, s_X7_init_93, s_X7_init_96, s_X7_init_97, s_X7_init_100, s_X7_init_101, s_X7_init_104, s_X7_init_105, s_X7_init_108, s_X7_init_109, s_X7_init_112, s_X7_init_115, hsc_len, hsc_sum, shf_len, shf_sum, tap_len, tap_sum, act_len, act_sum, fsc_len, fsc_sum, bar_len, bar_sum, askc_len, askc_sum, cl2_m18, kd_app, setR_app, rfo_app, List.append_assoc, List.cons_append, List.nil_append, List.length_append, List.length_cons, List.length_nil, List.length_replicate, ssum_app, ssum_cons, ssum_nil, ssum_rep, Nat.zero_add, Nat.add_zero, Nat.reduceAdd, Nat.reduceLeDiff, Nat.reduceMul, Nat.add_assoc, Nat.add_le_add_iff_left, cl_tl0, cl_tl1, Nat.le_refl, cl2_cl2]
  rw [q_X3_init (P := P ++ (17, 10, ((((((List.replicate 10 none).set 0 (some (P.length + 1))).set 1 (some (P.length + 13))).set 2 (some (P.length + 23))).set 3 (some (P.length + 31))).set 4 (some (P.length + 32)))) :: (shf (P.length + 1) ++ (tap (P.length + 13) ++ (hsc (P.length + 23) ++ ((2, 2, List.replicate 2 none) :: act (P.length + 32)))))) (by simp) (by simp [shf_len, tap_len, hsc_len, act_len])]
  simp only [s_X7_init_0, s_X7_init_1, s_X7_init_4, s_X7_init_5, s_X7_init_8, s_X7_init_9, s_X7_init_12, s_X7_init_15, s_X7_init_16, s_X7_init_19, s_X7_init_20, s_X7_init_23, s_X7_init_26, s_X7_init_27, s_X7_init_30, s_X7_init_31, s_X7_init_34, s_X7_init_37, s_X7_init_38, s_X7_init_39, s_X7_init_42, s_X7_init_45, s_X7_init_46, s_X7_init_49, s_X7_init_50, s_X7_init_53, s_X7_init_56, s_X7_init_57, s_X7_init_60, s_X7_init_61, s_X7_init_64, s_X7_init_67, s_X7_init_68, s_X7_init_71, s_X7_init_72, s_X7_init_75, s_X7_init_78, s_X7_init_79, s_X7_init_82, s_X7_init_83, s_X7_init_86, s_X7_init_89, s_X7_init_90, s_X7_init_92, s_X7_init_93, s_X7_init_96, s_X7_init_97, s_X7_init_100, s_X7_init_101, s_X7_init_104, s_X7_init_105, s_X7_init_108, s_X7_init_109, s_X7_init_112, s_X7_init_115, hsc_len, hsc_sum, shf_len, shf_sum, tap_len, tap_sum, act_len, act_sum, fsc_len, fsc_sum, bar_len, bar_sum, askc_len, askc_sum, cl2_m18, kd_app, setR_app, rfo_app, List.append_assoc, List.cons_append, List.nil_append, List.length_append, List.length_cons, List.length_nil, List.length_replicate, ssum_app, ssum_cons, ssum_nil, ssum_rep, Nat.zero_add, Nat.add_zero, Nat.reduceAdd, Nat.reduceLeDiff, Nat.reduceMul, Nat.add_assoc, Nat.add_le_add_iff_left, cl_tl0, cl_tl1, Nat.le_refl, cl2_cl2]
  rw [q_X2_init (P := P ++ (17, 10, (((((((List.replicate 10 none).set 0 (some (P.length + 1))).set 1 (some (P.length + 13))).set 2 (some (P.length + 23))).set 3 (some (P.length + 31))).set 4 (some (P.length + 32))).set 5 (some (P.length + 58)))) :: (shf (P.length + 1) ++ (tap (P.length + 13) ++ (hsc (P.length + 23) ++ ((2, 2, List.replicate 2 none) :: (act (P.length + 32) ++ fsc (P.length + 58))))))) (by simp) (by simp [shf_len, tap_len, hsc_len, act_len, fsc_len])]
  simp only [s_X7_init_0, s_X7_init_1, s_X7_init_4, s_X7_init_5, s_X7_init_8, s_X7_init_9, s_X7_init_12, s_X7_init_15, s_X7_init_16, s_X7_init_19, s_X7_init_20, s_X7_init_23, s_X7_init_26, s_X7_init_27, s_X7_init_30, s_X7_init_31, s_X7_init_34, s_X7_init_37, s_X7_init_38, s_X7_init_39, s_X7_init_42, s_X7_init_45, s_X7_init_46, s_X7_init_49, s_X7_init_50, s_X7_init_53, s_X7_init_56, s_X7_init_57, s_X7_init_60, s_X7_init_61, s_X7_init_64, s_X7_init_67, s_X7_init_68, s_X7_init_71, s_X7_init_72, s_X7_init_75, s_X7_init_78, s_X7_init_79, s_X7_init_82, s_X7_init_83, s_X7_init_86, s_X7_init_89, s_X7_init_90, s_X7_init_92, s_X7_init_93, s_X7_init_96, s_X7_init_97, s_X7_init_100, s_X7_init_101, s_X7_init_104, s_X7_init_105, s_X7_init_108, s_X7_init_109, s_X7_init_112, s_X7_init_115, hsc_len, hsc_sum, shf_len, shf_sum, tap_len, tap_sum, act_len, act_sum, fsc_len, fsc_sum, bar_len, bar_sum, askc_len, askc_sum, cl2_m18, kd_app, setR_app, rfo_app, List.append_assoc, List.cons_append, List.nil_append, List.length_append, List.length_cons, List.length_nil, List.length_replicate, ssum_app, ssum_cons, ssum_nil, ssum_rep, Nat.zero_add, Nat.add_zero, Nat.reduceAdd, Nat.reduceLeDiff, Nat.reduceMul, Nat.add_assoc, Nat.add_le_add_iff_left, cl_tl0, cl_tl1, Nat.le_refl, cl2_cl2]
  rw [q_X1_init (P := P ++ (17, 10, ((((((((List.replicate 10 none).set 0 (some (P.length + 1))).set 1 (some (P.length + 13))).set 2 (some (P.length + 23))).set 3 (some (P.length + 31))).set 4 (some (P.length + 32))).set 5 (some (P.length + 58))).set 6 (some (P.length + 67)))) :: (shf (P.length + 1) ++ (tap (P.length + 13) ++ (hsc (P.length + 23) ++ ((2, 2, List.replicate 2 none) :: (act (P.length + 32) ++ (fsc (P.length + 58) ++ bar (P.length + 67)))))))) (by simp) (by simp [shf_len, tap_len, hsc_len, act_len, fsc_len, bar_len])]
  simp only [s_X7_init_0, s_X7_init_1, s_X7_init_4, s_X7_init_5, s_X7_init_8, s_X7_init_9, s_X7_init_12, s_X7_init_15, s_X7_init_16, s_X7_init_19, s_X7_init_20, s_X7_init_23, s_X7_init_26, s_X7_init_27, s_X7_init_30, s_X7_init_31, s_X7_init_34, s_X7_init_37, s_X7_init_38, s_X7_init_39, s_X7_init_42, s_X7_init_45, s_X7_init_46, s_X7_init_49, s_X7_init_50, s_X7_init_53, s_X7_init_56, s_X7_init_57, s_X7_init_60, s_X7_init_61, s_X7_init_64, s_X7_init_67, s_X7_init_68, s_X7_init_71, s_X7_init_72, s_X7_init_75, s_X7_init_78, s_X7_init_79, s_X7_init_82, s_X7_init_83, s_X7_init_86, s_X7_init_89, s_X7_init_90, s_X7_init_92, s_X7_init_93, s_X7_init_96, s_X7_init_97, s_X7_init_100, s_X7_init_101, s_X7_init_104, s_X7_init_105, s_X7_init_108, s_X7_init_109, s_X7_init_112, s_X7_init_115, hsc_len, hsc_sum, shf_len, shf_sum, tap_len, tap_sum, act_len, act_sum, fsc_len, fsc_sum, bar_len, bar_sum, askc_len, askc_sum, cl2_m18, kd_app, setR_app, rfo_app, List.append_assoc, List.cons_append, List.nil_append, List.length_append, List.length_cons, List.length_nil, List.length_replicate, ssum_app, ssum_cons, ssum_nil, ssum_rep, Nat.zero_add, Nat.add_zero, Nat.reduceAdd, Nat.reduceLeDiff, Nat.reduceMul, Nat.add_assoc, Nat.add_le_add_iff_left, cl_tl0, cl_tl1, Nat.le_refl, cl2_cl2]
  show Wp (d + 2) M_X7_init (some (P.length + 102, ssum P + 1383)) 91 [.ref P.length, .int (nI 0)] [] (P ++ scl0 P.length, m18 (cl2 h (P.length + 1)) (P.length + 12)) Q = _
  have k0 : kd (P ++ scl0 P.length) P.length = 17 := (kd_appk P (scl0 P.length) 0).trans rfl
  have r3 : rfo (P ++ scl0 P.length) P.length 3 = some (P.length + 31) := (rfo_appk P (scl0 P.length) 0 3).trans rfl
  have k1 : kd (P ++ scl0 P.length) (P.length + 31) = 2 := (kd_appk P (scl0 P.length) 31).trans rfl
  have l1 : ln (P ++ scl0 P.length) (P.length + 31) = 2 := (ln_appk P (scl0 P.length) 31).trans rfl
  have z1 : (P ++ scl0 P.length).length = P.length + 86 := by rw [List.length_append]; rfl
  have z2 : ssum (P ++ scl0 P.length) = ssum P + 1269 := by rw [ssum_app]; simp only [scl0, ssum_cons, ssum_app, shf_sum, tap_sum, hsc_sum, act_sum, fsc_sum, bar_sum, askc_sum, Nat.reduceAdd]
  have fin : P ++ scl P.length = setR (setR (P ++ scl0 P.length ++ hsc (P.length + 86)) (P.length + 31) 0 (some (P.length + 86)) ++ hsc (P.length + 94)) (P.length + 31) 1 (some (P.length + 94)) := by
    rw [List.append_assoc P, setR_appk _ _ _ _ _ (by rw [List.length_append]; show 31 < 86 + 8; decide), List.append_assoc P, setR_appk _ _ _ _ _ (by rw [List.length_append, len_setR, List.length_append]; show 31 < 86 + 8 + 8; decide)]
    rfl
  rw [fin]
  generalize P ++ scl0 P.length = S at k0 r3 k1 l1 z1 z2 ⊢
  have t1 : P.length < S.length := by omega
  have t2 : P.length + 31 < S.length := by omega
  simp +decide only [s_X7_init_0, s_X7_init_1, s_X7_init_4, s_X7_init_5, s_X7_init_8, s_X7_init_9, s_X7_init_12, s_X7_init_15, s_X7_init_16, s_X7_init_19, s_X7_init_20, s_X7_init_23, s_X7_init_26, s_X7_init_27, s_X7_init_30, s_X7_init_31, s_X7_init_34, s_X7_init_37, s_X7_init_38, s_X7_init_39, s_X7_init_42, s_X7_init_45, s_X7_init_46, s_X7_init_49, s_X7_init_50, s_X7_init_53, s_X7_init_56, s_X7_init_57, s_X7_init_60, s_X7_init_61, s_X7_init_64, s_X7_init_67, s_X7_init_68, s_X7_init_71, s_X7_init_72, s_X7_init_75, s_X7_init_78, s_X7_init_79, s_X7_init_82, s_X7_init_83, s_X7_init_86, s_X7_init_89, s_X7_init_90, s_X7_init_91, s_X7_init_92, s_X7_init_93, s_X7_init_96, s_X7_init_97, s_X7_init_100, s_X7_init_101, s_X7_init_104, s_X7_init_105, s_X7_init_108, s_X7_init_109, s_X7_init_112, s_X7_init_115, k0, r3, rfv_some, nI_lit, if_false, z1, z2, List.length_append, List.length_cons, List.length_nil, ssum_app, ssum_cons, ssum_nil, Nat.zero_add, Nat.add_zero, Nat.add_assoc, Nat.reduceAdd, Nat.add_le_add_iff_left, Nat.reduceLeDiff, cl2_m18]
  rw [q_X4_init (P := S) rfl z1.symm, z1]
  have e1 : kd (S ++ hsc (P.length + 86)) (P.length + 31) = 2 := (kd_appl t2).trans k1
  have e2 : kd (S ++ hsc (P.length + 86)) (P.length + 86) = 14 := by rw [← z1]; exact (kd_appk S (hsc S.length) 0).trans rfl
  have e3 : ln (S ++ hsc (P.length + 86)) (P.length + 31) = 2 := (ln_appl t2).trans l1
  have e4 : kd (S ++ hsc (P.length + 86)) P.length = 17 := (kd_appl t1).trans k0
  have e5 : rfo (S ++ hsc (P.length + 86)) P.length 3 = some (P.length + 31) := (rfo_appl t1).trans r3
  have e6 : (S ++ hsc (P.length + 86)).length = P.length + 94 := by rw [List.length_append, z1]; rfl
  have e7 : ssum (S ++ hsc (P.length + 86)) = ssum P + 1326 := by rw [ssum_app, z2, hsc_sum]
  generalize S ++ hsc (P.length + 86) = S2 at e1 e2 e3 e4 e5 e6 e7 ⊢
  have e8 : rfo (setR S2 (P.length + 31) 0 (some (P.length + 86))) P.length 3 = some (P.length + 31) := (rfo_setR (by omega)).trans e5
  simp +decide only [s_X7_init_0, s_X7_init_1, s_X7_init_4, s_X7_init_5, s_X7_init_8, s_X7_init_9, s_X7_init_12, s_X7_init_15, s_X7_init_16, s_X7_init_19, s_X7_init_20, s_X7_init_23, s_X7_init_26, s_X7_init_27, s_X7_init_30, s_X7_init_31, s_X7_init_34, s_X7_init_37, s_X7_init_38, s_X7_init_39, s_X7_init_42, s_X7_init_45, s_X7_init_46, s_X7_init_49, s_X7_init_50, s_X7_init_53, s_X7_init_56, s_X7_init_57, s_X7_init_60, s_X7_init_61, s_X7_init_64, s_X7_init_67, s_X7_init_68, s_X7_init_71, s_X7_init_72, s_X7_init_75, s_X7_init_78, s_X7_init_79, s_X7_init_82, s_X7_init_83, s_X7_init_86, s_X7_init_89, s_X7_init_90, s_X7_init_91, s_X7_init_92, s_X7_init_93, s_X7_init_96, s_X7_init_97, s_X7_init_100, s_X7_init_101, s_X7_init_104, s_X7_init_105, s_X7_init_108, s_X7_init_109, s_X7_init_112, s_X7_init_115, cl_tl0, e1, e2, e3, e4, e6, e7, e8, kd_setR, ln_setR, len_setR, sum_setR, rfv_some, nI_add, nI_lit, if_false, List.length_append, List.length_cons, List.length_nil, ssum_app, ssum_cons, ssum_nil, Nat.zero_add, Nat.add_zero, Nat.add_assoc, Nat.reduceAdd, Nat.add_le_add_iff_left, Nat.reduceLeDiff, Nat.reduceLT, cl2_m18]
  rw [q_X4_init (P := setR S2 (P.length + 31) 0 (some (P.length + 86))) rfl (by rw [len_setR, e6])]
  rw [len_setR, e6]
  have t3 : P.length + 31 < (setR S2 (P.length + 31) 0 (some (P.length + 86))).length := by rw [len_setR]; omega
  have t4 : P.length < (setR S2 (P.length + 31) 0 (some (P.length + 86))).length := by rw [len_setR]; omega
  have f1 : kd (setR S2 (P.length + 31) 0 (some (P.length + 86)) ++ hsc (P.length + 94)) (P.length + 31) = 2 := (kd_appl t3).trans ((kd_setR _ _ _ _ _).trans e1)
  have f2 : kd (setR S2 (P.length + 31) 0 (some (P.length + 86)) ++ hsc (P.length + 94)) (P.length + 94) = 14 := by
    have := kd_appk (setR S2 (P.length + 31) 0 (some (P.length + 86))) (hsc (P.length + 94)) 0
    rw [len_setR, e6] at this
    exact this.trans rfl
  have f3 : ln (setR S2 (P.length + 31) 0 (some (P.length + 86)) ++ hsc (P.length + 94)) (P.length + 31) = 2 := (ln_appl t3).trans ((ln_setR _ _ _ _ _).trans e3)
  have f6 : (setR S2 (P.length + 31) 0 (some (P.length + 86)) ++ hsc (P.length + 94)).length = P.length + 102 := by rw [List.length_append, len_setR, e6]; rfl
  have f7 : ssum (setR S2 (P.length + 31) 0 (some (P.length + 86)) ++ hsc (P.length + 94)) = ssum P + 1383 := by rw [ssum_app, sum_setR, e7, hsc_sum]
  generalize setR S2 (P.length + 31) 0 (some (P.length + 86)) ++ hsc (P.length + 94) = S3 at f1 f2 f3 f6 f7 ⊢
  simp +decide only [s_X7_init_0, s_X7_init_1, s_X7_init_4, s_X7_init_5, s_X7_init_8, s_X7_init_9, s_X7_init_12, s_X7_init_15, s_X7_init_16, s_X7_init_19, s_X7_init_20, s_X7_init_23, s_X7_init_26, s_X7_init_27, s_X7_init_30, s_X7_init_31, s_X7_init_34, s_X7_init_37, s_X7_init_38, s_X7_init_39, s_X7_init_42, s_X7_init_45, s_X7_init_46, s_X7_init_49, s_X7_init_50, s_X7_init_53, s_X7_init_56, s_X7_init_57, s_X7_init_60, s_X7_init_61, s_X7_init_64, s_X7_init_67, s_X7_init_68, s_X7_init_71, s_X7_init_72, s_X7_init_75, s_X7_init_78, s_X7_init_79, s_X7_init_82, s_X7_init_83, s_X7_init_86, s_X7_init_89, s_X7_init_90, s_X7_init_91, s_X7_init_92, s_X7_init_93, s_X7_init_96, s_X7_init_97, s_X7_init_100, s_X7_init_101, s_X7_init_104, s_X7_init_105, s_X7_init_108, s_X7_init_109, s_X7_init_112, s_X7_init_115, cl_tl0, f1, f2, f3, f6, f7, len_setR, sum_setR, nI_add, nI_lit, if_true, Nat.add_assoc, Nat.reduceAdd, Nat.add_le_add_iff_left, Nat.reduceLeDiff, Nat.reduceLT, cl2_m18]
/-- the model's cells -/
def mdl (a : Nat) : mSh := [(18, 18, [some (a + 1), none, none, some (a + 2), some (a + 3), some (a + 4), some (a + 5), some (a + 6), none, none, none, some (a + 7), none, none, none, none, none, none]), (0, 1600, []), (1, 2, []), (0, 8, []), (0, 8, []), (0, 320, []), (0, 100, []), (0, 16, [])]
set_option maxRecDepth 100000 in
set_option maxHeartbeats 4000000 in
theorem q_X8_init {d a : Nat} {S P : mSh} {h : mMem} {Q : mQ} (hS : S = P ++ [(18, 18, List.replicate 18 none)]) (ha : a = P.length) : WP (d + 1) M_X8_init [.ref a] (S, h) Q = Q none (P ++ mdl P.length, m18 (cl2 h (P.length + 1)) (P.length + 4)) := by
  subst hS; subst ha
  rw [e_X8_init]
  simp only [s_X8_init_0, s_X8_init_1, s_X8_init_4, s_X8_init_5, s_X8_init_8, s_X8_init_10, s_X8_init_13, s_X8_init_14, s_X8_init_15, s_X8_init_17, s_X8_init_20, s_X8_init_21, s_X8_init_23, s_X8_init_25, s_X8_init_28, s_X8_init_29, s_X8_init_31, s_X8_init_33, s_X8_init_34, s_X8_init_35, s_X8_init_36, s_X8_init_37, s_X8_init_38, s_X8_init_39, s_X8_init_40, s_X8_init_41, s_X8_init_42, s_X8_init_43, s_X8_init_44, s_X8_init_45, s_X8_init_46, s_X8_init_47, s_X8_init_48, s_X8_init_49, s_X8_init_50, s_X8_init_51, s_X8_init_52, s_X8_init_53, s_X8_init_54, s_X8_init_55, s_X8_init_56, s_X8_init_57, s_X8_init_58, s_X8_init_60, s_X8_init_61, s_X8_init_62, s_X8_init_63, s_X8_init_65, s_X8_init_66, s_X8_init_67, s_X8_init_70, s_X8_init_71, s_X8_init_74, s_X8_init_76, s_X8_init_79, s_X8_init_80, s_X8_init_82, s_X8_init_84, s_X8_init_87, s_X8_init_88, s_X8_init_90, s_X8_init_92, s_X8_init_95, kd_app, setR_app, rfo_app, List.append_assoc, List.cons_append, List.nil_append, List.length_append, List.length_cons, List.length_nil, List.length_replicate, ssum_app, ssum_cons, ssum_nil, ssum_rep, Nat.zero_add, Nat.add_zero, Nat.reduceAdd, Nat.reduceLeDiff, Nat.reduceMul, Nat.add_assoc, Nat.add_le_add_iff_left, cl_tl0, cl_tl1, Nat.le_refl, cl2_cl2]
  have k0 : ∀ r : List (Option Nat), kd (P ++ [(18, 18, r), (0, 1600, []), (1, 2, []), (0, 8, []), (0, 8, [])]) (P.length + 4) = 0 := fun r => (kd_appk P _ 4).trans rfl
  have l0 : ∀ r : List (Option Nat), ln (P ++ [(18, 18, r), (0, 1600, []), (1, 2, []), (0, 8, []), (0, 8, [])]) (P.length + 4) = 8 := fun r => (ln_appk P _ 4).trans rfl
  simp +decide only [s_X8_init_0, s_X8_init_1, s_X8_init_4, s_X8_init_5, s_X8_init_8, s_X8_init_10, s_X8_init_13, s_X8_init_14, s_X8_init_15, s_X8_init_17, s_X8_init_20, s_X8_init_21, s_X8_init_23, s_X8_init_25, s_X8_init_28, s_X8_init_29, s_X8_init_31, s_X8_init_33, s_X8_init_34, s_X8_init_35, s_X8_init_36, s_X8_init_37, s_X8_init_38, s_X8_init_39, s_X8_init_40, s_X8_init_41, s_X8_init_42, s_X8_init_43, s_X8_init_44, s_X8_init_45, s_X8_init_46, s_X8_init_47, s_X8_init_48, s_X8_init_49, s_X8_init_50, s_X8_init_51, s_X8_init_52, s_X8_init_53, s_X8_init_54, s_X8_init_55, s_X8_init_56, s_X8_init_57, s_X8_init_58, s_X8_init_60, s_X8_init_61, s_X8_init_62, s_X8_init_63, s_X8_init_65, s_X8_init_66, s_X8_init_67, s_X8_init_70, s_X8_init_71, s_X8_init_74, s_X8_init_76, s_X8_init_79, s_X8_init_80, s_X8_init_82, s_X8_init_84, s_X8_init_87, s_X8_init_88, s_X8_init_90, s_X8_init_92, s_X8_init_95, k0, l0, kd_app, setR_app, rfo_app, List.append_assoc, List.cons_append, List.nil_append, List.length_append, List.length_cons, List.length_nil, List.length_replicate, ssum_app, ssum_cons, ssum_nil, ssum_rep, Nat.zero_add, Nat.add_zero, Nat.reduceAdd, Nat.reduceLeDiff, Nat.reduceMul, Nat.add_assoc, Nat.add_le_add_iff_left, cl_tl0, cl_tl1, Nat.le_refl, cl2_cl2]
  rw [m18_eq, cl2_m18 _ _ _ _ (by omega) (by omega)]
  rfl
