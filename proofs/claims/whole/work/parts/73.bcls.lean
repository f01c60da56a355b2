/-! ===== pure: barter: the class's search ===== -/
theorem ts_cm {t : Nat → Nat} {i j a b : Nat} (h : i ≠ j) : tset (tset t i a) j b = tset (tset t j b) i a := by
  funext x
  unfold tset
  by_cases h1 : x = j
  · rw [if_pos h1, if_neg (by omega), if_pos h1]
  · rw [if_neg h1]
    by_cases h2 : x = i
    · rw [if_pos h2, if_pos h2]
    · rw [if_neg h2, if_neg h2, if_neg h1]
theorem ts_ov {t : Nat → Nat} {j a b : Nat} : tset (tset t j a) j b = tset t j b := by
  funext x
  unfold tset
  by_cases h1 : x = j
  · rw [if_pos h1, if_pos h1]
  · rw [if_neg h1, if_neg h1, if_neg h1]
theorem gts_3 {u : Nat → Nat} {c k n : Nat} : gts (tset u 3 c) k n = tset (gts u k n) 3 c := by
  unfold gts
  rw [ts_o (show 4 + k ≠ 3 by omega), ts_cm (by omega)]
theorem trd_3 {u : Nat → Nat} {c r k n : Nat} : trd (tset u 3 c) r k n = tset (trd u r k n) 3 (c + 1) := by
  unfold trd
  rw [ts_o (show 4 + k ≠ 3 by omega), ts_o (show 35 + r ≠ 3 by omega), ts_s, ts_cm (show 3 ≠ 4 + k by omega), gts_3, ts_cm (show 3 ≠ 35 + r by omega), ts_ov, ts_ov]
theorem trd_o {u : Nat → Nat} {r k n j : Nat} (h3 : j ≠ 3) (h1 : j ≠ 35 + r) (h2 : j ≠ 4 + k) (h4 : j ≠ 4 + u (35 + r)) : trd u r k n j = u j := by
  unfold trd gts
  rw [ts_o h3, ts_o h1, ts_o h4, ts_o h2]
theorem rst {u : Nat → Nat} {c r k n : Nat} : tset (tset (tset (tset (trd u r k n) 3 c) (35 + r) (u (35 + r))) (4 + u (35 + r)) (u (4 + u (35 + r)))) (4 + k) (u (4 + k)) = tset u 3 c := by
  funext j
  by_cases e1 : j = 4 + k
  · subst e1
    rw [ts_s, ts_o (by omega)]
  · rw [ts_o e1]
    by_cases e2 : j = 4 + u (35 + r)
    · subst e2
      rw [ts_s, ts_o (by omega)]
    · rw [ts_o e2]
      by_cases e3 : j = 35 + r
      · subst e3
        rw [ts_s, ts_o (by omega)]
      · rw [ts_o e3]
        by_cases e4 : j = 3
        · subst e4
          rw [ts_s, ts_s]
        · rw [ts_o e4, ts_o e4, trd_o e4 e3 e1 e2]
theorem Wf_3 {u : Nat → Nat} (w : Wf u) (c : Nat) : Wf (tset u 3 c) := by
  have w1 := w.1
  have w2 := w.2.1
  exact Wf_set w (by omega) (fun k => by omega) (by omega)
def HB (g : mMem) (u : Nat → Nat) : Prop := ∃ c, CR g 72 (tset u 3 c)
theorem HB_0 {g : mMem} {u : Nat → Nat} (b : HB g u) : g 72 0 = nI (u 0) := by
  obtain ⟨c, b⟩ := b
  have := CR_0 b
  rwa [ts_o (by omega)] at this
theorem HB_1 {g : mMem} {u : Nat → Nat} (b : HB g u) : g 72 3 = nI (u 1) := by
  obtain ⟨c, b⟩ := b
  have := CR_1 b
  rwa [ts_o (by omega)] at this
theorem HB_4 {g : mMem} {u : Nat → Nat} (b : HB g u) (w : Wf u) {k : Nat} (hk : k < u 0) : g 73 k = nI (u (4 + k)) := by
  obtain ⟨c, b⟩ := b
  have := CR_4 b (Wf_3 w c) (k := k) (by rw [ts_o (by omega)]; exact hk)
  rwa [ts_o (by omega)] at this
theorem HB_35 {g : mMem} {u : Nat → Nat} (b : HB g u) (w : Wf u) {r : Nat} (hr : r < u 1) : g 78 r = nI (u (35 + r)) := by
  obtain ⟨c, b⟩ := b
  have := CR_35 b (Wf_3 w c) (k := r) (by rw [ts_o (by omega)]; exact hr)
  rwa [ts_o (by omega)] at this
/-- the same worths -/
def SW (t u : Nat → Nat) : Prop := (u 0 = t 0 ∧ u 1 = t 1 ∧ u 2 = t 2) ∧ ∀ r k, r < 7 → k < 5 → wrt u r k = wrt t r k
theorem SW_r (t : Nat → Nat) : SW t t := ⟨⟨rfl, rfl, rfl⟩, fun _ _ _ _ => rfl⟩
theorem SW_t {t u : Nat → Nat} (s : SW t u) (w : Wf u) {r k n : Nat} (hr : r < u 1) (hk : k < u 0) : SW t (trd u r k n) := by
  have w1 := w.1
  have w2 := w.2.1
  have a4 := (w.2.2.2.1 r hr).2.2.2.1
  refine ⟨⟨trd_01.1.trans s.1.1, trd_01.2.1.trans s.1.2.1, trd_01.2.2.trans s.1.2.2⟩, fun q j hq hj => ?_⟩
  rw [← s.2 q j hq hj]
  unfold wrt
  rw [trd_01.2.2, trd_o (j := 14 + q) (by omega) (by omega) (by omega) (by omega), trd_o (j := 21 + q) (by omega) (by omega) (by omega) (by omega), trd_o (j := 28 + q) (by omega) (by omega) (by omega) (by omega), trd_o (j := 9 + j) (by omega) (by omega) (by omega) (by omega)]
def WR (g : mMem) (t : Nat → Nat) : Prop := ∀ r k, r < t 1 → k < t 0 → g (81 + r) k = nI (wrt t r k)
def bS (a i : Nat) : Prop := hs 72 a i ∨ (a = 71 ∧ i = 3)
theorem WR_fr {g g' : mMem} {t : Nat → Nat} (f : Fr bS g g') (b : WR g t) : WR g' t := fun r k hr hk => (f _ _ (by unfold bS hs; omega)).trans (b r k hr hk)
theorem rS_80r (L : Nat) {r : Nat} (h : r < 7) : rfo (S0 L) 80 r = some (81 + r) := by
  rcases (show r = 0 ∨ r = 1 ∨ r = 2 ∨ r = 3 ∨ r = 4 ∨ r = 5 ∨ r = 6 by omega) with rfl | rfl | rfl | rfl | rfl | rfl | rfl <;> rfl
theorem kS_81r (L : Nat) {r : Nat} (h : r < 7) : kd (S0 L) (81 + r) = 0 := by
  rcases (show r = 0 ∨ r = 1 ∨ r = 2 ∨ r = 3 ∨ r = 4 ∨ r = 5 ∨ r = 6 by omega) with rfl | rfl | rfl | rfl | rfl | rfl | rfl <;> rfl
theorem lS_81r (L : Nat) {r : Nat} (h : r < 7) : ln (S0 L) (81 + r) = 5 := by
  rcases (show r = 0 ∨ r = 1 ∨ r = 2 ∨ r = 3 ∨ r = 4 ∨ r = 5 ∨ r = 6 by omega) with rfl | rfl | rfl | rfl | rfl | rfl | rfl <;> rfl
def SBS (d m L : Nat) (t : Nat → Nat) : Prop := ∀ g u r k, HB g u → Wf u → u 2 ≤ 999 → SW t u → WR g t → r < u 1 → k < u 0 → Sp d M_X2_sumBeginningWith [.ref 71, .int (nI r), .int (nI k), .int (nI (m + 1))] L g (some (.int (rvN (swm m u r k)))) (fun g' => HB g' u ∧ Fr bS g g')
def GBS (d m L : Nat) (t : Nat → Nat) : Prop := ∀ g u, HB g u → Wf u → u 2 ≤ 999 → SW t u → WR g t → Sp d M_X2_greatestSum [.ref 71, .int (nI (m + 1))] L g (some (.int (rvN (gsm m u).1))) (fun g' => (HB g' u ∧ Fr bS g g') ∧ g' 71 3 = (gsm m u).2)
/-- no sale: nothing begins with it -/
theorem p_sumN {d m L : Nat} {t u : Nat → Nat} {g : mMem} {r k : Nat} (b : HB g u) (w : Wf u) (s : SW t u) (wr : WR g t) (hr : r < u 1) (hk : k < u 0) (n : isS u r k = false) (Q : mQ) : WP (d + 2) M_X2_sumBeginningWith [.ref 71, .int (nI r), .int (nI k), .int (nI m)] (S0 L, g) Q = Q (some (.int (-1000000))) (S0 L, g) := by
  have w1 := w.1
  have w2 := w.2.1
  obtain ⟨⟨s0, s1, s2⟩, s3⟩ := s
  have a4 := (w.2.2.2.1 r hr).2.2.2.1
  have b4 := (w.2.2.1 k hk).1
  have r8 := rS_80r L (show r < 7 by omega)
  have k8 := kS_81r L (show r < 7 by omega)
  have l8 := lS_81r L (show r < 7 by omega)
  have v1 := wr r (u (35 + r)) (by omega) (by omega)
  have v2 := wr r k (by omega) (by omega)
  rw [← s3 _ _ (by omega) (by omega)] at v1 v2
  have x1 := wrt_le w (k := u (35 + r)) hr
  have x2 := wrt_le w (k := k) hr
  have q35 := HB_35 b w hr
  have q4 := HB_4 b w hk
  have e1 : (nI k = nI (u (35 + r))) = (k = u (35 + r)) := f_eq (by omega) (by omega)
  have e2 : (nI (u (4 + k)) < nI (wrt u r (u (35 + r)) + 1)) = (u (4 + k) < wrt u r (u (35 + r)) + 1) := f_lt (by omega) (by omega)
  have e3 : (nI (wrt u r (u (35 + r)) + 1) ≤ nI (wrt u r k)) = (wrt u r (u (35 + r)) + 1 ≤ wrt u r k) := f_le (by omega) (by omega)
  have ib : ∀ Q, WP (d + 1) M_X4_isBound [.ref 72, .int (nI r)] (S0 L, g) Q = Q (some (.int (nI (bd u r)))) (S0 L, g) := fun Q => by
    obtain ⟨c, b⟩ := b
    have := p_isBound (d := d) (L := L) (Q := Q) Hs_72 b (Wf_3 w c) (show r < 7 by omega)
    rwa [show bd (tset u 3 c) r = bd u r by unfold bd; rw [ts_o (by omega)]] at this
  have hbd : bd u r < 2 := by unfold bd; omega
  have e5 : (nI (bd u r) = (0 : Int32)) = (bd u r = 0) := f_eq0 (by omega)
  have hn : ¬ (k ≠ u (35 + r) ∧ bd u r = 0 ∧ prc u r ≤ u (4 + k) ∧ prc u r ≤ wrt u r k) := fun hh => by
    rw [isS_i.mpr hh] at n
    cases n
  unfold prc at hn
  by_cases c1 : k = u (35 + r)
  · simp only [e_X2_sumBeginningWith, s_X2_sumBeginningWith_0, s_X2_sumBeginningWith_1, s_X2_sumBeginningWith_4, s_X2_sumBeginningWith_7, s_X2_sumBeginningWith_8, s_X2_sumBeginningWith_9, s_X2_sumBeginningWith_11, s_X2_sumBeginningWith_12, s_X2_sumBeginningWith_15, s_X2_sumBeginningWith_16, s_X2_sumBeginningWith_16g, s_X2_sumBeginningWith_17, s_X2_sumBeginningWith_19, s_X2_sumBeginningWith_20, s_X2_sumBeginningWith_21, s_X2_sumBeginningWith_22, s_X2_sumBeginningWith_24, s_X2_sumBeginningWith_25, s_X2_sumBeginningWith_27, s_X2_sumBeginningWith_30, s_X2_sumBeginningWith_31, s_X2_sumBeginningWith_34, s_X2_sumBeginningWith_35, s_X2_sumBeginningWith_38, s_X2_sumBeginningWith_41, s_X2_sumBeginningWith_42, s_X2_sumBeginningWith_45, s_X2_sumBeginningWith_48, s_X2_sumBeginningWith_49, s_X2_sumBeginningWith_50, s_X2_sumBeginningWith_52, s_X2_sumBeginningWith_55, s_X2_sumBeginningWith_56, s_X2_sumBeginningWith_59, s_X2_sumBeginningWith_60, s_X2_sumBeginningWith_60g, s_X2_sumBeginningWith_61, s_X2_sumBeginningWith_62, s_X2_sumBeginningWith_63, s_X2_sumBeginningWith_65, s_X2_sumBeginningWith_68, s_X2_sumBeginningWith_70, s_X2_sumBeginningWith_71, s_X2_sumBeginningWith_72, s_X2_sumBeginningWith_75, s_X2_sumBeginningWith_76, s_X2_sumBeginningWith_76g, s_X2_sumBeginningWith_77, s_X2_sumBeginningWith_78, s_X2_sumBeginningWith_79, s_X2_sumBeginningWith_80, s_X2_sumBeginningWith_83, s_X2_sumBeginningWith_84, s_X2_sumBeginningWith_84g, s_X2_sumBeginningWith_85, s_X2_sumBeginningWith_87, s_X2_sumBeginningWith_88, s_X2_sumBeginningWith_89, s_X2_sumBeginningWith_91, s_X2_sumBeginningWith_92, s_X2_sumBeginningWith_93, s_X2_sumBeginningWith_96, s_X2_sumBeginningWith_98, s_X2_sumBeginningWith_99, s_X2_sumBeginningWith_100, s_X2_sumBeginningWith_103, s_X2_sumBeginningWith_106, s_X2_sumBeginningWith_108, s_X2_sumBeginningWith_109, s_X2_sumBeginningWith_111, s_X2_sumBeginningWith_112, s_X2_sumBeginningWith_115, s_X2_sumBeginningWith_118, s_X2_sumBeginningWith_119, s_X2_sumBeginningWith_120, s_X2_sumBeginningWith_122, s_X2_sumBeginningWith_123, s_X2_sumBeginningWith_126, s_X2_sumBeginningWith_127, s_X2_sumBeginningWith_128, s_X2_sumBeginningWith_130, s_X2_sumBeginningWith_133, s_X2_sumBeginningWith_134, s_X2_sumBeginningWith_135, s_X2_sumBeginningWith_136, s_X2_sumBeginningWith_137, s_X2_sumBeginningWith_140, s_X2_sumBeginningWith_142, s_X2_sumBeginningWith_143, s_X2_sumBeginningWith_146, s_X2_sumBeginningWith_149, s_X2_sumBeginningWith_150, s_X2_sumBeginningWith_152, s_X2_sumBeginningWith_153, s_X2_sumBeginningWith_154, s_X2_sumBeginningWith_157, s_X2_sumBeginningWith_160, s_X2_sumBeginningWith_162, s_X2_sumBeginningWith_164, s_X2_sumBeginningWith_165, s_X2_sumBeginningWith_166, s_X2_sumBeginningWith_169, s_X2_sumBeginningWith_172, s_X2_sumBeginningWith_173, s_X2_sumBeginningWith_175, s_X2_sumBeginningWith_176, s_X2_sumBeginningWith_178, s_X2_sumBeginningWith_180, s_X2_sumBeginningWith_183, s_X2_sumBeginningWith_185, s_X2_sumBeginningWith_188, s_X2_sumBeginningWith_190, s_X2_sumBeginningWith_192, s_X2_sumBeginningWith_193, kS_71, rS_71_0, rS_71_1, kS_80, lS_80, kH, rH1, rH2, rH4, rH5, rH6, rH7, rH8, kH_1, kH_2, kH_3, kH_4, kH_5, kH_6, kH_7, lH_1, lH_2, lH_3, lH_4, lH_5, lH_6, lH_7, Hs_72, show r < 7 by omega, show k < 5 by omega, show u (35 + r) < 5 by omega, r8, k8, l8, q35, v1, e1, eq_true c1, nI_add, Nat.reduceAdd, Nat.reduceLT, cl_tl0, cl_tl1, rfv_some, if_true, if_false, or_true, true_or, eq_self, ite_true, ite_false, and_true, true_and, not_true_eq_false, not_false_eq_true]
  by_cases c2 : bd u r = 0
  · by_cases c3 : u (4 + k) < wrt u r (u (35 + r)) + 1
    · simp only [e_X2_sumBeginningWith, s_X2_sumBeginningWith_0, s_X2_sumBeginningWith_1, s_X2_sumBeginningWith_4, s_X2_sumBeginningWith_7, s_X2_sumBeginningWith_8, s_X2_sumBeginningWith_9, s_X2_sumBeginningWith_11, s_X2_sumBeginningWith_12, s_X2_sumBeginningWith_15, s_X2_sumBeginningWith_16, s_X2_sumBeginningWith_16g, s_X2_sumBeginningWith_17, s_X2_sumBeginningWith_19, s_X2_sumBeginningWith_20, s_X2_sumBeginningWith_21, s_X2_sumBeginningWith_22, s_X2_sumBeginningWith_24, s_X2_sumBeginningWith_25, s_X2_sumBeginningWith_27, s_X2_sumBeginningWith_30, s_X2_sumBeginningWith_31, s_X2_sumBeginningWith_34, s_X2_sumBeginningWith_35, s_X2_sumBeginningWith_38, s_X2_sumBeginningWith_41, s_X2_sumBeginningWith_42, s_X2_sumBeginningWith_45, s_X2_sumBeginningWith_48, s_X2_sumBeginningWith_49, s_X2_sumBeginningWith_50, s_X2_sumBeginningWith_52, s_X2_sumBeginningWith_55, s_X2_sumBeginningWith_56, s_X2_sumBeginningWith_59, s_X2_sumBeginningWith_60, s_X2_sumBeginningWith_60g, s_X2_sumBeginningWith_61, s_X2_sumBeginningWith_62, s_X2_sumBeginningWith_63, s_X2_sumBeginningWith_65, s_X2_sumBeginningWith_68, s_X2_sumBeginningWith_70, s_X2_sumBeginningWith_71, s_X2_sumBeginningWith_72, s_X2_sumBeginningWith_75, s_X2_sumBeginningWith_76, s_X2_sumBeginningWith_76g, s_X2_sumBeginningWith_77, s_X2_sumBeginningWith_78, s_X2_sumBeginningWith_79, s_X2_sumBeginningWith_80, s_X2_sumBeginningWith_83, s_X2_sumBeginningWith_84, s_X2_sumBeginningWith_84g, s_X2_sumBeginningWith_85, s_X2_sumBeginningWith_87, s_X2_sumBeginningWith_88, s_X2_sumBeginningWith_89, s_X2_sumBeginningWith_91, s_X2_sumBeginningWith_92, s_X2_sumBeginningWith_93, s_X2_sumBeginningWith_96, s_X2_sumBeginningWith_98, s_X2_sumBeginningWith_99, s_X2_sumBeginningWith_100, s_X2_sumBeginningWith_103, s_X2_sumBeginningWith_106, s_X2_sumBeginningWith_108, s_X2_sumBeginningWith_109, s_X2_sumBeginningWith_111, s_X2_sumBeginningWith_112, s_X2_sumBeginningWith_115, s_X2_sumBeginningWith_118, s_X2_sumBeginningWith_119, s_X2_sumBeginningWith_120, s_X2_sumBeginningWith_122, s_X2_sumBeginningWith_123, s_X2_sumBeginningWith_126, s_X2_sumBeginningWith_127, s_X2_sumBeginningWith_128, s_X2_sumBeginningWith_130, s_X2_sumBeginningWith_133, s_X2_sumBeginningWith_134, s_X2_sumBeginningWith_135, s_X2_sumBeginningWith_136, s_X2_sumBeginningWith_137, s_X2_sumBeginningWith_140, s_X2_sumBeginningWith_142, s_X2_sumBeginningWith_143, s_X2_sumBeginningWith_146, s_X2_sumBeginningWith_149, s_X2_sumBeginningWith_150, s_X2_sumBeginningWith_152, s_X2_sumBeginningWith_153, s_X2_sumBeginningWith_154, s_X2_sumBeginningWith_157, s_X2_sumBeginningWith_160, s_X2_sumBeginningWith_162, s_X2_sumBeginningWith_164, s_X2_sumBeginningWith_165, s_X2_sumBeginningWith_166, s_X2_sumBeginningWith_169, s_X2_sumBeginningWith_172, s_X2_sumBeginningWith_173, s_X2_sumBeginningWith_175, s_X2_sumBeginningWith_176, s_X2_sumBeginningWith_178, s_X2_sumBeginningWith_180, s_X2_sumBeginningWith_183, s_X2_sumBeginningWith_185, s_X2_sumBeginningWith_188, s_X2_sumBeginningWith_190, s_X2_sumBeginningWith_192, s_X2_sumBeginningWith_193, kS_71, rS_71_0, rS_71_1, kS_80, lS_80, kH, rH1, rH2, rH4, rH5, rH6, rH7, rH8, kH_1, kH_2, kH_3, kH_4, kH_5, kH_6, kH_7, lH_1, lH_2, lH_3, lH_4, lH_5, lH_6, lH_7, Hs_72, show r < 7 by omega, show k < 5 by omega, show u (35 + r) < 5 by omega, r8, k8, l8, q35, q4, v1, e1, e2, e5, ib, eq_false c1, eq_true c2, eq_true c3, nI_add, Option.toList_some, List.cons_append, List.nil_append, Nat.reduceAdd, Nat.reduceLT, cl_tl0, cl_tl1, rfv_some, if_true, if_false, or_true, true_or, eq_self, ite_true, ite_false, and_true, true_and, not_true_eq_false, not_false_eq_true]
    · have c4 : ¬ (wrt u r (u (35 + r)) + 1 ≤ wrt u r k) := fun hh => hn ⟨c1, c2, by omega, hh⟩
      simp only [e_X2_sumBeginningWith, s_X2_sumBeginningWith_0, s_X2_sumBeginningWith_1, s_X2_sumBeginningWith_4, s_X2_sumBeginningWith_7, s_X2_sumBeginningWith_8, s_X2_sumBeginningWith_9, s_X2_sumBeginningWith_11, s_X2_sumBeginningWith_12, s_X2_sumBeginningWith_15, s_X2_sumBeginningWith_16, s_X2_sumBeginningWith_16g, s_X2_sumBeginningWith_17, s_X2_sumBeginningWith_19, s_X2_sumBeginningWith_20, s_X2_sumBeginningWith_21, s_X2_sumBeginningWith_22, s_X2_sumBeginningWith_24, s_X2_sumBeginningWith_25, s_X2_sumBeginningWith_27, s_X2_sumBeginningWith_30, s_X2_sumBeginningWith_31, s_X2_sumBeginningWith_34, s_X2_sumBeginningWith_35, s_X2_sumBeginningWith_38, s_X2_sumBeginningWith_41, s_X2_sumBeginningWith_42, s_X2_sumBeginningWith_45, s_X2_sumBeginningWith_48, s_X2_sumBeginningWith_49, s_X2_sumBeginningWith_50, s_X2_sumBeginningWith_52, s_X2_sumBeginningWith_55, s_X2_sumBeginningWith_56, s_X2_sumBeginningWith_59, s_X2_sumBeginningWith_60, s_X2_sumBeginningWith_60g, s_X2_sumBeginningWith_61, s_X2_sumBeginningWith_62, s_X2_sumBeginningWith_63, s_X2_sumBeginningWith_65, s_X2_sumBeginningWith_68, s_X2_sumBeginningWith_70, s_X2_sumBeginningWith_71, s_X2_sumBeginningWith_72, s_X2_sumBeginningWith_75, s_X2_sumBeginningWith_76, s_X2_sumBeginningWith_76g, s_X2_sumBeginningWith_77, s_X2_sumBeginningWith_78, s_X2_sumBeginningWith_79, s_X2_sumBeginningWith_80, s_X2_sumBeginningWith_83, s_X2_sumBeginningWith_84, s_X2_sumBeginningWith_84g, s_X2_sumBeginningWith_85, s_X2_sumBeginningWith_87, s_X2_sumBeginningWith_88, s_X2_sumBeginningWith_89, s_X2_sumBeginningWith_91, s_X2_sumBeginningWith_92, s_X2_sumBeginningWith_93, s_X2_sumBeginningWith_96, s_X2_sumBeginningWith_98, s_X2_sumBeginningWith_99, s_X2_sumBeginningWith_100, s_X2_sumBeginningWith_103, s_X2_sumBeginningWith_106, s_X2_sumBeginningWith_108, s_X2_sumBeginningWith_109, s_X2_sumBeginningWith_111, s_X2_sumBeginningWith_112, s_X2_sumBeginningWith_115, s_X2_sumBeginningWith_118, s_X2_sumBeginningWith_119, s_X2_sumBeginningWith_120, s_X2_sumBeginningWith_122, s_X2_sumBeginningWith_123, s_X2_sumBeginningWith_126, s_X2_sumBeginningWith_127, s_X2_sumBeginningWith_128, s_X2_sumBeginningWith_130, s_X2_sumBeginningWith_133, s_X2_sumBeginningWith_134, s_X2_sumBeginningWith_135, s_X2_sumBeginningWith_136, s_X2_sumBeginningWith_137, s_X2_sumBeginningWith_140, s_X2_sumBeginningWith_142, s_X2_sumBeginningWith_143, s_X2_sumBeginningWith_146, s_X2_sumBeginningWith_149, s_X2_sumBeginningWith_150, s_X2_sumBeginningWith_152, s_X2_sumBeginningWith_153, s_X2_sumBeginningWith_154, s_X2_sumBeginningWith_157, s_X2_sumBeginningWith_160, s_X2_sumBeginningWith_162, s_X2_sumBeginningWith_164, s_X2_sumBeginningWith_165, s_X2_sumBeginningWith_166, s_X2_sumBeginningWith_169, s_X2_sumBeginningWith_172, s_X2_sumBeginningWith_173, s_X2_sumBeginningWith_175, s_X2_sumBeginningWith_176, s_X2_sumBeginningWith_178, s_X2_sumBeginningWith_180, s_X2_sumBeginningWith_183, s_X2_sumBeginningWith_185, s_X2_sumBeginningWith_188, s_X2_sumBeginningWith_190, s_X2_sumBeginningWith_192, s_X2_sumBeginningWith_193, kS_71, rS_71_0, rS_71_1, kS_80, lS_80, kH, rH1, rH2, rH4, rH5, rH6, rH7, rH8, kH_1, kH_2, kH_3, kH_4, kH_5, kH_6, kH_7, lH_1, lH_2, lH_3, lH_4, lH_5, lH_6, lH_7, Hs_72, show r < 7 by omega, show k < 5 by omega, show u (35 + r) < 5 by omega, r8, k8, l8, q35, q4, v1, v2, e1, e2, e3, e5, ib, eq_false c1, eq_true c2, eq_false c3, eq_false c4, nI_add, Option.toList_some, List.cons_append, List.nil_append, Nat.reduceAdd, Nat.reduceLT, cl_tl0, cl_tl1, rfv_some, if_true, if_false, or_true, true_or, eq_self, ite_true, ite_false, and_true, true_and, not_true_eq_false, not_false_eq_true]
  · simp only [e_X2_sumBeginningWith, s_X2_sumBeginningWith_0, s_X2_sumBeginningWith_1, s_X2_sumBeginningWith_4, s_X2_sumBeginningWith_7, s_X2_sumBeginningWith_8, s_X2_sumBeginningWith_9, s_X2_sumBeginningWith_11, s_X2_sumBeginningWith_12, s_X2_sumBeginningWith_15, s_X2_sumBeginningWith_16, s_X2_sumBeginningWith_16g, s_X2_sumBeginningWith_17, s_X2_sumBeginningWith_19, s_X2_sumBeginningWith_20, s_X2_sumBeginningWith_21, s_X2_sumBeginningWith_22, s_X2_sumBeginningWith_24, s_X2_sumBeginningWith_25, s_X2_sumBeginningWith_27, s_X2_sumBeginningWith_30, s_X2_sumBeginningWith_31, s_X2_sumBeginningWith_34, s_X2_sumBeginningWith_35, s_X2_sumBeginningWith_38, s_X2_sumBeginningWith_41, s_X2_sumBeginningWith_42, s_X2_sumBeginningWith_45, s_X2_sumBeginningWith_48, s_X2_sumBeginningWith_49, s_X2_sumBeginningWith_50, s_X2_sumBeginningWith_52, s_X2_sumBeginningWith_55, s_X2_sumBeginningWith_56, s_X2_sumBeginningWith_59, s_X2_sumBeginningWith_60, s_X2_sumBeginningWith_60g, s_X2_sumBeginningWith_61, s_X2_sumBeginningWith_62, s_X2_sumBeginningWith_63, s_X2_sumBeginningWith_65, s_X2_sumBeginningWith_68, s_X2_sumBeginningWith_70, s_X2_sumBeginningWith_71, s_X2_sumBeginningWith_72, s_X2_sumBeginningWith_75, s_X2_sumBeginningWith_76, s_X2_sumBeginningWith_76g, s_X2_sumBeginningWith_77, s_X2_sumBeginningWith_78, s_X2_sumBeginningWith_79, s_X2_sumBeginningWith_80, s_X2_sumBeginningWith_83, s_X2_sumBeginningWith_84, s_X2_sumBeginningWith_84g, s_X2_sumBeginningWith_85, s_X2_sumBeginningWith_87, s_X2_sumBeginningWith_88, s_X2_sumBeginningWith_89, s_X2_sumBeginningWith_91, s_X2_sumBeginningWith_92, s_X2_sumBeginningWith_93, s_X2_sumBeginningWith_96, s_X2_sumBeginningWith_98, s_X2_sumBeginningWith_99, s_X2_sumBeginningWith_100, s_X2_sumBeginningWith_103, s_X2_sumBeginningWith_106, s_X2_sumBeginningWith_108, s_X2_sumBeginningWith_109, s_X2_sumBeginningWith_111, s_X2_sumBeginningWith_112, s_X2_sumBeginningWith_115, s_X2_sumBeginningWith_118, s_X2_sumBeginningWith_119, s_X2_sumBeginningWith_120, s_X2_sumBeginningWith_122, s_X2_sumBeginningWith_123, s_X2_sumBeginningWith_126, s_X2_sumBeginningWith_127, s_X2_sumBeginningWith_128, s_X2_sumBeginningWith_130, s_X2_sumBeginningWith_133, s_X2_sumBeginningWith_134, s_X2_sumBeginningWith_135, s_X2_sumBeginningWith_136, s_X2_sumBeginningWith_137, s_X2_sumBeginningWith_140, s_X2_sumBeginningWith_142, s_X2_sumBeginningWith_143, s_X2_sumBeginningWith_146, s_X2_sumBeginningWith_149, s_X2_sumBeginningWith_150, s_X2_sumBeginningWith_152, s_X2_sumBeginningWith_153, s_X2_sumBeginningWith_154, s_X2_sumBeginningWith_157, s_X2_sumBeginningWith_160, s_X2_sumBeginningWith_162, s_X2_sumBeginningWith_164, s_X2_sumBeginningWith_165, s_X2_sumBeginningWith_166, s_X2_sumBeginningWith_169, s_X2_sumBeginningWith_172, s_X2_sumBeginningWith_173, s_X2_sumBeginningWith_175, s_X2_sumBeginningWith_176, s_X2_sumBeginningWith_178, s_X2_sumBeginningWith_180, s_X2_sumBeginningWith_183, s_X2_sumBeginningWith_185, s_X2_sumBeginningWith_188, s_X2_sumBeginningWith_190, s_X2_sumBeginningWith_192, s_X2_sumBeginningWith_193, kS_71, rS_71_0, rS_71_1, kS_80, lS_80, kH, rH1, rH2, rH4, rH5, rH6, rH7, rH8, kH_1, kH_2, kH_3, kH_4, kH_5, kH_6, kH_7, lH_1, lH_2, lH_3, lH_4, lH_5, lH_6, lH_7, Hs_72, show r < 7 by omega, show k < 5 by omega, show u (35 + r) < 5 by omega, r8, k8, l8, q35, v1, e1, e5, ib, eq_false c1, eq_false c2, nI_add, Option.toList_some, List.cons_append, List.nil_append, Nat.reduceAdd, Nat.reduceLT, cl_tl0, cl_tl1, rfv_some, if_true, if_false, or_true, true_or, eq_self, ite_true, ite_false, and_true, true_and, not_true_eq_false, not_false_eq_true]
/-- a sale: up to where the rest begins -/
theorem p_sumT {d m L : Nat} {t u : Nat → Nat} {g : mMem} {r k : Nat} (b : HB g u) (w : Wf u) (s : SW t u) (wr : WR g t) (hr : r < u 1) (hk : k < u 0) (n : isS u r k = true) (Q : mQ) : WP (d + 2) M_X2_sumBeginningWith [.ref 71, .int (nI r), .int (nI k), .int (nI m)] (S0 L, g) Q = Wp (d + 1) M_X2_sumBeginningWith none 91 [.ref 71, .int (nI r), .int (nI k), .int (nI m), .int (nI (u (35 + r))), .int (nI (prc u r)), .int (nI (sur u r k)), jnk, jnk, jnk] [] (S0 L, g) Q := by
  have w1 := w.1
  have w2 := w.2.1
  obtain ⟨⟨s0, s1, s2⟩, s3⟩ := s
  have a4 := (w.2.2.2.1 r hr).2.2.2.1
  have b4 := (w.2.2.1 k hk).1
  have r8 := rS_80r L (show r < 7 by omega)
  have k8 := kS_81r L (show r < 7 by omega)
  have l8 := lS_81r L (show r < 7 by omega)
  have v1 := wr r (u (35 + r)) (by omega) (by omega)
  have v2 := wr r k (by omega) (by omega)
  rw [← s3 _ _ (by omega) (by omega)] at v1 v2
  have x1 := wrt_le w (k := u (35 + r)) hr
  have x2 := wrt_le w (k := k) hr
  have q35 := HB_35 b w hr
  have q4 := HB_4 b w hk
  have e1 : (nI k = nI (u (35 + r))) = (k = u (35 + r)) := f_eq (by omega) (by omega)
  have e2 : (nI (u (4 + k)) < nI (wrt u r (u (35 + r)) + 1)) = (u (4 + k) < wrt u r (u (35 + r)) + 1) := f_lt (by omega) (by omega)
  have e3 : (nI (wrt u r (u (35 + r)) + 1) ≤ nI (wrt u r k)) = (wrt u r (u (35 + r)) + 1 ≤ wrt u r k) := f_le (by omega) (by omega)
  have ib : ∀ Q, WP (d + 1) M_X4_isBound [.ref 72, .int (nI r)] (S0 L, g) Q = Q (some (.int (nI (bd u r)))) (S0 L, g) := fun Q => by
    obtain ⟨c, b⟩ := b
    have := p_isBound (d := d) (L := L) (Q := Q) Hs_72 b (Wf_3 w c) (show r < 7 by omega)
    rwa [show bd (tset u 3 c) r = bd u r by unfold bd; rw [ts_o (by omega)]] at this
  have e5 : (nI (bd u r) = (0 : Int32)) = (bd u r = 0) := f_eq0 (by unfold bd; omega)
  obtain ⟨c1, c2, c3, c4⟩ := isS_i.mp n
  unfold prc at c3 c4
  have ps : nI (wrt u r k) - nI (wrt u r (u (35 + r))) = nI (sur u r k) := pk_sub (by omega)
  have pp : prc u r = wrt u r (u (35 + r)) + 1 := rfl
  rw [pp]
  simp only [e_X2_sumBeginningWith, s_X2_sumBeginningWith_0, s_X2_sumBeginningWith_1, s_X2_sumBeginningWith_4, s_X2_sumBeginningWith_7, s_X2_sumBeginningWith_8, s_X2_sumBeginningWith_9, s_X2_sumBeginningWith_11, s_X2_sumBeginningWith_12, s_X2_sumBeginningWith_15, s_X2_sumBeginningWith_16, s_X2_sumBeginningWith_16g, s_X2_sumBeginningWith_17, s_X2_sumBeginningWith_19, s_X2_sumBeginningWith_20, s_X2_sumBeginningWith_21, s_X2_sumBeginningWith_22, s_X2_sumBeginningWith_24, s_X2_sumBeginningWith_25, s_X2_sumBeginningWith_27, s_X2_sumBeginningWith_30, s_X2_sumBeginningWith_31, s_X2_sumBeginningWith_34, s_X2_sumBeginningWith_35, s_X2_sumBeginningWith_38, s_X2_sumBeginningWith_41, s_X2_sumBeginningWith_42, s_X2_sumBeginningWith_45, s_X2_sumBeginningWith_48, s_X2_sumBeginningWith_49, s_X2_sumBeginningWith_50, s_X2_sumBeginningWith_52, s_X2_sumBeginningWith_55, s_X2_sumBeginningWith_56, s_X2_sumBeginningWith_59, s_X2_sumBeginningWith_60, s_X2_sumBeginningWith_60g, s_X2_sumBeginningWith_61, s_X2_sumBeginningWith_62, s_X2_sumBeginningWith_63, s_X2_sumBeginningWith_65, s_X2_sumBeginningWith_68, s_X2_sumBeginningWith_70, s_X2_sumBeginningWith_71, s_X2_sumBeginningWith_72, s_X2_sumBeginningWith_75, s_X2_sumBeginningWith_76, s_X2_sumBeginningWith_76g, s_X2_sumBeginningWith_77, s_X2_sumBeginningWith_78, s_X2_sumBeginningWith_79, s_X2_sumBeginningWith_80, s_X2_sumBeginningWith_83, s_X2_sumBeginningWith_84, s_X2_sumBeginningWith_84g, s_X2_sumBeginningWith_85, s_X2_sumBeginningWith_87, s_X2_sumBeginningWith_88, s_X2_sumBeginningWith_89, s_X2_sumBeginningWith_92, s_X2_sumBeginningWith_93, s_X2_sumBeginningWith_96, s_X2_sumBeginningWith_98, s_X2_sumBeginningWith_99, s_X2_sumBeginningWith_100, s_X2_sumBeginningWith_103, s_X2_sumBeginningWith_106, s_X2_sumBeginningWith_108, s_X2_sumBeginningWith_109, s_X2_sumBeginningWith_111, s_X2_sumBeginningWith_112, s_X2_sumBeginningWith_115, s_X2_sumBeginningWith_118, s_X2_sumBeginningWith_119, s_X2_sumBeginningWith_120, s_X2_sumBeginningWith_122, s_X2_sumBeginningWith_123, s_X2_sumBeginningWith_126, s_X2_sumBeginningWith_127, s_X2_sumBeginningWith_128, s_X2_sumBeginningWith_130, s_X2_sumBeginningWith_133, s_X2_sumBeginningWith_134, s_X2_sumBeginningWith_135, s_X2_sumBeginningWith_136, s_X2_sumBeginningWith_137, s_X2_sumBeginningWith_140, s_X2_sumBeginningWith_142, s_X2_sumBeginningWith_143, s_X2_sumBeginningWith_146, s_X2_sumBeginningWith_149, s_X2_sumBeginningWith_150, s_X2_sumBeginningWith_152, s_X2_sumBeginningWith_153, s_X2_sumBeginningWith_154, s_X2_sumBeginningWith_157, s_X2_sumBeginningWith_160, s_X2_sumBeginningWith_162, s_X2_sumBeginningWith_164, s_X2_sumBeginningWith_165, s_X2_sumBeginningWith_166, s_X2_sumBeginningWith_169, s_X2_sumBeginningWith_172, s_X2_sumBeginningWith_173, s_X2_sumBeginningWith_175, s_X2_sumBeginningWith_176, s_X2_sumBeginningWith_178, s_X2_sumBeginningWith_180, s_X2_sumBeginningWith_183, s_X2_sumBeginningWith_185, s_X2_sumBeginningWith_188, s_X2_sumBeginningWith_190, s_X2_sumBeginningWith_192, s_X2_sumBeginningWith_193, kS_71, rS_71_0, rS_71_1, kS_80, lS_80, kH, rH1, rH2, rH4, rH5, rH6, rH7, rH8, kH_1, kH_2, kH_3, kH_4, kH_5, kH_6, kH_7, lH_1, lH_2, lH_3, lH_4, lH_5, lH_6, lH_7, Hs_72, show r < 7 by omega, show k < 5 by omega, show u (35 + r) < 5 by omega, r8, k8, l8, q35, q4, v1, v2, e1, e2, e3, e5, ib, ps, eq_false c1, eq_true c2, eq_false (show ¬ (u (4 + k) < wrt u r (u (35 + r)) + 1) by omega), eq_true c4, nI_add, Option.toList_some, List.cons_append, List.nil_append, Nat.reduceAdd, Nat.reduceLT, cl_tl0, cl_tl1, rfv_some, if_true, if_false, or_true, true_or, eq_self, ite_true, ite_false, and_true, true_and, not_true_eq_false, not_false_eq_true]
theorem p_sum0 {d L : Nat} {t : Nat → Nat} : SBS (d + 2) 0 L t := by
  intro g u r k b w hd s wr hr hk
  show Sp _ _ _ _ _ (some (.int (rvN (sw0 u r k)))) _
  unfold sw0
  cases n : isS u r k
  · exact ⟨g, ⟨b, Fr_r⟩, p_sumN b w s wr hr hk n⟩
  · refine ⟨g, ⟨b, Fr_r⟩, fun Q => ?_⟩
    rw [p_sumT b w s wr hr hk n, if_pos rfl, rvN_p (sur_1 n)]
    simp +decide only [s_X2_sumBeginningWith_0, s_X2_sumBeginningWith_1, s_X2_sumBeginningWith_4, s_X2_sumBeginningWith_7, s_X2_sumBeginningWith_8, s_X2_sumBeginningWith_9, s_X2_sumBeginningWith_11, s_X2_sumBeginningWith_12, s_X2_sumBeginningWith_15, s_X2_sumBeginningWith_16, s_X2_sumBeginningWith_16g, s_X2_sumBeginningWith_17, s_X2_sumBeginningWith_19, s_X2_sumBeginningWith_20, s_X2_sumBeginningWith_21, s_X2_sumBeginningWith_22, s_X2_sumBeginningWith_24, s_X2_sumBeginningWith_25, s_X2_sumBeginningWith_27, s_X2_sumBeginningWith_30, s_X2_sumBeginningWith_31, s_X2_sumBeginningWith_34, s_X2_sumBeginningWith_35, s_X2_sumBeginningWith_38, s_X2_sumBeginningWith_41, s_X2_sumBeginningWith_42, s_X2_sumBeginningWith_45, s_X2_sumBeginningWith_48, s_X2_sumBeginningWith_49, s_X2_sumBeginningWith_50, s_X2_sumBeginningWith_52, s_X2_sumBeginningWith_55, s_X2_sumBeginningWith_56, s_X2_sumBeginningWith_59, s_X2_sumBeginningWith_60, s_X2_sumBeginningWith_60g, s_X2_sumBeginningWith_61, s_X2_sumBeginningWith_62, s_X2_sumBeginningWith_63, s_X2_sumBeginningWith_65, s_X2_sumBeginningWith_68, s_X2_sumBeginningWith_70, s_X2_sumBeginningWith_71, s_X2_sumBeginningWith_72, s_X2_sumBeginningWith_75, s_X2_sumBeginningWith_76, s_X2_sumBeginningWith_76g, s_X2_sumBeginningWith_77, s_X2_sumBeginningWith_78, s_X2_sumBeginningWith_79, s_X2_sumBeginningWith_80, s_X2_sumBeginningWith_83, s_X2_sumBeginningWith_84, s_X2_sumBeginningWith_84g, s_X2_sumBeginningWith_85, s_X2_sumBeginningWith_87, s_X2_sumBeginningWith_88, s_X2_sumBeginningWith_89, s_X2_sumBeginningWith_91, s_X2_sumBeginningWith_92, s_X2_sumBeginningWith_93, s_X2_sumBeginningWith_96, s_X2_sumBeginningWith_98, s_X2_sumBeginningWith_99, s_X2_sumBeginningWith_100, s_X2_sumBeginningWith_103, s_X2_sumBeginningWith_106, s_X2_sumBeginningWith_108, s_X2_sumBeginningWith_109, s_X2_sumBeginningWith_111, s_X2_sumBeginningWith_112, s_X2_sumBeginningWith_115, s_X2_sumBeginningWith_118, s_X2_sumBeginningWith_119, s_X2_sumBeginningWith_120, s_X2_sumBeginningWith_122, s_X2_sumBeginningWith_123, s_X2_sumBeginningWith_126, s_X2_sumBeginningWith_127, s_X2_sumBeginningWith_128, s_X2_sumBeginningWith_130, s_X2_sumBeginningWith_133, s_X2_sumBeginningWith_134, s_X2_sumBeginningWith_135, s_X2_sumBeginningWith_136, s_X2_sumBeginningWith_137, s_X2_sumBeginningWith_140, s_X2_sumBeginningWith_142, s_X2_sumBeginningWith_143, s_X2_sumBeginningWith_146, s_X2_sumBeginningWith_149, s_X2_sumBeginningWith_150, s_X2_sumBeginningWith_152, s_X2_sumBeginningWith_153, s_X2_sumBeginningWith_154, s_X2_sumBeginningWith_157, s_X2_sumBeginningWith_160, s_X2_sumBeginningWith_162, s_X2_sumBeginningWith_164, s_X2_sumBeginningWith_165, s_X2_sumBeginningWith_166, s_X2_sumBeginningWith_169, s_X2_sumBeginningWith_172, s_X2_sumBeginningWith_173, s_X2_sumBeginningWith_175, s_X2_sumBeginningWith_176, s_X2_sumBeginningWith_178, s_X2_sumBeginningWith_180, s_X2_sumBeginningWith_183, s_X2_sumBeginningWith_185, s_X2_sumBeginningWith_188, s_X2_sumBeginningWith_190, s_X2_sumBeginningWith_192, s_X2_sumBeginningWith_193, nI_litl, Nat.reduceAdd, Nat.reduceLT, cl_tl0, cl_tl1, rfv_some, if_true, if_false, or_true, true_or, eq_self, ite_true, ite_false, and_true, true_and, not_true_eq_false, not_false_eq_true]
theorem p_sumS {d m L : Nat} {t : Nat → Nat} (hm : m ≤ 1) (G : GBS (d + 2) m L t) : SBS (d + 3) (m + 1) L t := by
  intro g u r k b w hd s wr hr hk
  show Sp _ _ _ _ _ (some (.int (rvN (swg (fun v => (gsm m v).1) u r k)))) _
  unfold swg
  cases n : isS u r k
  · exact ⟨g, ⟨b, Fr_r⟩, p_sumN (d := d + 1) b w s wr hr hk n⟩
  rw [if_pos rfl]
  have w1 := w.1
  have w2 := w.2.1
  have a4 := (w.2.2.2.1 r hr).2.2.2.1
  obtain ⟨c1, c2, c3, c4⟩ := isS_i.mp n
  have wt := trd_p w (n := prc u r) hr hk
  have st := SW_t s w (n := prc u r) hr hk
  have q4 := HB_4 b w hk
  have q5 := HB_4 b w a4
  obtain ⟨c, bc⟩ := id b
  have ec : (tset u 3 c) (4 + k) = u (4 + k) := ts_o (by omega)
  obtain ⟨g1, k1, e1⟩ := p_trade (d := d) (L := L) (n := prc u r) Hs_72 bc (Wf_3 w c) (r := r) (k := k) (by rw [ts_o (by omega)]; exact hr) (by rw [ts_o (by omega)]; exact hk) (by rw [ec]; exact c3)
  rw [trd_3] at k1
  have b1 : HB g1 (trd u r k (prc u r)) := ⟨_, k1.1⟩
  have f1 : Fr bS g g1 := Fr_w (fun a i e => Or.inl e) k1.2
  obtain ⟨g2, ⟨⟨b2, f2⟩, -⟩, e2⟩ := G g1 _ b1 wt.1 (by rw [wt.2.2.2.1]; exact hd) st (WR_fr f1 wr)
  obtain ⟨c', b3⟩ := b2
  have gl := gsm_l m _ wt.1
  obtain ⟨x, ex⟩ : ∃ x, (gsm m (trd u r k (prc u r))).1 = x := ⟨_, rfl⟩
  rw [ex] at e2 gl
  have W3 := Wf_3 wt.1 c'
  have z0 : (tset (trd u r k (prc u r)) 3 c') 0 = u 0 := (ts_o (by omega)).trans wt.2.1
  have z1 : (tset (trd u r k (prc u r)) 3 c') 1 = u 1 := (ts_o (by omega)).trans wt.2.2.1
  have t1 := Hc_u (v := u (35 + r)) (a := 78) (i := r) b3 W3 (j := 35 + r) (by omega) (by omega) (lo_35 (by omega))
  have W4 : Wf (tset (tset (trd u r k (prc u r)) 3 c') (35 + r) (u (35 + r))) := Wf_set W3 (by omega) (fun k => by rw [z0, z1]; omega) (by omega)
  have t2 := Hc_u (v := u (4 + u (35 + r))) (a := 73) (i := u (35 + r)) t1.1 W4 (j := 4 + u (35 + r)) (by omega) (by omega) (lo_4 (by omega))
  have y0 : (tset (tset (trd u r k (prc u r)) 3 c') (35 + r) (u (35 + r))) 0 = u 0 := (ts_o (by omega)).trans z0
  have y1 : (tset (tset (trd u r k (prc u r)) 3 c') (35 + r) (u (35 + r))) 1 = u 1 := (ts_o (by omega)).trans z1
  have bo := (w.2.2.1 _ a4).1
  have W5 : Wf (tset (tset (tset (trd u r k (prc u r)) 3 c') (35 + r) (u (35 + r))) (4 + u (35 + r)) (u (4 + u (35 + r)))) := Wf_set W4 (by omega) (fun k => by rw [y0, y1]; omega) (by omega)
  have t3 := Hc_u (v := u (4 + k)) (a := 73) (i := k) t2.1 W5 (j := 4 + k) (by omega) (by omega) (lo_4 (by omega))
  rw [rst] at t3
  refine ⟨_, ⟨⟨c', t3.1⟩, Fr_t f1 (Fr_t f2 (Fr_w (fun a i e => Or.inl e) (Fr_t t1.2 (Fr_t t2.2 t3.2))))⟩, fun Q => ?_⟩
  rw [p_sumT (d := d + 1) b w s wr hr hk n]
  have l1 : (nI 1 < nI (m + 1 + 1)) = True := by rw [f_lt (by omega) (by omega)]; exact eq_true (by omega)
  have s1 : nI (m + 1 + 1) - nI 1 = nI (m + 1) := dnS (m + 1)
  have ne := rvN_e (x := x) (by omega)
  have l2 : (nI (m + 1 + 1) ≤ nI 1) = False := by rw [f_le (by omega) (by omega)]; exact eq_false (by omega)
  by_cases zx : x = 0
  · subst zx
    rw [if_pos (show (fun v => (gsm m v).1) (trd u r k (prc u r)) = 0 from ex)]
    simp only [s_X2_sumBeginningWith_0, s_X2_sumBeginningWith_1, s_X2_sumBeginningWith_4, s_X2_sumBeginningWith_7, s_X2_sumBeginningWith_8, s_X2_sumBeginningWith_9, s_X2_sumBeginningWith_11, s_X2_sumBeginningWith_12, s_X2_sumBeginningWith_15, s_X2_sumBeginningWith_16, s_X2_sumBeginningWith_16g, s_X2_sumBeginningWith_17, s_X2_sumBeginningWith_19, s_X2_sumBeginningWith_20, s_X2_sumBeginningWith_21, s_X2_sumBeginningWith_22, s_X2_sumBeginningWith_24, s_X2_sumBeginningWith_25, s_X2_sumBeginningWith_27, s_X2_sumBeginningWith_30, s_X2_sumBeginningWith_31, s_X2_sumBeginningWith_34, s_X2_sumBeginningWith_35, s_X2_sumBeginningWith_38, s_X2_sumBeginningWith_41, s_X2_sumBeginningWith_42, s_X2_sumBeginningWith_45, s_X2_sumBeginningWith_48, s_X2_sumBeginningWith_49, s_X2_sumBeginningWith_50, s_X2_sumBeginningWith_52, s_X2_sumBeginningWith_55, s_X2_sumBeginningWith_56, s_X2_sumBeginningWith_59, s_X2_sumBeginningWith_60, s_X2_sumBeginningWith_60g, s_X2_sumBeginningWith_61, s_X2_sumBeginningWith_62, s_X2_sumBeginningWith_63, s_X2_sumBeginningWith_65, s_X2_sumBeginningWith_68, s_X2_sumBeginningWith_70, s_X2_sumBeginningWith_71, s_X2_sumBeginningWith_72, s_X2_sumBeginningWith_75, s_X2_sumBeginningWith_76, s_X2_sumBeginningWith_76g, s_X2_sumBeginningWith_77, s_X2_sumBeginningWith_78, s_X2_sumBeginningWith_79, s_X2_sumBeginningWith_80, s_X2_sumBeginningWith_83, s_X2_sumBeginningWith_84, s_X2_sumBeginningWith_84g, s_X2_sumBeginningWith_85, s_X2_sumBeginningWith_87, s_X2_sumBeginningWith_88, s_X2_sumBeginningWith_89, s_X2_sumBeginningWith_91, s_X2_sumBeginningWith_92, s_X2_sumBeginningWith_93, s_X2_sumBeginningWith_96, s_X2_sumBeginningWith_98, s_X2_sumBeginningWith_99, s_X2_sumBeginningWith_100, s_X2_sumBeginningWith_103, s_X2_sumBeginningWith_106, s_X2_sumBeginningWith_108, s_X2_sumBeginningWith_109, s_X2_sumBeginningWith_111, s_X2_sumBeginningWith_112, s_X2_sumBeginningWith_115, s_X2_sumBeginningWith_118, s_X2_sumBeginningWith_119, s_X2_sumBeginningWith_120, s_X2_sumBeginningWith_122, s_X2_sumBeginningWith_123, s_X2_sumBeginningWith_126, s_X2_sumBeginningWith_127, s_X2_sumBeginningWith_128, s_X2_sumBeginningWith_130, s_X2_sumBeginningWith_133, s_X2_sumBeginningWith_134, s_X2_sumBeginningWith_135, s_X2_sumBeginningWith_136, s_X2_sumBeginningWith_137, s_X2_sumBeginningWith_140, s_X2_sumBeginningWith_142, s_X2_sumBeginningWith_143, s_X2_sumBeginningWith_146, s_X2_sumBeginningWith_149, s_X2_sumBeginningWith_150, s_X2_sumBeginningWith_152, s_X2_sumBeginningWith_153, s_X2_sumBeginningWith_154, s_X2_sumBeginningWith_157, s_X2_sumBeginningWith_160, s_X2_sumBeginningWith_162, s_X2_sumBeginningWith_164, s_X2_sumBeginningWith_165, s_X2_sumBeginningWith_166, s_X2_sumBeginningWith_169, s_X2_sumBeginningWith_172, s_X2_sumBeginningWith_173, s_X2_sumBeginningWith_175, s_X2_sumBeginningWith_176, s_X2_sumBeginningWith_178, s_X2_sumBeginningWith_180, s_X2_sumBeginningWith_183, s_X2_sumBeginningWith_185, s_X2_sumBeginningWith_188, s_X2_sumBeginningWith_190, s_X2_sumBeginningWith_192, s_X2_sumBeginningWith_193, kS_71, rS_71_0, rS_71_1, kS_80, lS_80, kH, rH1, rH2, rH4, rH5, rH6, rH7, rH8, kH_1, kH_2, kH_3, kH_4, kH_5, kH_6, kH_7, lH_1, lH_2, lH_3, lH_4, lH_5, lH_6, lH_7, Hs_72, show r < 7 by omega, show k < 5 by omega, show u (35 + r) < 5 by omega, q4, q5, e1, e2, l1, l2, s1, rvN_0, Option.toList_none, Option.toList_some, List.cons_append, List.nil_append, Nat.reduceAdd, Nat.reduceLT, cl_tl0, cl_tl1, rfv_some, if_true, if_false, or_true, true_or, eq_self, ite_true, ite_false, and_true, true_and, not_true_eq_false, not_false_eq_true]
  · rw [if_neg (show ¬ (fun v => (gsm m v).1) (trd u r k (prc u r)) = 0 from fun h => zx (ex.symm.trans h))]
    have es : (fun v => (gsm m v).1) (trd u r k (prc u r)) = x := ex
    rw [es, rvN_p (show 1 ≤ sur u r k + x by omega)]
    rw [rvN_p (show 1 ≤ x by omega)] at e2 ne
    simp only [s_X2_sumBeginningWith_0, s_X2_sumBeginningWith_1, s_X2_sumBeginningWith_4, s_X2_sumBeginningWith_7, s_X2_sumBeginningWith_8, s_X2_sumBeginningWith_9, s_X2_sumBeginningWith_11, s_X2_sumBeginningWith_12, s_X2_sumBeginningWith_15, s_X2_sumBeginningWith_16, s_X2_sumBeginningWith_16g, s_X2_sumBeginningWith_17, s_X2_sumBeginningWith_19, s_X2_sumBeginningWith_20, s_X2_sumBeginningWith_21, s_X2_sumBeginningWith_22, s_X2_sumBeginningWith_24, s_X2_sumBeginningWith_25, s_X2_sumBeginningWith_27, s_X2_sumBeginningWith_30, s_X2_sumBeginningWith_31, s_X2_sumBeginningWith_34, s_X2_sumBeginningWith_35, s_X2_sumBeginningWith_38, s_X2_sumBeginningWith_41, s_X2_sumBeginningWith_42, s_X2_sumBeginningWith_45, s_X2_sumBeginningWith_48, s_X2_sumBeginningWith_49, s_X2_sumBeginningWith_50, s_X2_sumBeginningWith_52, s_X2_sumBeginningWith_55, s_X2_sumBeginningWith_56, s_X2_sumBeginningWith_59, s_X2_sumBeginningWith_60, s_X2_sumBeginningWith_60g, s_X2_sumBeginningWith_61, s_X2_sumBeginningWith_62, s_X2_sumBeginningWith_63, s_X2_sumBeginningWith_65, s_X2_sumBeginningWith_68, s_X2_sumBeginningWith_70, s_X2_sumBeginningWith_71, s_X2_sumBeginningWith_72, s_X2_sumBeginningWith_75, s_X2_sumBeginningWith_76, s_X2_sumBeginningWith_76g, s_X2_sumBeginningWith_77, s_X2_sumBeginningWith_78, s_X2_sumBeginningWith_79, s_X2_sumBeginningWith_80, s_X2_sumBeginningWith_83, s_X2_sumBeginningWith_84, s_X2_sumBeginningWith_84g, s_X2_sumBeginningWith_85, s_X2_sumBeginningWith_87, s_X2_sumBeginningWith_88, s_X2_sumBeginningWith_89, s_X2_sumBeginningWith_91, s_X2_sumBeginningWith_92, s_X2_sumBeginningWith_93, s_X2_sumBeginningWith_96, s_X2_sumBeginningWith_98, s_X2_sumBeginningWith_99, s_X2_sumBeginningWith_100, s_X2_sumBeginningWith_103, s_X2_sumBeginningWith_106, s_X2_sumBeginningWith_108, s_X2_sumBeginningWith_109, s_X2_sumBeginningWith_111, s_X2_sumBeginningWith_112, s_X2_sumBeginningWith_115, s_X2_sumBeginningWith_118, s_X2_sumBeginningWith_119, s_X2_sumBeginningWith_120, s_X2_sumBeginningWith_122, s_X2_sumBeginningWith_123, s_X2_sumBeginningWith_126, s_X2_sumBeginningWith_127, s_X2_sumBeginningWith_128, s_X2_sumBeginningWith_130, s_X2_sumBeginningWith_133, s_X2_sumBeginningWith_134, s_X2_sumBeginningWith_135, s_X2_sumBeginningWith_136, s_X2_sumBeginningWith_137, s_X2_sumBeginningWith_140, s_X2_sumBeginningWith_142, s_X2_sumBeginningWith_143, s_X2_sumBeginningWith_146, s_X2_sumBeginningWith_149, s_X2_sumBeginningWith_150, s_X2_sumBeginningWith_152, s_X2_sumBeginningWith_153, s_X2_sumBeginningWith_154, s_X2_sumBeginningWith_157, s_X2_sumBeginningWith_160, s_X2_sumBeginningWith_162, s_X2_sumBeginningWith_164, s_X2_sumBeginningWith_165, s_X2_sumBeginningWith_166, s_X2_sumBeginningWith_169, s_X2_sumBeginningWith_172, s_X2_sumBeginningWith_173, s_X2_sumBeginningWith_175, s_X2_sumBeginningWith_176, s_X2_sumBeginningWith_178, s_X2_sumBeginningWith_180, s_X2_sumBeginningWith_183, s_X2_sumBeginningWith_185, s_X2_sumBeginningWith_188, s_X2_sumBeginningWith_190, s_X2_sumBeginningWith_192, s_X2_sumBeginningWith_193, kS_71, rS_71_0, rS_71_1, kS_80, lS_80, kH, rH1, rH2, rH4, rH5, rH6, rH7, rH8, kH_1, kH_2, kH_3, kH_4, kH_5, kH_6, kH_7, lH_1, lH_2, lH_3, lH_4, lH_5, lH_6, lH_7, Hs_72, show r < 7 by omega, show k < 5 by omega, show u (35 + r) < 5 by omega, q4, q5, e1, e2, l1, l2, s1, ne, eq_false zx, nI_add, Option.toList_none, Option.toList_some, List.cons_append, List.nil_append, Nat.reduceAdd, Nat.reduceLT, cl_tl0, cl_tl1, rfv_some, if_true, if_false, or_true, true_or, eq_self, ite_true, ite_false, and_true, true_and, not_true_eq_false, not_false_eq_true]
