/-! ===== pure: what holds between class and model ===== -/
def RW (h : mMem) (r : Nat) : Prop := (h 16 r = -(nI 1) ∧ h 110 r = -(nI 1)) ∨ ∃ n l, n ≤ 40 ∧ l < 3 ∧ h 16 r = nI n ∧ h 110 r = nI n ∧ h 15 r = nI l ∧ h 109 r = nI l ∧ ∀ i, i < n → h (7 + r) i = h 111 (40 * r + i)
def I0 (xs : Nat → Int32) (h : mMem) : Prop := (∀ i, h 0 i = xs i) ∧ (∀ i, h 1 i = tbP i) ∧ (∀ i, h 2 i = tbS i) ∧ (∀ i, h 3 i = tbM i)
def I1 (h : mMem) : Prop := ∀ r, r < 8 → RW h r
def I2 (h : mMem) : Prop := ∃ n, n ≤ 100 ∧ h 17 1 = nI n ∧ h 106 8 = nI n ∧ ∀ i, i < n → ∃ v, v < 256 ∧ h 18 i = nI v ∧ h 112 i = nI v
def I3 (h : mMem) : Prop := h 4 8 = h 106 9 ∧ h 4 9 = h 106 10
def NoH (h : mMem) : Prop := (h 106 1 = nI 0 ∧ h 106 2 = nI 0 ∧ h 36 2 = nI 0) ∧ CR h 27 (fun _ => 0) ∧ MR h 0 (fun _ => 0)
def HI (h : mMem) (t : Nat → Nat) (u : Nat) (ps : Nat → Nat → Nat) : Prop := (Wf t ∧ t 2 ≤ 999) ∧ h 106 1 = nI 1 ∧ (CR h 27 t ∧ MR h 0 t) ∧ (AcC h u ps ∧ AcM h u ps) ∧ ∀ i, i < u → Wf (ps i) ∧ St (ps i) t ∧ ps i 2 ≤ 999
def I4 (h : mMem) : Prop := NoH h ∨ ∃ t u ps, HI h t u ps
def I5 (h : mMem) : Prop := ∀ k, k < 2 → (h 108 k = nI 0 ∧ h (90 + 8 * k) 3 = nI 0) ∨ (h 108 k = nI 1 ∧ h 106 1 = nI 1 ∧ ∃ t, (Wf t ∧ t 2 ≤ 999) ∧ CR h (90 + 8 * k) t ∧ MR h (25 + k) t)
def I6 (h : mMem) : Prop := ∃ n, n ≤ 16 ∧ h 88 1 = nI n ∧ h 106 12 = nI n ∧ ∀ i, i < n → h 89 i = h 113 i
def INV (xs : Nat → Int32) (h : mMem) : Prop := I0 xs h ∧ I1 h ∧ I2 h ∧ I3 h ∧ I4 h ∧ I5 h ∧ I6 h
def r1 (a i : Nat) : Prop := a = 15 ∨ a = 16 ∨ (7 ≤ a ∧ a < 15) ∨ a = 109 ∨ a = 110 ∨ a = 111
def r2 (a i : Nat) : Prop := (a = 17 ∧ i = 1) ∨ a = 18 ∨ (a = 106 ∧ i = 8) ∨ a = 112
def r3 (a i : Nat) : Prop := (a = 4 ∧ (i = 8 ∨ i = 9)) ∨ (a = 106 ∧ (i = 9 ∨ i = 10))
def r4 (a i : Nat) : Prop := hs 27 a i ∨ ar a i ∨ (a = 106 ∧ (i = 1 ∨ i = 2)) ∨ (a = 107 ∧ i < 1250)
def r5 (a i : Nat) : Prop := a = 108 ∨ (90 ≤ a ∧ a < 106) ∨ (a = 107 ∧ 1250 ≤ i ∧ i < 1350) ∨ (a = 106 ∧ i = 1)
def r6 (a i : Nat) : Prop := (a = 88 ∧ i = 1) ∨ a = 89 ∨ a = 113 ∨ (a = 106 ∧ i = 12)
theorem I0_fr {xs : Nat → Int32} {h h' : mMem} (e : ∀ a i, a < 4 → h' a i = h a i) (k : I0 xs h) : I0 xs h' := by
  obtain ⟨a, b, c, d⟩ := k
  exact ⟨fun i => (e 0 i (by omega)).trans (a i), fun i => (e 1 i (by omega)).trans (b i), fun i => (e 2 i (by omega)).trans (c i), fun i => (e 3 i (by omega)).trans (d i)⟩
theorem RW_fr {h h' : mMem} {r : Nat} (hr : r < 8) (e15 : h' 15 r = h 15 r) (e16 : h' 16 r = h 16 r) (e109 : h' 109 r = h 109 r) (e110 : h' 110 r = h 110 r) (e7 : ∀ i, h' (7 + r) i = h (7 + r) i) (e111 : ∀ i, i < 40 → h' 111 (40 * r + i) = h 111 (40 * r + i)) (k : RW h r) : RW h' r := by
  rcases k with ⟨a, b⟩ | ⟨n, l, hn, hl, a, b, c, d, f⟩
  · exact Or.inl ⟨e16.trans a, e110.trans b⟩
  · exact Or.inr ⟨n, l, hn, hl, e16.trans a, e110.trans b, e15.trans c, e109.trans d, fun i hi => by rw [e7, e111 i (by omega)]; exact f i hi⟩
theorem I1_fr {h h' : mMem} (e : ∀ a i, r1 a i → h' a i = h a i) (k : I1 h) : I1 h' := fun r hr => RW_fr hr (e _ _ (by unfold r1; omega)) (e _ _ (by unfold r1; omega)) (e _ _ (by unfold r1; omega)) (e _ _ (by unfold r1; omega)) (fun i => e _ _ (by unfold r1; omega)) (fun i _ => e _ _ (by unfold r1; omega)) (k r hr)
theorem I2_fr {h h' : mMem} (e : ∀ a i, r2 a i → h' a i = h a i) (k : I2 h) : I2 h' := by
  obtain ⟨n, hn, a, b, c⟩ := k
  refine ⟨n, hn, (e _ _ (by unfold r2; omega)).trans a, (e _ _ (by unfold r2; omega)).trans b, fun i hi => ?_⟩
  obtain ⟨v, hv, x, y⟩ := c i hi
  exact ⟨v, hv, (e _ _ (by unfold r2; omega)).trans x, (e _ _ (by unfold r2; omega)).trans y⟩
theorem I3_fr {h h' : mMem} (e : ∀ a i, r3 a i → h' a i = h a i) (k : I3 h) : I3 h' := by
  unfold I3 at k ⊢
  rw [e 4 8 (by unfold r3; omega), e 4 9 (by unfold r3; omega), e 106 9 (by unfold r3; omega), e 106 10 (by unfold r3; omega)]
  exact k
theorem AcC_fr {h h' : mMem} {u : Nat} {ps : Nat → Nat → Nat} (e : ∀ a i, ar a i → h' a i = h a i) (k : AcC h u ps) : AcC h' u ps := by
  obtain ⟨hu, a, q, hq, b, c⟩ := k
  exact ⟨hu, (e _ _ (by unfold ar; omega)).trans a, q, hq, (e _ _ (by unfold ar; omega)).trans b, fun i hi => NR_fr (c i hi) (fun x => e _ _ (by unfold ar; omega))⟩
theorem AcM_fr {h h' : mMem} {u : Nat} {ps : Nat → Nat → Nat} (e : ∀ a i, mr a i → h' a i = h a i) (k : AcM h u ps) : AcM h' u ps := by
  obtain ⟨hu, a, c⟩ := k
  exact ⟨hu, (e _ _ (by unfold mr; omega)).trans a, fun i hi => MR_fr (c i hi) (fun x h1 h2 => e _ _ (by unfold mr; omega))⟩
theorem I4_fr {h h' : mMem} (e : ∀ a i, r4 a i → h' a i = h a i) (k : I4 h) : I4 h' := by
  rcases k with ⟨⟨a, b, c⟩, d, f⟩ | ⟨t, u, ps, w, a, ⟨c, d⟩, ⟨f, g⟩, p⟩
  · exact Or.inl ⟨⟨(e _ _ (by unfold r4; omega)).trans a, (e _ _ (by unfold r4; omega)).trans b, (e _ _ (by unfold r4 ar; omega)).trans c⟩, CR_fr d (fun a i h1 h2 => e _ _ (Or.inl ⟨h1, h2⟩)), MR_fr f (fun i h1 h2 => e _ _ (by unfold r4; omega))⟩
  · exact Or.inr ⟨t, u, ps, w, (e _ _ (by unfold r4; omega)).trans a, ⟨CR_fr c (fun a i h1 h2 => e _ _ (Or.inl ⟨h1, h2⟩)), MR_fr d (fun i h1 h2 => e _ _ (by unfold r4; omega))⟩, ⟨AcC_fr (fun a i x => e _ _ (Or.inr (Or.inl x))) f, AcM_fr (fun a i x => e _ _ (by unfold mr at x; unfold r4; omega)) g⟩, p⟩
theorem I5_fr {h h' : mMem} (e : ∀ a i, r5 a i → h' a i = h a i) (k : I5 h) : I5 h' := by
  intro j hj
  rcases k j hj with ⟨a, b⟩ | ⟨a, b, t, w, c, d⟩
  · exact Or.inl ⟨(e _ _ (by unfold r5; omega)).trans a, (e _ _ (by unfold r5; omega)).trans b⟩
  · exact Or.inr ⟨(e _ _ (by unfold r5; omega)).trans a, (e _ _ (by unfold r5; omega)).trans b, t, w, CR_fr c (fun a i h1 h2 => e _ _ (by unfold r5; omega)), MR_fr d (fun i h1 h2 => e _ _ (by unfold r5; omega))⟩
theorem I6_fr {h h' : mMem} (e : ∀ a i, r6 a i → h' a i = h a i) (k : I6 h) : I6 h' := by
  obtain ⟨n, hn, a, b, c⟩ := k
  exact ⟨n, hn, (e _ _ (by unfold r6; omega)).trans a, (e _ _ (by unfold r6; omega)).trans b, fun i hi => by rw [e 89 i (by unfold r6; omega), e 113 i (by unfold r6; omega)]; exact c i hi⟩
/-- what nobody reads again -/
def scr (a i : Nat) : Prop := hs 19 a i ∨ (a = 17 ∧ (i = 2 ∨ i = 3)) ∨ hs 63 a i ∨ a = 71 ∨ hs 72 a i ∨ (81 ≤ a ∧ a < 88) ∨ (a = 88 ∧ 2 ≤ i) ∨ (a = 107 ∧ 1350 ≤ i) ∨ (a = 106 ∧ 13 ≤ i)
theorem INV_scr {xs : Nat → Int32} {h h' : mMem} (f : Fr scr h h') (k : INV xs h) : INV xs h' := by
  obtain ⟨k0, k1, k2, k3, k4, k5, k6⟩ := k
  refine ⟨I0_fr (fun a i x => f a i ?_) k0, I1_fr (fun a i x => f a i ?_) k1, I2_fr (fun a i x => f a i ?_) k2, I3_fr (fun a i x => f a i ?_) k3, I4_fr (fun a i x => f a i ?_) k4, I5_fr (fun a i x => f a i ?_) k5, I6_fr (fun a i x => f a i ?_) k6⟩
  · unfold scr hs; omega
  · unfold r1 at x; unfold scr hs; omega
  · unfold r2 at x; unfold scr hs; omega
  · unfold r3 at x; unfold scr hs; omega
  · unfold r4 ar hs at x; unfold scr hs; omega
  · unfold r5 at x; unfold scr hs; omega
  · unfold r6 at x; unfold scr hs; omega
theorem scr_63 {h h' : mMem} (f : Fr (hs 63) h h') : Fr scr h h' := Fr_w (fun a i e => by unfold hs at e; unfold scr hs; omega) f
theorem scr_27 {h h' : mMem} (f : Fr (tw 27) h h') : Fr scr h h' := Fr_w (fun a i e => by unfold tw at e; unfold scr hs; omega) f
/-- both answer alike, and what holds between them goes on holding -/
def Eqm (D : Nat) (mx mm : mRec) (as : List Value) (L : Nat) (xs : Nat → Int32) (h : mMem) : Prop := ∃ v h1 h2, INV xs h2 ∧ (∀ Q, WP D mx (.ref 4 :: as) (S0 L, h) Q = Q (some v) (S0 L, h1)) ∧ (∀ Q, WP D mm (.ref 106 :: as) (S0 L, h1) Q = Q (some v) (S0 L, h2))
theorem q_fault {d L : Nat} {xs : Nat → Int32} {h : mMem} (k : INV xs h) : Eqm (d + 9) M_X7_fault M_X8_fault [] L xs h := by
  have k3 := k.2.2.2.1
  refine ⟨.int (h 106 9), h, h, k, fun Q => ?_, fun Q => ?_⟩
  · simp only [e_X7_fault, s_X7_fault_0, s_X7_fault_1, s_X7_fault_4, kS_4, rS_4_0, rS_4_1, rS_4_2, rS_4_3, rS_4_4, rS_4_5, rS_4_6, rS_4_7, Hs_27, Hs_63, Hs_72, Hs_19, Hs_90, Hs_98, k3.1, cl_tl0, cl_tl1, rfv_some, if_true, if_false, or_true, true_or, eq_self, ite_true, ite_false, and_true, true_and, not_true_eq_false, not_false_eq_true]
  · simp only [e_X8_fault, s_X8_fault_0, s_X8_fault_1, s_X8_fault_4, kS_106, rS_106_0, rS_106_3, rS_106_4, rS_106_5, rS_106_6, rS_106_7, rS_106_11, kS_107, lS_107, kS_108, lS_108, kS_109, lS_109, kS_110, lS_110, kS_111, lS_111, kS_112, lS_112, kS_113, lS_113, cl_tl0, cl_tl1, rfv_some, if_true, if_false, or_true, true_or, eq_self, ite_true, ite_false, and_true, true_and, not_true_eq_false, not_false_eq_true]
theorem q_status {d L : Nat} {xs : Nat → Int32} {h : mMem} (k : INV xs h) : Eqm (d + 9) M_X7_status M_X8_status [] L xs h := by
  have k3 := k.2.2.2.1
  refine ⟨.int (h 106 10), h, h, k, fun Q => ?_, fun Q => ?_⟩
  · simp only [e_X7_status, s_X7_status_0, s_X7_status_1, s_X7_status_4, kS_4, rS_4_0, rS_4_1, rS_4_2, rS_4_3, rS_4_4, rS_4_5, rS_4_6, rS_4_7, Hs_27, Hs_63, Hs_72, Hs_19, Hs_90, Hs_98, k3.2, cl_tl0, cl_tl1, rfv_some, if_true, if_false, or_true, true_or, eq_self, ite_true, ite_false, and_true, true_and, not_true_eq_false, not_false_eq_true]
  · simp only [e_X8_status, s_X8_status_0, s_X8_status_1, s_X8_status_4, kS_106, rS_106_0, rS_106_3, rS_106_4, rS_106_5, rS_106_6, rS_106_7, rS_106_11, kS_107, lS_107, kS_108, lS_108, kS_109, lS_109, kS_110, lS_110, kS_111, lS_111, kS_112, lS_112, kS_113, lS_113, cl_tl0, cl_tl1, rfv_some, if_true, if_false, or_true, true_or, eq_self, ite_true, ite_false, and_true, true_and, not_true_eq_false, not_false_eq_true]
