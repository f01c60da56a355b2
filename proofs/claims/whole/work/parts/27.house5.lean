/-! ===== pure: the class's houses: counts, sales ===== -/
theorem lpr {α : Type} {N : Nat} {I : Nat → α → Prop} {f : Nat → α → α} {W : Nat → α → mQ → Prop} (hs : ∀ i a, i < N → I i a → I (i + 1) (f i a) ∧ ∀ Q, W i a Q = W (i + 1) (f i a) Q) : ∀ n i a, i + n = N → I i a → I N (itr f n i a) ∧ ∀ Q, W i a Q = W N (itr f n i a) Q := by
  intro n
  induction n with
  | zero =>
    intro i a hi hI
    obtain rfl : i = N := by omega
    exact ⟨hI, fun Q => rfl⟩
  | succ n ih =>
    intro i a hi hI
    obtain ⟨hI1, e1⟩ := hs i a (by omega) hI
    obtain ⟨hI2, e2⟩ := ih (i + 1) (f i a) (by omega) hI1
    exact ⟨hI2, fun Q => by rw [e1, e2]; rfl⟩
theorem lpq {α β : Type} {N : Nat} {f : Nat → α → α ⊕ β} {W : Nat → α → mQ → Prop} {X : β → mQ → Prop} (hs : ∀ i a, i < N → match f i a with
    | .inl a' => ∀ Q, W i a Q = W (i + 1) a' Q
    | .inr b => ∀ Q, W i a Q = X b Q) : ∀ n i a, i + n = N → match itx f n i a with
    | .inl a' => ∀ Q, W i a Q = W N a' Q
    | .inr b => ∀ Q, W i a Q = X b Q := by
  intro n
  induction n with
  | zero =>
    intro i a hi
    obtain rfl : i = N := by omega
    exact fun Q => rfl
  | succ n ih =>
    intro i a hi
    have h1 := hs i a (by omega)
    cases e : f i a with
    | inl a' =>
      have h2 := ih (i + 1) a' (by omega)
      have e3 : itx f (n + 1) i a = itx f n (i + 1) a' := by rw [itx, e]
      rw [e] at h1
      rw [e3]
      cases e2 : itx f n (i + 1) a' with
      | inl x =>
        rw [e2] at h2
        exact fun Q => (h1 Q).trans (h2 Q)
      | inr x =>
        rw [e2] at h2
        exact fun Q => (h1 Q).trans (h2 Q)
    | inr b =>
      have e3 : itx f (n + 1) i a = .inr b := by rw [itx, e]
      rw [e] at h1
      rw [e3]
      exact h1
/-- with locals that don't matter -/
theorem lpj {α γ : Type} {N : Nat} {I : Nat → α → mMem → Prop} {f : Nat → α → α} {W : Nat → α → γ → mMem → mQ → Prop} (hs : ∀ i a u h, i < N → I i a h → ∃ h' u', I (i + 1) (f i a) h' ∧ ∀ Q, W i a u h Q = W (i + 1) (f i a) u' h' Q) : ∀ n i a u h, i + n = N → I i a h → ∃ h' u', I N (itr f n i a) h' ∧ ∀ Q, W i a u h Q = W N (itr f n i a) u' h' Q := by
  intro n
  induction n with
  | zero =>
    intro i a u h hi hI
    obtain rfl : i = N := by omega
    exact ⟨h, u, hI, fun Q => rfl⟩
  | succ n ih =>
    intro i a u h hi hI
    obtain ⟨h1, u1, hI1, e1⟩ := hs i a u h (by omega) hI
    obtain ⟨h2, u2, hI2, e2⟩ := ih (i + 1) (f i a) u1 h1 (by omega) hI1
    exact ⟨h2, u2, hI2, fun Q => by rw [e1, e2]; rfl⟩
theorem lprj {α γ : Type} {N : Nat} {f : Nat → α → α} {W : Nat → α → γ → mQ → Prop} (hs : ∀ i a u, i < N → ∃ u', ∀ Q, W i a u Q = W (i + 1) (f i a) u' Q) : ∀ n i a u, i + n = N → ∃ u', ∀ Q, W i a u Q = W N (itr f n i a) u' Q := by
  intro n
  induction n with
  | zero =>
    intro i a u hi
    obtain rfl : i = N := by omega
    exact ⟨u, fun Q => rfl⟩
  | succ n ih =>
    intro i a u hi
    obtain ⟨u1, e1⟩ := hs i a u (by omega)
    obtain ⟨u2, e2⟩ := ih (i + 1) (f i a) u1 (by omega)
    exact ⟨u2, fun Q => by rw [e1, e2]; rfl⟩
theorem l_no {a b : Nat} (h : b < a) (ha : a < 2147483648) : (nI a ≤ nI b) = False := by rw [f_le (by omega) (by omega)]; exact eq_false (by omega)
theorem l_ye {a : Nat} (ha : a < 2147483648) : (nI a ≤ nI a) = True := by rw [f_le (by omega) (by omega)]; exact eq_true (Nat.le_refl _)
def shl1 (r : Nat) : Int32 := nI 1 <<< (nI r &&& 31)
def rof (t : Nat → Nat) (k : Nat) : Int32 := itr (fun r x => if t (35 + r) = k then x ||| shl1 r else x) (t 1) 0 (nI 0)
theorem p_rightsOf {d L o k : Nat} {t : Nat → Nat} {h : mMem} {Q : mQ} (ho : Hs o) (c : CR h o t) (w : Wf t) (hk : k < t 0) : WP (d + 1) M_X4_rightsOf [.ref o, .int (nI k)] (S0 L, h) Q = Q (some (.int (rof t k))) (S0 L, h) := by
  have h1 := w.1
  have h2 := w.2.1
  obtain ⟨-, e1⟩ := lpr (N := t 1) (f := fun r x => if t (35 + r) = k then x ||| shl1 r else x) (I := fun _ _ => True) (W := fun i x Q => Wp d M_X4_rightsOf none 4 [.ref o, .int (nI k), .int x, .int (nI i)] [] (S0 L, h) Q) (by
    intro i x hi _
    refine ⟨trivial, fun Q => ?_⟩
    have a4 := (w.2.2.2.1 i hi).2.2.2.1
    have l2 : (nI (t (35 + i)) = nI k) = (t (35 + i) = k) := f_eq (by omega) (by omega)
    rw [s_X4_rightsOf_4]
    by_cases b : t (35 + i) = k
    · simp only [s_X4_rightsOf_0, s_X4_rightsOf_1, s_X4_rightsOf_2, s_X4_rightsOf_3, s_X4_rightsOf_5, s_X4_rightsOf_6, s_X4_rightsOf_9, s_X4_rightsOf_12, s_X4_rightsOf_13, s_X4_rightsOf_16, s_X4_rightsOf_17, s_X4_rightsOf_18, s_X4_rightsOf_19, s_X4_rightsOf_22, s_X4_rightsOf_23, s_X4_rightsOf_24, s_X4_rightsOf_25, s_X4_rightsOf_26, s_X4_rightsOf_27, s_X4_rightsOf_28, s_X4_rightsOf_31, s_X4_rightsOf_34, s_X4_rightsOf_35, kH, rH1, rH2, rH4, rH5, rH6, rH7, rH8, kH_1, kH_2, kH_3, kH_4, kH_5, kH_6, kH_7, lH_1, lH_2, lH_3, lH_4, lH_5, lH_6, lH_7, ho, show i < 7 by omega, CR_1 c, CR_35 c w hi, l_no hi, show t 1 < 2147483648 by omega, l2, eq_true b, nI_add, shl1, Nat.reduceLT, cl_tl0, cl_tl1, rfv_some, if_true, if_false, or_true, true_or, eq_self, ite_true, ite_false, and_true, true_and, not_true_eq_false, not_false_eq_true]
    · simp only [s_X4_rightsOf_0, s_X4_rightsOf_1, s_X4_rightsOf_2, s_X4_rightsOf_3, s_X4_rightsOf_5, s_X4_rightsOf_6, s_X4_rightsOf_9, s_X4_rightsOf_12, s_X4_rightsOf_13, s_X4_rightsOf_16, s_X4_rightsOf_17, s_X4_rightsOf_18, s_X4_rightsOf_19, s_X4_rightsOf_22, s_X4_rightsOf_23, s_X4_rightsOf_24, s_X4_rightsOf_25, s_X4_rightsOf_26, s_X4_rightsOf_27, s_X4_rightsOf_28, s_X4_rightsOf_31, s_X4_rightsOf_34, s_X4_rightsOf_35, kH, rH1, rH2, rH4, rH5, rH6, rH7, rH8, kH_1, kH_2, kH_3, kH_4, kH_5, kH_6, kH_7, lH_1, lH_2, lH_3, lH_4, lH_5, lH_6, lH_7, ho, show i < 7 by omega, CR_1 c, CR_35 c w hi, l_no hi, show t 1 < 2147483648 by omega, l2, eq_false b, nI_add, Nat.reduceLT, cl_tl0, cl_tl1, rfv_some, if_true, if_false, or_true, true_or, eq_self, ite_true, ite_false, and_true, true_and, not_true_eq_false, not_false_eq_true]) (t 1) 0 (nI 0) (by omega) trivial
  simp only [e_X4_rightsOf, s_X4_rightsOf_0, s_X4_rightsOf_1, s_X4_rightsOf_2, s_X4_rightsOf_3, s_X4_rightsOf_5, s_X4_rightsOf_6, s_X4_rightsOf_9, s_X4_rightsOf_12, s_X4_rightsOf_13, s_X4_rightsOf_16, s_X4_rightsOf_17, s_X4_rightsOf_18, s_X4_rightsOf_19, s_X4_rightsOf_22, s_X4_rightsOf_23, s_X4_rightsOf_24, s_X4_rightsOf_25, s_X4_rightsOf_26, s_X4_rightsOf_27, s_X4_rightsOf_28, s_X4_rightsOf_31, s_X4_rightsOf_34, s_X4_rightsOf_35, e1, cl_tl0, cl_tl1, rfv_some, if_true, if_false, or_true, true_or, eq_self, ite_true, ite_false, and_true, true_and, not_true_eq_false, not_false_eq_true]
  rw [s_X4_rightsOf_4]
  simp only [s_X4_rightsOf_0, s_X4_rightsOf_1, s_X4_rightsOf_2, s_X4_rightsOf_3, s_X4_rightsOf_5, s_X4_rightsOf_6, s_X4_rightsOf_9, s_X4_rightsOf_12, s_X4_rightsOf_13, s_X4_rightsOf_16, s_X4_rightsOf_17, s_X4_rightsOf_18, s_X4_rightsOf_19, s_X4_rightsOf_22, s_X4_rightsOf_23, s_X4_rightsOf_24, s_X4_rightsOf_25, s_X4_rightsOf_26, s_X4_rightsOf_27, s_X4_rightsOf_28, s_X4_rightsOf_31, s_X4_rightsOf_34, s_X4_rightsOf_35, kH, rH1, rH2, rH4, rH5, rH6, rH7, rH8, kH_1, kH_2, kH_3, kH_4, kH_5, kH_6, kH_7, lH_1, lH_2, lH_3, lH_4, lH_5, lH_6, lH_7, ho, CR_1 c, l_ye, show t 1 < 2147483648 by omega, cl_tl0, cl_tl1, rfv_some, if_true, if_false, or_true, true_or, eq_self, ite_true, ite_false, and_true, true_and, not_true_eq_false, not_false_eq_true]
  rfl
def clm (t : Nat → Nat) : Int32 := itr (fun r x => if t (35 + r) = t (42 + r) then x else x ||| shl1 r) (t 1) 0 (nI 0)
theorem p_rightsInOtherHands {d L o : Nat} {t : Nat → Nat} {h : mMem} {Q : mQ} (ho : Hs o) (c : CR h o t) (w : Wf t) : WP (d + 1) M_X4_rightsInOtherHands [.ref o] (S0 L, h) Q = Q (some (.int (clm t))) (S0 L, h) := by
  have h1 := w.1
  have h2 := w.2.1
  obtain ⟨-, e1⟩ := lpr (N := t 1) (f := fun r x => if t (35 + r) = t (42 + r) then x else x ||| shl1 r) (I := fun _ _ => True) (W := fun i x Q => Wp d M_X4_rightsInOtherHands none 4 [.ref o, .int x, .int (nI i)] [] (S0 L, h) Q) (by
    intro i x hi _
    refine ⟨trivial, fun Q => ?_⟩
    have a4 := (w.2.2.2.1 i hi).2.2.2
    have l2 : (nI (t (35 + i)) = nI (t (42 + i))) = (t (35 + i) = t (42 + i)) := f_eq (by omega) (by omega)
    rw [s_X4_rightsInOtherHands_4]
    by_cases b : t (35 + i) = t (42 + i)
    · simp only [s_X4_rightsInOtherHands_0, s_X4_rightsInOtherHands_1, s_X4_rightsInOtherHands_2, s_X4_rightsInOtherHands_3, s_X4_rightsInOtherHands_5, s_X4_rightsInOtherHands_6, s_X4_rightsInOtherHands_9, s_X4_rightsInOtherHands_12, s_X4_rightsInOtherHands_13, s_X4_rightsInOtherHands_16, s_X4_rightsInOtherHands_17, s_X4_rightsInOtherHands_18, s_X4_rightsInOtherHands_19, s_X4_rightsInOtherHands_22, s_X4_rightsInOtherHands_23, s_X4_rightsInOtherHands_24, s_X4_rightsInOtherHands_27, s_X4_rightsInOtherHands_28, s_X4_rightsInOtherHands_29, s_X4_rightsInOtherHands_30, s_X4_rightsInOtherHands_31, s_X4_rightsInOtherHands_32, s_X4_rightsInOtherHands_33, s_X4_rightsInOtherHands_36, s_X4_rightsInOtherHands_39, s_X4_rightsInOtherHands_40, kH, rH1, rH2, rH4, rH5, rH6, rH7, rH8, kH_1, kH_2, kH_3, kH_4, kH_5, kH_6, kH_7, lH_1, lH_2, lH_3, lH_4, lH_5, lH_6, lH_7, ho, show i < 7 by omega, CR_1 c, CR_35 c w hi, CR_42 c w hi, l_no hi, show t 1 < 2147483648 by omega, l2, eq_true b, nI_add, shl1, Nat.reduceLT, cl_tl0, cl_tl1, rfv_some, if_true, if_false, or_true, true_or, eq_self, ite_true, ite_false, and_true, true_and, not_true_eq_false, not_false_eq_true]
    · simp only [s_X4_rightsInOtherHands_0, s_X4_rightsInOtherHands_1, s_X4_rightsInOtherHands_2, s_X4_rightsInOtherHands_3, s_X4_rightsInOtherHands_5, s_X4_rightsInOtherHands_6, s_X4_rightsInOtherHands_9, s_X4_rightsInOtherHands_12, s_X4_rightsInOtherHands_13, s_X4_rightsInOtherHands_16, s_X4_rightsInOtherHands_17, s_X4_rightsInOtherHands_18, s_X4_rightsInOtherHands_19, s_X4_rightsInOtherHands_22, s_X4_rightsInOtherHands_23, s_X4_rightsInOtherHands_24, s_X4_rightsInOtherHands_27, s_X4_rightsInOtherHands_28, s_X4_rightsInOtherHands_29, s_X4_rightsInOtherHands_30, s_X4_rightsInOtherHands_31, s_X4_rightsInOtherHands_32, s_X4_rightsInOtherHands_33, s_X4_rightsInOtherHands_36, s_X4_rightsInOtherHands_39, s_X4_rightsInOtherHands_40, kH, rH1, rH2, rH4, rH5, rH6, rH7, rH8, kH_1, kH_2, kH_3, kH_4, kH_5, kH_6, kH_7, lH_1, lH_2, lH_3, lH_4, lH_5, lH_6, lH_7, ho, show i < 7 by omega, CR_1 c, CR_35 c w hi, CR_42 c w hi, l_no hi, show t 1 < 2147483648 by omega, l2, eq_false b, nI_add, shl1, Nat.reduceLT, cl_tl0, cl_tl1, rfv_some, if_true, if_false, or_true, true_or, eq_self, ite_true, ite_false, and_true, true_and, not_true_eq_false, not_false_eq_true]) (t 1) 0 (nI 0) (by omega) trivial
  simp only [e_X4_rightsInOtherHands, s_X4_rightsInOtherHands_0, s_X4_rightsInOtherHands_1, s_X4_rightsInOtherHands_2, s_X4_rightsInOtherHands_3, s_X4_rightsInOtherHands_5, s_X4_rightsInOtherHands_6, s_X4_rightsInOtherHands_9, s_X4_rightsInOtherHands_12, s_X4_rightsInOtherHands_13, s_X4_rightsInOtherHands_16, s_X4_rightsInOtherHands_17, s_X4_rightsInOtherHands_18, s_X4_rightsInOtherHands_19, s_X4_rightsInOtherHands_22, s_X4_rightsInOtherHands_23, s_X4_rightsInOtherHands_24, s_X4_rightsInOtherHands_27, s_X4_rightsInOtherHands_28, s_X4_rightsInOtherHands_29, s_X4_rightsInOtherHands_30, s_X4_rightsInOtherHands_31, s_X4_rightsInOtherHands_32, s_X4_rightsInOtherHands_33, s_X4_rightsInOtherHands_36, s_X4_rightsInOtherHands_39, s_X4_rightsInOtherHands_40, e1, cl_tl0, cl_tl1, rfv_some, if_true, if_false, or_true, true_or, eq_self, ite_true, ite_false, and_true, true_and, not_true_eq_false, not_false_eq_true]
  rw [s_X4_rightsInOtherHands_4]
  simp only [s_X4_rightsInOtherHands_0, s_X4_rightsInOtherHands_1, s_X4_rightsInOtherHands_2, s_X4_rightsInOtherHands_3, s_X4_rightsInOtherHands_5, s_X4_rightsInOtherHands_6, s_X4_rightsInOtherHands_9, s_X4_rightsInOtherHands_12, s_X4_rightsInOtherHands_13, s_X4_rightsInOtherHands_16, s_X4_rightsInOtherHands_17, s_X4_rightsInOtherHands_18, s_X4_rightsInOtherHands_19, s_X4_rightsInOtherHands_22, s_X4_rightsInOtherHands_23, s_X4_rightsInOtherHands_24, s_X4_rightsInOtherHands_27, s_X4_rightsInOtherHands_28, s_X4_rightsInOtherHands_29, s_X4_rightsInOtherHands_30, s_X4_rightsInOtherHands_31, s_X4_rightsInOtherHands_32, s_X4_rightsInOtherHands_33, s_X4_rightsInOtherHands_36, s_X4_rightsInOtherHands_39, s_X4_rightsInOtherHands_40, kH, rH1, rH2, rH4, rH5, rH6, rH7, rH8, kH_1, kH_2, kH_3, kH_4, kH_5, kH_6, kH_7, lH_1, lH_2, lH_3, lH_4, lH_5, lH_6, lH_7, ho, CR_1 c, l_ye, show t 1 < 2147483648 by omega, cl_tl0, cl_tl1, rfv_some, if_true, if_false, or_true, true_or, eq_self, ite_true, ite_false, and_true, true_and, not_true_eq_false, not_false_eq_true]
  rfl
def bwl (t : Nat → Nat) : Int32 := itr (fun k x => x + nI (t (4 + k))) (t 0) 0 (nI 0)
theorem p_bowlsOfAll {d L o : Nat} {t : Nat → Nat} {h : mMem} {Q : mQ} (ho : Hs o) (c : CR h o t) (h5 : t 0 ≤ 5) (h4 : ∀ k, k < t 0 → h (o + 1) k = nI (t (4 + k))) : WP (d + 1) M_X4_bowlsOfAll [.ref o] (S0 L, h) Q = Q (some (.int (bwl t))) (S0 L, h) := by
  obtain ⟨-, e1⟩ := lpr (N := t 0) (f := fun k x => x + nI (t (4 + k))) (I := fun _ _ => True) (W := fun i x Q => Wp d M_X4_bowlsOfAll none 4 [.ref o, .int x, .int (nI i)] [] (S0 L, h) Q) (by
    intro i x hi _
    refine ⟨trivial, fun Q => ?_⟩
    rw [s_X4_bowlsOfAll_4]
    simp only [s_X4_bowlsOfAll_0, s_X4_bowlsOfAll_1, s_X4_bowlsOfAll_2, s_X4_bowlsOfAll_3, s_X4_bowlsOfAll_5, s_X4_bowlsOfAll_6, s_X4_bowlsOfAll_9, s_X4_bowlsOfAll_12, s_X4_bowlsOfAll_13, s_X4_bowlsOfAll_14, s_X4_bowlsOfAll_17, s_X4_bowlsOfAll_18, s_X4_bowlsOfAll_19, s_X4_bowlsOfAll_20, s_X4_bowlsOfAll_21, s_X4_bowlsOfAll_24, s_X4_bowlsOfAll_27, s_X4_bowlsOfAll_28, kH, rH1, rH2, rH4, rH5, rH6, rH7, rH8, kH_1, kH_2, kH_3, kH_4, kH_5, kH_6, kH_7, lH_1, lH_2, lH_3, lH_4, lH_5, lH_6, lH_7, ho, show i < 5 by omega, CR_0 c, h4 i hi, l_no hi, show t 0 < 2147483648 by omega, nI_add, Nat.reduceLT, cl_tl0, cl_tl1, rfv_some, if_true, if_false, or_true, true_or, eq_self, ite_true, ite_false, and_true, true_and, not_true_eq_false, not_false_eq_true]) (t 0) 0 (nI 0) (by omega) trivial
  simp only [e_X4_bowlsOfAll, s_X4_bowlsOfAll_0, s_X4_bowlsOfAll_1, s_X4_bowlsOfAll_2, s_X4_bowlsOfAll_3, s_X4_bowlsOfAll_5, s_X4_bowlsOfAll_6, s_X4_bowlsOfAll_9, s_X4_bowlsOfAll_12, s_X4_bowlsOfAll_13, s_X4_bowlsOfAll_14, s_X4_bowlsOfAll_17, s_X4_bowlsOfAll_18, s_X4_bowlsOfAll_19, s_X4_bowlsOfAll_20, s_X4_bowlsOfAll_21, s_X4_bowlsOfAll_24, s_X4_bowlsOfAll_27, s_X4_bowlsOfAll_28, e1, cl_tl0, cl_tl1, rfv_some, if_true, if_false, or_true, true_or, eq_self, ite_true, ite_false, and_true, true_and, not_true_eq_false, not_false_eq_true]
  rw [s_X4_bowlsOfAll_4]
  simp only [s_X4_bowlsOfAll_0, s_X4_bowlsOfAll_1, s_X4_bowlsOfAll_2, s_X4_bowlsOfAll_3, s_X4_bowlsOfAll_5, s_X4_bowlsOfAll_6, s_X4_bowlsOfAll_9, s_X4_bowlsOfAll_12, s_X4_bowlsOfAll_13, s_X4_bowlsOfAll_14, s_X4_bowlsOfAll_17, s_X4_bowlsOfAll_18, s_X4_bowlsOfAll_19, s_X4_bowlsOfAll_20, s_X4_bowlsOfAll_21, s_X4_bowlsOfAll_24, s_X4_bowlsOfAll_27, s_X4_bowlsOfAll_28, kH, rH1, rH2, rH4, rH5, rH6, rH7, rH8, kH_1, kH_2, kH_3, kH_4, kH_5, kH_6, kH_7, lH_1, lH_2, lH_3, lH_4, lH_5, lH_6, lH_7, ho, CR_0 c, l_ye, show t 0 < 2147483648 by omega, cl_tl0, cl_tl1, rfv_some, if_true, if_false, or_true, true_or, eq_self, ite_true, ite_false, and_true, true_and, not_true_eq_false, not_false_eq_true]
  rfl
def mst (t : Nat → Nat) : Nat := itr (fun k m => if t (4 + m) < t (4 + k) then k else m) (t 0 - 1) 1 0
theorem mst_l {t : Nat → Nat} (w : Wf t) : mst t < t 0 := by
  have h1 := w.1
  refine itr_inv (P := fun _ m => m < t 0) (N := t 0) ?_ (t 0 - 1) 1 0 (by omega) (by omega)
  intro i m hi hm
  split <;> omega
theorem p_whoHasMost {d L o : Nat} {t : Nat → Nat} {h : mMem} {Q : mQ} (ho : Hs o) (c : CR h o t) (w : Wf t) : WP (d + 1) M_X4_whoHasMost [.ref o] (S0 L, h) Q = Q (some (.int (nI (mst t)))) (S0 L, h) := by
  have h1 := w.1
  obtain ⟨-, e1⟩ := lpr (N := t 0) (f := fun k m => if t (4 + m) < t (4 + k) then k else m) (I := fun _ m => m < t 0) (W := fun i m Q => Wp d M_X4_whoHasMost none 4 [.ref o, .int (nI m), .int (nI i)] [] (S0 L, h) Q) (by
    intro i m hi hm
    have b1 := (w.2.2.1 i hi).1
    have b2 := (w.2.2.1 m hm).1
    have l2 : (nI (t (4 + i)) ≤ nI (t (4 + m))) = (t (4 + i) ≤ t (4 + m)) := f_le (by omega) (by omega)
    refine ⟨by split <;> omega, fun Q => ?_⟩
    rw [s_X4_whoHasMost_4]
    by_cases b : t (4 + m) < t (4 + i)
    · simp only [s_X4_whoHasMost_0, s_X4_whoHasMost_1, s_X4_whoHasMost_2, s_X4_whoHasMost_3, s_X4_whoHasMost_5, s_X4_whoHasMost_6, s_X4_whoHasMost_9, s_X4_whoHasMost_12, s_X4_whoHasMost_13, s_X4_whoHasMost_16, s_X4_whoHasMost_17, s_X4_whoHasMost_18, s_X4_whoHasMost_19, s_X4_whoHasMost_22, s_X4_whoHasMost_23, s_X4_whoHasMost_24, s_X4_whoHasMost_27, s_X4_whoHasMost_28, s_X4_whoHasMost_29, s_X4_whoHasMost_32, s_X4_whoHasMost_35, s_X4_whoHasMost_36, kH, rH1, rH2, rH4, rH5, rH6, rH7, rH8, kH_1, kH_2, kH_3, kH_4, kH_5, kH_6, kH_7, lH_1, lH_2, lH_3, lH_4, lH_5, lH_6, lH_7, ho, show i < 5 by omega, show m < 5 by omega, CR_0 c, CR_4 c w hi, CR_4 c w hm, l_no hi, show t 0 < 2147483648 by omega, l2, eq_true b, eq_false (show ¬ (t (4 + i) ≤ t (4 + m)) by omega), nI_add, Nat.reduceLT, cl_tl0, cl_tl1, rfv_some, if_true, if_false, or_true, true_or, eq_self, ite_true, ite_false, and_true, true_and, not_true_eq_false, not_false_eq_true]
    · simp only [s_X4_whoHasMost_0, s_X4_whoHasMost_1, s_X4_whoHasMost_2, s_X4_whoHasMost_3, s_X4_whoHasMost_5, s_X4_whoHasMost_6, s_X4_whoHasMost_9, s_X4_whoHasMost_12, s_X4_whoHasMost_13, s_X4_whoHasMost_16, s_X4_whoHasMost_17, s_X4_whoHasMost_18, s_X4_whoHasMost_19, s_X4_whoHasMost_22, s_X4_whoHasMost_23, s_X4_whoHasMost_24, s_X4_whoHasMost_27, s_X4_whoHasMost_28, s_X4_whoHasMost_29, s_X4_whoHasMost_32, s_X4_whoHasMost_35, s_X4_whoHasMost_36, kH, rH1, rH2, rH4, rH5, rH6, rH7, rH8, kH_1, kH_2, kH_3, kH_4, kH_5, kH_6, kH_7, lH_1, lH_2, lH_3, lH_4, lH_5, lH_6, lH_7, ho, show i < 5 by omega, show m < 5 by omega, CR_0 c, CR_4 c w hi, CR_4 c w hm, l_no hi, show t 0 < 2147483648 by omega, l2, eq_false b, eq_true (show (t (4 + i) ≤ t (4 + m)) by omega), nI_add, Nat.reduceLT, cl_tl0, cl_tl1, rfv_some, if_true, if_false, or_true, true_or, eq_self, ite_true, ite_false, and_true, true_and, not_true_eq_false, not_false_eq_true]) (t 0 - 1) 1 0 (by omega) (by omega)
  simp only [e_X4_whoHasMost, s_X4_whoHasMost_0, s_X4_whoHasMost_1, s_X4_whoHasMost_2, s_X4_whoHasMost_3, s_X4_whoHasMost_5, s_X4_whoHasMost_6, s_X4_whoHasMost_9, s_X4_whoHasMost_12, s_X4_whoHasMost_13, s_X4_whoHasMost_16, s_X4_whoHasMost_17, s_X4_whoHasMost_18, s_X4_whoHasMost_19, s_X4_whoHasMost_22, s_X4_whoHasMost_23, s_X4_whoHasMost_24, s_X4_whoHasMost_27, s_X4_whoHasMost_28, s_X4_whoHasMost_29, s_X4_whoHasMost_32, s_X4_whoHasMost_35, s_X4_whoHasMost_36, e1, cl_tl0, cl_tl1, rfv_some, if_true, if_false, or_true, true_or, eq_self, ite_true, ite_false, and_true, true_and, not_true_eq_false, not_false_eq_true]
  rw [s_X4_whoHasMost_4]
  simp only [s_X4_whoHasMost_0, s_X4_whoHasMost_1, s_X4_whoHasMost_2, s_X4_whoHasMost_3, s_X4_whoHasMost_5, s_X4_whoHasMost_6, s_X4_whoHasMost_9, s_X4_whoHasMost_12, s_X4_whoHasMost_13, s_X4_whoHasMost_16, s_X4_whoHasMost_17, s_X4_whoHasMost_18, s_X4_whoHasMost_19, s_X4_whoHasMost_22, s_X4_whoHasMost_23, s_X4_whoHasMost_24, s_X4_whoHasMost_27, s_X4_whoHasMost_28, s_X4_whoHasMost_29, s_X4_whoHasMost_32, s_X4_whoHasMost_35, s_X4_whoHasMost_36, kH, rH1, rH2, rH4, rH5, rH6, rH7, rH8, kH_1, kH_2, kH_3, kH_4, kH_5, kH_6, kH_7, lH_1, lH_2, lH_3, lH_4, lH_5, lH_6, lH_7, ho, CR_0 c, l_ye, show t 0 < 2147483648 by omega, cl_tl0, cl_tl1, rfv_some, if_true, if_false, or_true, true_or, eq_self, ite_true, ite_false, and_true, true_and, not_true_eq_false, not_false_eq_true]
  rfl
/-- at the price -/
def prc (t : Nat → Nat) (r : Nat) : Nat := wrt t r (t (35 + r)) + 1
def isS (t : Nat → Nat) (r k : Nat) : Bool := cB t r k (prc t r)
theorem prc_l {t : Nat → Nat} (w : Wf t) {r : Nat} (hr : r < t 1) : prc t r ≤ 181 := by
  have := wrt_le w (k := t (35 + r)) hr
  unfold prc
  omega
def fby (t : Nat → Nat) (r : Nat) : Unit ⊕ Nat := itx (fun k _ => if isS t r k then .inr k else .inl ()) (t 0) 0 ()
def rv : Unit ⊕ Nat → Int32
  | .inl _ => -1000000
  | .inr k => nI k
theorem p_firstBuyer {d L o r : Nat} {t : Nat → Nat} {h : mMem} {Q : mQ} (ho : Hs o) (c : CR h o t) (w : Wf t) (hd : t 2 ≤ 2000) (hr : r < t 1) : WP (d + 4) M_X4_firstBuyer [.ref o, .int (nI r)] (S0 L, h) Q = Q (some (.int (rv (fby t r)))) (S0 L, h) := by
  have h1 := w.1
  have h2 := w.2.1
  have hp := prc_l w hr
  have w1 := fun Q => p_priceOf (d := d) (L := L) (Q := Q) ho c w hd hr
  have e1 := lpq (N := t 0) (f := fun k (_ : Unit) => if isS t r k then (.inr k : Unit ⊕ Nat) else .inl ()) (W := fun i _ Q => Wp (d + 3) M_X4_firstBuyer none 8 [.ref o, .int (nI r), .int (nI (prc t r)), .int (nI i)] [] (S0 L, h) Q) (X := fun k Q => Q (some (.int (nI k))) (S0 L, h)) (by
    intro i _ hi
    have w2 := fun Q => p_canBuy (d := d) (L := L) (Q := Q) ho c w hd hr hi (show prc t r < 2147483648 by omega)
    cases b : isS t r i
    · intro Q
      unfold isS at b
      rw [s_X4_firstBuyer_8]
      simp only [s_X4_firstBuyer_0, s_X4_firstBuyer_1, s_X4_firstBuyer_2, s_X4_firstBuyer_5, s_X4_firstBuyer_6, s_X4_firstBuyer_7, s_X4_firstBuyer_9, s_X4_firstBuyer_10, s_X4_firstBuyer_13, s_X4_firstBuyer_16, s_X4_firstBuyer_17, s_X4_firstBuyer_18, s_X4_firstBuyer_19, s_X4_firstBuyer_20, s_X4_firstBuyer_23, s_X4_firstBuyer_26, s_X4_firstBuyer_27, s_X4_firstBuyer_28, s_X4_firstBuyer_31, s_X4_firstBuyer_34, s_X4_firstBuyer_36, kH, rH1, rH2, rH4, rH5, rH6, rH7, rH8, kH_1, kH_2, kH_3, kH_4, kH_5, kH_6, kH_7, lH_1, lH_2, lH_3, lH_4, lH_5, lH_6, lH_7, ho, CR_0 c, w2, b, bI_f, z_0, Option.toList_some, List.cons_append, List.nil_append, l_no hi, show t 0 < 2147483648 by omega, nI_add, Nat.reduceLT, cl_tl0, cl_tl1, rfv_some, if_true, if_false, or_true, true_or, eq_self, ite_true, ite_false, and_true, true_and, not_true_eq_false, not_false_eq_true]
    · intro Q
      unfold isS at b
      rw [s_X4_firstBuyer_8]
      simp only [s_X4_firstBuyer_0, s_X4_firstBuyer_1, s_X4_firstBuyer_2, s_X4_firstBuyer_5, s_X4_firstBuyer_6, s_X4_firstBuyer_7, s_X4_firstBuyer_9, s_X4_firstBuyer_10, s_X4_firstBuyer_13, s_X4_firstBuyer_16, s_X4_firstBuyer_17, s_X4_firstBuyer_18, s_X4_firstBuyer_19, s_X4_firstBuyer_20, s_X4_firstBuyer_23, s_X4_firstBuyer_26, s_X4_firstBuyer_27, s_X4_firstBuyer_28, s_X4_firstBuyer_31, s_X4_firstBuyer_34, s_X4_firstBuyer_36, kH, rH1, rH2, rH4, rH5, rH6, rH7, rH8, kH_1, kH_2, kH_3, kH_4, kH_5, kH_6, kH_7, lH_1, lH_2, lH_3, lH_4, lH_5, lH_6, lH_7, ho, CR_0 c, w2, b, bI_t, z_1, Option.toList_some, List.cons_append, List.nil_append, l_no hi, show t 0 < 2147483648 by omega, nI_add, Nat.reduceLT, cl_tl0, cl_tl1, rfv_some, if_true, if_false, or_true, true_or, eq_self, ite_true, ite_false, and_true, true_and, not_true_eq_false, not_false_eq_true]) (t 0) 0 () (by omega)
  unfold fby
  split at e1
  · rename_i e
    rw [e]
    simp only [e_X4_firstBuyer, s_X4_firstBuyer_0, s_X4_firstBuyer_1, s_X4_firstBuyer_2, s_X4_firstBuyer_5, s_X4_firstBuyer_6, s_X4_firstBuyer_7, s_X4_firstBuyer_9, s_X4_firstBuyer_10, s_X4_firstBuyer_13, s_X4_firstBuyer_16, s_X4_firstBuyer_17, s_X4_firstBuyer_18, s_X4_firstBuyer_19, s_X4_firstBuyer_20, s_X4_firstBuyer_23, s_X4_firstBuyer_26, s_X4_firstBuyer_27, s_X4_firstBuyer_28, s_X4_firstBuyer_31, s_X4_firstBuyer_34, s_X4_firstBuyer_36, kH, rH1, rH2, rH4, rH5, rH6, rH7, rH8, kH_1, kH_2, kH_3, kH_4, kH_5, kH_6, kH_7, lH_1, lH_2, lH_3, lH_4, lH_5, lH_6, lH_7, ho, w1, Option.toList_some, List.cons_append, List.nil_append, cl_tl0, cl_tl1, rfv_some, if_true, if_false, or_true, true_or, eq_self, ite_true, ite_false, and_true, true_and, not_true_eq_false, not_false_eq_true]
    change Wp (d + 3) M_X4_firstBuyer none 8 [.ref o, .int (nI r), .int (nI (prc t r)), .int (nI 0)] [] (S0 L, h) Q = _
    rw [e1, s_X4_firstBuyer_8]
    simp only [s_X4_firstBuyer_0, s_X4_firstBuyer_1, s_X4_firstBuyer_2, s_X4_firstBuyer_5, s_X4_firstBuyer_6, s_X4_firstBuyer_7, s_X4_firstBuyer_9, s_X4_firstBuyer_10, s_X4_firstBuyer_13, s_X4_firstBuyer_16, s_X4_firstBuyer_17, s_X4_firstBuyer_18, s_X4_firstBuyer_19, s_X4_firstBuyer_20, s_X4_firstBuyer_23, s_X4_firstBuyer_26, s_X4_firstBuyer_27, s_X4_firstBuyer_28, s_X4_firstBuyer_31, s_X4_firstBuyer_34, s_X4_firstBuyer_36, kH, rH1, rH2, rH4, rH5, rH6, rH7, rH8, kH_1, kH_2, kH_3, kH_4, kH_5, kH_6, kH_7, lH_1, lH_2, lH_3, lH_4, lH_5, lH_6, lH_7, ho, CR_0 c, l_ye, show t 0 < 2147483648 by omega, cl_tl0, cl_tl1, rfv_some, if_true, if_false, or_true, true_or, eq_self, ite_true, ite_false, and_true, true_and, not_true_eq_false, not_false_eq_true]
    rfl
  · rename_i e
    rw [e]
    simp only [e_X4_firstBuyer, s_X4_firstBuyer_0, s_X4_firstBuyer_1, s_X4_firstBuyer_2, s_X4_firstBuyer_5, s_X4_firstBuyer_6, s_X4_firstBuyer_7, s_X4_firstBuyer_9, s_X4_firstBuyer_10, s_X4_firstBuyer_13, s_X4_firstBuyer_16, s_X4_firstBuyer_17, s_X4_firstBuyer_18, s_X4_firstBuyer_19, s_X4_firstBuyer_20, s_X4_firstBuyer_23, s_X4_firstBuyer_26, s_X4_firstBuyer_27, s_X4_firstBuyer_28, s_X4_firstBuyer_31, s_X4_firstBuyer_34, s_X4_firstBuyer_36, kH, rH1, rH2, rH4, rH5, rH6, rH7, rH8, kH_1, kH_2, kH_3, kH_4, kH_5, kH_6, kH_7, lH_1, lH_2, lH_3, lH_4, lH_5, lH_6, lH_7, ho, w1, Option.toList_some, List.cons_append, List.nil_append, cl_tl0, cl_tl1, rfv_some, if_true, if_false, or_true, true_or, eq_self, ite_true, ite_false, and_true, true_and, not_true_eq_false, not_false_eq_true]
    change Wp (d + 3) M_X4_firstBuyer none 8 [.ref o, .int (nI r), .int (nI (prc t r)), .int (nI 0)] [] (S0 L, h) Q = _
    rw [e1]
    rfl
/-- how many, and the first -/
def hms (t : Nat → Nat) : Int32 := itr (fun r x => itr (fun k y => if isS t r k then y + nI 1 else y) (t 0) 0 x) (t 1) 0 (nI 0)
theorem p_howManySales {d L o : Nat} {t : Nat → Nat} {h : mMem} {Q : mQ} (ho : Hs o) (c : CR h o t) (w : Wf t) (hd : t 2 ≤ 2000) : WP (d + 4) M_X4_howManySales [.ref o] (S0 L, h) Q = Q (some (.int (hms t))) (S0 L, h) := by
  have h1 := w.1
  have h2 := w.2.1
  obtain ⟨u, e1⟩ := lprj (N := t 1) (f := fun r x => itr (fun k y => if isS t r k then y + nI 1 else y) (t 0) 0 x) (W := fun i x (u : Value × Value) Q => Wp (d + 3) M_X4_howManySales none 4 [.ref o, .int x, .int (nI i), u.1, u.2] [] (S0 L, h) Q) (by
    intro r x u hr
    have hp := prc_l w hr
    have w1 := fun Q => p_priceOf (d := d) (L := L) (Q := Q) ho c w hd hr
    obtain ⟨-, e2⟩ := lpr (N := t 0) (f := fun k y => if isS t r k then y + nI 1 else y) (I := fun _ _ => True) (W := fun i y Q => Wp (d + 3) M_X4_howManySales none 21 [.ref o, .int y, .int (nI r), .int (nI (prc t r)), .int (nI i)] [] (S0 L, h) Q) (by
      intro i y hi _
      refine ⟨trivial, fun Q => ?_⟩
      have w2 := fun Q => p_canBuy (d := d) (L := L) (Q := Q) ho c w hd hr hi (show prc t r < 2147483648 by omega)
      rw [s_X4_howManySales_21]
      cases b : isS t r i
      · unfold isS at b
        simp only [s_X4_howManySales_0, s_X4_howManySales_1, s_X4_howManySales_2, s_X4_howManySales_3, s_X4_howManySales_5, s_X4_howManySales_6, s_X4_howManySales_9, s_X4_howManySales_12, s_X4_howManySales_13, s_X4_howManySales_14, s_X4_howManySales_17, s_X4_howManySales_18, s_X4_howManySales_19, s_X4_howManySales_23, s_X4_howManySales_24, s_X4_howManySales_27, s_X4_howManySales_30, s_X4_howManySales_31, s_X4_howManySales_32, s_X4_howManySales_34, s_X4_howManySales_35, s_X4_howManySales_38, s_X4_howManySales_41, s_X4_howManySales_44, s_X4_howManySales_47, s_X4_howManySales_50, s_X4_howManySales_53, s_X4_howManySales_56, s_X4_howManySales_57, kH, rH1, rH2, rH4, rH5, rH6, rH7, rH8, kH_1, kH_2, kH_3, kH_4, kH_5, kH_6, kH_7, lH_1, lH_2, lH_3, lH_4, lH_5, lH_6, lH_7, ho, CR_0 c, w2, b, bI_f, z_0, Option.toList_some, List.cons_append, List.nil_append, l_no hi, show t 0 < 2147483648 by omega, nI_add, Nat.reduceLT, Bool.false_eq_true, cl_tl0, cl_tl1, rfv_some, if_true, if_false, or_true, true_or, eq_self, ite_true, ite_false, and_true, true_and, not_true_eq_false, not_false_eq_true]
      · unfold isS at b
        simp only [s_X4_howManySales_0, s_X4_howManySales_1, s_X4_howManySales_2, s_X4_howManySales_3, s_X4_howManySales_5, s_X4_howManySales_6, s_X4_howManySales_9, s_X4_howManySales_12, s_X4_howManySales_13, s_X4_howManySales_14, s_X4_howManySales_17, s_X4_howManySales_18, s_X4_howManySales_19, s_X4_howManySales_23, s_X4_howManySales_24, s_X4_howManySales_27, s_X4_howManySales_30, s_X4_howManySales_31, s_X4_howManySales_32, s_X4_howManySales_34, s_X4_howManySales_35, s_X4_howManySales_38, s_X4_howManySales_41, s_X4_howManySales_44, s_X4_howManySales_47, s_X4_howManySales_50, s_X4_howManySales_53, s_X4_howManySales_56, s_X4_howManySales_57, kH, rH1, rH2, rH4, rH5, rH6, rH7, rH8, kH_1, kH_2, kH_3, kH_4, kH_5, kH_6, kH_7, lH_1, lH_2, lH_3, lH_4, lH_5, lH_6, lH_7, ho, CR_0 c, w2, b, bI_t, z_1, Option.toList_some, List.cons_append, List.nil_append, l_no hi, show t 0 < 2147483648 by omega, nI_add, Nat.reduceLT, cl_tl0, cl_tl1, rfv_some, if_true, if_false, or_true, true_or, eq_self, ite_true, ite_false, and_true, true_and, not_true_eq_false, not_false_eq_true]) (t 0) 0 x (by omega) trivial
    refine ⟨(.int (nI (prc t r)), .int (nI (t 0))), fun Q => ?_⟩
    rw [s_X4_howManySales_4]
    simp only [s_X4_howManySales_0, s_X4_howManySales_1, s_X4_howManySales_2, s_X4_howManySales_3, s_X4_howManySales_5, s_X4_howManySales_6, s_X4_howManySales_9, s_X4_howManySales_12, s_X4_howManySales_13, s_X4_howManySales_14, s_X4_howManySales_17, s_X4_howManySales_18, s_X4_howManySales_19, s_X4_howManySales_23, s_X4_howManySales_24, s_X4_howManySales_27, s_X4_howManySales_30, s_X4_howManySales_31, s_X4_howManySales_32, s_X4_howManySales_34, s_X4_howManySales_35, s_X4_howManySales_38, s_X4_howManySales_41, s_X4_howManySales_44, s_X4_howManySales_47, s_X4_howManySales_50, s_X4_howManySales_53, s_X4_howManySales_56, s_X4_howManySales_57, kH, rH1, rH2, rH4, rH5, rH6, rH7, rH8, kH_1, kH_2, kH_3, kH_4, kH_5, kH_6, kH_7, lH_1, lH_2, lH_3, lH_4, lH_5, lH_6, lH_7, ho, CR_1 c, w1, Option.toList_some, List.cons_append, List.nil_append, l_no hr, show t 1 < 2147483648 by omega, nI_add, Nat.reduceLT, cl_tl0, cl_tl1, rfv_some, if_true, if_false, or_true, true_or, eq_self, ite_true, ite_false, and_true, true_and, not_true_eq_false, not_false_eq_true]
    change Wp (d + 3) M_X4_howManySales none 21 [.ref o, .int x, .int (nI r), .int (nI (prc t r)), .int (nI 0)] [] (S0 L, h) Q = _
    rw [e2, s_X4_howManySales_21]
    simp only [s_X4_howManySales_0, s_X4_howManySales_1, s_X4_howManySales_2, s_X4_howManySales_3, s_X4_howManySales_5, s_X4_howManySales_6, s_X4_howManySales_9, s_X4_howManySales_12, s_X4_howManySales_13, s_X4_howManySales_14, s_X4_howManySales_17, s_X4_howManySales_18, s_X4_howManySales_19, s_X4_howManySales_23, s_X4_howManySales_24, s_X4_howManySales_27, s_X4_howManySales_30, s_X4_howManySales_31, s_X4_howManySales_32, s_X4_howManySales_34, s_X4_howManySales_35, s_X4_howManySales_38, s_X4_howManySales_41, s_X4_howManySales_44, s_X4_howManySales_47, s_X4_howManySales_50, s_X4_howManySales_53, s_X4_howManySales_56, s_X4_howManySales_57, kH, rH1, rH2, rH4, rH5, rH6, rH7, rH8, kH_1, kH_2, kH_3, kH_4, kH_5, kH_6, kH_7, lH_1, lH_2, lH_3, lH_4, lH_5, lH_6, lH_7, ho, CR_0 c, l_ye, show t 0 < 2147483648 by omega, nI_add, Nat.reduceLT, cl_tl0, cl_tl1, rfv_some, if_true, if_false, or_true, true_or, eq_self, ite_true, ite_false, and_true, true_and, not_true_eq_false, not_false_eq_true]) (t 1) 0 (nI 0) (jnk, jnk) (by omega)
  simp only [e_X4_howManySales, s_X4_howManySales_0, s_X4_howManySales_1, s_X4_howManySales_2, s_X4_howManySales_3, s_X4_howManySales_5, s_X4_howManySales_6, s_X4_howManySales_9, s_X4_howManySales_12, s_X4_howManySales_13, s_X4_howManySales_14, s_X4_howManySales_17, s_X4_howManySales_18, s_X4_howManySales_19, s_X4_howManySales_23, s_X4_howManySales_24, s_X4_howManySales_27, s_X4_howManySales_30, s_X4_howManySales_31, s_X4_howManySales_32, s_X4_howManySales_34, s_X4_howManySales_35, s_X4_howManySales_38, s_X4_howManySales_41, s_X4_howManySales_44, s_X4_howManySales_47, s_X4_howManySales_50, s_X4_howManySales_53, s_X4_howManySales_56, s_X4_howManySales_57, e1, cl_tl0, cl_tl1, rfv_some, if_true, if_false, or_true, true_or, eq_self, ite_true, ite_false, and_true, true_and, not_true_eq_false, not_false_eq_true]
  rw [s_X4_howManySales_4]
  simp only [s_X4_howManySales_0, s_X4_howManySales_1, s_X4_howManySales_2, s_X4_howManySales_3, s_X4_howManySales_5, s_X4_howManySales_6, s_X4_howManySales_9, s_X4_howManySales_12, s_X4_howManySales_13, s_X4_howManySales_14, s_X4_howManySales_17, s_X4_howManySales_18, s_X4_howManySales_19, s_X4_howManySales_23, s_X4_howManySales_24, s_X4_howManySales_27, s_X4_howManySales_30, s_X4_howManySales_31, s_X4_howManySales_32, s_X4_howManySales_34, s_X4_howManySales_35, s_X4_howManySales_38, s_X4_howManySales_41, s_X4_howManySales_44, s_X4_howManySales_47, s_X4_howManySales_50, s_X4_howManySales_53, s_X4_howManySales_56, s_X4_howManySales_57, kH, rH1, rH2, rH4, rH5, rH6, rH7, rH8, kH_1, kH_2, kH_3, kH_4, kH_5, kH_6, kH_7, lH_1, lH_2, lH_3, lH_4, lH_5, lH_6, lH_7, ho, CR_1 c, l_ye, show t 1 < 2147483648 by omega, cl_tl0, cl_tl1, rfv_some, if_true, if_false, or_true, true_or, eq_self, ite_true, ite_false, and_true, true_and, not_true_eq_false, not_false_eq_true]
  rfl
def fsa (t : Nat → Nat) : Unit ⊕ Nat := itx (fun r _ => match fby t r with
    | .inl _ => .inl ()
    | .inr k => .inr (10 * r + k)) (t 1) 0 ()
theorem fby_l {t : Nat → Nat} (h5 : t 0 ≤ 5) {r k : Nat} (e : fby t r = .inr k) : k < 5 := by
  have : ∀ n i, i + n = t 0 → itx (fun k (_ : Unit) => if isS t r k then (.inr k : Unit ⊕ Nat) else .inl ()) n i () = .inr k → k < t 0 := by
    intro n
    induction n with
    | zero => intro i hi h; simp [itx] at h
    | succ n ih =>
      intro i hi h
      rw [itx] at h
      cases b : isS t r i
      · rw [b] at h
        exact ih (i + 1) (by omega) h
      · rw [b] at h
        simp at h
        omega
  have := this (t 0) 0 (by omega) e
  omega
theorem none_ne {k : Nat} (h : k < 1073741824) : (nI k = (-1000000 : Int32)) = False := eq_false (by
  intro e
  have := nI_pos (n := k) (by omega)
  rw [e] at this
  exact this (by decide))
theorem p_firstSale {d L o : Nat} {t : Nat → Nat} {h : mMem} {Q : mQ} (ho : Hs o) (c : CR h o t) (w : Wf t) (hd : t 2 ≤ 2000) : WP (d + 5) M_X4_firstSale [.ref o] (S0 L, h) Q = Q (some (.int (rv (fsa t)))) (S0 L, h) := by
  have h1 := w.1
  have h2 := w.2.1
  have e1 : ∀ n i u, i + n = t 1 → ∀ Q, Wp (d + 4) M_X4_firstSale none 2 [.ref o, .int (nI i), u] [] (S0 L, h) Q = Q (some (.int (rv (itx (fun r (_ : Unit) => match fby t r with
    | .inl _ => (.inl () : Unit ⊕ Nat)
    | .inr k => .inr (10 * r + k)) n i ())))) (S0 L, h) := by
    intro n
    induction n with
    | zero =>
      intro i u hi Q
      obtain rfl : i = t 1 := by omega
      rw [s_X4_firstSale_2]
      simp only [s_X4_firstSale_0, s_X4_firstSale_1, s_X4_firstSale_3, s_X4_firstSale_4, s_X4_firstSale_7, s_X4_firstSale_10, s_X4_firstSale_11, s_X4_firstSale_12, s_X4_firstSale_15, s_X4_firstSale_16, s_X4_firstSale_17, s_X4_firstSale_19, s_X4_firstSale_22, s_X4_firstSale_24, s_X4_firstSale_25, s_X4_firstSale_26, s_X4_firstSale_27, s_X4_firstSale_28, s_X4_firstSale_29, s_X4_firstSale_32, s_X4_firstSale_35, s_X4_firstSale_37, kH, rH1, rH2, rH4, rH5, rH6, rH7, rH8, kH_1, kH_2, kH_3, kH_4, kH_5, kH_6, kH_7, lH_1, lH_2, lH_3, lH_4, lH_5, lH_6, lH_7, ho, CR_1 c, l_ye, show t 1 < 2147483648 by omega, itx, rv, cl_tl0, cl_tl1, rfv_some, if_true, if_false, or_true, true_or, eq_self, ite_true, ite_false, and_true, true_and, not_true_eq_false, not_false_eq_true]
    | succ n ih =>
      intro i u hi Q
      have w2 := fun Q => p_firstBuyer (d := d) (L := L) (Q := Q) ho c w hd (show i < t 1 by omega)
      rw [s_X4_firstSale_2, itx]
      cases b : fby t i with
      | inl _ =>
        simp only [s_X4_firstSale_0, s_X4_firstSale_1, s_X4_firstSale_3, s_X4_firstSale_4, s_X4_firstSale_7, s_X4_firstSale_10, s_X4_firstSale_11, s_X4_firstSale_12, s_X4_firstSale_15, s_X4_firstSale_16, s_X4_firstSale_17, s_X4_firstSale_19, s_X4_firstSale_22, s_X4_firstSale_24, s_X4_firstSale_25, s_X4_firstSale_26, s_X4_firstSale_27, s_X4_firstSale_28, s_X4_firstSale_29, s_X4_firstSale_32, s_X4_firstSale_35, s_X4_firstSale_37, kH, rH1, rH2, rH4, rH5, rH6, rH7, rH8, kH_1, kH_2, kH_3, kH_4, kH_5, kH_6, kH_7, lH_1, lH_2, lH_3, lH_4, lH_5, lH_6, lH_7, ho, CR_1 c, w2, b, rv, Option.toList_some, List.cons_append, List.nil_append, l_no (show i < t 1 by omega), show t 1 < 2147483648 by omega, nI_add, Nat.reduceLT, cl_tl0, cl_tl1, rfv_some, if_true, if_false, or_true, true_or, eq_self, ite_true, ite_false, and_true, true_and, not_true_eq_false, not_false_eq_true]
        rw [ih (i + 1) _ (by omega)]
        rfl
      | inr k =>
        have hk := fby_l h1.2 b
        simp only [s_X4_firstSale_0, s_X4_firstSale_1, s_X4_firstSale_3, s_X4_firstSale_4, s_X4_firstSale_7, s_X4_firstSale_10, s_X4_firstSale_11, s_X4_firstSale_12, s_X4_firstSale_15, s_X4_firstSale_16, s_X4_firstSale_17, s_X4_firstSale_19, s_X4_firstSale_22, s_X4_firstSale_24, s_X4_firstSale_25, s_X4_firstSale_26, s_X4_firstSale_27, s_X4_firstSale_28, s_X4_firstSale_29, s_X4_firstSale_32, s_X4_firstSale_35, s_X4_firstSale_37, kH, rH1, rH2, rH4, rH5, rH6, rH7, rH8, kH_1, kH_2, kH_3, kH_4, kH_5, kH_6, kH_7, lH_1, lH_2, lH_3, lH_4, lH_5, lH_6, lH_7, ho, CR_1 c, w2, b, rv, none_ne (show k < 1073741824 by omega), Option.toList_some, List.cons_append, List.nil_append, l_no (show i < t 1 by omega), show t 1 < 2147483648 by omega, nI_add, pk_mul, Nat.reduceLT, cl_tl0, cl_tl1, rfv_some, if_true, if_false, or_true, true_or, eq_self, ite_true, ite_false, and_true, true_and, not_true_eq_false, not_false_eq_true]
  simp only [e_X4_firstSale, s_X4_firstSale_0, s_X4_firstSale_1, s_X4_firstSale_3, s_X4_firstSale_4, s_X4_firstSale_7, s_X4_firstSale_10, s_X4_firstSale_11, s_X4_firstSale_12, s_X4_firstSale_15, s_X4_firstSale_16, s_X4_firstSale_17, s_X4_firstSale_19, s_X4_firstSale_22, s_X4_firstSale_24, s_X4_firstSale_25, s_X4_firstSale_26, s_X4_firstSale_27, s_X4_firstSale_28, s_X4_firstSale_29, s_X4_firstSale_32, s_X4_firstSale_35, s_X4_firstSale_37, cl_tl0, cl_tl1, rfv_some, if_true, if_false, or_true, true_or, eq_self, ite_true, ite_false, and_true, true_and, not_true_eq_false, not_false_eq_true]
  rw [e1 (t 1) 0 jnk (by omega)]
  rfl
def rfs (t : Nat → Nat) (k : Nat) : Int32 := itr (fun r x => if t (35 + r) = k ∧ fby t r ≠ .inl () then x ||| shl1 r else x) (t 1) 0 (nI 0)
theorem p_rightsForSaleOf {d L o k : Nat} {t : Nat → Nat} {h : mMem} {Q : mQ} (ho : Hs o) (c : CR h o t) (w : Wf t) (hd : t 2 ≤ 2000) (hk : k < t 0) : WP (d + 5) M_X4_rightsForSaleOf [.ref o, .int (nI k)] (S0 L, h) Q = Q (some (.int (rfs t k))) (S0 L, h) := by
  have h1 := w.1
  have h2 := w.2.1
  obtain ⟨-, e1⟩ := lpr (N := t 1) (f := fun r x => if t (35 + r) = k ∧ fby t r ≠ .inl () then x ||| shl1 r else x) (I := fun _ _ => True) (W := fun i x Q => Wp (d + 4) M_X4_rightsForSaleOf none 4 [.ref o, .int (nI k), .int x, .int (nI i)] [] (S0 L, h) Q) (by
    intro i x hi _
    refine ⟨trivial, fun Q => ?_⟩
    have w2 := fun Q => p_firstBuyer (d := d) (L := L) (Q := Q) ho c w hd hi
    have a4 := (w.2.2.2.1 i hi).2.2.2.1
    have l2 : (nI (t (35 + i)) = nI k) = (t (35 + i) = k) := f_eq (by omega) (by omega)
    rw [s_X4_rightsForSaleOf_4]
    by_cases b : t (35 + i) = k
    · cases b2 : fby t i with
      | inl _ =>
        simp only [s_X4_rightsForSaleOf_0, s_X4_rightsForSaleOf_1, s_X4_rightsForSaleOf_2, s_X4_rightsForSaleOf_3, s_X4_rightsForSaleOf_5, s_X4_rightsForSaleOf_6, s_X4_rightsForSaleOf_9, s_X4_rightsForSaleOf_12, s_X4_rightsForSaleOf_13, s_X4_rightsForSaleOf_16, s_X4_rightsForSaleOf_17, s_X4_rightsForSaleOf_18, s_X4_rightsForSaleOf_19, s_X4_rightsForSaleOf_22, s_X4_rightsForSaleOf_23, s_X4_rightsForSaleOf_24, s_X4_rightsForSaleOf_27, s_X4_rightsForSaleOf_29, s_X4_rightsForSaleOf_32, s_X4_rightsForSaleOf_33, s_X4_rightsForSaleOf_34, s_X4_rightsForSaleOf_35, s_X4_rightsForSaleOf_36, s_X4_rightsForSaleOf_37, s_X4_rightsForSaleOf_38, s_X4_rightsForSaleOf_41, s_X4_rightsForSaleOf_44, s_X4_rightsForSaleOf_45, kH, rH1, rH2, rH4, rH5, rH6, rH7, rH8, kH_1, kH_2, kH_3, kH_4, kH_5, kH_6, kH_7, lH_1, lH_2, lH_3, lH_4, lH_5, lH_6, lH_7, ho, show i < 7 by omega, CR_1 c, CR_35 c w hi, l_no hi, show t 1 < 2147483648 by omega, l2, eq_true b, w2, b2, rv, Option.toList_some, List.cons_append, List.nil_append, nI_add, shl1, Nat.reduceLT, ne_eq, and_false, cl_tl0, cl_tl1, rfv_some, if_true, if_false, or_true, true_or, eq_self, ite_true, ite_false, and_true, true_and, not_true_eq_false, not_false_eq_true]
      | inr j =>
        have hj := fby_l h1.2 b2
        have en : ((Sum.inr j : Unit ⊕ Nat) = .inl ()) = False := eq_false (by intro e; cases e)
        simp only [s_X4_rightsForSaleOf_0, s_X4_rightsForSaleOf_1, s_X4_rightsForSaleOf_2, s_X4_rightsForSaleOf_3, s_X4_rightsForSaleOf_5, s_X4_rightsForSaleOf_6, s_X4_rightsForSaleOf_9, s_X4_rightsForSaleOf_12, s_X4_rightsForSaleOf_13, s_X4_rightsForSaleOf_16, s_X4_rightsForSaleOf_17, s_X4_rightsForSaleOf_18, s_X4_rightsForSaleOf_19, s_X4_rightsForSaleOf_22, s_X4_rightsForSaleOf_23, s_X4_rightsForSaleOf_24, s_X4_rightsForSaleOf_27, s_X4_rightsForSaleOf_29, s_X4_rightsForSaleOf_32, s_X4_rightsForSaleOf_33, s_X4_rightsForSaleOf_34, s_X4_rightsForSaleOf_35, s_X4_rightsForSaleOf_36, s_X4_rightsForSaleOf_37, s_X4_rightsForSaleOf_38, s_X4_rightsForSaleOf_41, s_X4_rightsForSaleOf_44, s_X4_rightsForSaleOf_45, kH, rH1, rH2, rH4, rH5, rH6, rH7, rH8, kH_1, kH_2, kH_3, kH_4, kH_5, kH_6, kH_7, lH_1, lH_2, lH_3, lH_4, lH_5, lH_6, lH_7, ho, show i < 7 by omega, CR_1 c, CR_35 c w hi, l_no hi, show t 1 < 2147483648 by omega, l2, eq_true b, w2, b2, rv, none_ne (show j < 1073741824 by omega), en, Option.toList_some, List.cons_append, List.nil_append, nI_add, shl1, Nat.reduceLT, ne_eq, cl_tl0, cl_tl1, rfv_some, if_true, if_false, or_true, true_or, eq_self, ite_true, ite_false, and_true, true_and, not_true_eq_false, not_false_eq_true]
    · simp only [s_X4_rightsForSaleOf_0, s_X4_rightsForSaleOf_1, s_X4_rightsForSaleOf_2, s_X4_rightsForSaleOf_3, s_X4_rightsForSaleOf_5, s_X4_rightsForSaleOf_6, s_X4_rightsForSaleOf_9, s_X4_rightsForSaleOf_12, s_X4_rightsForSaleOf_13, s_X4_rightsForSaleOf_16, s_X4_rightsForSaleOf_17, s_X4_rightsForSaleOf_18, s_X4_rightsForSaleOf_19, s_X4_rightsForSaleOf_22, s_X4_rightsForSaleOf_23, s_X4_rightsForSaleOf_24, s_X4_rightsForSaleOf_27, s_X4_rightsForSaleOf_29, s_X4_rightsForSaleOf_32, s_X4_rightsForSaleOf_33, s_X4_rightsForSaleOf_34, s_X4_rightsForSaleOf_35, s_X4_rightsForSaleOf_36, s_X4_rightsForSaleOf_37, s_X4_rightsForSaleOf_38, s_X4_rightsForSaleOf_41, s_X4_rightsForSaleOf_44, s_X4_rightsForSaleOf_45, kH, rH1, rH2, rH4, rH5, rH6, rH7, rH8, kH_1, kH_2, kH_3, kH_4, kH_5, kH_6, kH_7, lH_1, lH_2, lH_3, lH_4, lH_5, lH_6, lH_7, ho, show i < 7 by omega, CR_1 c, CR_35 c w hi, l_no hi, show t 1 < 2147483648 by omega, l2, eq_false b, nI_add, Nat.reduceLT, false_and, cl_tl0, cl_tl1, rfv_some, if_true, if_false, or_true, true_or, eq_self, ite_true, ite_false, and_true, true_and, not_true_eq_false, not_false_eq_true]) (t 1) 0 (nI 0) (by omega) trivial
  simp only [e_X4_rightsForSaleOf, s_X4_rightsForSaleOf_0, s_X4_rightsForSaleOf_1, s_X4_rightsForSaleOf_2, s_X4_rightsForSaleOf_3, s_X4_rightsForSaleOf_5, s_X4_rightsForSaleOf_6, s_X4_rightsForSaleOf_9, s_X4_rightsForSaleOf_12, s_X4_rightsForSaleOf_13, s_X4_rightsForSaleOf_16, s_X4_rightsForSaleOf_17, s_X4_rightsForSaleOf_18, s_X4_rightsForSaleOf_19, s_X4_rightsForSaleOf_22, s_X4_rightsForSaleOf_23, s_X4_rightsForSaleOf_24, s_X4_rightsForSaleOf_27, s_X4_rightsForSaleOf_29, s_X4_rightsForSaleOf_32, s_X4_rightsForSaleOf_33, s_X4_rightsForSaleOf_34, s_X4_rightsForSaleOf_35, s_X4_rightsForSaleOf_36, s_X4_rightsForSaleOf_37, s_X4_rightsForSaleOf_38, s_X4_rightsForSaleOf_41, s_X4_rightsForSaleOf_44, s_X4_rightsForSaleOf_45, e1, cl_tl0, cl_tl1, rfv_some, if_true, if_false, or_true, true_or, eq_self, ite_true, ite_false, and_true, true_and, not_true_eq_false, not_false_eq_true]
  rw [s_X4_rightsForSaleOf_4]
  simp only [s_X4_rightsForSaleOf_0, s_X4_rightsForSaleOf_1, s_X4_rightsForSaleOf_2, s_X4_rightsForSaleOf_3, s_X4_rightsForSaleOf_5, s_X4_rightsForSaleOf_6, s_X4_rightsForSaleOf_9, s_X4_rightsForSaleOf_12, s_X4_rightsForSaleOf_13, s_X4_rightsForSaleOf_16, s_X4_rightsForSaleOf_17, s_X4_rightsForSaleOf_18, s_X4_rightsForSaleOf_19, s_X4_rightsForSaleOf_22, s_X4_rightsForSaleOf_23, s_X4_rightsForSaleOf_24, s_X4_rightsForSaleOf_27, s_X4_rightsForSaleOf_29, s_X4_rightsForSaleOf_32, s_X4_rightsForSaleOf_33, s_X4_rightsForSaleOf_34, s_X4_rightsForSaleOf_35, s_X4_rightsForSaleOf_36, s_X4_rightsForSaleOf_37, s_X4_rightsForSaleOf_38, s_X4_rightsForSaleOf_41, s_X4_rightsForSaleOf_44, s_X4_rightsForSaleOf_45, kH, rH1, rH2, rH4, rH5, rH6, rH7, rH8, kH_1, kH_2, kH_3, kH_4, kH_5, kH_6, kH_7, lH_1, lH_2, lH_3, lH_4, lH_5, lH_6, lH_7, ho, CR_1 c, l_ye, show t 1 < 2147483648 by omega, cl_tl0, cl_tl1, rfv_some, if_true, if_false, or_true, true_or, eq_self, ite_true, ite_false, and_true, true_and, not_true_eq_false, not_false_eq_true]
  rfl
