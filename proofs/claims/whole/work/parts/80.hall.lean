/-! ===== pure: house: the class reads all: loops ===== -/
def hlp (N : Nat) (b : Nat → Nat) : Nat → (Nat × Nat) × (Nat → Nat) → (Nat × Nat) × (Nat → Nat)
  | 0, x => x
  | m + 1, x => if x.1.2 = 0 ∧ sgB N b x.1.1 104 = true then hlp N b m (hst N b x) else x
def rlp (N : Nat) (b : Nat → Nat) : Nat → (Nat × Nat) × (Nat → Nat) → (Nat × Nat) × (Nat → Nat)
  | 0, x => x
  | m + 1, x => if x.1.2 = 0 ∧ x.1.1 < N then rlp N b m (rst' N b x) else x
def HX (N : Nat) (x : (Nat × Nat) × (Nat → Nat)) : Prop := stO N x.1 ∧ PW x.2 ∧ x.2 1 = 0
def RX (N : Nat) (x : (Nat × Nat) × (Nat → Nat)) : Prop := stO N x.1 ∧ PW x.2 ∧ (x.1.2 = 0 → 1 ≤ x.2 0)
theorem hst_p {N : Nat} {b : Nat → Nat} {x : (Nat × Nat) × (Nat → Nat)} (h : HX N x) : HX N (hst N b x) ∧ ((hst N b x).1.2 = 0 → (hst N b x).2 0 = x.2 0 + 1) := by
  obtain ⟨o, p, p1⟩ := h
  have q5 := (hq_o (b := b) (n := x.2 0) o).2.2.2.2
  unfold hst
  dsimp only
  by_cases z : (hq5 N b (x.2 0) x.1).2 = 0
  · rw [if_pos z]
    obtain ⟨⟨x1, x2, x3⟩, -, -, -, -, y1, y2⟩ := hst_x z
    exact ⟨⟨q5, hadd_p p p1 x3 y1 y2, by show hadd _ _ _ 1 = 0; rw [hadd_1, p1]⟩, fun _ => hadd_0⟩
  · rw [if_neg z]
    exact ⟨⟨q5, p, p1⟩, fun e => absurd e z⟩
theorem rst_p {N : Nat} {b : Nat → Nat} {x : (Nat × Nat) × (Nat → Nat)} (h : RX N x) : RX N (rst' N b x) ∧ ((rst' N b x).1.2 = 0 → (rst' N b x).2 1 = x.2 1 + 1) := by
  obtain ⟨o, p, p1⟩ := h
  have q7 := (rq_o (b := b) (n := x.2 1) (m := x.2 0) o).2.2.2.2.2.2
  unfold rst'
  dsimp only
  by_cases z : (rq7 N b (x.2 1) (x.2 0) x.1).2 = 0
  · rw [if_pos z]
    obtain ⟨⟨x1, x2, x3⟩, -, -, -, -, -, -, y1, y2, y3⟩ := rst_x z
    have x0 := p1 x1
    have kl := ksB_l N b x.1.1
    have pp := p.1.1
    refine ⟨⟨q7, radd_p p x3 ⟨by omega, kl⟩ y1 y2 (by omega), fun _ => ?_⟩, fun _ => radd_1⟩
    show 1 ≤ radd _ _ _ _ _ 0
    rw [radd_o (by omega) (by omega) (by omega) (by omega) (by omega) (by omega)]
    exact x0
  · rw [if_neg z]
    exact ⟨⟨q7, p, fun e => absurd e z⟩, fun e => absurd e z⟩
theorem hlp_p {N : Nat} {b : Nat → Nat} : ∀ m x, HX N x → HX N (hlp N b m x) ∧ (1 ≤ x.2 0 → 1 ≤ (hlp N b m x).2 0 ∨ (hlp N b m x).1.2 ≠ 0) := by
  intro m
  induction m with
  | zero => intro x h; exact ⟨h, fun e => Or.inl e⟩
  | succ m ih =>
    intro x h
    unfold hlp
    by_cases z : x.1.2 = 0 ∧ sgB N b x.1.1 104 = true
    · rw [if_pos z]
      have h2 := hst_p (b := b) h
      obtain ⟨a1, a2⟩ := ih _ h2.1
      refine ⟨a1, fun e => a2 ?_⟩
      by_cases y : (hst N b x).1.2 = 0
      · rw [h2.2 y]
        omega
      · have : (hst N b x).2 = x.2 := by
          unfold hst at y ⊢
          dsimp only at y ⊢
          rw [if_neg y]
        rw [this]
        exact e
    · rw [if_neg z]
      exact ⟨h, fun e => Or.inl e⟩
theorem rlp_p {N : Nat} {b : Nat → Nat} : ∀ m x, RX N x → RX N (rlp N b m x) := by
  intro m
  induction m with
  | zero => intro x h; exact h
  | succ m ih =>
    intro x h
    unfold rlp
    by_cases z : x.1.2 = 0 ∧ x.1.1 < N
    · rw [if_pos z]
      exact ih _ (rst_p h).1
    · rw [if_neg z]
      exact h
theorem p_hlp {d L N : Nat} {b : Nat → Nat} : ∀ m i x g, i + m < 100 → (x.1.2 = 0 → 6 ≤ x.2 0 + m) → HX N x → TP g N b → TS g x.1 → PR g x.2 → ∃ g' u', ((TS g' (hlp N b m x).1 ∧ PR g' (hlp N b m x).2) ∧ Fr aH g g') ∧ ∀ Q, Wp (d + 4) M_X6_readHouse none 23 [.ref 17, .int (nI i)] [] (S0 L, g) Q = Wp (d + 4) M_X6_readHouse none 55 [.ref 17, u'] [] (S0 L, g') Q := by
  intro m
  induction m with
  | zero =>
    intro i x g hi h6 hx k ts pr
    have h5 := hx.2.1.1.1
    have h0 : x.1.2 ≠ 0 := fun e => by have := h6 e; omega
    have z := f_eq0 (show x.1.2 < 2147483648 by have := hx.1.2; omega)
    refine ⟨g, .int (nI i), ⟨⟨ts, pr⟩, Fr_r⟩, fun Q => ?_⟩
    rw [s_X6_readHouse_23]
    simp only [s_X6_readHouse_0, s_X6_readHouse_1, s_X6_readHouse_4, s_X6_readHouse_7, s_X6_readHouse_8, s_X6_readHouse_9, s_X6_readHouse_12, s_X6_readHouse_13, s_X6_readHouse_14, s_X6_readHouse_17, s_X6_readHouse_18, s_X6_readHouse_21, s_X6_readHouse_22, s_X6_readHouse_24, s_X6_readHouse_26, s_X6_readHouse_29, s_X6_readHouse_30, s_X6_readHouse_33, s_X6_readHouse_36, s_X6_readHouse_37, s_X6_readHouse_40, s_X6_readHouse_42, s_X6_readHouse_45, s_X6_readHouse_46, s_X6_readHouse_49, s_X6_readHouse_52, s_X6_readHouse_56, s_X6_readHouse_59, s_X6_readHouse_60, s_X6_readHouse_62, s_X6_readHouse_64, s_X6_readHouse_67, s_X6_readHouse_68, s_X6_readHouse_71, s_X6_readHouse_74, s_X6_readHouse_75, s_X6_readHouse_78, s_X6_readHouse_79, s_X6_readHouse_82, s_X6_readHouse_85, s_X6_readHouse_86, s_X6_readHouse_89, s_X6_readHouse_92, s_X6_readHouse_95, kS_17, rS_17_0, rS_17_4, kS_18, lS_18, l_no (show i < 100 by omega), ts.2, z, eq_false h0, Nat.reduceLT, cl_tl0, cl_tl1, rfv_some, if_true, if_false, or_true, true_or, eq_self, ite_true, ite_false, and_true, true_and, not_true_eq_false, not_false_eq_true]
  | succ m ih =>
    intro i x g hi h6 hx k ts pr
    have z := f_eq0 (show x.1.2 < 2147483648 by have := hx.1.2; omega)
    have kN := k.1
    have o1 := hx.1.1
    have e1 := fun Q => p_next (d := d + 2) (L := L) (Q := Q) k ts (by omega)
    have eb := baI_s (N := N) (b := b) (p := x.1.1) (c := 104) (fun h => (k.2.2 _ h).1) (by omega)
    unfold hlp
    by_cases h0 : x.1.2 = 0
    · by_cases hs : sgB N b x.1.1 104 = true
      · rw [if_pos ⟨h0, hs⟩]
        obtain ⟨g1, ⟨⟨t1, p1⟩, f1⟩, e2⟩ := p_readHeir (d := d) (L := L) (s := x.1) (t := x.2) k ts hx.1 pr hx.2.1.1.1 hx.2.2
        have hp := hst_p (b := b) hx
        obtain ⟨g2, u2, ⟨⟨t2, p2⟩, f2⟩, e3⟩ := ih (i + 1) (hst N b x) g1 (by omega) (fun e => by have a1 := h6 h0; have a2 := hp.2 e; omega) hp.1 (TP_h f1 k) t1 p1
        refine ⟨g2, u2, ⟨⟨t2, p2⟩, Fr_t f1 f2⟩, fun Q => ?_⟩
        rw [s_X6_readHouse_23]
        simp only [s_X6_readHouse_0, s_X6_readHouse_1, s_X6_readHouse_4, s_X6_readHouse_7, s_X6_readHouse_8, s_X6_readHouse_9, s_X6_readHouse_12, s_X6_readHouse_13, s_X6_readHouse_14, s_X6_readHouse_17, s_X6_readHouse_18, s_X6_readHouse_21, s_X6_readHouse_22, s_X6_readHouse_24, s_X6_readHouse_26, s_X6_readHouse_29, s_X6_readHouse_30, s_X6_readHouse_33, s_X6_readHouse_36, s_X6_readHouse_37, s_X6_readHouse_40, s_X6_readHouse_42, s_X6_readHouse_45, s_X6_readHouse_46, s_X6_readHouse_49, s_X6_readHouse_52, s_X6_readHouse_56, s_X6_readHouse_59, s_X6_readHouse_60, s_X6_readHouse_62, s_X6_readHouse_64, s_X6_readHouse_67, s_X6_readHouse_68, s_X6_readHouse_71, s_X6_readHouse_74, s_X6_readHouse_75, s_X6_readHouse_78, s_X6_readHouse_79, s_X6_readHouse_82, s_X6_readHouse_85, s_X6_readHouse_86, s_X6_readHouse_89, s_X6_readHouse_92, s_X6_readHouse_95, kS_17, rS_17_0, rS_17_4, kS_18, lS_18, l_no (show i < 100 by omega), ts.2, z, eq_true h0, e1, eb, eq_true hs, e2, e3, nI_add, Option.toList_none, Option.toList_some, List.cons_append, List.nil_append, Nat.reduceLT, cl_tl0, cl_tl1, rfv_some, if_true, if_false, or_true, true_or, eq_self, ite_true, ite_false, and_true, true_and, not_true_eq_false, not_false_eq_true]
      · rw [if_neg (fun e => hs e.2)]
        refine ⟨g, .int (nI i), ⟨⟨ts, pr⟩, Fr_r⟩, fun Q => ?_⟩
        rw [s_X6_readHouse_23]
        simp only [s_X6_readHouse_0, s_X6_readHouse_1, s_X6_readHouse_4, s_X6_readHouse_7, s_X6_readHouse_8, s_X6_readHouse_9, s_X6_readHouse_12, s_X6_readHouse_13, s_X6_readHouse_14, s_X6_readHouse_17, s_X6_readHouse_18, s_X6_readHouse_21, s_X6_readHouse_22, s_X6_readHouse_24, s_X6_readHouse_26, s_X6_readHouse_29, s_X6_readHouse_30, s_X6_readHouse_33, s_X6_readHouse_36, s_X6_readHouse_37, s_X6_readHouse_40, s_X6_readHouse_42, s_X6_readHouse_45, s_X6_readHouse_46, s_X6_readHouse_49, s_X6_readHouse_52, s_X6_readHouse_56, s_X6_readHouse_59, s_X6_readHouse_60, s_X6_readHouse_62, s_X6_readHouse_64, s_X6_readHouse_67, s_X6_readHouse_68, s_X6_readHouse_71, s_X6_readHouse_74, s_X6_readHouse_75, s_X6_readHouse_78, s_X6_readHouse_79, s_X6_readHouse_82, s_X6_readHouse_85, s_X6_readHouse_86, s_X6_readHouse_89, s_X6_readHouse_92, s_X6_readHouse_95, kS_17, rS_17_0, rS_17_4, kS_18, lS_18, l_no (show i < 100 by omega), ts.2, z, eq_true h0, e1, eb, eq_false hs, Option.toList_none, Option.toList_some, List.cons_append, List.nil_append, Nat.reduceLT, cl_tl0, cl_tl1, rfv_some, if_true, if_false, or_true, true_or, eq_self, ite_true, ite_false, and_true, true_and, not_true_eq_false, not_false_eq_true]
    · rw [if_neg (fun e => h0 e.1)]
      refine ⟨g, .int (nI i), ⟨⟨ts, pr⟩, Fr_r⟩, fun Q => ?_⟩
      rw [s_X6_readHouse_23]
      simp only [s_X6_readHouse_0, s_X6_readHouse_1, s_X6_readHouse_4, s_X6_readHouse_7, s_X6_readHouse_8, s_X6_readHouse_9, s_X6_readHouse_12, s_X6_readHouse_13, s_X6_readHouse_14, s_X6_readHouse_17, s_X6_readHouse_18, s_X6_readHouse_21, s_X6_readHouse_22, s_X6_readHouse_24, s_X6_readHouse_26, s_X6_readHouse_29, s_X6_readHouse_30, s_X6_readHouse_33, s_X6_readHouse_36, s_X6_readHouse_37, s_X6_readHouse_40, s_X6_readHouse_42, s_X6_readHouse_45, s_X6_readHouse_46, s_X6_readHouse_49, s_X6_readHouse_52, s_X6_readHouse_56, s_X6_readHouse_59, s_X6_readHouse_60, s_X6_readHouse_62, s_X6_readHouse_64, s_X6_readHouse_67, s_X6_readHouse_68, s_X6_readHouse_71, s_X6_readHouse_74, s_X6_readHouse_75, s_X6_readHouse_78, s_X6_readHouse_79, s_X6_readHouse_82, s_X6_readHouse_85, s_X6_readHouse_86, s_X6_readHouse_89, s_X6_readHouse_92, s_X6_readHouse_95, kS_17, rS_17_0, rS_17_4, kS_18, lS_18, l_no (show i < 100 by omega), ts.2, z, eq_false h0, Nat.reduceLT, cl_tl0, cl_tl1, rfv_some, if_true, if_false, or_true, true_or, eq_self, ite_true, ite_false, and_true, true_and, not_true_eq_false, not_false_eq_true]
theorem p_rlp {d L N : Nat} {b : Nat → Nat} : ∀ m i x g, i + m < 100 → (x.1.2 = 0 → 8 ≤ x.2 1 + m) → RX N x → TP g N b → TS g x.1 → PR g x.2 → ∃ g', ((TS g' (rlp N b m x).1 ∧ PR g' (rlp N b m x).2) ∧ Fr aH g g') ∧ ∀ Q, Wp (d + 4) M_X6_readHouse none 61 [.ref 17, .int (nI i)] [] (S0 L, g) Q = Q none (S0 L, g') := by
  intro m
  induction m with
  | zero =>
    intro i x g hi h8 hx k ts pr
    have h7 := hx.2.1.1.2
    have h0 : x.1.2 ≠ 0 := fun e => by have := h8 e; omega
    have z := f_eq0 (show x.1.2 < 2147483648 by have := hx.1.2; omega)
    refine ⟨g, ⟨⟨ts, pr⟩, Fr_r⟩, fun Q => ?_⟩
    rw [s_X6_readHouse_61]
    simp only [s_X6_readHouse_0, s_X6_readHouse_1, s_X6_readHouse_4, s_X6_readHouse_7, s_X6_readHouse_8, s_X6_readHouse_9, s_X6_readHouse_12, s_X6_readHouse_13, s_X6_readHouse_14, s_X6_readHouse_17, s_X6_readHouse_18, s_X6_readHouse_21, s_X6_readHouse_22, s_X6_readHouse_24, s_X6_readHouse_26, s_X6_readHouse_29, s_X6_readHouse_30, s_X6_readHouse_33, s_X6_readHouse_36, s_X6_readHouse_37, s_X6_readHouse_40, s_X6_readHouse_42, s_X6_readHouse_45, s_X6_readHouse_46, s_X6_readHouse_49, s_X6_readHouse_52, s_X6_readHouse_55, s_X6_readHouse_56, s_X6_readHouse_59, s_X6_readHouse_60, s_X6_readHouse_62, s_X6_readHouse_64, s_X6_readHouse_67, s_X6_readHouse_68, s_X6_readHouse_71, s_X6_readHouse_74, s_X6_readHouse_75, s_X6_readHouse_78, s_X6_readHouse_79, s_X6_readHouse_82, s_X6_readHouse_85, s_X6_readHouse_86, s_X6_readHouse_89, s_X6_readHouse_92, s_X6_readHouse_95, kS_17, rS_17_0, rS_17_4, kS_18, lS_18, l_no (show i < 100 by omega), ts.2, z, eq_false h0, Nat.reduceLT, cl_tl0, cl_tl1, rfv_some, if_true, if_false, or_true, true_or, eq_self, ite_true, ite_false, and_true, true_and, not_true_eq_false, not_false_eq_true]
  | succ m ih =>
    intro i x g hi h8 hx k ts pr
    have z := f_eq0 (show x.1.2 < 2147483648 by have := hx.1.2; omega)
    have kN := k.1
    have k1 := k.2.1
    have o1 := hx.1.1
    have lN' : (nI N ≤ nI x.1.1) = (N ≤ x.1.1) := f_le (by omega) (by omega)
    unfold rlp
    by_cases h0 : x.1.2 = 0
    · by_cases hs : x.1.1 < N
      · rw [if_pos ⟨h0, hs⟩]
        obtain ⟨g1, ⟨⟨t1, p1⟩, f1⟩, e2⟩ := p_readRight (d := d) (L := L) (s := x.1) (t := x.2) k ts hx.1 pr hx.2.1.1.1 hx.2.1.1.2 hx.2.2
        have hp := rst_p (b := b) hx
        obtain ⟨g2, ⟨⟨t2, p2⟩, f2⟩, e3⟩ := ih (i + 1) (rst' N b x) g1 (by omega) (fun e => by have a1 := h8 h0; have a2 := hp.2 e; omega) hp.1 (TP_h f1 k) t1 p1
        refine ⟨g2, ⟨⟨t2, p2⟩, Fr_t f1 f2⟩, fun Q => ?_⟩
        rw [s_X6_readHouse_61]
        simp only [s_X6_readHouse_0, s_X6_readHouse_1, s_X6_readHouse_4, s_X6_readHouse_7, s_X6_readHouse_8, s_X6_readHouse_9, s_X6_readHouse_12, s_X6_readHouse_13, s_X6_readHouse_14, s_X6_readHouse_17, s_X6_readHouse_18, s_X6_readHouse_21, s_X6_readHouse_22, s_X6_readHouse_24, s_X6_readHouse_26, s_X6_readHouse_29, s_X6_readHouse_30, s_X6_readHouse_33, s_X6_readHouse_36, s_X6_readHouse_37, s_X6_readHouse_40, s_X6_readHouse_42, s_X6_readHouse_45, s_X6_readHouse_46, s_X6_readHouse_49, s_X6_readHouse_52, s_X6_readHouse_55, s_X6_readHouse_56, s_X6_readHouse_59, s_X6_readHouse_60, s_X6_readHouse_62, s_X6_readHouse_64, s_X6_readHouse_67, s_X6_readHouse_68, s_X6_readHouse_71, s_X6_readHouse_74, s_X6_readHouse_75, s_X6_readHouse_78, s_X6_readHouse_79, s_X6_readHouse_82, s_X6_readHouse_85, s_X6_readHouse_86, s_X6_readHouse_89, s_X6_readHouse_92, s_X6_readHouse_95, kS_17, rS_17_0, rS_17_4, kS_18, lS_18, l_no (show i < 100 by omega), ts.1, ts.2, z, eq_true h0, k1, lN', eq_false (show ¬ (N ≤ x.1.1) by omega), e2, e3, nI_add, Option.toList_none, Option.toList_some, List.cons_append, List.nil_append, Nat.reduceLT, cl_tl0, cl_tl1, rfv_some, if_true, if_false, or_true, true_or, eq_self, ite_true, ite_false, and_true, true_and, not_true_eq_false, not_false_eq_true]
      · rw [if_neg (fun e => hs e.2)]
        refine ⟨g, ⟨⟨ts, pr⟩, Fr_r⟩, fun Q => ?_⟩
        rw [s_X6_readHouse_61]
        simp only [s_X6_readHouse_0, s_X6_readHouse_1, s_X6_readHouse_4, s_X6_readHouse_7, s_X6_readHouse_8, s_X6_readHouse_9, s_X6_readHouse_12, s_X6_readHouse_13, s_X6_readHouse_14, s_X6_readHouse_17, s_X6_readHouse_18, s_X6_readHouse_21, s_X6_readHouse_22, s_X6_readHouse_24, s_X6_readHouse_26, s_X6_readHouse_29, s_X6_readHouse_30, s_X6_readHouse_33, s_X6_readHouse_36, s_X6_readHouse_37, s_X6_readHouse_40, s_X6_readHouse_42, s_X6_readHouse_45, s_X6_readHouse_46, s_X6_readHouse_49, s_X6_readHouse_52, s_X6_readHouse_55, s_X6_readHouse_56, s_X6_readHouse_59, s_X6_readHouse_60, s_X6_readHouse_62, s_X6_readHouse_64, s_X6_readHouse_67, s_X6_readHouse_68, s_X6_readHouse_71, s_X6_readHouse_74, s_X6_readHouse_75, s_X6_readHouse_78, s_X6_readHouse_79, s_X6_readHouse_82, s_X6_readHouse_85, s_X6_readHouse_86, s_X6_readHouse_89, s_X6_readHouse_92, s_X6_readHouse_95, kS_17, rS_17_0, rS_17_4, kS_18, lS_18, l_no (show i < 100 by omega), ts.1, ts.2, z, eq_true h0, k1, lN', eq_true (show N ≤ x.1.1 by omega), Nat.reduceLT, cl_tl0, cl_tl1, rfv_some, if_true, if_false, or_true, true_or, eq_self, ite_true, ite_false, and_true, true_and, not_true_eq_false, not_false_eq_true]
    · rw [if_neg (fun e => h0 e.1)]
      refine ⟨g, ⟨⟨ts, pr⟩, Fr_r⟩, fun Q => ?_⟩
      rw [s_X6_readHouse_61]
      simp only [s_X6_readHouse_0, s_X6_readHouse_1, s_X6_readHouse_4, s_X6_readHouse_7, s_X6_readHouse_8, s_X6_readHouse_9, s_X6_readHouse_12, s_X6_readHouse_13, s_X6_readHouse_14, s_X6_readHouse_17, s_X6_readHouse_18, s_X6_readHouse_21, s_X6_readHouse_22, s_X6_readHouse_24, s_X6_readHouse_26, s_X6_readHouse_29, s_X6_readHouse_30, s_X6_readHouse_33, s_X6_readHouse_36, s_X6_readHouse_37, s_X6_readHouse_40, s_X6_readHouse_42, s_X6_readHouse_45, s_X6_readHouse_46, s_X6_readHouse_49, s_X6_readHouse_52, s_X6_readHouse_55, s_X6_readHouse_56, s_X6_readHouse_59, s_X6_readHouse_60, s_X6_readHouse_62, s_X6_readHouse_64, s_X6_readHouse_67, s_X6_readHouse_68, s_X6_readHouse_71, s_X6_readHouse_74, s_X6_readHouse_75, s_X6_readHouse_78, s_X6_readHouse_79, s_X6_readHouse_82, s_X6_readHouse_85, s_X6_readHouse_86, s_X6_readHouse_89, s_X6_readHouse_92, s_X6_readHouse_95, kS_17, rS_17_0, rS_17_4, kS_18, lS_18, l_no (show i < 100 by omega), ts.2, z, eq_false h0, Nat.reduceLT, cl_tl0, cl_tl1, rfv_some, if_true, if_false, or_true, true_or, eq_self, ite_true, ite_false, and_true, true_and, not_true_eq_false, not_false_eq_true]
/-- all that is told -/
def x00 : (Nat × Nat) × (Nat → Nat) := ((0, 0), fun _ => 0)
def tolH (N : Nat) (b : Nat → Nat) : (Nat × Nat) × (Nat → Nat) := hlp N b 5 (hst N b x00)
def told (N : Nat) (b : Nat → Nat) : (Nat × Nat) × (Nat → Nat) := rlp N b 7 (rst' N b (tolH N b))
theorem x00_p (N : Nat) : HX N x00 := ⟨⟨Nat.zero_le _, Nat.zero_le _⟩, ⟨⟨Nat.zero_le _, Nat.zero_le _⟩, ⟨rfl, rfl, rfl⟩, fun k hk => absurd hk (Nat.not_lt_zero _), fun r hr => absurd hr (Nat.not_lt_zero _)⟩, rfl⟩
theorem tolH_p (N : Nat) (b : Nat → Nat) : HX N (tolH N b) ∧ ((tolH N b).1.2 = 0 → 1 ≤ (tolH N b).2 0) := by
  have h1 := hst_p (b := b) (x00_p N)
  have h2 := hlp_p (b := b) 5 _ h1.1
  refine ⟨h2.1, fun e => ?_⟩
  by_cases z : (hst N b x00).1.2 = 0
  · have h3 : (hst N b x00).2 0 = 0 + 1 := h1.2 z
    rcases h2.2 (by omega) with h4 | h4
    · exact h4
    · exact absurd e h4
  · exfalso
    have h4 : hlp N b 5 (hst N b x00) = hst N b x00 := by
      unfold hlp
      rw [if_neg (fun e => z e.1)]
    unfold tolH at e
    rw [h4] at e
    exact z e
theorem tolH_r (N : Nat) (b : Nat → Nat) : RX N (tolH N b) := ⟨(tolH_p N b).1.1, (tolH_p N b).1.2.1, (tolH_p N b).2⟩
theorem told_r (N : Nat) (b : Nat → Nat) : RX N (told N b) := rlp_p 7 _ (rst_p (tolH_r N b)).1
theorem rlp_1 {N : Nat} {b : Nat → Nat} : ∀ m x, RX N x → 1 ≤ x.2 1 → (rlp N b m x).1.2 = 0 → 1 ≤ (rlp N b m x).2 1 := by
  intro m
  induction m with
  | zero => intro x _ h _; exact h
  | succ m ih =>
    intro x hx h e
    unfold rlp at e ⊢
    by_cases z : x.1.2 = 0 ∧ x.1.1 < N
    · rw [if_pos z] at e ⊢
      have hp := rst_p (b := b) hx
      refine ih _ hp.1 ?_ e
      by_cases y : (rst' N b x).1.2 = 0
      · rw [hp.2 y]
        omega
      · have : (rst' N b x).2 = x.2 := by
          unfold rst' at y ⊢
          dsimp only at y ⊢
          rw [if_neg y]
        rw [this]
        exact h
    · rw [if_neg z] at e ⊢
      exact h
theorem told_w (N : Nat) (b : Nat → Nat) (h : (told N b).1.2 = 0) : Wf (told N b).2 ∧ (told N b).2 2 ≤ 999 := by
  obtain ⟨y, ey⟩ : ∃ y, rst' N b (tolH N b) = y := ⟨_, rfl⟩
  have et : told N b = rlp N b 7 y := by unfold told; rw [ey]
  have hp := rst_p (b := b) (tolH_r N b)
  rw [ey] at hp
  have h1 := told_r N b
  generalize told N b = w at et h h1 ⊢
  subst et
  refine PW_w h1.2.1 (h1.2.2 h) ?_
  by_cases z : y.1.2 = 0
  · have h2 := hp.2 z
    exact rlp_1 7 y hp.1 (by omega) h
  · exfalso
    have h4 : rlp N b 7 y = y := by
      unfold rlp
      rw [if_neg (fun e => z e.1)]
    rw [h4] at h
    exact z h
theorem p_readHouse {d L N : Nat} {b : Nat → Nat} {g : mMem} (k : TP g N b) : Sp (d + 5) M_X6_readHouse [.ref 17] L g none (fun g' => (TS g' (told N b).1 ∧ PR g' (told N b).2) ∧ Fr aH g g') := by
  obtain ⟨g0, e0⟩ : ∃ g0, up2 (up2 (up2 (up2 (up2 g 19 0 (nI 0)) 19 3 (nI 0)) 19 9 (nI 0)) 19 10 (nI 0)) 19 11 (nI 0) = g0 := ⟨_, rfl⟩
  have ew : ∀ Q, WP (d + 4) M_X4_wipe [.ref 19] (S0 L, g) Q = Q none (S0 L, g0) := fun Q => by
    simp only [e_X4_wipe, s_X4_wipe_0, s_X4_wipe_1, s_X4_wipe_2, s_X4_wipe_5, s_X4_wipe_6, s_X4_wipe_7, s_X4_wipe_10, s_X4_wipe_11, s_X4_wipe_12, s_X4_wipe_15, s_X4_wipe_16, s_X4_wipe_17, s_X4_wipe_20, s_X4_wipe_21, s_X4_wipe_22, s_X4_wipe_25, kH, rH1, rH2, rH4, rH5, rH6, rH7, rH8, kH_1, kH_2, kH_3, kH_4, kH_5, kH_6, kH_7, lH_1, lH_2, lH_3, lH_4, lH_5, lH_6, lH_7, Hs_19, e0, cl_tl0, cl_tl1, rfv_some, if_true, if_false, or_true, true_or, eq_self, ite_true, ite_false, and_true, true_and, not_true_eq_false, not_false_eq_true]
  obtain ⟨g1, e1⟩ : ∃ g1, up2 (up2 g0 17 2 (nI 0)) 17 3 (nI 0) = g1 := ⟨_, rfl⟩
  have f0 : Fr aH g g1 := fun a i hn => by
    unfold aH aT hs at hn
    rw [← e1, up2_n (by omega), up2_n (by omega), ← e0, up2_n (by omega), up2_n (by omega), up2_n (by omega), up2_n (by omega), up2_n (by omega)]
  have t1 : TS g1 x00.1 := ⟨by rw [← e1, up2_n (by omega), up2_a]; rfl, by rw [← e1, up2_a]; rfl⟩
  have p1 : PR g1 x00.2 := by
    refine ⟨⟨?_, ?_, ?_, ?_, ?_⟩, fun k hk => absurd hk (Nat.not_lt_zero _), fun r hr => absurd hr (Nat.not_lt_zero _)⟩
    · rw [← e1, up2_n (by omega), up2_n (by omega), ← e0, up2_n (by omega), up2_n (by omega), up2_n (by omega), up2_n (by omega), up2_a]; rfl
    · rw [← e1, up2_n (by omega), up2_n (by omega), ← e0, up2_n (by omega), up2_n (by omega), up2_n (by omega), up2_a]; rfl
    · rw [← e1, up2_n (by omega), up2_n (by omega), ← e0, up2_n (by omega), up2_a]
    · rw [← e1, up2_n (by omega), up2_n (by omega), ← e0, up2_a]
    · rw [← e1, up2_n (by omega), up2_n (by omega), ← e0, up2_n (by omega), up2_n (by omega), up2_a]
  have k1 := TP_h f0 k
  have hx := x00_p N
  obtain ⟨g2, ⟨⟨t2, p2⟩, f2⟩, e2⟩ := p_readHeir (d := d) (L := L) (s := x00.1) (t := x00.2) k1 t1 hx.1 p1 (Nat.zero_le _) rfl
  have h2 := hst_p (b := b) hx
  have k2 := TP_h f2 k1
  obtain ⟨g3, u3, ⟨⟨t3, p3⟩, f3⟩, e3⟩ := p_hlp (d := d) (L := L) 5 0 (hst N b x00) g2 (by omega) (fun e => by have : (hst N b x00).2 0 = 0 + 1 := h2.2 e; omega) h2.1 k2 t2 p2
  have k3 := TP_h f3 k2
  have hr := tolH_r N b
  obtain ⟨g4, ⟨⟨t4, p4⟩, f4⟩, e4⟩ := p_readRight (d := d) (L := L) (s := (tolH N b).1) (t := (tolH N b).2) k3 t3 hr.1 p3 hr.2.1.1.1 hr.2.1.1.2 hr.2.2
  have h4 := rst_p (b := b) hr
  have k4 := TP_h f4 k3
  have z0 : (tolH N b).2 1 = 0 := (tolH_p N b).1.2.2
  obtain ⟨g5, ⟨⟨t5, p5⟩, f5⟩, e5⟩ := p_rlp (d := d) (L := L) 7 0 (rst' N b (tolH N b)) g4 (by omega) (fun e => by have := h4.2 e; omega) h4.1 k4 t4 p4
  refine ⟨g5, ⟨⟨t5, p5⟩, Fr_t f0 (Fr_t f2 (Fr_t f3 (Fr_t f4 f5)))⟩, fun Q => ?_⟩
  simp only [e_X6_readHouse, s_X6_readHouse_0, s_X6_readHouse_1, s_X6_readHouse_4, s_X6_readHouse_7, s_X6_readHouse_8, s_X6_readHouse_9, s_X6_readHouse_12, s_X6_readHouse_13, s_X6_readHouse_14, s_X6_readHouse_17, s_X6_readHouse_18, s_X6_readHouse_21, s_X6_readHouse_22, s_X6_readHouse_24, s_X6_readHouse_26, s_X6_readHouse_29, s_X6_readHouse_30, s_X6_readHouse_33, s_X6_readHouse_36, s_X6_readHouse_37, s_X6_readHouse_40, s_X6_readHouse_42, s_X6_readHouse_45, s_X6_readHouse_46, s_X6_readHouse_49, s_X6_readHouse_52, s_X6_readHouse_56, s_X6_readHouse_59, s_X6_readHouse_60, s_X6_readHouse_62, s_X6_readHouse_64, s_X6_readHouse_67, s_X6_readHouse_68, s_X6_readHouse_71, s_X6_readHouse_74, s_X6_readHouse_75, s_X6_readHouse_78, s_X6_readHouse_79, s_X6_readHouse_82, s_X6_readHouse_85, s_X6_readHouse_86, s_X6_readHouse_89, s_X6_readHouse_92, s_X6_readHouse_95, kS_17, rS_17_0, rS_17_4, kS_18, lS_18, kH, rH1, rH2, rH4, rH5, rH6, rH7, rH8, kH_1, kH_2, kH_3, kH_4, kH_5, kH_6, kH_7, lH_1, lH_2, lH_3, lH_4, lH_5, lH_6, lH_7, Hs_19, ew, e1, e2, e3, Option.toList_none, List.nil_append, cl_tl0, cl_tl1, rfv_some, if_true, if_false, or_true, true_or, eq_self, ite_true, ite_false, and_true, true_and, not_true_eq_false, not_false_eq_true]
  rw [s_X6_readHouse_55]
  simp only [s_X6_readHouse_0, s_X6_readHouse_1, s_X6_readHouse_4, s_X6_readHouse_7, s_X6_readHouse_8, s_X6_readHouse_9, s_X6_readHouse_12, s_X6_readHouse_13, s_X6_readHouse_14, s_X6_readHouse_17, s_X6_readHouse_18, s_X6_readHouse_21, s_X6_readHouse_22, s_X6_readHouse_24, s_X6_readHouse_26, s_X6_readHouse_29, s_X6_readHouse_30, s_X6_readHouse_33, s_X6_readHouse_36, s_X6_readHouse_37, s_X6_readHouse_40, s_X6_readHouse_42, s_X6_readHouse_45, s_X6_readHouse_46, s_X6_readHouse_49, s_X6_readHouse_52, s_X6_readHouse_55, s_X6_readHouse_56, s_X6_readHouse_59, s_X6_readHouse_60, s_X6_readHouse_62, s_X6_readHouse_64, s_X6_readHouse_67, s_X6_readHouse_68, s_X6_readHouse_71, s_X6_readHouse_74, s_X6_readHouse_75, s_X6_readHouse_78, s_X6_readHouse_79, s_X6_readHouse_82, s_X6_readHouse_85, s_X6_readHouse_86, s_X6_readHouse_89, s_X6_readHouse_92, s_X6_readHouse_95, kS_17, rS_17_0, rS_17_4, kS_18, lS_18, e4, e5, Option.toList_none, List.nil_append, cl_tl0, cl_tl1, rfv_some, if_true, if_false, or_true, true_or, eq_self, ite_true, ite_false, and_true, true_and, not_true_eq_false, not_false_eq_true]
