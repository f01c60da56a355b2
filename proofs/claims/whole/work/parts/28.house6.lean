/-! ===== pure: the class's houses: what changes them ===== -/
/-- a house told from another -/
theorem up2_a {h : mMem} {a i : Nat} {v : Int32} : up2 h a i v a i = v := by simp [up2]
theorem up2_n {h : mMem} {a i b j : Nat} {v : Int32} (hn : ¬ (b = a ∧ j = i)) : up2 h a i v b j = h b j := by simp only [up2, hn, if_false]
theorem cp2_in {h : mMem} {a s b t n i : Nat} (h1 : t ≤ i) (h2 : i < t + n) : cp2 h a s b t n b i = h a (s + (i - t)) := by
  unfold cp2
  rw [if_pos ⟨rfl, h1, h2⟩]
theorem cp2_out {h : mMem} {a s b t n c i : Nat} (h1 : ¬ (c = b ∧ t ≤ i ∧ i < t + n)) : cp2 h a s b t n c i = h c i := by
  unfold cp2
  rw [if_neg h1]
theorem Fr_c {P : Nat → Nat → Prop} {h : mMem} {a s b t n : Nat} (hp : ∀ i, P b i) : Fr P h (cp2 h a s b t n) := fun c i hn => cp2_out (by
  rintro ⟨rfl, -⟩
  exact hn (hp i))
theorem CR_ii {h : mMem} {o : Nat} {t : Nat → Nat} (w : Wf t) (h0 : h o 0 = nI (t 0)) (h1 : h o 3 = nI (t 1)) (h2 : h o 10 = nI (t 2)) (h3 : h o 11 = nI (t 3)) (h9 : h o 9 = nI (t 49)) (ha : ∀ k, k < t 0 → h (o + 1) k = nI (t (4 + k))) (hb : ∀ k, k < t 0 → h (o + 2) k = nI (t (9 + k))) (hc : ∀ k, k < t 1 → h (o + 3) k = nI (t (14 + k))) (hd : ∀ k, k < t 1 → h (o + 4) k = nI (t (21 + k))) (he : ∀ k, k < t 1 → h (o + 5) k = nI (t (28 + k))) (hf : ∀ k, k < t 1 → h (o + 6) k = nI (t (35 + k))) (hg : ∀ k, k < t 1 → h (o + 7) k = nI (t (42 + k))) : CR h o t := by
  have w1 := w.1
  have w2 := w.2.1
  intro j hj
  unfold Rl at hj
  rcases hj with hj | rfl | hj | hj | hj | hj | hj | hj | hj
  · rcases (show j = 0 ∨ j = 1 ∨ j = 2 ∨ j = 3 by omega) with rfl | rfl | rfl | rfl
    · exact h0
    · exact h1
    · exact h2
    · exact h3
  · exact h9
  · obtain ⟨k, rfl⟩ : ∃ k, j = 4 + k := ⟨j - 4, by omega⟩
    rw [lo_4 (by omega)]; exact ha k (by omega)
  · obtain ⟨k, rfl⟩ : ∃ k, j = 9 + k := ⟨j - 9, by omega⟩
    rw [lo_9 (by omega)]; exact hb k (by omega)
  · obtain ⟨k, rfl⟩ : ∃ k, j = 14 + k := ⟨j - 14, by omega⟩
    rw [lo_14 (by omega)]; exact hc k (by omega)
  · obtain ⟨k, rfl⟩ : ∃ k, j = 21 + k := ⟨j - 21, by omega⟩
    rw [lo_21 (by omega)]; exact hd k (by omega)
  · obtain ⟨k, rfl⟩ : ∃ k, j = 28 + k := ⟨j - 28, by omega⟩
    rw [lo_28 (by omega)]; exact he k (by omega)
  · obtain ⟨k, rfl⟩ : ∃ k, j = 35 + k := ⟨j - 35, by omega⟩
    rw [lo_35 (by omega)]; exact hf k (by omega)
  · obtain ⟨k, rfl⟩ : ∃ k, j = 42 + k := ⟨j - 42, by omega⟩
    rw [lo_42 (by omega)]; exact hg k (by omega)
def Bp (h : mMem) (o p : Nat) (D : Nat → Nat → Prop) (g : mMem) : Prop := Fr (hs o) h g ∧ ∀ k i, D k i → g (o + k) i = h (p + k) i
theorem Bp_0 {h : mMem} {o p : Nat} : Bp h o p (fun _ _ => False) h := ⟨Fr_r, fun _ _ h => h.elim⟩
theorem Bp_u {h g : mMem} {o p : Nat} {D : Nat → Nat → Prop} (hx : p + 8 ≤ o ∨ o + 8 ≤ p) (b : Bp h o p D g) (f : Nat) : Bp h o p (fun k i => D k i ∨ (k = 0 ∧ i = f)) (up2 g o f (g p f)) := by
  refine ⟨Fr_t b.1 (Fr_u ⟨by omega, by omega⟩), fun k i hd => ?_⟩
  by_cases e : k = 0 ∧ i = f
  · obtain ⟨rfl, rfl⟩ := e
    show up2 g o i (g p i) o i = h p i
    rw [up2_a, b.1 p i (by unfold hs; omega)]
  · rw [up2_n (by omega)]
    exact b.2 k i (hd.resolve_right e)
theorem Bp_c {h g : mMem} {o p : Nat} {D : Nat → Nat → Prop} (hx : p + 8 ≤ o ∨ o + 8 ≤ p) (b : Bp h o p D g) (q n : Nat) (hq : q < 8) : Bp h o p (fun k i => D k i ∨ (k = q ∧ i < n)) (cp2 g (p + q) 0 (o + q) 0 n) := by
  refine ⟨Fr_t b.1 (Fr_c (fun i => ⟨by omega, by omega⟩)), fun k i hd => ?_⟩
  by_cases e : k = q ∧ i < n
  · obtain ⟨rfl, hi⟩ := e
    rw [cp2_in (by omega) (by omega), b.1 (p + k) _ (by unfold hs; omega)]
    congr 1
    omega
  · rw [cp2_out (by omega)]
    exact b.2 k i (hd.resolve_right e)
theorem Hs_x {o p : Nat} (ho : Hs o) (hp : Hs p) (hn : o ≠ p) : p + 8 ≤ o ∨ o + 8 ≤ p := by
  unfold Hs at ho hp
  omega
theorem p_become {d L o p : Nat} {t : Nat → Nat} {h : mMem} (ho : Hs o) (hp : Hs p) (hn : o ≠ p) (c : CR h p t) (w : Wf t) : Sp (d + 1) M_X4_become [.ref o, .ref p] L h none (Hc o t h) := by
  have hx := Hs_x ho hp hn
  have w1 := w.1
  have w2 := w.2.1
  have b := Bp_c hx (Bp_c hx (Bp_c hx (Bp_c hx (Bp_c hx (Bp_c hx (Bp_c hx (Bp_u hx (Bp_u hx (Bp_u hx (Bp_u hx (Bp_u hx (Bp_0 (h := h)) 0) 3) 9) 10) 11) 1 5 (by omega)) 2 5 (by omega)) 3 7 (by omega)) 4 7 (by omega)) 5 7 (by omega)) 6 7 (by omega)) 7 7 (by omega)
  refine ⟨_, ⟨?_, b.1⟩, fun Q => ?_⟩
  · have e := b.2
    refine CR_ii w ((e 0 0 (by simp)).trans (CR_0 c)) ((e 0 3 (by simp)).trans (CR_1 c)) ((e 0 10 (by simp)).trans (CR_2 c)) ((e 0 11 (by simp)).trans (CR_3 c)) ((e 0 9 (by simp)).trans (CR_49 c)) (fun k hk => (e 1 k (by omega)).trans (CR_4 c w hk)) (fun k hk => (e 2 k (by omega)).trans (CR_9 c w hk)) (fun k hk => (e 3 k (by omega)).trans (CR_14 c w hk)) (fun k hk => (e 4 k (by omega)).trans (CR_21 c w hk)) (fun k hk => (e 5 k (by omega)).trans (CR_28 c w hk)) (fun k hk => (e 6 k (by omega)).trans (CR_35 c w hk)) (fun k hk => (e 7 k (by omega)).trans (CR_42 c w hk))
  · simp only [e_X4_become, s_X4_become_0, s_X4_become_1, s_X4_become_2, s_X4_become_5, s_X4_become_8, s_X4_become_9, s_X4_become_10, s_X4_become_13, s_X4_become_16, s_X4_become_17, s_X4_become_18, s_X4_become_21, s_X4_become_24, s_X4_become_25, s_X4_become_26, s_X4_become_29, s_X4_become_32, s_X4_become_33, s_X4_become_34, s_X4_become_37, s_X4_become_40, s_X4_become_41, s_X4_become_44, s_X4_become_45, s_X4_become_46, s_X4_become_49, s_X4_become_50, s_X4_become_51, s_X4_become_54, s_X4_become_55, s_X4_become_58, s_X4_become_59, s_X4_become_60, s_X4_become_63, s_X4_become_64, s_X4_become_65, s_X4_become_68, s_X4_become_69, s_X4_become_72, s_X4_become_73, s_X4_become_74, s_X4_become_77, s_X4_become_78, s_X4_become_80, s_X4_become_83, s_X4_become_84, s_X4_become_87, s_X4_become_88, s_X4_become_89, s_X4_become_92, s_X4_become_93, s_X4_become_95, s_X4_become_98, s_X4_become_99, s_X4_become_102, s_X4_become_103, s_X4_become_104, s_X4_become_107, s_X4_become_108, s_X4_become_110, s_X4_become_113, s_X4_become_114, s_X4_become_117, s_X4_become_118, s_X4_become_119, s_X4_become_122, s_X4_become_123, s_X4_become_125, s_X4_become_128, s_X4_become_129, s_X4_become_132, s_X4_become_133, s_X4_become_134, s_X4_become_137, s_X4_become_138, s_X4_become_140, s_X4_become_143, kH, rH1, rH2, rH4, rH5, rH6, rH7, rH8, kH_1, kH_2, kH_3, kH_4, kH_5, kH_6, kH_7, lH_1, lH_2, lH_3, lH_4, lH_5, lH_6, lH_7, ho, hp, Nat.zero_add, Nat.le_refl, Nat.reduceLT, cl_tl0, cl_tl1, rfv_some, if_true, if_false, or_true, true_or, eq_self, ite_true, ite_false, and_true, true_and, not_true_eq_false, not_false_eq_true]
/-- a sale; a gift; wolves -/
def trd (t : Nat → Nat) (r k n : Nat) : Nat → Nat := tset (tset (gts (tset t (4 + k) (t (4 + k) - n)) (t (35 + r)) n) (35 + r) k) 3 (t 3 + 1)
def hov (t : Nat → Nat) (k j n : Nat) : Nat → Nat := gts (tset t (4 + k) (t (4 + k) - n)) j n
def wlf (t : Nat → Nat) (k : Nat) : Nat → Nat := tset t (4 + k) (t (4 + k) / 2)
theorem hov_p {t : Nat → Nat} (w : Wf t) {k j n : Nat} (hk : k < t 0) (hj : j < t 0) : Wf (hov t k j n) ∧ hov t k j n 0 = t 0 ∧ hov t k j n 1 = t 1 ∧ hov t k j n 2 = t 2 ∧ hov t k j n 3 = t 3 ∧ ∀ i, 9 ≤ i → hov t k j n i = t i := by
  have w1 := w.1
  have w2 := w.2.1
  have a := w.2.2.1 k hk
  unfold hov
  refine ⟨Wf_gts (Wf_set w (by omega) (fun k => by omega) (by omega)) (by rw [ts_o (by omega)]; exact hj), ?_, ?_, ?_, ?_, fun i hi => ?_⟩
  · rw [gts_0, ts_o (by omega)]
  · rw [gts_1, ts_o (by omega)]
  · rw [gts_2, ts_o (by omega)]
  · unfold gts; rw [ts_o (by omega), ts_o (by omega)]
  · rw [gts_o (by omega) hi, ts_o (by omega)]
theorem trd_e {t : Nat → Nat} {r k n : Nat} : trd t r k n = tset (tset (hov t k (t (35 + r)) n) (35 + r) k) 3 (t 3 + 1) := rfl
theorem trd_p {t : Nat → Nat} (w : Wf t) {r k n : Nat} (hr : r < t 1) (hk : k < t 0) : Wf (trd t r k n) ∧ trd t r k n 0 = t 0 ∧ trd t r k n 1 = t 1 ∧ trd t r k n 2 = t 2 ∧ trd t r k n 3 = t 3 + 1 := by
  have w1 := w.1
  have w2 := w.2.1
  obtain ⟨a1, a2, a3, a4, a5⟩ := w.2.2.2.1 r hr
  obtain ⟨b, b0, b1, b2, b3, b4⟩ := hov_p w (n := n) hk a4
  rw [trd_e]
  have c1 : Wf (tset (hov t k (t (35 + r)) n) (35 + r) k) := Wf_set b (by omega) (fun k => by rw [b0, b1]; omega) (by omega)
  have e0 : tset (hov t k (t (35 + r)) n) (35 + r) k 0 = t 0 := by rw [ts_o (by omega), b0]
  have e1 : tset (hov t k (t (35 + r)) n) (35 + r) k 1 = t 1 := by rw [ts_o (by omega), b1]
  have e2 : tset (hov t k (t (35 + r)) n) (35 + r) k 2 = t 2 := by rw [ts_o (by omega), b2]
  exact ⟨Wf_set c1 (by omega) (fun k => by rw [e0, e1]; omega) (by omega), (ts_o (by omega)).trans e0, (ts_o (by omega)).trans e1, (ts_o (by omega)).trans e2, ts_s _ _ _⟩
theorem wlf_p {t : Nat → Nat} (w : Wf t) {k : Nat} (hk : k < t 0) : Wf (wlf t k) ∧ wlf t k 0 = t 0 ∧ wlf t k 1 = t 1 ∧ wlf t k 2 = t 2 ∧ wlf t k 3 = t 3 ∧ ∀ i, 9 ≤ i → wlf t k i = t i := by
  have w1 := w.1
  have w2 := w.2.1
  have a := w.2.2.1 k hk
  exact ⟨Wf_set w (by omega) (fun k => by omega) (by omega), ts_o (by omega), ts_o (by omega), ts_o (by omega), ts_o (by omega), fun i hi => ts_o (by omega)⟩
theorem p_comeWolves {d L o k : Nat} {t : Nat → Nat} {h : mMem} (ho : Hs o) (c : CR h o t) (w : Wf t) (hk : k < t 0) : Sp (d + 1) M_X4_comeWolves [.ref o, .int (nI k)] L h none (Hc o (wlf t k) h) := by
  have w1 := w.1
  have a := w.2.2.1 k hk
  have q := pk_div (a := t (4 + k)) (d := 2) (by omega) (by omega) (by omega)
  have n2z : (nI 2 = (0 : Int32)) = False := eq_false (by decide)
  refine ⟨_, Hc_u (v := t (4 + k) / 2) (a := o + 1) (i := k) c w (by omega) (by omega) (lo_4 (by omega)), fun Q => ?_⟩
  simp only [e_X4_comeWolves, s_X4_comeWolves_0, s_X4_comeWolves_1, s_X4_comeWolves_4, s_X4_comeWolves_5, s_X4_comeWolves_6, s_X4_comeWolves_7, s_X4_comeWolves_8, s_X4_comeWolves_9, s_X4_comeWolves_10, kH, rH1, rH2, rH4, rH5, rH6, rH7, rH8, kH_1, kH_2, kH_3, kH_4, kH_5, kH_6, kH_7, lH_1, lH_2, lH_3, lH_4, lH_5, lH_6, lH_7, ho, show k < 5 by omega, CR_4 c w hk, q, n2z, Nat.reduceLT, cl_tl0, cl_tl1, rfv_some, if_true, if_false, or_true, true_or, eq_self, ite_true, ite_false, and_true, true_and, not_true_eq_false, not_false_eq_true]
theorem p_handOver {d L o k j n : Nat} {t : Nat → Nat} {h : mMem} (ho : Hs o) (c : CR h o t) (w : Wf t) (hk : k < t 0) (hj : j < t 0) (hn : n ≤ t (4 + k)) : Sp (d + 2) M_X4_handOver [.ref o, .int (nI k), .int (nI j), .int (nI n)] L h none (Hc o (hov t k j n) h) := by
  have w1 := w.1
  have w2 := w.2.1
  have a := w.2.2.1 k hk
  have c1 := Hc_u (v := t (4 + k) - n) (a := o + 1) (i := k) c w (by omega) (by omega) (lo_4 (by omega))
  have v1 : Wf (tset t (4 + k) (t (4 + k) - n)) := Wf_set w (by omega) (fun k => by omega) (by omega)
  have hj1 : j < tset t (4 + k) (t (4 + k) - n) 0 := by rw [ts_o (by omega)]; exact hj
  have e1 := fun Q => p_comeBowls (d := d) (L := L) (n := n) (Q := Q) ho c1.1 v1 hj1 (by omega)
  refine ⟨_, Hc_t c1 (Hc_gts c1.1 v1 hj1), fun Q => ?_⟩
  simp only [e_X4_handOver, s_X4_handOver_0, s_X4_handOver_1, s_X4_handOver_4, s_X4_handOver_5, s_X4_handOver_6, s_X4_handOver_7, s_X4_handOver_8, s_X4_handOver_9, s_X4_handOver_10, s_X4_handOver_11, s_X4_handOver_12, s_X4_handOver_13, s_X4_handOver_16, kH, rH1, rH2, rH4, rH5, rH6, rH7, rH8, kH_1, kH_2, kH_3, kH_4, kH_5, kH_6, kH_7, lH_1, lH_2, lH_3, lH_4, lH_5, lH_6, lH_7, ho, show k < 5 by omega, CR_4 c w hk, pk_sub hn, e1, Option.toList_none, List.nil_append, Nat.reduceLT, cl_tl0, cl_tl1, rfv_some, if_true, if_false, or_true, true_or, eq_self, ite_true, ite_false, and_true, true_and, not_true_eq_false, not_false_eq_true]
theorem p_trade {d L o r k n : Nat} {t : Nat → Nat} {h : mMem} (ho : Hs o) (c : CR h o t) (w : Wf t) (hr : r < t 1) (hk : k < t 0) (hn : n ≤ t (4 + k)) : Sp (d + 2) M_X4_trade [.ref o, .int (nI r), .int (nI k), .int (nI n)] L h none (Hc o (trd t r k n) h) := by
  have w1 := w.1
  have w2 := w.2.1
  have a := w.2.2.1 k hk
  obtain ⟨a1, a2, a3, a4, a5⟩ := w.2.2.2.1 r hr
  obtain ⟨b, b0, b1, b2, b3, b4⟩ := hov_p w (n := n) hk a4
  have c1 := Hc_u (v := t (4 + k) - n) (a := o + 1) (i := k) c w (by omega) (by omega) (lo_4 (by omega))
  have v1 : Wf (tset t (4 + k) (t (4 + k) - n)) := Wf_set w (by omega) (fun k => by omega) (by omega)
  have hj1 : t (35 + r) < tset t (4 + k) (t (4 + k) - n) 0 := by rw [ts_o (by omega)]; exact a4
  have e1 := fun Q => p_comeBowls (d := d) (L := L) (n := n) (Q := Q) ho c1.1 v1 hj1 (by omega)
  have r35 := CR_35 c1.1 v1 (k := r) (by rw [ts_o (by omega)]; exact hr)
  rw [ts_o (by omega)] at r35
  have c2 := Hc_t c1 (Hc_gts (n := n) c1.1 v1 hj1)
  have c3 := Hc_t c2 (Hc_u (v := k) (a := o + 6) (i := r) c2.1 b (by omega) (by omega) (lo_35 (by omega)))
  have c3w : Wf (tset (hov t k (t (35 + r)) n) (35 + r) k) := Wf_set b (by omega) (fun k => by rw [b0, b1]; omega) (by omega)
  have r3 := (CR_3 c3.1).trans (congrArg nI ((ts_o (show 3 ≠ 35 + r by omega)).trans b3))
  refine ⟨_, Hc_t c3 (Hc_u (j := 3) (v := t 3 + 1) (a := o) (i := 11) c3.1 c3w (by omega) (by omega) rfl), fun Q => ?_⟩
  simp only [e_X4_trade, s_X4_trade_0, s_X4_trade_1, s_X4_trade_4, s_X4_trade_5, s_X4_trade_6, s_X4_trade_7, s_X4_trade_8, s_X4_trade_9, s_X4_trade_10, s_X4_trade_11, s_X4_trade_12, s_X4_trade_15, s_X4_trade_16, s_X4_trade_17, s_X4_trade_18, s_X4_trade_21, s_X4_trade_22, s_X4_trade_25, s_X4_trade_26, s_X4_trade_27, s_X4_trade_28, s_X4_trade_29, s_X4_trade_30, s_X4_trade_33, s_X4_trade_34, s_X4_trade_35, s_X4_trade_38, kH, rH1, rH2, rH4, rH5, rH6, rH7, rH8, kH_1, kH_2, kH_3, kH_4, kH_5, kH_6, kH_7, lH_1, lH_2, lH_3, lH_4, lH_5, lH_6, lH_7, ho, show k < 5 by omega, show r < 7 by omega, CR_4 c w hk, r35, r3, pk_sub hn, e1, nI_add, Option.toList_none, List.nil_append, Nat.reduceLT, cl_tl0, cl_tl1, rfv_some, if_true, if_false, or_true, true_or, eq_self, ite_true, ite_false, and_true, true_and, not_true_eq_false, not_false_eq_true]
