/-! ===== pure: frames, loops, changes of a house ===== -/
def Fr (P : Nat → Nat → Prop) (h h' : mMem) : Prop := ∀ a i, ¬ P a i → h' a i = h a i
theorem Fr_r {P : Nat → Nat → Prop} {h : mMem} : Fr P h h := fun _ _ _ => rfl
theorem Fr_t {P : Nat → Nat → Prop} {h h' h'' : mMem} (a : Fr P h h') (b : Fr P h' h'') : Fr P h h'' := fun x i hn => (b x i hn).trans (a x i hn)
theorem Fr_u {P : Nat → Nat → Prop} {h : mMem} {a i : Nat} {v : Int32} (hp : P a i) : Fr P h (up2 h a i v) := fun x j hn => by
  have : ¬ (x = a ∧ j = i) := by
    rintro ⟨rfl, rfl⟩
    exact hn hp
  simp only [up2, this, if_false]
theorem Fr_w {P P' : Nat → Nat → Prop} {h h' : mMem} (hp : ∀ a i, P a i → P' a i) (a : Fr P h h') : Fr P' h h' := fun x i hn => a x i (fun hh => hn (hp _ _ hh))
/-- the places of the class's house o, of the model's town b -/
def hs (o : Nat) (a i : Nat) : Prop := o ≤ a ∧ a < o + 8
def tw (b : Nat) (a i : Nat) : Prop := a = 107 ∧ 50 * b ≤ i ∧ i < 50 * b + 50
def Hc (o : Nat) (t : Nat → Nat) (h h' : mMem) : Prop := CR h' o t ∧ Fr (hs o) h h'
def Tc (b : Nat) (t : Nat → Nat) (h h' : mMem) : Prop := MR h' b t ∧ Fr (tw b) h h'
theorem Hc_t {o : Nat} {t t' : Nat → Nat} {h h' h'' : mMem} (a : Hc o t h h') (b : Hc o t' h' h'') : Hc o t' h h'' := ⟨b.1, Fr_t a.2 b.2⟩
theorem Tc_t {o : Nat} {t t' : Nat → Nat} {h h' h'' : mMem} (a : Tc o t h h') (b : Tc o t' h' h'') : Tc o t' h h'' := ⟨b.1, Fr_t a.2 b.2⟩
theorem Hc_r {o : Nat} {t : Nat → Nat} {h : mMem} (c : CR h o t) : Hc o t h h := ⟨c, Fr_r⟩
theorem Tc_r {o : Nat} {t : Nat → Nat} {h : mMem} (c : MR h o t) : Tc o t h h := ⟨c, Fr_r⟩
theorem Hc_u {h : mMem} {o : Nat} {t : Nat → Nat} (c : CR h o t) (w : Wf t) {j v a i : Nat} (h2 : 2 ≤ j) (h5 : j < 50) (hl : lo o j = (a, i)) : Hc o (tset t j v) h (up2 h a i (nI v)) := ⟨CR_up c w h2 h5 hl, Fr_u (by have := lo_in (o := o) (j := j); rw [hl] at this; exact this)⟩
theorem Tc_u {h : mMem} {b : Nat} {t : Nat → Nat} (c : MR h b t) {j v i : Nat} (h5 : j < 50) (hi : i = 50 * b + j) : Tc b (tset t j v) h (up2 h 107 i (nI v)) := ⟨MR_up c h5 hi, Fr_u ⟨rfl, by omega, by omega⟩⟩
/-- one number of a house changed, within its bounds -/
theorem Wf_set {t : Nat → Nat} (w : Wf t) {j v : Nat} (hj : 2 ≤ j) (hv : ∀ k, (k < t 0 → (j = 4 + k → v ≤ 99) ∧ (j = 9 + k → v ≤ 20)) ∧ (k < t 1 → (j = 14 + k → 1 ≤ v ∧ v ≤ 5) ∧ (j = 21 + k → 1 ≤ v ∧ v ≤ 20) ∧ (j = 28 + k → v ≤ 60) ∧ (j = 35 + k → v < t 0) ∧ (j = 42 + k → v < t 0))) (hb : j = 49 → v < 128) : Wf (tset t j v) := by
  obtain ⟨h0, h1, h2, h3, h4⟩ := w
  have e0 : tset t j v 0 = t 0 := ts_o (by omega)
  have e1 : tset t j v 1 = t 1 := ts_o (by omega)
  have key : ∀ (i : Nat) (P : Nat → Prop), P (t i) → (j = i → P v) → P (tset t j v i) := by
    intro i P p1 p2
    by_cases e : i = j
    · rw [e, ts_s]
      exact p2 e.symm
    · rw [ts_o e]
      exact p1
  refine ⟨by rw [e0]; exact h0, by rw [e1]; exact h1, ?_, ?_, key 49 (· < 128) h4 hb⟩
  · intro k hk
    rw [e0] at hk
    exact ⟨key _ (· ≤ 99) (h2 k hk).1 ((hv k).1 hk).1, key _ (· ≤ 20) (h2 k hk).2 ((hv k).1 hk).2⟩
  · intro r hr
    rw [e1] at hr
    obtain ⟨a1, a2, a3, a4, a5⟩ := h3 r hr
    obtain ⟨b1, b2, b3, b4, b5⟩ := (hv r).2 hr
    rw [e0]
    exact ⟨key _ (fun x => 1 ≤ x ∧ x ≤ 5) a1 b1, key _ (fun x => 1 ≤ x ∧ x ≤ 20) a2 b2, key _ (· ≤ 60) a3 b3, key _ (· < t 0) a4 b4, key _ (· < t 0) a5 b5⟩
/-- loops -/
def itr {α : Type} (f : Nat → α → α) : Nat → Nat → α → α
  | 0, _, a => a
  | n + 1, i, a => itr f n (i + 1) (f i a)
theorem lp {α : Type} {N : Nat} {I : Nat → α → mMem → Prop} {f : Nat → α → α} {W : Nat → α → mMem → mQ → Prop} (hs : ∀ i a h, i < N → I i a h → ∃ h', I (i + 1) (f i a) h' ∧ ∀ Q, W i a h Q = W (i + 1) (f i a) h' Q) : ∀ n i a h, i + n = N → I i a h → ∃ h', I N (itr f n i a) h' ∧ ∀ Q, W i a h Q = W N (itr f n i a) h' Q := by
  intro n
  induction n with
  | zero =>
    intro i a h hi hI
    obtain rfl : i = N := by omega
    exact ⟨h, hI, fun Q => rfl⟩
  | succ n ih =>
    intro i a h hi hI
    obtain ⟨h1, hI1, e1⟩ := hs i a h (by omega) hI
    obtain ⟨h2, hI2, e2⟩ := ih (i + 1) (f i a) h1 (by omega) hI1
    exact ⟨h2, hI2, fun Q => by rw [e1, e2]; rfl⟩
theorem itr_inv {α : Type} {f : Nat → α → α} {P : Nat → α → Prop} {N : Nat} (hf : ∀ i a, i < N → P i a → P (i + 1) (f i a)) : ∀ n i a, i + n = N → P i a → P N (itr f n i a) := by
  intro n
  induction n with
  | zero =>
    intro i a hi hp
    obtain rfl : i = N := by omega
    exact hp
  | succ n ih =>
    intro i a hi hp
    exact ih (i + 1) (f i a) (by omega) (hf i a (by omega) hp)
/-- loops that may end before -/
def itx {α β : Type} (f : Nat → α → α ⊕ β) : Nat → Nat → α → α ⊕ β
  | 0, _, a => .inl a
  | n + 1, i, a => match f i a with
    | .inl a' => itx f n (i + 1) a'
    | .inr b => .inr b
theorem lpx {α β : Type} {N : Nat} {I : Nat → α → mMem → Prop} {J : β → mMem → Prop} {f : Nat → α → α ⊕ β} {W : Nat → α → mMem → mQ → Prop} {X : β → mMem → mQ → Prop} (hs : ∀ i a h, i < N → I i a h → match f i a with
    | .inl a' => ∃ h', I (i + 1) a' h' ∧ ∀ Q, W i a h Q = W (i + 1) a' h' Q
    | .inr b => ∃ h', J b h' ∧ ∀ Q, W i a h Q = X b h' Q) : ∀ n i a h, i + n = N → I i a h → match itx f n i a with
    | .inl a' => ∃ h', I N a' h' ∧ ∀ Q, W i a h Q = W N a' h' Q
    | .inr b => ∃ h', J b h' ∧ ∀ Q, W i a h Q = X b h' Q := by
  intro n
  induction n with
  | zero =>
    intro i a h hi hI
    obtain rfl : i = N := by omega
    exact ⟨h, hI, fun Q => rfl⟩
  | succ n ih =>
    intro i a h hi hI
    have h1 := hs i a h (by omega) hI
    unfold itx
    split at h1
    · rename_i a' e
      obtain ⟨h1, hI1, e1⟩ := h1
      have h2 := ih (i + 1) a' h1 (by omega) hI1
      split at h2
      · obtain ⟨h2, hI2, e2⟩ := h2
        exact ⟨h2, hI2, fun Q => by rw [e1, e2]⟩
      · obtain ⟨h2, hI2, e2⟩ := h2
        exact ⟨h2, hI2, fun Q => by rw [e1, e2]⟩
    · exact h1
/-- bowls come -/
def gts (t : Nat → Nat) (k n : Nat) : Nat → Nat := tset t (4 + k) (min (t (4 + k) + n) 99)
theorem gts_0 {t : Nat → Nat} {k n : Nat} : gts t k n 0 = t 0 := ts_o (by omega)
theorem gts_1 {t : Nat → Nat} {k n : Nat} : gts t k n 1 = t 1 := ts_o (by omega)
theorem gts_2 {t : Nat → Nat} {k n : Nat} : gts t k n 2 = t 2 := ts_o (by omega)
theorem gts_o {t : Nat → Nat} {k n j : Nat} (hk : k < 5) (hj : 9 ≤ j) : gts t k n j = t j := ts_o (by omega)
theorem Wf_gts {t : Nat → Nat} (w : Wf t) {k n : Nat} (hk : k < t 0) : Wf (gts t k n) := by
  have h1 := w.1
  have h2 := w.2.1
  exact Wf_set w (by omega) (fun k => by omega) (by omega)
theorem gts_id {t : Nat → Nat} (w : Wf t) {k : Nat} (hk : k < t 0) : gts t k 0 = t := by
  unfold gts
  have := (w.2.2.1 k hk).1
  rw [show min (t (4 + k) + 0) 99 = t (4 + k) by omega, ts_id]
theorem p_comeBowls {d L o k n : Nat} {t : Nat → Nat} {h : mMem} {Q : mQ} (ho : Hs o) (c : CR h o t) (w : Wf t) (hk : k < t 0) (hn : n < 10000) : WP (d + 1) M_X4_comeBowls [.ref o, .int (nI k), .int (nI n)] (S0 L, h) Q = Q none (S0 L, up2 h (o + 1) k (nI (min (t (4 + k) + n) 99))) := by
  have h1 := w.1
  have hk5 : k < 5 := by omega
  have b1 := (w.2.2.1 k hk).1
  have e := mn0 (a := t (4 + k) + n) (b := 99) (by omega) (by omega)
  simp only [e_X4_comeBowls, s_X4_comeBowls_0, s_X4_comeBowls_1, s_X4_comeBowls_4, s_X4_comeBowls_5, s_X4_comeBowls_6, s_X4_comeBowls_9, s_X4_comeBowls_10, s_X4_comeBowls_11, s_X4_comeBowls_12, s_X4_comeBowls_13, s_X4_comeBowls_15, s_X4_comeBowls_18, s_X4_comeBowls_19, kH, rH1, rH2, rH4, rH5, rH6, rH7, rH8, kH_1, kH_2, kH_3, kH_4, kH_5, kH_6, kH_7, lH_1, lH_2, lH_3, lH_4, lH_5, lH_6, lH_7, ho, hk5, CR_4 c w hk, nI_add, e, Nat.reduceLT, cl_tl0, cl_tl1, rfv_some, if_true, if_false, or_true, true_or, eq_self, ite_true, ite_false, and_true, true_and, not_true_eq_false, not_false_eq_true]
theorem Hc_gts {h : mMem} {o : Nat} {t : Nat → Nat} (c : CR h o t) (w : Wf t) {k n : Nat} (hk : k < t 0) : Hc o (gts t k n) h (up2 h (o + 1) k (nI (min (t (4 + k) + n) 99))) := Hc_u c w (by omega) (by have := w.1; omega) (lo_4 (by have := w.1; omega))
theorem p_heirBehind {d L o k : Nat} {t : Nat → Nat} {h : mMem} {Q : mQ} (ho : Hs o) (c : CR h o t) (w : Wf t) (hk : k < t 0) : WP (d + 1) M_X4_heirBehind [.ref o, .int (nI k)] (S0 L, h) Q = Q (some (.int (nI ((k + 1) % t 0)))) (S0 L, h) := by
  have h1 := w.1
  have e : (nI (t 0) ≤ nI (k + 1)) = (t 0 ≤ k + 1) := f_le (by omega) (by omega)
  by_cases hl : t 0 ≤ k + 1
  · have e2 : (k + 1) % t 0 = 0 := by rw [show k + 1 = t 0 by omega]; exact Nat.mod_self _
    simp only [e_X4_heirBehind, s_X4_heirBehind_0, s_X4_heirBehind_1, s_X4_heirBehind_2, s_X4_heirBehind_3, s_X4_heirBehind_4, s_X4_heirBehind_7, s_X4_heirBehind_10, s_X4_heirBehind_11, s_X4_heirBehind_12, s_X4_heirBehind_13, s_X4_heirBehind_16, s_X4_heirBehind_17, kH, rH1, rH2, rH4, rH5, rH6, rH7, rH8, kH_1, kH_2, kH_3, kH_4, kH_5, kH_6, kH_7, lH_1, lH_2, lH_3, lH_4, lH_5, lH_6, lH_7, ho, CR_0 c, nI_add, e, hl, e2, Nat.reduceLT, cl_tl0, cl_tl1, rfv_some, if_true, if_false, or_true, true_or, eq_self, ite_true, ite_false, and_true, true_and, not_true_eq_false, not_false_eq_true]
  · have e2 : (k + 1) % t 0 = k + 1 := Nat.mod_eq_of_lt (by omega)
    simp only [e_X4_heirBehind, s_X4_heirBehind_0, s_X4_heirBehind_1, s_X4_heirBehind_2, s_X4_heirBehind_3, s_X4_heirBehind_4, s_X4_heirBehind_7, s_X4_heirBehind_10, s_X4_heirBehind_11, s_X4_heirBehind_12, s_X4_heirBehind_13, s_X4_heirBehind_16, s_X4_heirBehind_17, kH, rH1, rH2, rH4, rH5, rH6, rH7, rH8, kH_1, kH_2, kH_3, kH_4, kH_5, kH_6, kH_7, lH_1, lH_2, lH_3, lH_4, lH_5, lH_6, lH_7, ho, CR_0 c, nI_add, e, hl, e2, Nat.reduceLT, cl_tl0, cl_tl1, rfv_some, if_true, if_false, or_true, true_or, eq_self, ite_true, ite_false, and_true, true_and, not_true_eq_false, not_false_eq_true]
/-- what a right brings -/
def brl (t : Nat → Nat) (r : Nat) : Nat → Nat := if t 2 < t (28 + r) then gts t (t (35 + r)) (t (21 + r)) else if t 2 = t (28 + r) then tset t (35 + r) (if t (14 + r) = 4 then t (42 + r) else (t (42 + r) + 1) % t 0) else t
def brg (t : Nat → Nat) (r : Nat) : Nat → Nat :=
  if t (14 + r) = 1 then (if t 2 = t (28 + r) then gts t (t (35 + r)) (t (21 + r)) else t)
  else if t (14 + r) = 2 then (if t 2 = t (28 + r) then gts (gts t (t (35 + r)) (t (21 + r) / 2)) (t (42 + r)) (t (21 + r) / 2) else t)
  else if t (14 + r) = 3 then (if t (28 + r) ≤ t 2 then gts t (t (35 + r)) (t (21 + r)) else t)
  else brl t r
theorem brl_p {t : Nat → Nat} (w : Wf t) {r : Nat} (hr : r < t 1) : Wf (brl t r) ∧ brl t r 0 = t 0 ∧ brl t r 1 = t 1 ∧ brl t r 2 = t 2 := by
  have h1 := w.1
  have h2 := w.2.1
  obtain ⟨a1, a2, a3, a4, a5⟩ := w.2.2.2.1 r hr
  have hm : (t (42 + r) + 1) % t 0 < t 0 := Nat.mod_lt _ (by omega)
  unfold brl
  split
  · exact ⟨Wf_gts w a4, gts_0, gts_1, gts_2⟩
  · split
    · refine ⟨Wf_set w (by omega) (fun k => ?_) (by omega), ts_o (by omega), ts_o (by omega), ts_o (by omega)⟩
      split <;> omega
    · exact ⟨w, rfl, rfl, rfl⟩
theorem brg_p {t : Nat → Nat} (w : Wf t) {r : Nat} (hr : r < t 1) : Wf (brg t r) ∧ brg t r 0 = t 0 ∧ brg t r 1 = t 1 ∧ brg t r 2 = t 2 := by
  have h1 := w.1
  have h2 := w.2.1
  obtain ⟨a1, a2, a3, a4, a5⟩ := w.2.2.2.1 r hr
  unfold brg
  split
  · split
    · exact ⟨Wf_gts w a4, gts_0, gts_1, gts_2⟩
    · exact ⟨w, rfl, rfl, rfl⟩
  · split
    · split
      · exact ⟨Wf_gts (Wf_gts w a4) (by rw [gts_0]; exact a5), by rw [gts_0, gts_0], by rw [gts_1, gts_1], by rw [gts_2, gts_2]⟩
      · exact ⟨w, rfl, rfl, rfl⟩
    · split
      · split
        · exact ⟨Wf_gts w a4, gts_0, gts_1, gts_2⟩
        · exact ⟨w, rfl, rfl, rfl⟩
      · exact brl_p w hr
def Sp (d : Nat) (M : mRec) (as : List Value) (L : Nat) (h : mMem) (r : Option Value) (P : mMem → Prop) : Prop := ∃ h', P h' ∧ ∀ Q, WP d M as (S0 L, h) Q = Q r (S0 L, h')
theorem p_bringAsLent {d L o r : Nat} {t : Nat → Nat} {h : mMem} (ho : Hs o) (c : CR h o t) (w : Wf t) (hd : t 2 ≤ 2000) (hr : r < t 1) : Sp (d + 2) M_X4_bringAsLent [.ref o, .int (nI r)] L h none (Hc o (brl t r) h) := by
  have h1 := w.1
  have h2 := w.2.1
  obtain ⟨a1, a2, a3, a4, a5⟩ := w.2.2.2.1 r hr
  have hr7 : r < 7 := by omega
  have w1 := fun Q => p_comeBowls (d := d) (L := L) (Q := Q) ho c w a4 (show t (21 + r) < 10000 by omega)
  have w2 := fun Q => p_heirBehind (d := d) (L := L) (Q := Q) ho c w a5
  have l1 : (nI (t (28 + r)) ≤ nI (t 2)) = (t (28 + r) ≤ t 2) := f_le (by omega) (by omega)
  have l2 : (nI (t 2) = nI (t (28 + r))) = (t 2 = t (28 + r)) := f_eq (by omega) (by omega)
  have l3 : (nI (t (14 + r)) = nI 4) = (t (14 + r) = 4) := f_eq (by omega) (by omega)
  unfold brl
  by_cases b1 : t 2 < t (28 + r)
  · rw [if_pos b1]
    have b1' : ¬ (t (28 + r) ≤ t 2) := by omega
    refine ⟨_, Hc_gts c w a4, fun Q => ?_⟩
    simp only [e_X4_bringAsLent, s_X4_bringAsLent_0, s_X4_bringAsLent_1, s_X4_bringAsLent_4, s_X4_bringAsLent_5, s_X4_bringAsLent_8, s_X4_bringAsLent_9, s_X4_bringAsLent_10, s_X4_bringAsLent_13, s_X4_bringAsLent_14, s_X4_bringAsLent_15, s_X4_bringAsLent_18, s_X4_bringAsLent_19, s_X4_bringAsLent_20, s_X4_bringAsLent_21, s_X4_bringAsLent_24, s_X4_bringAsLent_25, s_X4_bringAsLent_26, s_X4_bringAsLent_29, s_X4_bringAsLent_32, s_X4_bringAsLent_33, s_X4_bringAsLent_36, s_X4_bringAsLent_37, s_X4_bringAsLent_40, s_X4_bringAsLent_41, s_X4_bringAsLent_42, s_X4_bringAsLent_45, s_X4_bringAsLent_46, s_X4_bringAsLent_49, s_X4_bringAsLent_50, s_X4_bringAsLent_51, s_X4_bringAsLent_54, s_X4_bringAsLent_55, s_X4_bringAsLent_56, s_X4_bringAsLent_57, s_X4_bringAsLent_60, s_X4_bringAsLent_61, s_X4_bringAsLent_64, s_X4_bringAsLent_65, s_X4_bringAsLent_66, s_X4_bringAsLent_69, s_X4_bringAsLent_70, s_X4_bringAsLent_71, s_X4_bringAsLent_74, s_X4_bringAsLent_75, s_X4_bringAsLent_76, s_X4_bringAsLent_79, s_X4_bringAsLent_80, kH, rH1, rH2, rH4, rH5, rH6, rH7, rH8, kH_1, kH_2, kH_3, kH_4, kH_5, kH_6, kH_7, lH_1, lH_2, lH_3, lH_4, lH_5, lH_6, lH_7, ho, hr7, CR_2 c, CR_28 c w hr, CR_35 c w hr, CR_21 c w hr, l1, b1', w1, Option.toList_none, List.nil_append, Nat.reduceLT, cl_tl0, cl_tl1, rfv_some, if_true, if_false, or_true, true_or, eq_self, ite_true, ite_false, and_true, true_and, not_true_eq_false, not_false_eq_true]
  · rw [if_neg b1]
    have b1' : t (28 + r) ≤ t 2 := by omega
    by_cases b2 : t 2 = t (28 + r)
    · rw [if_pos b2]
      refine ⟨_, Hc_u (a := o + 6) (i := r) c w (by omega) (by omega) (lo_35 hr7), fun Q => ?_⟩
      by_cases b3 : t (14 + r) = 4
      · simp only [e_X4_bringAsLent, s_X4_bringAsLent_0, s_X4_bringAsLent_1, s_X4_bringAsLent_4, s_X4_bringAsLent_5, s_X4_bringAsLent_8, s_X4_bringAsLent_9, s_X4_bringAsLent_10, s_X4_bringAsLent_13, s_X4_bringAsLent_14, s_X4_bringAsLent_15, s_X4_bringAsLent_18, s_X4_bringAsLent_19, s_X4_bringAsLent_20, s_X4_bringAsLent_21, s_X4_bringAsLent_24, s_X4_bringAsLent_25, s_X4_bringAsLent_26, s_X4_bringAsLent_29, s_X4_bringAsLent_32, s_X4_bringAsLent_33, s_X4_bringAsLent_36, s_X4_bringAsLent_37, s_X4_bringAsLent_40, s_X4_bringAsLent_41, s_X4_bringAsLent_42, s_X4_bringAsLent_45, s_X4_bringAsLent_46, s_X4_bringAsLent_49, s_X4_bringAsLent_50, s_X4_bringAsLent_51, s_X4_bringAsLent_54, s_X4_bringAsLent_55, s_X4_bringAsLent_56, s_X4_bringAsLent_57, s_X4_bringAsLent_60, s_X4_bringAsLent_61, s_X4_bringAsLent_64, s_X4_bringAsLent_65, s_X4_bringAsLent_66, s_X4_bringAsLent_69, s_X4_bringAsLent_70, s_X4_bringAsLent_71, s_X4_bringAsLent_74, s_X4_bringAsLent_75, s_X4_bringAsLent_76, s_X4_bringAsLent_79, s_X4_bringAsLent_80, kH, rH1, rH2, rH4, rH5, rH6, rH7, rH8, kH_1, kH_2, kH_3, kH_4, kH_5, kH_6, kH_7, lH_1, lH_2, lH_3, lH_4, lH_5, lH_6, lH_7, ho, hr7, CR_2 c, CR_28 c w hr, CR_14 c w hr, CR_42 c w hr, l1, l2, l3, b1', eq_true b2, b3, w2, Option.toList_none, List.nil_append, Nat.reduceLT, Nat.le_refl, cl_tl0, cl_tl1, rfv_some, if_true, if_false, or_true, true_or, eq_self, ite_true, ite_false, and_true, true_and, not_true_eq_false, not_false_eq_true]
      · simp only [e_X4_bringAsLent, s_X4_bringAsLent_0, s_X4_bringAsLent_1, s_X4_bringAsLent_4, s_X4_bringAsLent_5, s_X4_bringAsLent_8, s_X4_bringAsLent_9, s_X4_bringAsLent_10, s_X4_bringAsLent_13, s_X4_bringAsLent_14, s_X4_bringAsLent_15, s_X4_bringAsLent_18, s_X4_bringAsLent_19, s_X4_bringAsLent_20, s_X4_bringAsLent_21, s_X4_bringAsLent_24, s_X4_bringAsLent_25, s_X4_bringAsLent_26, s_X4_bringAsLent_29, s_X4_bringAsLent_32, s_X4_bringAsLent_33, s_X4_bringAsLent_36, s_X4_bringAsLent_37, s_X4_bringAsLent_40, s_X4_bringAsLent_41, s_X4_bringAsLent_42, s_X4_bringAsLent_45, s_X4_bringAsLent_46, s_X4_bringAsLent_49, s_X4_bringAsLent_50, s_X4_bringAsLent_51, s_X4_bringAsLent_54, s_X4_bringAsLent_55, s_X4_bringAsLent_56, s_X4_bringAsLent_57, s_X4_bringAsLent_60, s_X4_bringAsLent_61, s_X4_bringAsLent_64, s_X4_bringAsLent_65, s_X4_bringAsLent_66, s_X4_bringAsLent_69, s_X4_bringAsLent_70, s_X4_bringAsLent_71, s_X4_bringAsLent_74, s_X4_bringAsLent_75, s_X4_bringAsLent_76, s_X4_bringAsLent_79, s_X4_bringAsLent_80, kH, rH1, rH2, rH4, rH5, rH6, rH7, rH8, kH_1, kH_2, kH_3, kH_4, kH_5, kH_6, kH_7, lH_1, lH_2, lH_3, lH_4, lH_5, lH_6, lH_7, ho, hr7, CR_2 c, CR_28 c w hr, CR_14 c w hr, CR_42 c w hr, l1, l2, l3, b1', eq_true b2, b3, w2, Option.toList_some, List.cons_append, List.nil_append, Nat.reduceLT, Nat.le_refl, cl_tl0, cl_tl1, rfv_some, if_true, if_false, or_true, true_or, eq_self, ite_true, ite_false, and_true, true_and, not_true_eq_false, not_false_eq_true]
    · rw [if_neg b2]
      refine ⟨_, Hc_r c, fun Q => ?_⟩
      simp only [e_X4_bringAsLent, s_X4_bringAsLent_0, s_X4_bringAsLent_1, s_X4_bringAsLent_4, s_X4_bringAsLent_5, s_X4_bringAsLent_8, s_X4_bringAsLent_9, s_X4_bringAsLent_10, s_X4_bringAsLent_13, s_X4_bringAsLent_14, s_X4_bringAsLent_15, s_X4_bringAsLent_18, s_X4_bringAsLent_19, s_X4_bringAsLent_20, s_X4_bringAsLent_21, s_X4_bringAsLent_24, s_X4_bringAsLent_25, s_X4_bringAsLent_26, s_X4_bringAsLent_29, s_X4_bringAsLent_32, s_X4_bringAsLent_33, s_X4_bringAsLent_36, s_X4_bringAsLent_37, s_X4_bringAsLent_40, s_X4_bringAsLent_41, s_X4_bringAsLent_42, s_X4_bringAsLent_45, s_X4_bringAsLent_46, s_X4_bringAsLent_49, s_X4_bringAsLent_50, s_X4_bringAsLent_51, s_X4_bringAsLent_54, s_X4_bringAsLent_55, s_X4_bringAsLent_56, s_X4_bringAsLent_57, s_X4_bringAsLent_60, s_X4_bringAsLent_61, s_X4_bringAsLent_64, s_X4_bringAsLent_65, s_X4_bringAsLent_66, s_X4_bringAsLent_69, s_X4_bringAsLent_70, s_X4_bringAsLent_71, s_X4_bringAsLent_74, s_X4_bringAsLent_75, s_X4_bringAsLent_76, s_X4_bringAsLent_79, s_X4_bringAsLent_80, kH, rH1, rH2, rH4, rH5, rH6, rH7, rH8, kH_1, kH_2, kH_3, kH_4, kH_5, kH_6, kH_7, lH_1, lH_2, lH_3, lH_4, lH_5, lH_6, lH_7, ho, hr7, CR_2 c, CR_28 c w hr, l1, l2, b1', b2, Nat.reduceLT, cl_tl0, cl_tl1, rfv_some, if_true, if_false, or_true, true_or, eq_self, ite_true, ite_false, and_true, true_and, not_true_eq_false, not_false_eq_true]
