/-! ===== pure: method by method: days ===== -/
theorem brg_s {t : Nat → Nat} (w : Wf t) {r : Nat} (hr : r < t 1) {i : Nat} (hi : 14 ≤ i ∧ (i < 35 ∨ 42 ≤ i)) : brg t r i = t i := by
  have w1 := w.1
  have w2 := w.2.1
  obtain ⟨a1, a2, a3, a4, a5⟩ := w.2.2.2.1 r hr
  have g : ∀ (s : Nat → Nat) k n, k < 5 → gts s k n i = s i := fun s k n hk => gts_o hk (by omega)
  unfold brg brl
  split
  · split
    · rw [g _ _ _ (by omega)]
    · rfl
  · split
    · split
      · rw [g _ _ _ (by omega), g _ _ _ (by omega)]
      · rfl
    · split
      · split
        · rw [g _ _ _ (by omega)]
        · rfl
      · split
        · rw [g _ _ _ (by omega)]
        · split
          · rw [ts_o (by omega)]
          · rfl
theorem eat_s {t : Nat → Nat} {k i : Nat} (hk : k < 5) (hi : 14 ≤ i) : eat k t i = t i := by
  unfold eat
  split
  · rw [ts_o (by omega)]
  · rw [ts_o (by omega), ts_o (by omega)]
theorem dayT_s {t : Nat → Nat} (w : Wf t) {i : Nat} (hi : 14 ≤ i ∧ (i < 35 ∨ 42 ≤ i)) : dayT t i = t i := by
  have w1 := w.1
  have e1 : brgs t i = t i := by
    have := itr_inv (f := brs) (P := fun _ u => (Wf u ∧ u 0 = t 0 ∧ u 1 = t 1) ∧ u i = t i) (N := t 1) (by
      rintro j u hj ⟨⟨wu, e0, e1⟩, ei⟩
      obtain ⟨x, y0, y1, y2⟩ := brg_p wu (r := j) (by omega)
      exact ⟨⟨x, y0.trans e0, y1.trans e1⟩, (brg_s wu (by omega) hi).trans ei⟩) (t 1) 0 t (by omega) ⟨⟨w, rfl, rfl⟩, rfl⟩
    exact this.2
  obtain ⟨x, y0, y1, y2⟩ := brgs_p w
  have e2 : (eaten (brgs t)).1 i = brgs t i := by
    unfold eaten
    rw [y0]
    exact itr_inv (f := eaf) (P := fun _ u => u.1 i = brgs t i) (N := t 0) (by
      intro j u hj hu
      exact (eat_s (by omega) hi.1).trans hu) (t 0) 0 (brgs t, 0) (by omega) rfl
  unfold dayT
  rw [ts_o (by omega), e2, e1]
def dyk (i : Nat) (p : (Nat → Nat) × Nat × (Nat → Nat → Nat)) : (Nat → Nat) × Nat × (Nat → Nat → Nat) := (dayT p.1, kpU p.2.1, kpS p.2.1 p.2.2 p.1)
def DK (t : Nat → Nat) (i : Nat) (p : (Nat → Nat) × Nat × (Nat → Nat → Nat)) : Prop := DP t i p.1 ∧ p.2.1 ≤ 24 ∧ ∀ j, j < p.2.1 → Wf (p.2.2 j) ∧ St (p.2.2 j) p.1 ∧ p.2.2 j 2 ≤ 999
theorem DK_s {t : Nat → Nat} {i : Nat} {p : (Nat → Nat) × Nat × (Nat → Nat → Nat)} (k : DK t i p) (hd : t 2 + i ≤ 999) : DK t (i + 1) (dyk i p) := by
  obtain ⟨a, b, c⟩ := k
  have w := a.1
  have a2 := a.2.2.2
  obtain ⟨x, y0, y1, y2⟩ := dayT_p w
  have w2 := w.2.1
  refine ⟨DP_s a, ?_, kp_ok w (by omega) b c (fun q sq => St_tr y0 y1 (fun r hr => ⟨dayT_s w (by omega), dayT_s w (by omega), dayT_s w (by omega), dayT_s w (by omega)⟩) sq)⟩
  show kpU p.2.1 ≤ 24
  unfold kpU
  split <;> omega
