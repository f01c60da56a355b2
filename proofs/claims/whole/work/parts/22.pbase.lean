/-! ===== pure: towns, and how they lie in the memory ===== -/
theorem wpx_and {E : mE} {M : mRec} {ct : Option (Nat × Nat)} (hE : ∀ M as σ (Q Q' : mQ), E M as σ Q → E M as σ Q' → E M as σ (fun r s => Q r s ∧ Q' r s)) (hm : ∀ M as σ (Q Q' : mQ), (∀ r σ', Q r σ' → Q' r σ') → E M as σ Q → E M as σ Q') : ∀ n n' pc ls st σ (Q Q' : mQ), wpx E M ct n pc ls st σ Q → wpx E M ct n' pc ls st σ Q' → wpx E M ct n pc ls st σ (fun r s => Q r s ∧ Q' r s) := by
  intro n
  induction n with
  | zero => intro n' pc ls st σ Q Q' h; exact h.elim
  | succ n ih =>
    intro n' pc ls st σ Q Q' h h'
    cases n' with
    | zero => exact h'.elim
    | succ n' =>
      simp only [wpx] at h h' ⊢
      split at h
      · rename_i hat
        rw [hat] at h'
        exact ih n' _ _ _ _ _ _ h h'
      · rename_i hat
        rw [hat] at h'
        exact ⟨h, h'⟩
      · rename_i hat
        rw [hat] at h'
        exact hm _ _ _ _ _ (fun r s hh => ih n' _ _ _ _ _ _ hh.1 hh.2) (hE _ _ _ _ _ h h')
      · exact h.elim
theorem WP_and : ∀ d M as σ (Q Q' : mQ), WP d M as σ Q → WP d M as σ Q' → WP d M as σ (fun r s => Q r s ∧ Q' r s) := by
  intro d
  induction d with
  | zero => intro M as σ Q Q' h; exact h.elim
  | succ d ih =>
    intro M as σ Q Q' h h'
    obtain ⟨n, h⟩ := h
    obtain ⟨n', h'⟩ := h'
    exact ⟨n, wpx_and ih (WP_mono d) n n' _ _ _ _ _ _ h h'⟩
/-- a run that comes to an end: its end, as an equation -/
theorem WP_ex {d : Nat} {M : mRec} {as : List Value} {σ : mSt} {P : mQ} (h : WP d M as σ P) : ∃ r σ', P r σ' ∧ ∀ Q : mQ, WP d M as σ Q = Q r σ' := by
  obtain ⟨r, σ', h1, h2⟩ := WP_det _ _ _ _ _ h
  refine ⟨r, σ', h1, fun Q => propext ⟨fun hq => ?_, h2 Q⟩⟩
  have h3 := WP_and _ _ _ _ _ _ hq (h2 (fun a b => a = r ∧ b = σ') ⟨rfl, rfl⟩)
  obtain ⟨r2, σ2, ⟨h4, rfl, rfl⟩, -⟩ := WP_det _ _ _ _ _ h3
  exact h4
theorem WP_up {d : Nat} {M : mRec} {as : List Value} {σ : mSt} {Q : mQ} (h : WP d M as σ Q) : WP (d + 1) M as σ Q := by
  induction d generalizing M as σ Q with
  | zero => exact h.elim
  | succ d ih =>
    obtain ⟨n, h⟩ := h
    exact ⟨n, wpx_mono (E' := WP (d + 1)) (fun M as σ Q Q' hQ hh => WP_mono _ _ _ _ _ _ hQ (ih hh)) n _ _ _ _ _ _ (fun _ _ h => h) h⟩
/-- booleans as the machine has them -/
def bI (b : Bool) : Int32 := if b then nI 1 else nI 0
theorem bI_t : bI true = nI 1 := rfl
theorem bI_f : bI false = nI 0 := rfl
theorem bI_01 (b : Bool) : bI b = nI 0 ∨ bI b = nI 1 := by cases b; exact Or.inl rfl; exact Or.inr rfl
theorem n01_0 : (nI 0 = nI 0 ∨ nI 0 = nI 1) = True := by simp
theorem n01_1 : (nI 1 = nI 0 ∨ nI 1 = nI 1) = True := by simp
theorem z_0 : (nI 0 = (0 : Int32)) = True := by simp [nI_0]
theorem z_1 : (nI 1 = (0 : Int32)) = False := by simp; decide
/-- a number within bounds -/
def rg (x : Int32) (a b : Nat) : Prop := ∃ k, a ≤ k ∧ k ≤ b ∧ x = nI k
theorem rg_iff {x : Int32} {a b : Nat} (ha : a < 2147483648) (hb : b < 2147483648) : rg x a b ↔ nI a ≤ x ∧ x ≤ nI b := by
  constructor
  · rintro ⟨k, h1, h2, rfl⟩
    exact ⟨(nI_leI (by omega) (by omega)).mpr h1, (nI_leI (by omega) (by omega)).mpr h2⟩
  · rintro ⟨h1, h2⟩
    have hx : ¬ x < 0 := by
      intro h
      have e1 := Int32.le_iff_toInt_le.mp h1
      have e2 := Int32.lt_iff_toInt_lt.mp h
      have e3 : (0 : Int32).toInt = 0 := rfl
      rw [nI_toInt (by omega)] at e1
      omega
    obtain ⟨k, hk, rfl⟩ := nI_of hx
    exact ⟨k, (nI_leI (by omega) (by omega)).mp h1, (nI_leI (by omega) (by omega)).mp h2, rfl⟩
theorem rg_n {k a b : Nat} (hk : k < 2147483648) (hb : b < 2147483648) : rg (nI k) a b ↔ a ≤ k ∧ k ≤ b := by
  constructor
  · rintro ⟨j, h1, h2, e⟩
    have := (nI_eq (by omega) (by omega)).mp e
    omega
  · rintro ⟨h1, h2⟩
    exact ⟨k, h1, h2, rfl⟩
/-- a town with one number changed -/
def tset (t : Nat → Nat) (j v : Nat) : Nat → Nat := fun i => if i = j then v else t i
theorem ts_s (t : Nat → Nat) (j v : Nat) : tset t j v j = v := if_pos rfl
theorem ts_o {t : Nat → Nat} {j v i : Nat} (h : i ≠ j) : tset t j v i = t i := if_neg h
theorem ts_id (t : Nat → Nat) (j : Nat) : tset t j (t j) = t := by
  funext i
  unfold tset
  by_cases h : i = j
  · rw [if_pos h, h]
  · rw [if_neg h]
/-- a town that is a house: at least an heir, a right; all within their bounds -/
def Wf (t : Nat → Nat) : Prop := (1 ≤ t 0 ∧ t 0 ≤ 5) ∧ (1 ≤ t 1 ∧ t 1 ≤ 7) ∧ (∀ k, k < t 0 → t (4 + k) ≤ 99 ∧ t (9 + k) ≤ 20) ∧ (∀ r, r < t 1 → (1 ≤ t (14 + r) ∧ t (14 + r) ≤ 5) ∧ (1 ≤ t (21 + r) ∧ t (21 + r) ≤ 20) ∧ t (28 + r) ≤ 60 ∧ t (35 + r) < t 0 ∧ t (42 + r) < t 0) ∧ t 49 < 128
/-- which numbers of a town tell something -/
def Rl (t : Nat → Nat) (j : Nat) : Prop := j < 4 ∨ j = 49 ∨ (4 ≤ j ∧ j < 4 + t 0) ∨ (9 ≤ j ∧ j < 9 + t 0) ∨ (14 ≤ j ∧ j < 14 + t 1) ∨ (21 ≤ j ∧ j < 21 + t 1) ∨ (28 ≤ j ∧ j < 28 + t 1) ∨ (35 ≤ j ∧ j < 35 + t 1) ∨ (42 ≤ j ∧ j < 42 + t 1)
/-- where the class's house o has a town's number j -/
def lo (o j : Nat) : Nat × Nat := if j = 0 then (o, 0) else if j = 1 then (o, 3) else if j = 2 then (o, 10) else if j = 3 then (o, 11) else if j < 9 then (o + 1, j - 4) else if j < 14 then (o + 2, j - 9) else if j < 21 then (o + 3, j - 14) else if j < 28 then (o + 4, j - 21) else if j < 35 then (o + 5, j - 28) else if j < 42 then (o + 6, j - 35) else if j < 49 then (o + 7, j - 42) else (o, 9)
def CR (h : mMem) (o : Nat) (t : Nat → Nat) : Prop := ∀ j, Rl t j → h (lo o j).1 (lo o j).2 = nI (t j)
def MR (h : mMem) (b : Nat) (t : Nat → Nat) : Prop := ∀ j, j < 50 → h 107 (50 * b + j) = nI (t j)
theorem lo_4 {o k : Nat} (h : k < 5) : lo o (4 + k) = (o + 1, k) := by
  unfold lo
  rw [if_neg (by omega), if_neg (by omega), if_neg (by omega), if_neg (by omega), if_pos (by omega), show 4 + k - 4 = k by omega]
theorem lo_9 {o k : Nat} (h : k < 5) : lo o (9 + k) = (o + 2, k) := by
  unfold lo
  rw [if_neg (by omega), if_neg (by omega), if_neg (by omega), if_neg (by omega), if_neg (by omega), if_pos (by omega), show 9 + k - 9 = k by omega]
theorem lo_14 {o k : Nat} (h : k < 7) : lo o (14 + k) = (o + 3, k) := by
  unfold lo
  rw [if_neg (by omega), if_neg (by omega), if_neg (by omega), if_neg (by omega), if_neg (by omega), if_neg (by omega), if_pos (by omega), show 14 + k - 14 = k by omega]
theorem lo_21 {o k : Nat} (h : k < 7) : lo o (21 + k) = (o + 4, k) := by
  unfold lo
  rw [if_neg (by omega), if_neg (by omega), if_neg (by omega), if_neg (by omega), if_neg (by omega), if_neg (by omega), if_neg (by omega), if_pos (by omega), show 21 + k - 21 = k by omega]
theorem lo_28 {o k : Nat} (h : k < 7) : lo o (28 + k) = (o + 5, k) := by
  unfold lo
  rw [if_neg (by omega), if_neg (by omega), if_neg (by omega), if_neg (by omega), if_neg (by omega), if_neg (by omega), if_neg (by omega), if_neg (by omega), if_pos (by omega), show 28 + k - 28 = k by omega]
theorem lo_35 {o k : Nat} (h : k < 7) : lo o (35 + k) = (o + 6, k) := by
  unfold lo
  rw [if_neg (by omega), if_neg (by omega), if_neg (by omega), if_neg (by omega), if_neg (by omega), if_neg (by omega), if_neg (by omega), if_neg (by omega), if_neg (by omega), if_pos (by omega), show 35 + k - 35 = k by omega]
theorem lo_42 {o k : Nat} (h : k < 7) : lo o (42 + k) = (o + 7, k) := by
  unfold lo
  rw [if_neg (by omega), if_neg (by omega), if_neg (by omega), if_neg (by omega), if_neg (by omega), if_neg (by omega), if_neg (by omega), if_neg (by omega), if_neg (by omega), if_neg (by omega), if_pos (by omega), show 42 + k - 42 = k by omega]
/-- from a place to the number of the town: so the places are apart -/
def ol (o : Nat) (p : Nat × Nat) : Nat := if p.1 = o then (if p.2 = 0 then 0 else if p.2 = 3 then 1 else if p.2 = 10 then 2 else if p.2 = 11 then 3 else 49) else if p.1 = o + 1 then 4 + p.2 else if p.1 = o + 2 then 9 + p.2 else if p.1 = o + 3 then 14 + p.2 else if p.1 = o + 4 then 21 + p.2 else if p.1 = o + 5 then 28 + p.2 else if p.1 = o + 6 then 35 + p.2 else 42 + p.2
theorem ol_lo {o j : Nat} (h : j < 50) : ol o (lo o j) = j := by
  by_cases h4 : j < 4
  · rcases (show j = 0 ∨ j = 1 ∨ j = 2 ∨ j = 3 by omega) with rfl | rfl | rfl | rfl <;> simp [lo, ol]
  by_cases h9 : j < 9
  · obtain ⟨k, rfl⟩ : ∃ k, j = 4 + k := ⟨j - 4, by omega⟩
    rw [lo_4 (by omega)]
    unfold ol
    dsimp only
    rw [if_neg (by omega), if_pos rfl]
  by_cases h14 : j < 14
  · obtain ⟨k, rfl⟩ : ∃ k, j = 9 + k := ⟨j - 9, by omega⟩
    rw [lo_9 (by omega)]
    unfold ol
    dsimp only
    rw [if_neg (by omega), if_neg (by omega), if_pos rfl]
  by_cases h21 : j < 21
  · obtain ⟨k, rfl⟩ : ∃ k, j = 14 + k := ⟨j - 14, by omega⟩
    rw [lo_14 (by omega)]
    unfold ol
    dsimp only
    rw [if_neg (by omega), if_neg (by omega), if_neg (by omega), if_pos rfl]
  by_cases h28 : j < 28
  · obtain ⟨k, rfl⟩ : ∃ k, j = 21 + k := ⟨j - 21, by omega⟩
    rw [lo_21 (by omega)]
    unfold ol
    dsimp only
    rw [if_neg (by omega), if_neg (by omega), if_neg (by omega), if_neg (by omega), if_pos rfl]
  by_cases h35 : j < 35
  · obtain ⟨k, rfl⟩ : ∃ k, j = 28 + k := ⟨j - 28, by omega⟩
    rw [lo_28 (by omega)]
    unfold ol
    dsimp only
    rw [if_neg (by omega), if_neg (by omega), if_neg (by omega), if_neg (by omega), if_neg (by omega), if_pos rfl]
  by_cases h42 : j < 42
  · obtain ⟨k, rfl⟩ : ∃ k, j = 35 + k := ⟨j - 35, by omega⟩
    rw [lo_35 (by omega)]
    unfold ol
    dsimp only
    rw [if_neg (by omega), if_neg (by omega), if_neg (by omega), if_neg (by omega), if_neg (by omega), if_neg (by omega), if_pos rfl]
  by_cases h49 : j < 49
  · obtain ⟨k, rfl⟩ : ∃ k, j = 42 + k := ⟨j - 42, by omega⟩
    rw [lo_42 (by omega)]
    unfold ol
    dsimp only
    rw [if_neg (by omega), if_neg (by omega), if_neg (by omega), if_neg (by omega), if_neg (by omega), if_neg (by omega), if_neg (by omega)]
  have : j = 49 := by omega
  subst this
  simp [lo, ol]
theorem lo_inj {o i j : Nat} (hi : i < 50) (hj : j < 50) (h : lo o i = lo o j) : i = j := by rw [← ol_lo (o := o) hi, h, ol_lo hj]
theorem lo_in {o j : Nat} : o ≤ (lo o j).1 ∧ (lo o j).1 < o + 8 := by
  unfold lo
  repeat' split
  all_goals (dsimp only; omega)
theorem Rl_lt {t : Nat → Nat} (hw : Wf t) {j : Nat} (h : Rl t j) : j < 50 := by
  obtain ⟨h1, h2, -⟩ := hw
  unfold Rl at h
  omega
theorem CR_0 {h : mMem} {o : Nat} {t : Nat → Nat} (c : CR h o t) : h o 0 = nI (t 0) := c 0 (Or.inl (by decide))
theorem CR_1 {h : mMem} {o : Nat} {t : Nat → Nat} (c : CR h o t) : h o 3 = nI (t 1) := c 1 (Or.inl (by decide))
theorem CR_2 {h : mMem} {o : Nat} {t : Nat → Nat} (c : CR h o t) : h o 10 = nI (t 2) := c 2 (Or.inl (by decide))
theorem CR_3 {h : mMem} {o : Nat} {t : Nat → Nat} (c : CR h o t) : h o 11 = nI (t 3) := c 3 (Or.inl (by decide))
theorem CR_49 {h : mMem} {o : Nat} {t : Nat → Nat} (c : CR h o t) : h o 9 = nI (t 49) := c 49 (Or.inr (Or.inl rfl))
theorem CR_4 {h : mMem} {o : Nat} {t : Nat → Nat} (c : CR h o t) (hw : Wf t) {k : Nat} (hk : k < t 0) : h (o + 1) k = nI (t (4 + k)) := by
  have h5 := hw.1.2
  have := c (4 + k) (by unfold Rl; omega)
  rwa [lo_4 (by omega)] at this
theorem CR_9 {h : mMem} {o : Nat} {t : Nat → Nat} (c : CR h o t) (hw : Wf t) {k : Nat} (hk : k < t 0) : h (o + 2) k = nI (t (9 + k)) := by
  have h5 := hw.1.2
  have := c (9 + k) (by unfold Rl; omega)
  rwa [lo_9 (by omega)] at this
theorem CR_14 {h : mMem} {o : Nat} {t : Nat → Nat} (c : CR h o t) (hw : Wf t) {k : Nat} (hk : k < t 1) : h (o + 3) k = nI (t (14 + k)) := by
  have h5 := hw.2.1.2
  have := c (14 + k) (by unfold Rl; omega)
  rwa [lo_14 (by omega)] at this
theorem CR_21 {h : mMem} {o : Nat} {t : Nat → Nat} (c : CR h o t) (hw : Wf t) {k : Nat} (hk : k < t 1) : h (o + 4) k = nI (t (21 + k)) := by
  have h5 := hw.2.1.2
  have := c (21 + k) (by unfold Rl; omega)
  rwa [lo_21 (by omega)] at this
theorem CR_28 {h : mMem} {o : Nat} {t : Nat → Nat} (c : CR h o t) (hw : Wf t) {k : Nat} (hk : k < t 1) : h (o + 5) k = nI (t (28 + k)) := by
  have h5 := hw.2.1.2
  have := c (28 + k) (by unfold Rl; omega)
  rwa [lo_28 (by omega)] at this
theorem CR_35 {h : mMem} {o : Nat} {t : Nat → Nat} (c : CR h o t) (hw : Wf t) {k : Nat} (hk : k < t 1) : h (o + 6) k = nI (t (35 + k)) := by
  have h5 := hw.2.1.2
  have := c (35 + k) (by unfold Rl; omega)
  rwa [lo_35 (by omega)] at this
theorem CR_42 {h : mMem} {o : Nat} {t : Nat → Nat} (c : CR h o t) (hw : Wf t) {k : Nat} (hk : k < t 1) : h (o + 7) k = nI (t (42 + k)) := by
  have h5 := hw.2.1.2
  have := c (42 + k) (by unfold Rl; omega)
  rwa [lo_42 (by omega)] at this
/-- a change of one number -/
theorem CR_up {h : mMem} {o : Nat} {t : Nat → Nat} (c : CR h o t) (hw : Wf t) {j v a i : Nat} (h2 : 2 ≤ j) (h5 : j < 50) (hl : lo o j = (a, i)) : CR (up2 h a i (nI v)) o (tset t j v) := by
  intro k hk
  have hk' : Rl t k := by
    unfold Rl at hk ⊢
    rw [ts_o (show 0 ≠ j by omega), ts_o (show 1 ≠ j by omega)] at hk
    exact hk
  by_cases e : k = j
  · subst e
    rw [hl, ts_s]
    simp [up2]
  · rw [ts_o e]
    have hne : ¬ ((lo o k).1 = a ∧ (lo o k).2 = i) := by
      rintro ⟨e1, e2⟩
      apply e
      apply lo_inj (o := o) (Rl_lt hw hk') h5
      rw [hl, ← e1, ← e2]
    simp only [up2, hne, if_false]
    exact c k hk'
/-- what isn't the house's own doesn't matter -/
theorem CR_fr {h h' : mMem} {o : Nat} {t : Nat → Nat} (c : CR h o t) (hf : ∀ a i, o ≤ a → a < o + 8 → h' a i = h a i) : CR h' o t := fun j hj => by
  obtain ⟨h1, h2⟩ := lo_in (o := o) (j := j)
  rw [hf _ _ h1 h2]
  exact c j hj
theorem MR_up {h : mMem} {b : Nat} {t : Nat → Nat} (c : MR h b t) {j v i : Nat} (h5 : j < 50) (hi : i = 50 * b + j) : MR (up2 h 107 i (nI v)) b (tset t j v) := by
  intro k hk
  by_cases e : k = j
  · subst e
    rw [ts_s]
    simp [up2, hi]
  · rw [ts_o e]
    have hne : ¬ (50 * b + k = i) := by omega
    simp only [up2, hne, and_false, if_false]
    exact c k hk
theorem MR_fr {h h' : mMem} {b : Nat} {t : Nat → Nat} (c : MR h b t) (hf : ∀ i, 50 * b ≤ i → i < 50 * b + 50 → h' 107 i = h 107 i) : MR h' b t := fun j hj => by
  rw [hf _ (by omega) (by omega)]
  exact c j hj
