/-! ===== what every run keeps: the script; which kind of answer it gives ===== -/
def sm0 (σ σ' : mSt) : Prop := kd σ.1 0 = 4 → (σ'.2 0 = σ.2 0 ∧ kd σ'.1 0 = 4)
theorem sm0_r {σ : mSt} : sm0 σ σ := fun h => ⟨rfl, h⟩
theorem sm0_t {σ σ' σ'' : mSt} (a : sm0 σ σ') (b : sm0 σ' σ'') : sm0 σ σ'' := fun h => by
  obtain ⟨a1, a2⟩ := a h
  obtain ⟨b1, b2⟩ := b a2
  exact ⟨b1.trans a1, b2⟩
theorem sm0_u {σ : mSt} {a k : Nat} {x : Int32} (ha : kd σ.1 a ≠ 4) : sm0 σ (σ.1, up2 σ.2 a k x) := fun h => by
  have : a ≠ 0 := fun e => ha (by rw [e]; exact h)
  refine ⟨?_, h⟩
  funext i
  exact up2_n (by omega)
theorem sm0_c {σ : mSt} {a s b t n : Nat} (hb : kd σ.1 b ≠ 4) : sm0 σ (σ.1, cp2 σ.2 a s b t n) := fun h => by
  have : b ≠ 0 := fun e => hb (by rw [e]; exact h)
  refine ⟨?_, h⟩
  funext i
  exact cp2_out (by omega)
theorem kd_set {S : mSh} {a k b : Nat} {r : Option Nat} : kd (setR S a k r) b = kd S b := by
  unfold kd cel setR
  rw [List.getD_eq_getElem?_getD, List.getD_eq_getElem?_getD, List.getElem?_set]
  by_cases e : a = b
  · subst e
    rw [if_pos rfl]
    by_cases hl : a < S.length
    · rw [if_pos hl]
      unfold cel
      rw [List.getD_eq_getElem?_getD]
      rfl
    · rw [if_neg hl, List.getElem?_eq_none (by omega)]
  · rw [if_neg e]
theorem sm0_s {σ : mSt} {a k : Nat} {r : Option Nat} : sm0 σ (setR σ.1 a k r, σ.2) := fun h => ⟨rfl, by
  show kd (setR σ.1 a k r) 0 = 4
  rw [kd_set]
  exact h⟩
theorem sm0_a {σ : mSt} {X : mSh} : sm0 σ (σ.1 ++ X, cl2 σ.2 σ.1.length) := fun h => by
  have hl : 0 < σ.1.length := by
    rcases Nat.eq_zero_or_pos σ.1.length with e | e
    · exfalso
      have : σ.1 = [] := List.length_eq_zero_iff.mp e
      rw [this] at h
      revert h
      decide
    · exact e
  refine ⟨?_, ?_⟩
  · funext i
    show (if σ.1.length ≤ 0 then 0 else σ.2 0 i) = σ.2 0 i
    rw [if_neg (by omega)]
  · show kd (σ.1 ++ X) 0 = 4
    unfold kd cel at h ⊢
    rw [List.getD_eq_getElem?_getD] at h ⊢
    rw [List.getElem?_append_left hl]
    exact h
theorem smA1 {ins : Instr} {pc pc' : Nat} {ls st ls' st' : List Value} {σ σ' : mSt} (h : mStA1 ins pc ls st σ = some (some (.inl (pc', ls', st', σ')))) : sm0 σ σ' := by
  unfold mStA1 at h
  split at h
  all_goals (try (simp only [mLdI, mLdL, mLdA, mStI, mStA, mStL, mInc, mDup, mDup2, mPop, nxt] at h))
  all_goals (repeat' (split at h))
  all_goals (first | (cases h; done) | (cases h; exact sm0_r))
theorem smA2 {ins : Instr} {pc pc' : Nat} {ls st ls' st' : List Value} {σ σ' : mSt} (h : mStA2 ins pc ls st σ = some (some (.inl (pc', ls', st', σ')))) : sm0 σ σ' := by
  unfold mStA2 at h
  split at h
  all_goals (try (simp only [mBin, mBinZ, mBinL, mBinLZ, mUn, mL2i, mLcmp, nxt] at h))
  all_goals (repeat' (split at h))
  all_goals (first | (cases h; done) | (cases h; exact sm0_r))
theorem smA3 {o : Nat} {ins : Instr} {pc pc' : Nat} {ls st ls' st' : List Value} {σ σ' : mSt} (h : mStA3 o ins pc ls st σ = some (some (.inl (pc', ls', st', σ')))) : sm0 σ σ' := by
  unfold mStA3 at h
  split at h
  all_goals (try (simp only [mPushI, mIf1, mIf2, mJmp, mSw, nxt] at h))
  all_goals (repeat' (split at h))
  all_goals (first | (cases h; done) | (cases h; exact sm0_r))
theorem smB {o : Nat} {ct : Option (Nat × Nat)} {ins : Instr} {pc pc' : Nat} {ls st ls' st' : List Value} {σ σ' : mSt} (h : mStB o ct ins pc ls st σ = some (some (.inl (pc', ls', st', σ')))) : sm0 σ σ' := by
  unfold mStB at h
  split at h
  all_goals (try (simp only [mGet, mPut, mIald, mBald, mAald, mIast, mBast, mAlen, mNew, mNwa, mAnw, mMna, mAast, nxt] at h))
  all_goals (repeat' (split at h))
  all_goals (first
    | (cases h; done)
    | (cases h; exact sm0_r)
    | (cases h; exact sm0_s)
    | (cases h; exact sm0_a)
    | (rename_i hq; cases h; exact sm0_u (by omega)))
theorem smC {o : Nat} {ct : Option (Nat × Nat)} {ret : Option FieldType} {ins : Instr} {pc pc' : Nat} {ls st ls' st' : List Value} {σ σ' : mSt} (h : mStC o ct ret ins pc ls st σ = some (some (.inl (pc', ls', st', σ')))) : sm0 σ σ' := by
  unfold mStC at h
  split at h
  all_goals (try (simp only [mInvV, mInvS, mInvI, mAcy, mMmx, mCallR, mIret, mLret, mAret, mVret, mEnd, nxt] at h))
  all_goals (repeat' (split at h))
  all_goals (first | (cases h; done) | (cases h; exact sm0_r) | (rename_i hq; cases h; exact sm0_c (by omega)))
theorem sm_step {o : Nat} {ct : Option (Nat × Nat)} {ret : Option FieldType} {ins : Instr} {pc pc' : Nat} {ls st ls' st' : List Value} {σ σ' : mSt} (h : mStep o ct ret ins pc ls st σ = some (.inl (pc', ls', st', σ'))) : sm0 σ σ' := by
  rcases mStep_cases h with h | h | h | h | h
  · exact smA1 h
  · exact smA2 h
  · exact smA3 h
  · exact smB h
  · exact smC h
def rty (ret : Option FieldType) (r : Option Value) : Prop := (ret = some .int → ∃ x, r = some (.int x)) ∧ (ret = some .long → ∃ x, r = some (.long x))
theorem smE {o : Nat} {ct : Option (Nat × Nat)} {ret : Option FieldType} {ins : Instr} {pc : Nat} {ls st : List Value} {σ σ' : mSt} {r : Option Value} (h : mStep o ct ret ins pc ls st σ = some (.inr (.inl (r, σ')))) : σ' = σ ∧ rty ret r := by
  rcases mStep_cases h with h | h | h | h | h
  · exact (noA1 h).elim
  · exact (noA2 h).elim
  · exact (noA3 h).elim
  · exact (noB h).elim
  · unfold mStC at h
    split at h
    all_goals (try (simp only [mInvV, mInvS, mInvI, mAcy, mMmx, mCallR, mIret, mLret, mAret, mVret, mEnd, nxt] at h))
    all_goals (repeat' (split at h))
    all_goals (first
      | (cases h; done)
      | (cases h; exact ⟨rfl, ⟨(fun _ => ⟨_, rfl⟩), (fun e => by cases e)⟩⟩)
      | (cases h; exact ⟨rfl, ⟨(fun e => by cases e), (fun _ => ⟨_, rfl⟩)⟩⟩)
      | (cases h; exact ⟨rfl, ⟨(fun e => by cases e), (fun e => by cases e)⟩⟩))
theorem wpx_t {E : mE} {M : mRec} {ct : Option (Nat × Nat)} (hE : ∀ M as σ (Q : mQ), E M as σ Q → ∃ r σ', Q r σ' ∧ sm0 σ σ') : ∀ n pc ls st σ (Q : mQ), wpx E M ct n pc ls st σ Q → ∃ r σ', Q r σ' ∧ sm0 σ σ' ∧ rty M.2.2.2.2.1 r := by
  intro n
  induction n with
  | zero => intro pc ls st σ Q h; exact h.elim
  | succ n ih =>
    intro pc ls st σ Q h
    simp only [wpx] at h
    split at h
    · rename_i pc' ls' st' σ' hat
      obtain ⟨ins, len, hd, hl, hs⟩ := mAt_spec hat
      obtain ⟨r, σ2, h1, h2, h3⟩ := ih _ _ _ _ _ h
      exact ⟨r, σ2, h1, sm0_t (sm_step hs) h2, h3⟩
    · rename_i r σ' hat
      obtain ⟨ins, len, hd, hl, hs⟩ := mAt_spec hat
      obtain ⟨rfl, h2⟩ := smE hs
      exact ⟨r, _, h, sm0_r, h2⟩
    · obtain ⟨r, σ1, h1, h2⟩ := hE _ _ _ _ h
      obtain ⟨r2, σ2, h3, h4, h5⟩ := ih _ _ _ _ _ h1
      exact ⟨r2, σ2, h3, sm0_t h2 h4, h5⟩
    · exact h.elim
theorem WP_t : ∀ d M as σ (Q : mQ), WP d M as σ Q → ∃ r σ', Q r σ' ∧ sm0 σ σ' ∧ rty M.2.2.2.2.1 r := by
  intro d
  induction d with
  | zero => intro M as σ Q h; exact h.elim
  | succ d ih =>
    intro M as σ Q h
    obtain ⟨n, h⟩ := h
    exact wpx_t (fun M as σ Q h => by obtain ⟨r, σ', h1, h2, -⟩ := ih M as σ Q h; exact ⟨r, σ', h1, h2⟩) n _ _ _ _ _ h
/-- of a run whose end is known: the script is as it was; the answer is of its kind -/
theorem WP_k {d L : Nat} {M : mRec} {as : List Value} {h h1 : mMem} {v : Value} (e : ∀ Q, WP d M as (S0 L, h) Q = Q (some v) (S0 L, h1)) : h1 0 = h 0 ∧ (M.2.2.2.2.1 = some .int → ∃ x, v = .int x) ∧ (M.2.2.2.2.1 = some .long → ∃ x, v = .long x) := by
  have h0 : WP d M as (S0 L, h) (fun r σ => r = some v ∧ σ = (S0 L, h1)) := by
    rw [e]
    exact ⟨rfl, rfl⟩
  obtain ⟨r, σ', ⟨rfl, rfl⟩, h3, h4, h5⟩ := WP_t _ _ _ _ _ h0
  have k4 : kd (S0 L) 0 = 4 := rfl
  refine ⟨(h3 k4).1, fun e => ?_, fun e => ?_⟩
  · obtain ⟨x, hx⟩ := h4 e
    exact ⟨x, Option.some.inj hx⟩
  · obtain ⟨x, hx⟩ := h5 e
    exact ⟨x, Option.some.inj hx⟩
