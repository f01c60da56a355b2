/-! ===== the mini machine's runs, by what holds behind them ===== -/
/-- an instruction's bytes -/
def mLen (ins : Instr) (n : Nat) : Bool := match ins with
  | .bipush _ | .iload _ | .lload _ | .aload _ | .istore _ | .lstore _ | .astore _ | .ldc _ | .newarray _ => n == 2
  | .sipush _ | .iinc _ _ | .ldc_w _ | .ldc2_w _ | .goto _ | .ifCond _ _ | .if_icmp _ _ | .getfield _ | .putfield _ | .getstatic _ | .new _ | .anewarray _ | .invokevirtual _ | .invokestatic _ | .invokespecial _ => n == 3
  | .multianewarray _ _ => n == 4
  | .tableswitch _ _ _ _ | .lookupswitch _ _ => true
  | _ => n == 1
abbrev mQ : Type := Option Value → mSt → Prop
abbrev mE : Type := mRec → List Value → mSt → mQ → Prop
/-- what is to be done at a place -/
def mAt (M : mRec) (ct : Option (Nat × Nat)) (pc : Nat) (ls st : List Value) (σ : mSt) : Option mNx := match decode M.2.2.1 pc with
  | .ok (ins, len) => if mLen ins len = true then mStep M.1 ct M.2.2.2.2.1 ins pc ls st σ else none
  | .error _ => none
def wpx (E : mE) (M : mRec) (ct : Option (Nat × Nat)) : Nat → Nat → List Value → List Value → mSt → mQ → Prop
  | 0, _, _, _, _, _ => False
  | n + 1, pc, ls, st, σ, Q => match mAt M ct pc ls st σ with
    | some (.inl (pc', ls', st', σ')) => wpx E M ct n pc' ls' st' σ' Q
    | some (.inr (.inl (r, σ'))) => Q r σ'
    | some (.inr (.inr (M', as, rest))) => E M' as σ (fun r σ' => wpx E M ct n (pc + 3) ls (r.toList ++ rest) σ' Q)
    | none => False
/-- a method's run, with so many calls open at most -/
def WP : Nat → mE
  | 0, _, _, _, _ => False
  | d + 1, M, as, σ, Q => ∃ n, wpx (WP d) M (M.2.2.2.2.2.2.map (fun q => (σ.1.length + q.1, ssum σ.1 + q.2))) n 0 (iniL as M.2.2.2.1) [] σ Q
def Wp (d : Nat) (M : mRec) (ct : Option (Nat × Nat)) (pc : Nat) (ls st : List Value) (σ : mSt) (Q : mQ) : Prop := ∃ n, wpx (WP d) M ct n pc ls st σ Q
theorem wpx_mono {E E' : mE} {M : mRec} {ct : Option (Nat × Nat)} (hE : ∀ M as σ (Q Q' : mQ), (∀ r σ', Q r σ' → Q' r σ') → E M as σ Q → E' M as σ Q') : ∀ n pc ls st σ (Q Q' : mQ), (∀ r σ', Q r σ' → Q' r σ') → wpx E M ct n pc ls st σ Q → wpx E' M ct (n) pc ls st σ Q' := by
  intro n
  induction n with
  | zero => intro pc ls st σ Q Q' hQ h; exact h
  | succ n ih =>
    intro pc ls st σ Q Q' hQ h
    simp only [wpx] at h ⊢
    split at h
    · exact ih _ _ _ _ _ _ hQ h
    · exact hQ _ _ h
    · exact hE _ _ _ _ _ (fun r σ' h => ih _ _ _ _ _ _ hQ h) h
    · exact h
theorem WP_mono : ∀ d M as σ (Q Q' : mQ), (∀ r σ', Q r σ' → Q' r σ') → WP d M as σ Q → WP d M as σ Q' := by
  intro d
  induction d with
  | zero => intro M as σ Q Q' _ h; exact h
  | succ d ih =>
    intro M as σ Q Q' hQ h
    obtain ⟨n, h⟩ := h
    exact ⟨n, wpx_mono ih n _ _ _ _ _ _ hQ h⟩
/-- more time -/
theorem wpx_more {E : mE} {M : mRec} {ct : Option (Nat × Nat)} (hE : ∀ M as σ (Q Q' : mQ), (∀ r σ', Q r σ' → Q' r σ') → E M as σ Q → E M as σ Q') : ∀ n k pc ls st σ (Q : mQ), wpx E M ct n pc ls st σ Q → wpx E M ct (n + k) pc ls st σ Q := by
  intro n
  induction n with
  | zero => intro k pc ls st σ Q h; exact h.elim
  | succ n ih =>
    intro k pc ls st σ Q h
    rw [show n + 1 + k = (n + k) + 1 by omega]
    simp only [wpx] at h ⊢
    split at h
    · exact ih _ _ _ _ _ _ h
    · exact h
    · exact hE _ _ _ _ _ (fun r σ' h => ih _ _ _ _ _ _ h) h
    · exact h
/-- a run has one end -/
theorem wpx_det {E : mE} {M : mRec} {ct : Option (Nat × Nat)} (hE : ∀ M as σ (Q : mQ), E M as σ Q → ∃ r σ', Q r σ' ∧ ∀ Q' : mQ, Q' r σ' → E M as σ Q') : ∀ n pc ls st σ (Q : mQ), wpx E M ct n pc ls st σ Q → ∃ r σ', Q r σ' ∧ ∀ Q' : mQ, Q' r σ' → wpx E M ct n pc ls st σ Q' := by
  intro n
  induction n with
  | zero => intro pc ls st σ Q h; exact h.elim
  | succ n ih =>
    intro pc ls st σ Q h
    simp only [wpx] at h ⊢
    split at h
    · exact ih _ _ _ _ _ h
    · exact ⟨_, _, h, fun Q' h => h⟩
    · obtain ⟨r, σ', h1, h2⟩ := hE _ _ _ _ h
      obtain ⟨r2, σ2, h3, h4⟩ := ih _ _ _ _ _ h1
      exact ⟨r2, σ2, h3, fun Q' hQ' => h2 _ (h4 Q' hQ')⟩
    · exact h.elim
theorem WP_det : ∀ d M as σ (Q : mQ), WP d M as σ Q → ∃ r σ', Q r σ' ∧ ∀ Q' : mQ, Q' r σ' → WP d M as σ Q' := by
  intro d
  induction d with
  | zero => intro M as σ Q h; exact h.elim
  | succ d ih =>
    intro M as σ Q h
    obtain ⟨n, h⟩ := h
    obtain ⟨r, σ', h1, h2⟩ := wpx_det ih n _ _ _ _ _ h
    exact ⟨r, σ', h1, fun Q' hQ' => ⟨n, h2 Q' hQ'⟩⟩
/-! one step, as an equation -/
theorem Wp_go {d : Nat} {M : mRec} {ct : Option (Nat × Nat)} {pc : Nat} {ls st : List Value} {σ : mSt} {Q : mQ} {pc' : Nat} {ls' st' : List Value} {σ' : mSt} (h : mAt M ct pc ls st σ = some (.inl (pc', ls', st', σ'))) : Wp d M ct pc ls st σ Q = Wp d M ct pc' ls' st' σ' Q := by
  apply propext
  constructor
  · rintro ⟨n, hn⟩
    cases n with
    | zero => exact hn.elim
    | succ n =>
      simp only [wpx, h] at hn
      exact ⟨n, hn⟩
  · rintro ⟨n, hn⟩
    refine ⟨n + 1, ?_⟩
    simp only [wpx, h]
    exact hn
theorem Wp_end {d : Nat} {M : mRec} {ct : Option (Nat × Nat)} {pc : Nat} {ls st : List Value} {σ : mSt} {Q : mQ} {r : Option Value} {σ' : mSt} (h : mAt M ct pc ls st σ = some (.inr (.inl (r, σ')))) : Wp d M ct pc ls st σ Q = Q r σ' := by
  apply propext
  constructor
  · rintro ⟨n, hn⟩
    cases n with
    | zero => exact hn.elim
    | succ n =>
      simp only [wpx, h] at hn
      exact hn
  · intro hn
    refine ⟨1, ?_⟩
    simp only [wpx, h]
    exact hn
theorem Wp_call {d : Nat} {M : mRec} {ct : Option (Nat × Nat)} {pc : Nat} {ls st : List Value} {σ : mSt} {Q : mQ} {M' : mRec} {as rest : List Value} (h : mAt M ct pc ls st σ = some (.inr (.inr (M', as, rest)))) : Wp d M ct pc ls st σ Q = WP d M' as σ (fun r σ' => Wp d M ct (pc + 3) ls (r.toList ++ rest) σ' Q) := by
  apply propext
  constructor
  · rintro ⟨n, hn⟩
    cases n with
    | zero => exact hn.elim
    | succ n =>
      simp only [wpx, h] at hn
      exact WP_mono _ _ _ _ _ _ (fun r σ' h => ⟨n, h⟩) hn
  · intro hn
    obtain ⟨r, σ', ⟨n, h1⟩, h2⟩ := WP_det _ _ _ _ _ hn
    refine ⟨n + 1, ?_⟩
    simp only [wpx, h]
    exact h2 _ h1
theorem WP_in {d : Nat} {M : mRec} {as : List Value} {σ : mSt} {Q : mQ} : WP (d + 1) M as σ Q = Wp d M (M.2.2.2.2.2.2.map (fun q => (σ.1.length + q.1, ssum σ.1 + q.2))) 0 (iniL as M.2.2.2.1) [] σ Q := rfl
/-- the locals at the entry, behind the same for all -/
theorem WP_in0 {d : Nat} {o : Nat} {y : MethodName} {c : ByteArray} {n : Nat} {r : Option FieldType} {k : Nat} {as : List Value} {σ : mSt} {Q : mQ} : WP (d + 1) (o, y, c, n, r, k, none) as σ Q = Wp d (o, y, c, n, r, k, none) none 0 (iniL as n) [] σ Q := rfl
theorem mAt_of {M : mRec} {ct : Option (Nat × Nat)} {pc : Nat} {ls st : List Value} {σ : mSt} {ins : Instr} {len : Nat} {x : mNx} (hd : decode M.2.2.1 pc = .ok (ins, len)) (hl : mLen ins len = true) (hs : mStep M.1 ct M.2.2.2.2.1 ins pc ls st σ = some x) : mAt M ct pc ls st σ = some x := by
  unfold mAt
  rw [hd]
  simp only [hl, if_true]
  exact hs
