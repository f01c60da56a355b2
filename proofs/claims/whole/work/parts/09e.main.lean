/-! ===== soundness of the mini machine ===== -/
theorem mStep_cases {o : Nat} {ct : Option (Nat × Nat)} {ret : Option FieldType} {ins : Instr} {pc : Nat} {ls st : List Value} {σ : mSt} {x : mNx} (h : mStep o ct ret ins pc ls st σ = some x) :
    mStA1 ins pc ls st σ = some (some x) ∨ mStA2 ins pc ls st σ = some (some x) ∨ mStA3 o ins pc ls st σ = some (some x) ∨ mStB o ct ins pc ls st σ = some (some x) ∨ mStC o ct ret ins pc ls st σ = some (some x) := by
  unfold mStep at h
  split at h
  · rename_i r h1; subst h; exact Or.inl h1
  · split at h
    · rename_i r h1; subst h; exact Or.inr (Or.inl h1)
    · split at h
      · rename_i r h1; subst h; exact Or.inr (Or.inr (Or.inl h1))
      · split at h
        · rename_i r h1; subst h; exact Or.inr (Or.inr (Or.inr (Or.inl h1)))
        · split at h
          · rename_i r h1; subst h; exact Or.inr (Or.inr (Or.inr (Or.inr h1)))
          · cases h
theorem mAt_spec {M : mRec} {ct : Option (Nat × Nat)} {pc : Nat} {ls st : List Value} {σ : mSt} {x : mNx} (h : mAt M ct pc ls st σ = some x) : ∃ ins len, decode M.2.2.1 pc = .ok (ins, len) ∧ mLen ins len = true ∧ mStep M.1 ct M.2.2.2.2.1 ins pc ls st σ = some x := by
  unfold mAt at h
  split at h
  · rename_i ins len hd
    split at h
    · rename_i hl
      exact ⟨ins, len, hd, hl, h⟩
    · cases h
  · cases h
section
variable {p : Program} {l : Launch} {e : Env} {R : Room} {s : State} {m : MethodId} {args : Array Value} {below : List Frame} {meth : Method} {c : Code} {H : Heap} {locs : List Loc} {cells slots : Nat} {Q : State → Prop}
variable {G : mG} {cc : ByteArray} {nL o pc pc' len : Nat} {ls st ls' st' : List Value} {lr : Array Slot} {σ σ' : mSt} {ins : Instr} {i : Nat} {ct : Option (Nat × Nat)} {ret : Option FieldType}
theorem simB (C : Cx G p s m args c cc nL o) (hnm : ct.isSome = true → meth.name = "<init>") (hd : decode cc pc = .ok (ins, len)) (hl : mLen ins len = true) (hL : LR G nL ls lr) (hW : Wd G s H σ) (hS : va_S (aA G) s.heap H locs) (hb0 : G.2.2.1 ≤ s.heap.size) (hz : ∀ q, ct = some q → s.heap.size + cells = G.2.2.1 + (σ.1.length - 4) ∧ cells + (q.1 - σ.1.length) ≤ R.cells ∧ slots + (q.2 - ssum σ.1) ≤ R.slots) (h : mStB o ct ins pc ls st σ = some (some (.inl (pc', ls', st', σ'))))
    (kk : ∀ (n k : Nat) (lr' : Array Slot) (H1 : Heap) (locs1 : List Loc), σ'.1.length = σ.1.length + n → ssum σ'.1 = ssum σ.1 + k → LR G nL ls' lr' → Wd G s H1 σ' → va_S (aA G) s.heap H1 locs1 → W p l e R s m args below meth c H1 locs1 (cells + n) (slots + k) Q (F0 m pc' lr' (st'.map (rl G)))) : W p l e R s m args below meth c H locs cells slots Q (F0 m pc lr (st.map (rl G))) := by
  unfold mStB at h
  split at h
  · have h1 : len = 3 := by simpa [mLen] using hl
    subst h1
    exact simGet C hd hW (Option.some.inj h) (fun _ e2 e3 => by subst e2; subst e3; exact kk 0 0 lr H locs rfl rfl hL hW hS)
  · have h1 : len = 3 := by simpa [mLen] using hl
    subst h1
    exact simPut C hd hW hS hb0 hnm (Option.some.inj h) (fun _ e2 e3 e4 H1 locs1 hW1 hS1 => by subst e2; exact kk 0 0 lr H1 locs1 e3 e4 hL hW1 hS1)
  · have h1 : len = 3 := by simpa [mLen] using hl
    subst h1
    split at h
    · rename_i b hc
      cases h
      exact simStc C hd hS hc (kk 0 0 lr H locs rfl rfl hL hW hS)
    · cases h
  · have h1 : len = 1 := by simpa [mLen] using hl
    subst h1
    exact simIald C hd hW (Option.some.inj h) (fun _ e2 e3 => by subst e2; subst e3; exact kk 0 0 lr H locs rfl rfl hL hW hS)
  · have h1 : len = 1 := by simpa [mLen] using hl
    subst h1
    exact simBald C hd hW (Option.some.inj h) (fun _ e2 e3 => by subst e2; subst e3; exact kk 0 0 lr H locs rfl rfl hL hW hS)
  · have h1 : len = 1 := by simpa [mLen] using hl
    subst h1
    exact simAald C hd hW (Option.some.inj h) (fun _ e2 e3 => by subst e2; subst e3; exact kk 0 0 lr H locs rfl rfl hL hW hS)
  · have h1 : len = 1 := by simpa [mLen] using hl
    subst h1
    exact simIast C hd hW hS hb0 (Option.some.inj h) (fun _ e2 e3 H1 locs1 hW1 hS1 => by subst e2; exact kk 0 0 lr H1 locs1 (by rw [e3]; rfl) (by rw [e3]; rfl) hL hW1 hS1)
  · have h1 : len = 1 := by simpa [mLen] using hl
    subst h1
    exact simBast C hd hW hS hb0 (Option.some.inj h) (fun _ e2 e3 H1 locs1 hW1 hS1 => by subst e2; exact kk 0 0 lr H1 locs1 (by rw [e3]; rfl) (by rw [e3]; rfl) hL hW1 hS1)
  · have h1 : len = 1 := by simpa [mLen] using hl
    subst h1
    exact simAlen C hd hW (Option.some.inj h) (fun _ e2 e3 => by subst e2; subst e3; exact kk 0 0 lr H locs rfl rfl hL hW hS)
  · have h1 : len = 3 := by simpa [mLen] using hl
    subst h1
    exact simNew C hd hW hS hb0 hz (Option.some.inj h) (fun _ e2 n k e3 e4 H1 hW1 hS1 => by subst e2; exact kk n k lr H1 locs e3 e4 hL hW1 hS1)
  · have h1 : len = 2 := by simpa [mLen] using hl
    subst h1
    exact simNwa C hd hW hS hb0 hz (Option.some.inj h) (fun _ e2 n k e3 e4 H1 hW1 hS1 => by subst e2; exact kk n k lr H1 locs e3 e4 hL hW1 hS1)
  · have h1 : len = 3 := by simpa [mLen] using hl
    subst h1
    exact simAnw C hd hW hS hb0 hz (Option.some.inj h) (fun _ e2 n k e3 e4 H1 hW1 hS1 => by subst e2; exact kk n k lr H1 locs e3 e4 hL hW1 hS1)
  · have h1 : len = 4 := by simpa [mLen] using hl
    subst h1
    exact simMna C hd hW hS hb0 hz (Option.some.inj h) (fun _ e2 n k e3 e4 H1 hW1 hS1 => by subst e2; exact kk n k lr H1 locs e3 e4 hL hW1 hS1)
  · have h1 : len = 1 := by simpa [mLen] using hl
    subst h1
    exact simAast C hd hW hS hb0 (Option.some.inj h) (fun _ e2 e3 e4 H1 locs1 hW1 hS1 => by subst e2; exact kk 0 0 lr H1 locs1 e3 e4 hL hW1 hS1)
  · cases h
theorem simC (C : Cx G p s m args c cc nL o) (hd : decode cc pc = .ok (ins, len)) (hl : mLen ins len = true) (hL : LR G nL ls lr) (hW : Wd G s H σ) (hS : va_S (aA G) s.heap H locs) (hb0 : G.2.2.1 ≤ s.heap.size) (hR : 1 ≤ R.frames ∧ 40 ≤ R.locals) (hcs : cells ≤ R.cells ∧ slots ≤ R.slots) (h : mStC o ct ret ins pc ls st σ = some (some (.inl (pc', ls', st', σ'))))
    (kk : ∀ (n k : Nat) (lr' : Array Slot) (H1 : Heap) (locs1 : List Loc), σ'.1.length = σ.1.length + n → ssum σ'.1 = ssum σ.1 + k → LR G nL ls' lr' → Wd G s H1 σ' → va_S (aA G) s.heap H1 locs1 → W p l e R s m args below meth c H1 locs1 (cells + n) (slots + k) Q (F0 m pc' lr' (st'.map (rl G)))) : W p l e R s m args below meth c H locs cells slots Q (F0 m pc lr (st.map (rl G))) := by
  unfold mStC at h
  split at h
  · exfalso
    have h := Option.some.inj h
    unfold mInvV at h
    split at h
    · split at h
      · split at h
        · split at h
          · unfold mCallR at h
            split at h <;> cases h
          · cases h
        · cases h
      · cases h
    · cases h
  · have h1 : len = 3 := by simpa [mLen] using hl
    subst h1
    have h := Option.some.inj h
    unfold mInvS at h
    split at h
    · rename_i hy
      exact simAcy C hL hd hW hS hb0 hR hy h (fun _ e2 e3 H1 locs1 hW1 hS1 => by subst e2; exact kk 0 0 lr H1 locs1 (by rw [e3]; rfl) (by rw [e3]; rfl) hL hW1 hS1)
    · split at h
      · rename_i t hm
        unfold mMmx at h
        split at h
        · rename_i y x r
          split at h
          · rename_i hsum
            cases h
            obtain ⟨hx, hb, hml, hown, hts, hK, -⟩ := C
            obtain ⟨ht, hlk⟩ := mmxF_spec hm
            have K := kk 0 0 lr H locs rfl rfl hL hW hS
            rcases ht with rfl | rfl
            · exact va_mmax hx hb (hml.trans hL.2.1.symm) hown (hts _ hlk) (hts _ (wAt_gw mmx_s0 rfl)) (hts _ (wAt_gw mmx_i rfl)) (hts _ (wAt_gw mmx_c0 rfl)) hR.1 (by rw [rl_sum]; omega) hcs.1 hcs.2 hd K
            · exact va_mmin hx hb (hml.trans hL.2.1.symm) hown (hts _ hlk) (hts _ (wAt_gw mmx_s1 rfl)) (hts _ (wAt_gw mmx_i rfl)) (hts _ (wAt_gw mmx_c1 rfl)) hR.1 (by rw [rl_sum]; omega) hcs.1 hcs.2 hd K
          · cases h
        · cases h
      · exfalso
        split at h
        · split at h
          · unfold mCallR at h
            split at h <;> cases h
          · cases h
        · cases h
  · have h1 : len = 3 := by simpa [mLen] using hl
    subst h1
    have h := Option.some.inj h
    unfold mInvI at h
    split at h
    · rename_i hy
      split at h
      · rename_i a r
        split at h
        · rename_i hsum
          cases h
          obtain ⟨hx, hb, hml, hown, hts, hK, -⟩ := C
          exact W.objInit hx hb hown (hts _ (obiF_spec hy)) (hts _ (wAt_gw obi_i rfl)) (hts _ (wAt_gw obi_c rfl)) rfl (hL.2.1.trans hml.symm) rfl hd hR.1 (by rw [rl_sum]; show 2 * 0 + _ + 12 ≤ _; omega) (kk 0 0 lr H locs rfl rfl hL hW hS)
        · cases h
      · cases h
    · exfalso
      split at h
      · split at h
        · split at h
          · split at h
            · unfold mCallR at h
              split at h <;> cases h
            · cases h
          · cases h
        · cases h
      · cases h
  · exfalso
    have h := Option.some.inj h
    unfold mIret mEnd at h
    split at h
    · split at h
      · cases h
      · split at h <;> cases h
    · split at h
      · split at h
        · cases h
        · split at h <;> cases h
      · cases h
    · cases h
  · exfalso
    have h := Option.some.inj h
    unfold mLret mEnd at h
    split at h
    · split at h
      · cases h
      · split at h <;> cases h
    · cases h
  · exfalso
    have h := Option.some.inj h
    unfold mAret mEnd at h
    split at h
    · split at h
      · cases h
      · split at h <;> cases h
    · cases h
  · exfalso
    have h := Option.some.inj h
    unfold mVret mEnd at h
    split at h
    · split at h
      · cases h
      · split at h <;> cases h
    · cases h
  · cases h
/-- ONE STEP -/
theorem sim1 (C : Cx G p s m args c cc nL o) (hnm : ct.isSome = true → meth.name = "<init>") (hd : decode cc pc = .ok (ins, len)) (hl : mLen ins len = true) (hL : LR G nL ls lr) (hW : Wd G s H σ) (hS : va_S (aA G) s.heap H locs) (hb0 : G.2.2.1 ≤ s.heap.size) (hR : 1 ≤ R.frames ∧ 40 ≤ R.locals) (hcs : cells ≤ R.cells ∧ slots ≤ R.slots) (hz : ∀ q, ct = some q → s.heap.size + cells = G.2.2.1 + (σ.1.length - 4) ∧ cells + (q.1 - σ.1.length) ≤ R.cells ∧ slots + (q.2 - ssum σ.1) ≤ R.slots) (h : mStep o ct ret ins pc ls st σ = some (.inl (pc', ls', st', σ')))
    (kk : ∀ (n k : Nat) (lr' : Array Slot) (H1 : Heap) (locs1 : List Loc), σ'.1.length = σ.1.length + n → ssum σ'.1 = ssum σ.1 + k → LR G nL ls' lr' → Wd G s H1 σ' → va_S (aA G) s.heap H1 locs1 → W p l e R s m args below meth c H1 locs1 (cells + n) (slots + k) Q (F0 m pc' lr' (st'.map (rl G)))) : W p l e R s m args below meth c H locs cells slots Q (F0 m pc lr (st.map (rl G))) := by
  rcases mStep_cases h with h | h | h | h | h
  · exact simA1 C hd hl hL h (fun e lr' hL' => by subst e; exact kk 0 0 lr' H locs rfl rfl hL' hW hS)
  · exact simA2 C hd hl hL h (fun e lr' hL' => by subst e; exact kk 0 0 lr' H locs rfl rfl hL' hW hS)
  · exact simA3 C hd hl hL h (fun e lr' hL' => by subst e; exact kk 0 0 lr' H locs rfl rfl hL' hW hS)
  · exact simB C hnm hd hl hL hW hS hb0 hz h kk
  · exact simC C hd hl hL hW hS hb0 hR hcs h kk
end
