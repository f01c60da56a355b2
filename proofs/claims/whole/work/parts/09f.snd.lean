/-! ===== soundness of the mini machine: ends, and all of it ===== -/
theorem noA1 {ins : Instr} {pc : Nat} {ls st : List Value} {σ : mSt} {y : (Option Value × mSt) ⊕ (mRec × List Value × List Value)} (h : mStA1 ins pc ls st σ = some (some (.inr y))) : False := by
  unfold mStA1 at h
  split at h
  all_goals (try (simp only [mLdI, mLdL, mLdA, mStI, mStA, mStL, mInc, mDup, mDup2, mPop, nxt] at h))
  all_goals (repeat' (split at h))
  all_goals (first | cases h)
theorem noA2 {ins : Instr} {pc : Nat} {ls st : List Value} {σ : mSt} {y : (Option Value × mSt) ⊕ (mRec × List Value × List Value)} (h : mStA2 ins pc ls st σ = some (some (.inr y))) : False := by
  unfold mStA2 at h
  split at h
  all_goals (try (simp only [mBin, mBinZ, mBinL, mBinLZ, mUn, mL2i, mLcmp, nxt] at h))
  all_goals (repeat' (split at h))
  all_goals (first | cases h)
theorem noA3 {o : Nat} {ins : Instr} {pc : Nat} {ls st : List Value} {σ : mSt} {y : (Option Value × mSt) ⊕ (mRec × List Value × List Value)} (h : mStA3 o ins pc ls st σ = some (some (.inr y))) : False := by
  unfold mStA3 at h
  split at h
  all_goals (try (simp only [mPushI, mIf1, mIf2, mJmp, mSw, nxt] at h))
  all_goals (repeat' (split at h))
  all_goals (first | cases h)
theorem noB {o : Nat} {ct : Option (Nat × Nat)} {ins : Instr} {pc : Nat} {ls st : List Value} {σ : mSt} {y : (Option Value × mSt) ⊕ (mRec × List Value × List Value)} (h : mStB o ct ins pc ls st σ = some (some (.inr y))) : False := by
  unfold mStB at h
  split at h
  all_goals (try (simp only [mGet, mPut, mIald, mBald, mAald, mIast, mBast, mAlen, mNew, mNwa, mAnw, mMna, mAast, nxt] at h))
  all_goals (repeat' (split at h))
  all_goals (first | cases h)
theorem mEnd_spec {ct : Option (Nat × Nat)} {v r : Option Value} {σ σ' : mSt} (h : mEnd ct v σ = some (.inr (.inl (r, σ')))) : r = v ∧ σ' = σ ∧ ∀ q, ct = some q → σ.1.length = q.1 ∧ ssum σ.1 = q.2 := by
  unfold mEnd at h
  split at h
  · cases h
    exact ⟨rfl, rfl, fun q h => by cases h⟩
  · split at h
    · rename_i hq
      cases h
      exact ⟨rfl, rfl, fun q h => by cases h; exact hq⟩
    · cases h
theorem setR_sum2 {S : mSh} {a k : Nat} {r : Option Nat} : ssum (setR S a k r) = ssum S ∧ (setR S a k r).length = S.length := by
  refine ⟨?_, List.length_set⟩
  rcases Nat.lt_or_ge a S.length with h | h
  · exact setR_sum h
  · unfold setR
    rw [List.set_eq_of_length_le h]
def grw (ct : Option (Nat × Nat)) (S S' : mSh) : Prop := (ct = none → S'.length = S.length ∧ ssum S' = ssum S) ∧ ∀ q, ct = some q → S.length ≤ q.1 ∧ ssum S ≤ q.2 → S'.length ≤ q.1 ∧ ssum S' ≤ q.2
theorem grw_rf {ct : Option (Nat × Nat)} {S : mSh} : grw ct S S := ⟨fun _ => ⟨rfl, rfl⟩, fun q _ h => h⟩
theorem grw_setR {ct : Option (Nat × Nat)} {S : mSh} {a k : Nat} {r : Option Nat} : grw ct S (setR S a k r) := ⟨fun _ => ⟨setR_sum2.2, setR_sum2.1⟩, fun q _ h => by rw [setR_sum2.2, setR_sum2.1]; exact h⟩
theorem grw_app {c : Nat × Nat} {S cs : mSh} (h1 : S.length + cs.length ≤ c.1) (h2 : ssum S + ssum cs ≤ c.2) : grw (some c) S (S ++ cs) := ⟨fun h => (by cases h), fun q hq _ => (by cases hq; rw [List.length_append, ssum_app]; exact ⟨h1, h2⟩)⟩
theorem ssum_nil : ssum [] = 0 := rfl
theorem ssum_cons (c : Nat × Nat × List (Option Nat)) (cs : mSh) : ssum (c :: cs) = c.2.1 + ssum cs := by simp [ssum]
theorem ssum_rep (n : Nat) (c : Nat × Nat × List (Option Nat)) : ssum (List.replicate n c) = n * c.2.1 := by simp [ssum, List.map_replicate, List.sum_replicate_nat]
theorem growA1 {ct : Option (Nat × Nat)} {ins : Instr} {pc pc' : Nat} {ls st ls' st' : List Value} {σ σ' : mSt} (h : mStA1 ins pc ls st σ = some (some (.inl (pc', ls', st', σ')))) : grw ct σ.1 σ'.1 := by
  unfold mStA1 at h
  split at h
  all_goals (try (simp only [mLdI, mLdL, mLdA, mStI, mStA, mStL, mInc, mDup, mDup2, mPop, nxt] at h))
  all_goals (repeat' (split at h))
  all_goals (first | (cases h; done) | (cases h; exact grw_rf))
theorem growA2 {ct : Option (Nat × Nat)} {ins : Instr} {pc pc' : Nat} {ls st ls' st' : List Value} {σ σ' : mSt} (h : mStA2 ins pc ls st σ = some (some (.inl (pc', ls', st', σ')))) : grw ct σ.1 σ'.1 := by
  unfold mStA2 at h
  split at h
  all_goals (try (simp only [mBin, mBinZ, mBinL, mBinLZ, mUn, mL2i, mLcmp, nxt] at h))
  all_goals (repeat' (split at h))
  all_goals (first | (cases h; done) | (cases h; exact grw_rf))
theorem growA3 {o : Nat} {ct : Option (Nat × Nat)} {ins : Instr} {pc pc' : Nat} {ls st ls' st' : List Value} {σ σ' : mSt} (h : mStA3 o ins pc ls st σ = some (some (.inl (pc', ls', st', σ')))) : grw ct σ.1 σ'.1 := by
  unfold mStA3 at h
  split at h
  all_goals (try (simp only [mPushI, mIf1, mIf2, mJmp, mSw, nxt] at h))
  all_goals (repeat' (split at h))
  all_goals (first | (cases h; done) | (cases h; exact grw_rf))
theorem growB {o : Nat} {ct : Option (Nat × Nat)} {ins : Instr} {pc pc' : Nat} {ls st ls' st' : List Value} {σ σ' : mSt} (h : mStB o ct ins pc ls st σ = some (some (.inl (pc', ls', st', σ')))) : grw ct σ.1 σ'.1 := by
  unfold mStB at h
  split at h
  all_goals (try (simp only [mGet, mPut, mIald, mBald, mAald, mIast, mBast, mAlen, mNew, mNwa, mAnw, mMna, mAast, nxt] at h))
  all_goals (repeat' (split at h))
  all_goals (first
    | (cases h; done)
    | (cases h; exact grw_rf)
    | (cases h; exact grw_setR)
    | (rename_i hq; cases h; exact grw_app (by simp only [List.length_cons, List.length_nil, List.length_replicate]; omega) (by simp only [ssum_cons, ssum_nil, ssum_rep]; omega)))
theorem growC {o : Nat} {ct : Option (Nat × Nat)} {ret : Option FieldType} {ins : Instr} {pc pc' : Nat} {ls st ls' st' : List Value} {σ σ' : mSt} (h : mStC o ct ret ins pc ls st σ = some (some (.inl (pc', ls', st', σ')))) : grw ct σ.1 σ'.1 := by
  unfold mStC at h
  split at h
  all_goals (try (simp only [mInvV, mInvS, mInvI, mAcy, mMmx, mCallR, mIret, mLret, mAret, mVret, mEnd, nxt] at h))
  all_goals (repeat' (split at h))
  all_goals (first | (cases h; done) | (cases h; exact grw_rf))
theorem grow {o : Nat} {ct : Option (Nat × Nat)} {ret : Option FieldType} {ins : Instr} {pc pc' : Nat} {ls st ls' st' : List Value} {σ σ' : mSt} (h : mStep o ct ret ins pc ls st σ = some (.inl (pc', ls', st', σ'))) : grw ct σ.1 σ'.1 := by
  rcases mStep_cases h with h | h | h | h | h
  · exact growA1 h
  · exact growA2 h
  · exact growA3 h
  · exact growB h
  · exact growC h
section
variable {p : Program} {l : Launch} {e : Env} {s : State} {m : MethodId} {args : Array Value} {below : List Frame} {meth : Method} {c : Code} {H : Heap} {locs : List Loc} {cells slots : Nat}
variable {G : mG} {pc : Nat} {ls st : List Value} {lr : Array Slot} {σ σ0 σ' : mSt} {ins : Instr} {ct : Option (Nat × Nat)}
theorem simEnd {M : mRec} {d len : Nat} {r : Option Value} {Q : mQ} (C : Cx G p s m args c M.2.2.1 M.2.2.2.1 M.1) (hret : meth.sig.returnType = M.2.2.2.2.1) (hlk : meth.locks = false) (hct : ct = M.2.2.2.2.2.2.map (fun q => (σ0.1.length + q.1, ssum σ0.1 + q.2))) (hd : decode M.2.2.1 pc = .ok (ins, len)) (hl : mLen ins len = true) (hW : Wd G s H σ) (hS : va_S (aA G) s.heap H locs) (hb0 : G.2.2.1 ≤ s.heap.size) (hcs : cells ≤ (bq M).1 ∧ slots ≤ (bq M).2) (h : mStC M.1 ct M.2.2.2.2.1 ins pc ls st σ = some (some (.inr (.inl (r, σ'))))) (hQ : Q r σ') :
    W p l e (rmd (d + 1) (bq M)) s m args below meth c H locs cells slots (MQ below (QcM G M σ0 Q) args s (bq M).1 (bq M).2 (aA G)) (F0 m pc lr (st.map (rl G))) := by
  have key : ∀ v : Option Value, mEnd ct v σ = some (.inr (.inl (r, σ'))) → ∀ t : State, t.heap = H → s.WarmedH t.vm → QcM G M σ0 Q args s (.returned (v.map (rl G))) t := by
    intro v hv t ht hw
    obtain ⟨rfl, rfl, hq⟩ := mEnd_spec hv
    refine ⟨r, σ', rfl, hQ, Ent_of C hW hS hb0 ht hw, hS.F ht, fun q hq2 => ?_⟩
    rw [hq2] at hct
    exact hq _ hct
  obtain ⟨hx, hb, -⟩ := C
  refine W.widen hcs.1 hcs.2 ?_
  unfold mStC at h
  split at h
  · exfalso
    replace h := Option.some.inj h
    unfold mInvV at h
    split at h
    · split at h
      · split at h
        · split at h
          · unfold mCallR at h
            split at h <;> cases h
          · cases h
        · cases h
      · cases h
    · cases h
  · exfalso
    replace h := Option.some.inj h
    unfold mInvS at h
    split at h
    · unfold mAcy at h
      split at h
      · split at h <;> cases h
      · cases h
    · split at h
      · unfold mMmx at h
        split at h
        · split at h <;> cases h
        · cases h
      · split at h
        · split at h
          · unfold mCallR at h
            split at h <;> cases h
          · cases h
        · cases h
  · exfalso
    replace h := Option.some.inj h
    unfold mInvI at h
    split at h
    · split at h
      · split at h <;> cases h
      · cases h
    · split at h
      · split at h
        · split at h
          · split at h
            · unfold mCallR at h
              split at h <;> cases h
            · cases h
          · cases h
        · cases h
      · cases h
  · have h1 : len = 1 := by simpa [mLen] using hl
    subst h1
    replace h := Option.some.inj h
    unfold mIret at h
    split at h
    · rename_i v hr
      exact W.iret hx hb (hret.trans hr) (key _ h) hS.2.2 hd hlk
    · rename_i v hr
      split at h
      · rename_i hv
        exact W.zret hx hb (hret.trans hr) (by rcases hv with rfl | rfl <;> rfl) (key _ h) hS.2.2 hd hlk
      · cases h
    · cases h
  · have h1 : len = 1 := by simpa [mLen] using hl
    subst h1
    replace h := Option.some.inj h
    unfold mLret at h
    split at h
    · rename_i v hr
      exact W.lret hx hb (hret.trans hr) (key _ h) hS.2.2 hd hlk
    · cases h
  · have h1 : len = 1 := by simpa [mLen] using hl
    subst h1
    replace h := Option.some.inj h
    unfold mAret at h
    split at h
    · rename_i v C2 hr
      exact W.aret hx hb (hret.trans hr) (Or.inl ⟨_, rfl⟩) (Or.inr ⟨_, rfl⟩) (key _ h) hS.2.2 hd hlk
    · cases h
  · have h1 : len = 1 := by simpa [mLen] using hl
    subst h1
    replace h := Option.some.inj h
    unfold mVret at h
    split at h
    · rename_i hr
      exact W.vret hx hb (hret.trans hr) (key _ h) hS.2.2 hd hlk
    · cases h
  · cases h
end
theorem snd_body {l : Launch} {G : mG} {d : Nat} (IH : SndM l G d) {M : mRec} {σ0 : mSt} {ct : Option (Nat × Nat)} (hct : ct = M.2.2.2.2.2.2.map (fun q => (σ0.1.length + q.1, ssum σ0.1 + q.2))) : ∀ (n pc : Nat) (ls st : List Value) (σ : mSt) (Q : mQ), wpx (WP d) M ct n pc ls st σ Q →
    ∀ {p : Program} {e : Env} {s : State} {m : MethodId} {args : Array Value} {below : List Frame} {meth : Method} {c : Code} {H : Heap} {locs : List Loc} {cells slots : Nat} {lr : Array Slot}, Cx G p s m args c M.2.2.1 M.2.2.2.1 M.1 → meth.sig.returnType = M.2.2.2.2.1 → meth.locks = false → (ct.isSome = true → meth.name = "<init>") → LR G M.2.2.2.1 ls lr → Wd G s H σ → va_S (aA G) s.heap H locs → G.2.2.1 ≤ s.heap.size → cells ≤ (bq M).1 ∧ slots ≤ (bq M).2 →
      (∀ q, ct = some q → s.heap.size + cells = G.2.2.1 + (σ.1.length - 4) ∧ cells + (q.1 - σ.1.length) ≤ (bq M).1 ∧ slots + (q.2 - ssum σ.1) ≤ (bq M).2 ∧ σ.1.length ≤ q.1 ∧ ssum σ.1 ≤ q.2) → (ct = none → cells = 0 ∧ slots = 0) →
      W p l e (rmd (d + 1) (bq M)) s m args below meth c H locs cells slots (MQ below (QcM G M σ0 Q) args s (bq M).1 (bq M).2 (aA G)) (F0 m pc lr (st.map (rl G))) := by
  intro n
  induction n with
  | zero => intro pc ls st σ Q h; exact h.elim
  | succ n ih =>
    intro pc ls st σ Q h p e s m args below meth c H locs cells slots lr C hret hlk hnm hL hW hS hb0 hcs hz hcn
    have hR : 1 ≤ (rmd (d + 1) (bq M)).frames ∧ 40 ≤ (rmd (d + 1) (bq M)).locals := ⟨Nat.le_add_left 1 d, by show 40 ≤ 40 * (d + 1); omega⟩
    have hR2 : d + 1 ≤ (rmd (d + 1) (bq M)).frames ∧ 40 * (d + 1) ≤ (rmd (d + 1) (bq M)).locals := ⟨Nat.le_refl _, Nat.le_refl _⟩
    have hz1 : ∀ q, ct = some q → s.heap.size + cells = G.2.2.1 + (σ.1.length - 4) ∧ cells + (q.1 - σ.1.length) ≤ (rmd (d + 1) (bq M)).cells ∧ slots + (q.2 - ssum σ.1) ≤ (rmd (d + 1) (bq M)).slots := fun q hq => ⟨(hz q hq).1, (hz q hq).2.1, (hz q hq).2.2.1⟩
    simp only [wpx] at h
    split at h
    · rename_i pc' ls' st' σ' hat
      obtain ⟨ins, len, hd, hl, hs⟩ := mAt_spec hat
      obtain ⟨g1, g2⟩ := grow hs
      refine sim1 C hnm hd hl hL hW hS hb0 hR hcs hz1 hs (fun k1 k2 lr' H1 locs1 e1 e2 hL1 hW1 hS1 => ?_)
      have h4 := hW.1.1
      refine ih pc' ls' st' σ' Q h C hret hlk hnm hL1 hW1 hS1 hb0 ?_ (fun q hq => ?_) (fun hq => ?_)
      · cases hq : ct with
        | none =>
          obtain ⟨a1, a2⟩ := g1 hq
          have := hcn hq
          omega
        | some q =>
          obtain ⟨a1, a2⟩ := g2 q hq ⟨(hz q hq).2.2.2.1, (hz q hq).2.2.2.2⟩
          have := hz q hq
          omega
      · obtain ⟨a1, a2⟩ := g2 q hq ⟨(hz q hq).2.2.2.1, (hz q hq).2.2.2.2⟩
        have := hz q hq
        omega
      · obtain ⟨a1, a2⟩ := g1 hq
        have := hcn hq
        omega
    · rename_i r σ' hat
      obtain ⟨ins, len, hd, hl, hs⟩ := mAt_spec hat
      rcases mStep_cases hs with hs | hs | hs | hs | hs
      · exact (noA1 hs).elim
      · exact (noA2 hs).elim
      · exact (noA3 hs).elim
      · exact (noB hs).elim
      · exact simEnd C hret hlk hct hd hl hW hS hb0 hcs hs h
    · rename_i M' as rest hat
      obtain ⟨ins, len, hd, hl, hs⟩ := mAt_spec hat
      rcases mStep_cases hs with hs | hs | hs | hs | hs
      · exact (noA1 hs).elim
      · exact (noA2 hs).elim
      · exact (noA3 hs).elim
      · exact (noB hs).elim
      · unfold mStC at hs
        split at hs
        · have h1 : len = 3 := by simpa [mLen] using hl
          subst h1
          have hcnn : ct = none := by
            have h2 := Option.some.inj hs
            unfold mInvV at h2
            split at h2
            · rfl
            · cases h2
          exact simV IH C hL hd hW hS hb0 hR2 hcs.1 hcs.2 (Option.some.inj hs) h (fun r σ' H1 locs1 hQ hW1 hS1 => ih _ _ _ _ _ hQ C hret hlk hnm hL hW1 hS1 hb0 hcs (fun q hq => by rw [hcnn] at hq; cases hq) hcn)
        · have h1 : len = 3 := by simpa [mLen] using hl
          subst h1
          have hcnn : ct = none := by
            have h2 := Option.some.inj hs
            unfold mInvS at h2
            split at h2
            · exfalso
              unfold mAcy at h2
              split at h2
              · split at h2 <;> cases h2
              · cases h2
            · split at h2
              · exfalso
                unfold mMmx at h2
                split at h2
                · split at h2 <;> cases h2
                · cases h2
              · split at h2
                · rfl
                · cases h2
          exact simS IH C hL hd hW hS hb0 hR2 hcs.1 hcs.2 (Option.some.inj hs) h (fun r σ' H1 locs1 hQ hW1 hS1 => ih _ _ _ _ _ hQ C hret hlk hnm hL hW1 hS1 hb0 hcs (fun q hq => by rw [hcnn] at hq; cases hq) hcn)
        · have h1 : len = 3 := by simpa [mLen] using hl
          subst h1
          have hcap : ∃ q q2, ct = some q ∧ M'.2.2.2.2.2.2 = some q2 ∧ σ.1.length + q2.1 ≤ q.1 ∧ ssum σ.1 + q2.2 ≤ q.2 := by
            have h2 := Option.some.inj hs
            unfold mInvI at h2
            split at h2
            · exfalso
              split at h2
              · split at h2 <;> cases h2
              · cases h2
            · split at h2
              · split at h2
                · split at h2
                  · split at h2
                    · rename_i hf
                      unfold mCallR at h2
                      split at h2
                      · cases h2
                        exact ⟨_, _, rfl, by assumption, hf.1, hf.2⟩
                      · cases h2
                    · cases h2
                  · cases h2
                · cases h2
              · cases h2
          obtain ⟨q, q2, hq, hq2, f1, f2⟩ := hcap
          refine simI IH C hL hd hW hS hb0 hR2 hz1 (Option.some.inj hs) h (fun r σ' H1 locs1 hQ hW1 hS1 e1 e2 => ?_)
          have hbq : bq M' = q2 := by unfold bq; rw [hq2]; rfl
          rw [hbq] at e1 e2 ⊢
          have h4 := hW.1.1
          have hz2 := hz q hq
          refine ih _ _ _ _ _ hQ C hret hlk hnm hL hW1 hS1 hb0 (by omega) (fun q' hq' => ?_) (fun hn => by rw [hq] at hn; cases hn)
          have : q' = q := Option.some.inj (hq'.symm.trans hq)
          subst this
          omega
        · exfalso
          have h2 := Option.some.inj hs
          unfold mIret mEnd at h2
          split at h2
          · split at h2
            · cases h2
            · split at h2 <;> cases h2
          · split at h2
            · split at h2
              · cases h2
              · split at h2 <;> cases h2
            · cases h2
          · cases h2
        · exfalso
          have h2 := Option.some.inj hs
          unfold mLret mEnd at h2
          split at h2
          · split at h2
            · cases h2
            · split at h2 <;> cases h2
          · cases h2
        · exfalso
          have h2 := Option.some.inj hs
          unfold mAret mEnd at h2
          split at h2
          · split at h2
            · cases h2
            · split at h2 <;> cases h2
          · cases h2
        · exfalso
          have h2 := Option.some.inj hs
          unfold mVret mEnd at h2
          split at h2
          · split at h2
            · cases h2
            · split at h2 <;> cases h2
          · cases h2
        · cases hs
    · exact h.elim
theorem lg_len (vs : List Value) : (lg_sl vs).length = (vs.map fun v => v.category).sum := by
  induction vs with
  | nil => rfl
  | cons v t ih =>
    unfold lg_sl at ih ⊢
    rw [List.flatMap_cons, List.length_append, ih, List.map_cons, List.sum_cons]
    congr 1
    rcases lv_cat v with h | h <;> rw [h] <;> rfl
def fla (as : List Value) : List Value := as.flatMap (fun v => if v.category = 2 then [v, sec] else [v])
theorem fla_len (as : List Value) : (fla as).length = (as.map fun v => v.category).sum := by
  induction as with
  | nil => rfl
  | cons v t ih =>
    unfold fla at ih ⊢
    rw [List.flatMap_cons, List.length_append, ih, List.map_cons, List.sum_cons]
    congr 1
    rcases lv_cat v with h | h <;> rw [h] <;> rfl
/-- the locals at the entry -/
theorem ini_args (G : mG) : ∀ (as pre post : List Value) (q : Nat × Value), (∀ v ∈ post, v = jnk) → lvs1 G (pre ++ fla as ++ post) q.1 = some q → pre.length ≤ q.1 → q ∈ lv_args pre.length (as.map (rl G))
  | [], pre, post, q, hp, h, hl => by
    exfalso
    unfold lvs1 at h
    rw [show pre ++ fla [] ++ post = pre ++ post by simp [fla]] at h
    rw [List.getElem?_append_right hl] at h
    cases hc : post[q.1 - pre.length]? with
    | none => rw [hc] at h; cases h
    | some v =>
      rw [hc, hp v (List.mem_of_getElem? hc)] at h
      cases h
  | v :: t, pre, post, q, hp, h, hl => by
    rcases lv_cat v with hc | hc
    · have e : pre ++ fla (v :: t) ++ post = (pre ++ [v]) ++ fla t ++ post := by
        unfold fla
        rw [List.flatMap_cons, if_neg (by omega)]
        simp
      rw [e] at h
      show q ∈ (pre.length, rl G v) :: lv_args (if (rl G v).category = 2 then pre.length + 2 else pre.length + 1) (t.map (rl G))
      rw [rl_cat, if_neg (by omega)]
      by_cases hq : q.1 = pre.length
      · have hv : ((pre ++ [v]) ++ fla t ++ post)[q.1]? = some v := by
          rw [hq, List.append_assoc, List.append_assoc, List.getElem?_append_right (Nat.le_refl _), Nat.sub_self]
          rfl
        unfold lvs1 at h
        rw [hv] at h
        have : q = (pre.length, rl G v) := by
          rw [hq] at h
          cases v with
          | int x => cases h; rfl
          | long x => cases hc
          | float x => cases h
          | double x => cases hc
          | null => cases h
          | ref x => cases h; rfl
          | retAddr x => cases h
        rw [this]
        exact List.mem_cons_self
      · have := ini_args G t (pre ++ [v]) post q hp h (by simp; omega)
        rw [List.length_append] at this
        exact List.mem_cons_of_mem _ this
    · have e : pre ++ fla (v :: t) ++ post = (pre ++ [v, sec]) ++ fla t ++ post := by
        unfold fla
        rw [List.flatMap_cons, if_pos hc]
        simp
      rw [e] at h
      show q ∈ (pre.length, rl G v) :: lv_args (if (rl G v).category = 2 then pre.length + 2 else pre.length + 1) (t.map (rl G))
      rw [rl_cat, if_pos hc]
      by_cases hq : q.1 = pre.length
      · have hv : ((pre ++ [v, sec]) ++ fla t ++ post)[q.1]? = some v := by
          rw [hq, List.append_assoc, List.append_assoc, List.getElem?_append_right (Nat.le_refl _), Nat.sub_self]
          rfl
        unfold lvs1 at h
        rw [hv] at h
        have : q = (pre.length, rl G v) := by
          rw [hq] at h
          cases v with
          | int x => cases hc
          | long x =>
            dsimp only at h
            split at h
            · cases h; rfl
            · cases h
          | float x => cases hc
          | double x => cases h
          | null => cases hc
          | ref x => cases hc
          | retAddr x => cases hc
        rw [this]
        exact List.mem_cons_self
      · by_cases hq1 : q.1 = pre.length + 1
        · exfalso
          have hv : ((pre ++ [v, sec]) ++ fla t ++ post)[q.1]? = some sec := by
            rw [hq1, List.append_assoc, List.append_assoc, List.getElem?_append_right (by omega), show pre.length + 1 - pre.length = 1 by omega]
            rfl
          unfold lvs1 at h
          rw [hv] at h
          cases h
        · have := ini_args G t (pre ++ [v, sec]) post q hp h (by simp; omega)
          rw [List.length_append] at this
          exact List.mem_cons_of_mem _ this
theorem ini_LR {G : mG} {as : List Value} {n : Nat} (h : (as.map fun v => v.category).sum ≤ n) {lr : Array Slot} (hl : lv_has lr n (lv_args 0 (as.map (rl G)))) : LR G n (iniL as n) lr := by
  have hlen : (iniL as n).length = n := by
    show (fla as ++ List.replicate (n - (fla as).length) jnk).length = n
    rw [List.length_append, List.length_replicate, fla_len]
    omega
  refine ⟨hlen, lv_less hl (fun q hq => ?_)⟩
  have h1 := lvs_of hq
  exact ini_args G as [] (List.replicate (n - (fla as).length) jnk) q (fun v hv => (List.mem_replicate.mp hv).2) h1 (Nat.zero_le _)
/-- SOUNDNESS -/
theorem snd_all (l : Launch) (G : mG) : ∀ d, SndM l G d := by
  intro d
  induction d with
  | zero => intro M as σ Q _ _ h; exact h.elim
  | succ d IH =>
    intro M as σ Q hM has h
    obtain ⟨n, h⟩ := h
    refine Met.ofW (cc := M.2.2.1) (maxL := M.2.2.2.1) (ret := M.2.2.2.2.1) (by rw [hM.1]; exact hM.2.1) rfl ?_
    intro p e s m args below meth c s₁ B hml hv
    obtain ⟨rfl, ⟨hK, hZ, hW, hb0⟩, hsz⟩ := hv
    have hts0 := atoms_spec (ws := wsM M) B.pre
    have hts : ∀ w ∈ gw, w.before (as.map (rl G)).toArray s = true := fun w hw => hts0 w (List.mem_cons_of_mem _ hw)
    have hown : s.vm.findClass (cn M.1) = some m.cls := by rw [← hM.1]; exact findClass_of_methodNamed B.named
    have hl := lv_entry (as.map (rl G)) (n := M.2.2.2.1) (by rw [lg_len, rl_sum]; exact has)
    rw [lg_entry_eq]
    refine snd_body IH (σ0 := σ) rfl n 0 (iniL as M.2.2.2.1) [] σ Q h ⟨B.exec, B.bytes, hml, hown, hts, hK, hZ⟩ B.returns B.notSynchronized (fun hc => ?_) (ini_LR has hl) hW va_S.rf hb0 ⟨Nat.zero_le _, Nat.zero_le _⟩ (fun q hq => ?_) (fun _ => ⟨rfl, rfl⟩)
    · rw [(name_of_methodNamed B.named B.method).1]
      exact hM.2.2.2.2.2.2.2 (by rw [Option.isSome_map] at hc; exact hc)
    · rw [Option.map_eq_some_iff] at hq
      obtain ⟨q2, hq2, rfl⟩ := hq
      have hbq : bq M = q2 := by unfold bq; rw [hq2]; rfl
      have hs2 := hsz (by rw [hq2]; rfl)
      rw [hbq]
      dsimp only
      omega
