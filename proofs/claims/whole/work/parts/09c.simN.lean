/-! ===== a step of the mini machine is a step of the machine: makings ===== -/
def okc (c : Nat × Nat × List (Option Nat)) : Prop := (c.1 ≤ 3 ∧ (c.1 = 2 → c.2.2.length = c.2.1)) ∨ ∃ ci, ci < 9 ∧ c.1 = 10 + ci ∧ c.2.1 = nFl ci ∧ c.2.2.length = nFl ci
theorem cel_app_l {S cs : mSh} {k : Nat} (h : k < S.length) : cel (S ++ cs) k = cel S k := by
  unfold cel
  rw [List.getD_eq_getElem?_getD, List.getElem?_append_left h, List.getD_eq_getElem?_getD]
theorem cel_app_r {S cs : mSh} {k : Nat} {c : Nat × Nat × List (Option Nat)} (h : S.length ≤ k) (hc : cs[k - S.length]? = some c) : cel (S ++ cs) k = c := by
  unfold cel
  rw [List.getD_eq_getElem?_getD, List.getElem?_append_right h, hc]
  rfl
theorem cl2_lo {h : mMem} {a k : Nat} (hk : k < a) : cl2 h a k = h k := by
  funext j
  simp only [cl2]
  rw [if_neg (by omega)]
theorem cl2_hi {h : mMem} {a k : Nat} (hk : a ≤ k) : cl2 h a k = fun _ => 0 := by
  funext j
  simp only [cl2]
  rw [if_pos hk]
theorem ssum_app (S cs : mSh) : ssum (S ++ cs) = ssum S + ssum cs := by simp [ssum]
theorem Wd_lt {G : mG} {s : State} {H : Heap} {σ : mSt} {locs : List Loc} (hW : Wd G s H σ) (hS : va_S (aA G) s.heap H locs) (hb0 : G.2.2.1 ≤ s.heap.size) : G.2.2.1 + (σ.1.length - 4) ≤ H.size := by
  have h4 := hW.1.1
  have h1 := hS.1
  rcases Nat.lt_or_ge 4 σ.1.length with h | h
  · have := (hW.2.1 _ _ (wsl_at (G := G) (σ := σ) (a := σ.1.length - 1) (by omega) (by omega))).lt
    dsimp only at this
    rw [ad_hi (by omega)] at this
    omega
  · omega
theorem push_W {G : mG} {s : State} {H H1 : Heap} {σ : mSt} {cs : mSh} (hW : Wd G s H σ) (hcs : ∀ c ∈ cs, okc c) (hnew : ∀ (j : Nat) (c : Nat × Nat × List (Option Nat)), cs[j]? = some c → va_at G.1 vwCl (G.2.2.1 + (σ.1.length - 4 + j), ent G c (fun _ => 0)) H1) (ho : ∀ q : Nat, q < H.size → H1[q]? = H[q]?) : Wd G s H1 (σ.1 ++ cs, cl2 σ.2 σ.1.length) := by
  have h4 := hW.1.1
  refine ⟨⟨?_, fun k hk => ?_, fun k hk hl => ?_⟩, fun j q hj => ?_, fun k hk => ?_⟩
  · rw [List.length_append]; omega
  · show (cel (σ.1 ++ cs) k).1 = 4
    rw [cel_app_l (by omega)]
    exact hW.1.2.1 k hk
  · unfold kd ln
    rcases Nat.lt_or_ge k σ.1.length with h | h
    · dsimp only
      rw [cel_app_l h]
      exact hW.1.2.2 k hk h
    · rw [List.length_append] at hl
      have hc : cs[k - σ.1.length]? = some (cs[k - σ.1.length]'(by omega)) := List.getElem?_eq_getElem (by omega)
      dsimp only
      rw [cel_app_r h hc]
      exact hcs _ (List.getElem_mem _)
  · rw [wsl_get] at hj
    dsimp only at hj
    rw [List.length_append] at hj
    split at hj
    · rename_i hlt
      cases hj
      rcases Nat.lt_or_ge (j + 4) σ.1.length with h | h
      · rw [cel_app_l h, cl2_lo h]
        have hold := hW.2.1 j (G.2.2.1 + j, ent G (cel σ.1 (j + 4)) (σ.2 (j + 4))) (by rw [wsl_get, if_pos (by omega)])
        exact hold.kept (ho _ hold.lt)
      · have hc : cs[j + 4 - σ.1.length]? = some (cs[j + 4 - σ.1.length]'(by omega)) := List.getElem?_eq_getElem (by omega)
        rw [cel_app_r h hc, cl2_hi h]
        have := hnew _ _ hc
        rw [show σ.1.length - 4 + (j + 4 - σ.1.length) = j by omega] at this
        exact this
    · cases hj
  · obtain ⟨h1, h2⟩ := hW.2.2 k hk
    have e1 : ln (σ.1 ++ cs) k = ln σ.1 k := by unfold ln; rw [cel_app_l (by omega)]
    have e2 : cl2 σ.2 σ.1.length k = σ.2 k := cl2_lo (by omega)
    dsimp only
    rw [e1, e2]
    refine ⟨h1.kept (ho _ ?_), h2⟩
    obtain ⟨scr, x1, -⟩ := h1
    exact (Array.getElem?_eq_some_iff.mp x1).1
theorem push_S {G : mG} {s : State} {H H1 : Heap} {locs : List Loc} (hS : va_S (aA G) s.heap H locs) (hz : H.size ≤ H1.size) (ho : ∀ q : Nat, q < H.size → H1[q]? = H[q]?) : va_S (aA G) s.heap H1 locs :=
  ⟨Nat.le_trans hS.1 hz, fun q h1 h2 => (ho q (Nat.lt_of_lt_of_le h1 hS.1)).trans (hS.2.1 q h1 h2), hS.2.2⟩
theorem fty_def : ∀ ci, ci < 9 → ∀ k, k < nFl ci → defaultValue (fty ci k) = if ftR ci k = true then .null else .int 0 := by decide +kernel
theorem push_old {H : Heap} {x : Cell} (q : Nat) (h : q < H.size) : (H.push x)[q]? = H[q]? := Array.getElem?_push_lt h |>.trans (Array.getElem?_eq_getElem h).symm
theorem push_at {H : Heap} (x : Cell) : (H.push x)[H.size]? = some x := by simp
section
variable {p : Program} {l : Launch} {e : Env} {R : Room} {s : State} {m : MethodId} {args : Array Value} {below : List Frame} {meth : Method} {c : Code} {H : Heap} {locs : List Loc} {cells slots : Nat} {Q : State → Prop}
variable {G : mG} {cc : ByteArray} {nL o pc pc' len : Nat} {ls st ls' st' : List Value} {lr : Array Slot} {σ σ' : mSt} {ins : Instr} {i : Nat} {ct : Option (Nat × Nat)}
theorem simNew (C : Cx G p s m args c cc nL o) (hd : decode cc pc = .ok (.new i, 3)) (hW : Wd G s H σ) (hS : va_S (aA G) s.heap H locs) (hb0 : G.2.2.1 ≤ s.heap.size) (hz : ∀ q, ct = some q → s.heap.size + cells = G.2.2.1 + (σ.1.length - 4) ∧ cells + (q.1 - σ.1.length) ≤ R.cells ∧ slots + (q.2 - ssum σ.1) ≤ R.slots) (h : mNew o i ct pc ls st σ = some (.inl (pc', ls', st', σ'))) (kk : pc' = pc + 3 → ls' = ls → ∀ (n k : Nat), σ'.1.length = σ.1.length + n → ssum σ'.1 = ssum σ.1 + k → ∀ (H1 : Heap), Wd G s H1 σ' → va_S (aA G) s.heap H1 locs → W p l e R s m args below meth c H1 locs (cells + n) (slots + k) Q (F0 m pc' lr (st'.map (rl G)))) : W p l e R s m args below meth c H locs cells slots Q (F0 m pc lr (st.map (rl G))) := by
  obtain ⟨hx, hb, -, hown, hts, hK, -⟩ := C
  unfold mNew at h
  split at h
  · rename_i ci q hn
    split at h
    · rename_i hq
      cases h
      obtain ⟨z1, z2, z3⟩ := hz q rfl
      obtain ⟨c1, c2, c3, c4⟩ := newF_spec hn
      refine W.size (fun hsz => ?_)
      have hlt := Wd_lt hW hS hb0
      have hHs : H.size = ad G σ.1.length := by rw [ad_hi hW.1.1]; omega
      refine W.newc hx hb hown (hts _ c2) (hts _ c3) (hts _ c4) rfl hd (by omega) (by omega) (fun cC kC f1 f2 f3 f4 => ?_)
      have hKn := hK.1 ci _ (cls_at c1)
      rw [cls_cn c1] at hKn
      have hcc : cC = G.1.1 ci := Option.some.inj (f1.symm.trans hKn.2.1)
      subst hcc
      have hob := u_born (o := H.size) (H := H.push { cls := G.1.1 ci, slots := kC.instanceTypes.map defaultValue, vm := .none }) (fty ci) hts (cls_gw c1) (hK.1 ci _ (cls_at c1)) f2 (push_at _) (cls_ty c1)
      have hWn := push_W (cs := [(10 + ci, nFl ci, List.replicate (nFl ci) none)]) hW (fun c hc => by
        rw [List.mem_singleton.mp hc]
        exact Or.inr ⟨ci, c1, rfl, rfl, by simp⟩) (fun j c hj => by
        have hj0 : j < 1 := (List.getElem?_eq_some_iff.mp hj).1
        rw [show j = 0 by omega] at hj ⊢
        cases hj
        rw [ent_obj (ci := ci) rfl, Nat.add_zero, ← ad_hi hW.1.1, ← hHs]
        refine ⟨_, cls_at c1, hob.to (fun k hk => ?_)⟩
        rw [← cls_n c1] at hk
        rw [fty_def ci c1 k hk]
        unfold vp_V
        rw [List.getD_eq_getElem?_getD, entF_get hk, Option.getD_some]
        have e0 : (List.replicate (nFl ci) (none : Option Nat)).getD k none = none := by
          rw [List.getD_eq_getElem?_getD, List.getElem?_replicate]
          split <;> rfl
        rw [e0]
        rfl) (fun q h => push_old q h)
      have := kk rfl rfl 1 (nFl ci) (by simp) (by rw [ssum_app]; simp [ssum]) _ hWn (push_S hS (by simp) (fun q h => push_old q h))
      rw [hHs]
      exact this
    · cases h
  · cases h
theorem simNwa (C : Cx G p s m args c cc nL o) {ty : ArrayType} (hd : decode cc pc = .ok (.newarray ty, 2)) (hW : Wd G s H σ) (hS : va_S (aA G) s.heap H locs) (hb0 : G.2.2.1 ≤ s.heap.size) (hz : ∀ q, ct = some q → s.heap.size + cells = G.2.2.1 + (σ.1.length - 4) ∧ cells + (q.1 - σ.1.length) ≤ R.cells ∧ slots + (q.2 - ssum σ.1) ≤ R.slots) (h : mNwa ty ct pc ls st σ = some (.inl (pc', ls', st', σ'))) (kk : pc' = pc + 2 → ls' = ls → ∀ (n k : Nat), σ'.1.length = σ.1.length + n → ssum σ'.1 = ssum σ.1 + k → ∀ (H1 : Heap), Wd G s H1 σ' → va_S (aA G) s.heap H1 locs → W p l e R s m args below meth c H1 locs (cells + n) (slots + k) Q (F0 m pc' lr (st'.map (rl G)))) : W p l e R s m args below meth c H locs cells slots Q (F0 m pc lr (st.map (rl G))) := by
  obtain ⟨hx, hb, -, hown, hts, hK, -⟩ := C
  unfold mNwa at h
  split at h
  · rename_i n r q
    split at h
    · rename_i hq
      obtain ⟨hty, hn, hn2, hq1, hq2⟩ := hq
      cases h
      obtain ⟨z1, z2, z3⟩ := hz q rfl
      refine W.size (fun hsz => ?_)
      have hlt := Wd_lt hW hS hb0
      have hHs : H.size = ad G σ.1.length := by rw [ad_hi hW.1.1]; omega
      rcases hty with rfl | rfl
      · refine W.newa (rest := r.map (rl G)) hx hb (atype := .int) (hts _ (wAt_gw ac_I rfl)) rfl hd rfl hn (by show n.toNatClampNeg * 4 ≤ _; omega) (by omega) (by omega) (fun cA kA comp f1 f2 f3 => ?_)
        have hcc : cA = G.2.1.1 := Option.some.inj (f1.symm.trans (hK.2 0 (G.2.1.1, .int) rfl).2)
        subst hcc
        have hWn := push_W (H1 := H.push { cls := G.2.1.1, slots := Array.replicate n.toNatClampNeg (defaultValue (newarray.typeOf .int)), vm := .none }) (cs := [(0, n.toNatClampNeg, [])]) hW (fun c hc => by
          rw [List.mem_singleton.mp hc]
          exact Or.inl ⟨by show (0 : Nat) ≤ 3; decide, fun h => by cases h⟩) (fun j c hj => by
          have hj0 : j < 1 := (List.getElem?_eq_some_iff.mp hj).1
          rw [show j = 0 by omega] at hj ⊢
          cases hj
          rw [ent_0 rfl, Nat.add_zero, ← ad_hi hW.1.1, ← hHs]
          show (H.push _)[H.size]? = some (vp_cell G.2.1.1 (n.toNatClampNeg, .inl (fun _ => 0)))
          rw [push_at, vp_cell_i, arrV_new]
          rfl) (fun q h => push_old q h)
        have := kk rfl rfl 1 n.toNatClampNeg (by simp) (by rw [ssum_app]; simp [ssum]) _ hWn (push_S hS (by simp) (fun q h => push_old q h))
        rw [hHs]
        exact this
      · refine W.newa (rest := r.map (rl G)) hx hb (atype := .boolean) (hts _ (wAt_gw ac_Z rfl)) rfl hd rfl hn (by show n.toNatClampNeg * 1 ≤ _; omega) (by omega) (by omega) (fun cA kA comp f1 f2 f3 => ?_)
        have hcc : cA = G.2.1.2.1 := Option.some.inj (f1.symm.trans (hK.2 1 (G.2.1.2.1, .boolean) rfl).2)
        subst hcc
        have hWn := push_W (H1 := H.push { cls := G.2.1.2.1, slots := Array.replicate n.toNatClampNeg (defaultValue (newarray.typeOf .boolean)), vm := .none }) (cs := [(1, n.toNatClampNeg, [])]) hW (fun c hc => by
          rw [List.mem_singleton.mp hc]
          exact Or.inl ⟨by show (1 : Nat) ≤ 3; decide, fun h => by cases h⟩) (fun j c hj => by
          have hj0 : j < 1 := (List.getElem?_eq_some_iff.mp hj).1
          rw [show j = 0 by omega] at hj ⊢
          cases hj
          rw [ent_1 rfl, Nat.add_zero, ← ad_hi hW.1.1, ← hHs]
          show (H.push _)[H.size]? = some (vp_cell G.2.1.2.1 (n.toNatClampNeg, .inl (fun _ => 0)))
          rw [push_at, vp_cell_i, arrV_new]
          rfl) (fun q h => push_old q h)
        have := kk rfl rfl 1 n.toNatClampNeg (by simp) (by rw [ssum_app]; simp [ssum]) _ hWn (push_S hS (by simp) (fun q h => push_old q h))
        rw [hHs]
        exact this
    · cases h
  · cases h
theorem simAnw (C : Cx G p s m args c cc nL o) (hd : decode cc pc = .ok (.anewarray i, 3)) (hW : Wd G s H σ) (hS : va_S (aA G) s.heap H locs) (hb0 : G.2.2.1 ≤ s.heap.size) (hz : ∀ q, ct = some q → s.heap.size + cells = G.2.2.1 + (σ.1.length - 4) ∧ cells + (q.1 - σ.1.length) ≤ R.cells ∧ slots + (q.2 - ssum σ.1) ≤ R.slots) (h : mAnw o i ct pc ls st σ = some (.inl (pc', ls', st', σ'))) (kk : pc' = pc + 3 → ls' = ls → ∀ (n k : Nat), σ'.1.length = σ.1.length + n → ssum σ'.1 = ssum σ.1 + k → ∀ (H1 : Heap), Wd G s H1 σ' → va_S (aA G) s.heap H1 locs → W p l e R s m args below meth c H1 locs (cells + n) (slots + k) Q (F0 m pc' lr (st'.map (rl G)))) : W p l e R s m args below meth c H locs cells slots Q (F0 m pc lr (st.map (rl G))) := by
  obtain ⟨hx, hb, -, hown, hts, hK, -⟩ := C
  unfold mAnw at h
  split at h
  · rename_i n r ci q hn4
    split at h
    · rename_i hq
      obtain ⟨rfl, hn, hn2, hq1, hq2⟩ := hq
      cases h
      obtain ⟨z1, z2, z3⟩ := hz q rfl
      obtain ⟨c1, c2, c3, c4⟩ := newF_spec hn4
      refine W.size (fun hsz => ?_)
      have hlt := Wd_lt hW hS hb0
      have hHs : H.size = ad G σ.1.length := by rw [ad_hi hW.1.1]; omega
      refine W.anew (rest := r.map (rl G)) hx hb hown (hts _ c2) (hts _ (wAt_gw ao_H rfl)) rfl hd rfl hn (by omega) (by omega) (by omega) (fun cA kA comp f1 f2 f3 f4 => ?_)
      obtain ⟨kA', comp', g1, g2, g3, g4⟩ := (hK.2 2 (G.2.1.2.2.1, .object RX4) rfl).2
      have hcc : cA = G.2.1.2.2.1 := Option.some.inj (f1.symm.trans g4)
      subst hcc
      have hWn := push_W (H1 := H.push { cls := G.2.1.2.2.1, slots := Array.replicate n.toNatClampNeg .null, vm := .none }) (cs := [(2, n.toNatClampNeg, List.replicate n.toNatClampNeg none)]) hW (fun c hc => by
        rw [List.mem_singleton.mp hc]
        exact Or.inl ⟨by show (2 : Nat) ≤ 3; decide, fun _ => by simp⟩) (fun j c hj => by
        have hj0 : j < 1 := (List.getElem?_eq_some_iff.mp hj).1
        rw [show j = 0 by omega] at hj ⊢
        cases hj
        rw [ent_2 rfl, Nat.add_zero, ← ad_hi hW.1.1, ← hHs]
        show (H.push _)[H.size]? = some (vp_cell G.2.1.2.2.1 (n.toNatClampNeg, .inr (.inr (.inr (.inr (fun j => rad G ((List.replicate n.toNatClampNeg (none : Option Nat)).getD j none)))))))
        rw [push_at, vp_cell_q, arrV_new]
        congr 2
        funext j
        have e0 : (List.replicate n.toNatClampNeg (none : Option Nat)).getD j none = none := by
          rw [List.getD_eq_getElem?_getD, List.getElem?_replicate]
          split <;> rfl
        rw [e0]
        rfl) (fun q h => push_old q h)
      have := kk rfl rfl 1 n.toNatClampNeg (by simp) (by rw [ssum_app]; simp [ssum]) _ hWn (push_S hS (by simp) (fun q h => push_old q h))
      rw [hHs]
      exact this
    · cases h
  · cases h
end
theorem outer_i (cA : ClassId) (N h0 : Nat) : ∀ i : Nat, Jvm.Free.Multi.outerC cA N h0 i = arrV cA N (fun j => va_rf (if j < i then some (h0 + 1 + j) else none))
  | 0 => by
    unfold Jvm.Free.Multi.outerC
    rw [arrV_new]
    refine congrArg (arrV cA N) (funext fun j => ?_)
    rw [if_neg (by omega)]
    rfl
  | i + 1 => by
    unfold Jvm.Free.Multi.outerC
    rw [outer_i cA N h0 i, arrV_store]
    congr 1
    funext j
    unfold updV
    by_cases e : j = i
    · subst e
      rw [if_pos rfl, if_pos (by omega)]
      rfl
    · rw [if_neg e]
      dsimp only
      by_cases h : j < i
      · rw [if_pos h, if_pos (by omega)]
      · rw [if_neg h, if_neg (by omega)]
theorem outer_eq (cA : ClassId) (N h0 : Nat) : Jvm.Free.Multi.outerC cA N h0 N = arrV cA N (fun j => va_rf (if j < N then some (h0 + 1 + j) else none)) := outer_i cA N h0 N
section
variable {p : Program} {l : Launch} {e : Env} {R : Room} {s : State} {m : MethodId} {args : Array Value} {below : List Frame} {meth : Method} {c : Code} {H : Heap} {locs : List Loc} {cells slots : Nat} {Q : State → Prop}
variable {G : mG} {cc : ByteArray} {nL o pc pc' len : Nat} {ls st ls' st' : List Value} {lr : Array Slot} {σ σ' : mSt} {ins : Instr} {i : Nat} {ct : Option (Nat × Nat)}
theorem simMna (C : Cx G p s m args c cc nL o) (hd : decode cc pc = .ok (.multianewarray i 2, 4)) (hW : Wd G s H σ) (hS : va_S (aA G) s.heap H locs) (hb0 : G.2.2.1 ≤ s.heap.size) (hz : ∀ q, ct = some q → s.heap.size + cells = G.2.2.1 + (σ.1.length - 4) ∧ cells + (q.1 - σ.1.length) ≤ R.cells ∧ slots + (q.2 - ssum σ.1) ≤ R.slots) (h : mMna o i ct pc ls st σ = some (.inl (pc', ls', st', σ'))) (kk : pc' = pc + 4 → ls' = ls → ∀ (n k : Nat), σ'.1.length = σ.1.length + n → ssum σ'.1 = ssum σ.1 + k → ∀ (H1 : Heap), Wd G s H1 σ' → va_S (aA G) s.heap H1 locs → W p l e R s m args below meth c H1 locs (cells + n) (slots + k) Q (F0 m pc' lr (st'.map (rl G)))) : W p l e R s m args below meth c H locs cells slots Q (F0 m pc lr (st.map (rl G))) := by
  obtain ⟨hx, hb, -, hown, hts, hK, -⟩ := C
  unfold mMna at h
  split at h
  · rename_i k n r q
    split at h
    · rename_i hq
      obtain ⟨hm, hn, hk, hn2, hk2, hq1, hq2⟩ := hq
      cases h
      obtain ⟨z1, z2, z3⟩ := hz q rfl
      refine W.size (fun hsz => ?_)
      have hlt := Wd_lt hW hS hb0
      have hHs : H.size = ad G σ.1.length := by rw [ad_hi hW.1.1]; omega
      have h4 := hW.1.1
      intro T hT Xs
      obtain ⟨vm₁, cA, comp, -, fA, fC, -, -, X', step⟩ := Xs.multianewarray2F (ty := .int) hx hown (hts _ (mnaF_spec hm)) (hts _ (wAt_gw ao_I rfl)) (hts _ (wAt_gw ac_I rfl)) (g := F0 m pc lr (.int k :: .int n :: r.map (rl G))) rfl (by rw [hb]; exact hd) rfl hn hk (by omega) (by show k.toNatClampNeg * 4 ≤ _; omega) (by omega) rfl rfl (by omega) (by omega)
      have hcc : cA = G.2.1.2.2.2 := Option.some.inj (fA.symm.trans (hK.2 3 (G.2.1.2.2.2, .array .int) rfl).2)
      have hci : comp = G.2.1.1 := Option.some.inj (fC.symm.trans (hK.2 0 (G.2.1.1, .int) rfl).2)
      subst hcc; subst hci
      generalize hF : Jvm.Free.Multi.fill (T.setVm vm₁) G.2.1.2.2.2 G.2.1.1 n.toNatClampNeg k.toNatClampNeg (defaultValue .int) n.toNatClampNeg = F at X' step
      have hTh : (T.setVm vm₁).heap = H := hT
      obtain ⟨f1, f2, -, -⟩ := Jvm.Free.Multi.fill_facts (T.setVm vm₁) G.2.1.2.2.2 G.2.1.1 n.toNatClampNeg k.toNatClampNeg (defaultValue .int) n.toNatClampNeg
      rw [hF, hTh] at f1 f2
      have hold : ∀ x : Nat, x < H.size → F.heap[x]? = H[x]? := fun x hx => by
        have := Jvm.Free.Multi.fill_old (T.setVm vm₁) G.2.1.2.2.2 G.2.1.1 n.toNatClampNeg k.toNatClampNeg (defaultValue .int) (a := x) (by rw [hTh]; exact hx) n.toNatClampNeg
        rw [hF, hTh] at this
        exact this
      have hrow : ∀ j : Nat, j < n.toNatClampNeg → F.heap[H.size + 1 + j]? = some (Jvm.Free.Multi.innerC G.2.1.1 k.toNatClampNeg (defaultValue .int)) := fun j hj => by
        have := Jvm.Free.Multi.fill_inner (T.setVm vm₁) G.2.1.2.2.2 G.2.1.1 n.toNatClampNeg k.toNatClampNeg (defaultValue .int) n.toNatClampNeg j hj
        rw [hF, hTh] at this
        exact this
      have hWn := push_W (H1 := F.heap) (cs := (3, n.toNatClampNeg, (List.range n.toNatClampNeg).map (fun j => some (σ.1.length + 1 + j))) :: List.replicate n.toNatClampNeg (0, k.toNatClampNeg, [])) hW (fun c hc => by
        rcases List.mem_cons.mp hc with rfl | hc
        · exact Or.inl ⟨by show (3 : Nat) ≤ 3; decide, fun h => by cases h⟩
        · rw [(List.mem_replicate.mp hc).2]
          exact Or.inl ⟨by show (0 : Nat) ≤ 3; decide, fun h => by cases h⟩) (fun j c hj => by
        cases j with
        | zero =>
          cases hj
          rw [ent_3 rfl, Nat.add_zero, ← ad_hi hW.1.1, ← hHs]
          show F.heap[H.size]? = some (vp_cell G.2.1.2.2.2 (n.toNatClampNeg, .inr (.inr (.inr (.inr (fun j => rad G (((List.range n.toNatClampNeg).map (fun j => some (σ.1.length + 1 + j))).getD j none)))))))
          rw [f2, outer_eq, vp_cell_q]
          congr 2
          funext j
          congr 1
          rw [List.getD_eq_getElem?_getD, List.getElem?_map]
          by_cases hj : j < n.toNatClampNeg
          · rw [if_pos hj, List.getElem?_range hj]
            show _ = some (ad G (σ.1.length + 1 + j))
            rw [ad_hi (by omega), hHs, ad_hi hW.1.1]
            congr 1
            omega
          · rw [if_neg hj, List.getElem?_eq_none (by rw [List.length_range]; omega)]
            rfl
        | succ j =>
          rw [List.getElem?_cons_succ, List.getElem?_replicate] at hj
          split at hj
          · rename_i hjn
            cases hj
            rw [ent_0 rfl]
            show F.heap[G.2.2.1 + (σ.1.length - 4 + (j + 1))]? = some (vp_cell G.2.1.1 (k.toNatClampNeg, .inl (fun _ => 0)))
            rw [show G.2.2.1 + (σ.1.length - 4 + (j + 1)) = H.size + 1 + j by rw [hHs, ad_hi hW.1.1]; omega, hrow j hjn, vp_cell_i]
            show some ({ cls := G.2.1.1, slots := Array.replicate k.toNatClampNeg (defaultValue .int), vm := .none } : Cell) = _
            rw [arrV_new]
            rfl
          · cases hj) hold
      have hs1 : ssum (σ.1 ++ (3, n.toNatClampNeg, (List.range n.toNatClampNeg).map (fun j => some (σ.1.length + 1 + j))) :: List.replicate n.toNatClampNeg (0, k.toNatClampNeg, [])) = ssum σ.1 + (n.toNatClampNeg + n.toNatClampNeg * k.toNatClampNeg) := by
        rw [ssum_app]
        simp [ssum, List.map_replicate, List.sum_replicate_nat]
      have hl1 : (σ.1 ++ (3, n.toNatClampNeg, (List.range n.toNatClampNeg).map (fun j => some (σ.1.length + 1 + j))) :: List.replicate n.toNatClampNeg (0, k.toNatClampNeg, [])).length = σ.1.length + (1 + n.toNatClampNeg) := by
        simp; omega
      have K := kk rfl rfl (1 + n.toNatClampNeg) (n.toNatClampNeg + n.toNatClampNeg * k.toNatClampNeg) hl1 hs1 _ hWn (push_S hS (by omega) hold)
      rw [← Nat.add_assoc, ← Nat.add_assoc] at K
      obtain ⟨t, a1, b1⟩ := K F rfl X'
      refine ⟨t, step t ?_, b1⟩
      have e : T.heap.size = ad G σ.1.length := by rw [hT]; exact hHs
      rw [e]
      exact a1
    · cases h
  · cases h
theorem simAast (C : Cx G p s m args c cc nL o) (hd : decode cc pc = .ok (.aastore, 1)) (hW : Wd G s H σ) (hS : va_S (aA G) s.heap H locs) (hb0 : G.2.2.1 ≤ s.heap.size) (h : mAast ct pc ls st σ = some (.inl (pc', ls', st', σ'))) (kk : pc' = pc + 1 → ls' = ls → σ'.1.length = σ.1.length → ssum σ'.1 = ssum σ.1 → ∀ (H1 : Heap) (locs1 : List Loc), Wd G s H1 σ' → va_S (aA G) s.heap H1 locs1 → W p l e R s m args below meth c H1 locs1 cells slots Q (F0 m pc' lr (st'.map (rl G)))) : W p l e R s m args below meth c H locs cells slots Q (F0 m pc lr (st.map (rl G))) := by
  obtain ⟨hx, hb, -, hown, hts, hK, -⟩ := C
  unfold mAast at h
  split at h
  · rename_i v i a r
    split at h
    · rename_i hk
      obtain ⟨-, hk, hv, hi⟩ := hk
      cases h
      obtain ⟨a4, al⟩ := sh_in hW.1 (a := a) (by omega) (by omega)
      obtain ⟨v4, vl⟩ := sh_in hW.1 (a := v) (by omega) (by omega)
      have hin := inb_in hi
      have hlt : i.toNatClampNeg < ln σ.1 a := Nat.not_le.mp fun q => hin (Or.inr q)
      have hrl : i.toNatClampNeg < (cel σ.1 a).2.2.length := by
        rcases hW.1.2.2 a a4 al with ⟨h3, h5⟩ | ⟨c2, h3, h4, -⟩
        · rw [h5 hk]; exact hlt
        · omega
      refine va_astq (A := aA G) (H0 := s.heap) hx hb hK hW.2.1 (wsl_D G σ) hS (a - 4) 2 (v - 4) 4 ((wsl_at a4 al).trans (by rw [ent_2 hk]; rfl)) rfl ((wsl_at v4 vl).trans (by rw [ent_obj (ci := 4) hv])) (cls_at (by decide)) hin hd (fun H1 locs1 hP1 hD1 hS1 => ?_)
      have hce : cel (setR σ.1 a i.toNatClampNeg (some v)) a = ((cel σ.1 a).1, (cel σ.1 a).2.1, (cel σ.1 a).2.2.set i.toNatClampNeg (some v)) := by
        unfold setR
        rw [cel_set al, if_pos rfl]
      have hco2 : ∀ j, j ≠ a → cel (setR σ.1 a i.toNatClampNeg (some v)) j = cel σ.1 j := by
        intro j hj
        unfold setR
        rw [cel_set al, if_neg hj]
      have hlen : (setR σ.1 a i.toNatClampNeg (some v)).length = σ.1.length := List.length_set
      have hfun : (fun j => rad G (((cel σ.1 a).2.2.set i.toNatClampNeg (some v)).getD j none)) = va_up (fun j => rad G ((cel σ.1 a).2.2.getD j none)) i.toNatClampNeg (some (ad G v)) := by
        funext j
        rw [getD_set hrl]
        unfold va_up
        by_cases e : j = i.toNatClampNeg
        · rw [if_pos e, if_pos e]; rfl
        · rw [if_neg e, if_neg e]
      have e : (wsl G σ).set (a - 4) (ad G a, .inl (G.2.1.2.2.1, (cel σ.1 a).2.1, .inr (.inr (.inr (.inr (va_up (fun j => rad G ((cel σ.1 a).2.2.getD j none)) i.toNatClampNeg (some (ad G v)))))))) = wsl G (setR σ.1 a i.toNatClampNeg (some v), σ.2) :=
        wsl_set (σ' := (setR σ.1 a i.toNatClampNeg (some v), σ.2)) a4 al hlen (fun j hj => ⟨hco2 j hj, rfl⟩) (show ent G (cel (setR σ.1 a i.toNatClampNeg (some v)) a) (σ.2 a) = _ by rw [hce, ent_2 (c := ((cel σ.1 a).1, (cel σ.1 a).2.1, (cel σ.1 a).2.2.set i.toNatClampNeg (some v))) hk]; dsimp only; rw [hfun])
      have hP2 : va_P G.1 vwCl (wsl G (setR σ.1 a i.toNatClampNeg (some v), σ.2)) H1 := by rw [← e]; exact hP1
      exact kk rfl rfl hlen (setR_sum al) H1 locs1 ⟨setR_ok hW.1 al, hP2, Wd_old hW (locs := locs1) (fun j h4 => ⟨by show (cel (setR σ.1 a i.toNatClampNeg (some v)) j).2.1 = _; rw [hco2 j (Nat.ne_of_lt (Nat.lt_of_lt_of_le h4 a4))]; rfl, rfl⟩) (S_old hb0 hS hS1)⟩ hS1
    · cases h
  · cases h
end
