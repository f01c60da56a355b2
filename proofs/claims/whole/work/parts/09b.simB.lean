/-! ===== a step of the mini machine is a step of the machine: fields and arrays ===== -/
theorem ent_obj {G : mG} {c : Nat × Nat × List (Option Nat)} {f : Nat → Int32} {ci : Nat} (h : c.1 = 10 + ci) : ent G c f = .inr (ci, entF G ci c.2.1 c.2.2 f) := by
  unfold ent
  rw [h]
  split
  · omega
  · omega
  · omega
  · omega
  · rename_i n h0 h1 h2 h3
    rw [show 10 + ci - 10 = ci by omega]
theorem ent_0 {G : mG} {c : Nat × Nat × List (Option Nat)} {f : Nat → Int32} (h : c.1 = 0) : ent G c f = .inl (G.2.1.1, c.2.1, .inl f) := by
  unfold ent
  rw [h]
  rfl
theorem ent_1 {G : mG} {c : Nat × Nat × List (Option Nat)} {f : Nat → Int32} (h : c.1 = 1) : ent G c f = .inl (G.2.1.2.1, c.2.1, .inl f) := by
  unfold ent
  rw [h]
  rfl
theorem ent_2 {G : mG} {c : Nat × Nat × List (Option Nat)} {f : Nat → Int32} (h : c.1 = 2) : ent G c f = .inl (G.2.1.2.2.1, c.2.1, .inr (.inr (.inr (.inr (fun j => rad G (c.2.2.getD j none)))))) := by
  unfold ent
  rw [h]
  rfl
theorem ent_3 {G : mG} {c : Nat × Nat × List (Option Nat)} {f : Nat → Int32} (h : c.1 = 3) : ent G c f = .inl (G.2.1.2.2.2, c.2.1, .inr (.inr (.inr (.inr (fun j => rad G (c.2.2.getD j none)))))) := by
  unfold ent
  rw [h]
  rfl
theorem rl_rfv (G : mG) (o : Option Nat) : rl G (rfv o) = va_rf (rad G o) := by cases o <;> rfl
theorem entF_get {G : mG} {ci n k : Nat} {rs : List (Option Nat)} {f : Nat → Int32} (h : k < n) : (entF G ci n rs f)[k]? = some (if ftR ci k = true then va_rf (rad G (rs.getD k none)) else .int (f k)) := by
  unfold entF
  rw [List.getElem?_map, List.getElem?_range h]
  rfl
theorem entF_len (G : mG) (ci n : Nat) (rs : List (Option Nat)) (f : Nat → Int32) : (entF G ci n rs f).length = n := by simp [entF]
theorem up2_o {h : mMem} {a i k : Nat} {v : Int32} (hk : k ≠ a) : up2 h a i v k = h k := by
  funext j
  simp [up2, hk]
theorem up2_s (h : mMem) (a i : Nat) (v : Int32) : up2 h a i v a = upd (h a) i v := by
  funext j
  simp [up2, upd]
theorem entF_upd {G : mG} {ci n k : Nat} {rs : List (Option Nat)} {f : Nat → Int32} {x : Int32} (hr : ftR ci k = false) : entF G ci n rs (upd f k x) = (entF G ci n rs f).set k (.int x) := by
  apply List.ext_getElem?
  intro j
  rw [List.getElem?_set, entF_len]
  by_cases hj : j < n
  · rw [entF_get hj]
    by_cases e : k = j
    · subst e
      rw [if_pos rfl, if_pos hj]
      simp [hr, upd]
    · rw [if_neg e, entF_get hj]
      simp [upd, Ne.symm e]
  · rw [List.getElem?_eq_none (by rw [entF_len]; omega)]
    by_cases e : k = j
    · rw [if_pos e, if_neg (by omega)]
    · rw [if_neg e, List.getElem?_eq_none (by rw [entF_len]; omega)]
theorem getD_set {rs : List (Option Nat)} {k j : Nat} {b : Option Nat} (hk : k < rs.length) : (rs.set k b).getD j none = if j = k then b else rs.getD j none := by
  rw [List.getD_eq_getElem?_getD, List.getD_eq_getElem?_getD, List.getElem?_set]
  by_cases e : k = j
  · subst e
    rw [if_pos rfl, if_pos rfl, if_pos hk]
    rfl
  · rw [if_neg e, if_neg (fun h => e h.symm)]
theorem entF_setR {G : mG} {ci n k : Nat} {rs : List (Option Nat)} {f : Nat → Int32} {b : Nat} (hr : ftR ci k = true) (hk : k < rs.length) : entF G ci n (rs.set k (some b)) f = (entF G ci n rs f).set k (.ref (ad G b)) := by
  apply List.ext_getElem?
  intro j
  rw [List.getElem?_set, entF_len]
  by_cases hj : j < n
  · rw [entF_get hj, getD_set hk]
    by_cases e : k = j
    · subst e
      rw [if_pos rfl, if_pos hj]
      simp [hr, rad, va_rf]
    · rw [if_neg e, entF_get hj]
      simp [Ne.symm e]
  · rw [List.getElem?_eq_none (by rw [entF_len]; omega)]
    by_cases e : k = j
    · rw [if_pos e, if_neg (by omega)]
    · rw [if_neg e, List.getElem?_eq_none (by rw [entF_len]; omega)]
theorem inb_in {i : Int32} {n : Nat} (h : inb i n = true) : vp_in i n := by
  unfold inb at h
  simp only [Bool.and_eq_true, Bool.not_eq_true', decide_eq_false_iff_not, decide_eq_true_eq] at h
  intro q
  rcases q with q | q
  · exact h.1 q
  · omega
/-- the size of the heap, of what the machine keeps -/
theorem W.size {p : Program} {l : Launch} {e : Env} {R : Room} {s : State} {m : MethodId} {args : Array Value} {below : List Frame} {meth : Method} {c : Code} {H : Heap} {locs : List Loc} {cells slots : Nat} {Q : State → Prop} {g : JFrame} (h : H.size ≤ s.heap.size + cells → W p l e R s m args below meth c H locs cells slots Q g) : W p l e R s m args below meth c H locs cells slots Q g :=
  fun T hT X => h (by rw [← hT]; exact X.same.2.2.1) T hT X
/-- behind a change within the world the old arrays are as they were -/
theorem Wd_old {G : mG} {s : State} {H H1 : Heap} {σ σ' : mSt} {locs : List Loc} (hW : Wd G s H σ) (hk : ∀ k, k < 4 → ln σ'.1 k = ln σ.1 k ∧ σ'.2 k = σ.2 k) (ho : ∀ q, q < G.2.2.1 → H1[q]? = H[q]?) : ∀ k, k < 4 → oX (G.2.2.2 k) (ln σ'.1 k) (σ'.2 k) s H1 ∧ G.2.2.2 k < G.2.2.1 := by
  intro k h4
  obtain ⟨h1, h2⟩ := hW.2.2 k h4
  rw [(hk k h4).1, (hk k h4).2]
  exact ⟨h1.kept (ho _ h2), h2⟩
theorem S_old {G : mG} {s : State} {H H1 : Heap} {l1 l2 : List Loc} (hb0 : G.2.2.1 ≤ s.heap.size) (h1 : va_S (aA G) s.heap H l1) (h2 : va_S (aA G) s.heap H1 l2) : ∀ q, q < G.2.2.1 → H1[q]? = H[q]? := fun q hq => by
  have n1 : ¬ aA G q := by unfold aA; omega
  rw [h2.2.1 q (by omega) n1, h1.2.1 q (by omega) n1]
theorem cel_set {S : mSh} {a : Nat} {c : Nat × Nat × List (Option Nat)} (ha : a < S.length) (j : Nat) : cel (S.set a c) j = if j = a then c else cel S j := by
  unfold cel
  rw [List.getD_eq_getElem?_getD, List.getD_eq_getElem?_getD]
  by_cases e : j = a
  · subst e
    rw [if_pos rfl, List.getElem?_set_self ha]
    rfl
  · rw [if_neg e, List.getElem?_set_ne (fun h => e h.symm)]
theorem cel_at {S : mSh} {a : Nat} (ha : a < S.length) : S[a]? = some (cel S a) := by
  unfold cel
  rw [List.getD_eq_getElem?_getD, List.getElem?_eq_getElem ha]
  rfl
theorem ssum_set {S : mSh} {a : Nat} {c : Nat × Nat × List (Option Nat)} (ha : a < S.length) (hc : c.2.1 = (cel S a).2.1) : ssum (S.set a c) = ssum S := by
  unfold ssum
  congr 1
  apply List.ext_getElem?
  intro j
  rw [List.getElem?_map, List.getElem?_map]
  by_cases e : a = j
  · subst e
    rw [List.getElem?_set_self ha, cel_at ha]
    simp [hc]
  · rw [List.getElem?_set_ne e]
theorem setR_sum {S : mSh} {a k : Nat} {r : Option Nat} (ha : a < S.length) : ssum (setR S a k r) = ssum S := ssum_set ha rfl
theorem setR_ok {S : mSh} {a k : Nat} {r : Option Nat} (h : shOk S) (ha : a < S.length) : shOk (setR S a k r) := by
  have hc : ∀ j, cel (setR S a k r) j = if j = a then ((cel S a).1, (cel S a).2.1, (cel S a).2.2.set k r) else cel S j := fun j => cel_set ha j
  have h1 : ∀ j, kd (setR S a k r) j = kd S j ∧ ln (setR S a k r) j = ln S j ∧ (cel (setR S a k r) j).2.2.length = (cel S j).2.2.length := by
    intro j
    unfold kd ln
    rw [hc j]
    by_cases e : j = a
    · subst e
      rw [if_pos rfl]
      simp
    · rw [if_neg e]
      exact ⟨rfl, rfl, rfl⟩
  have hl : (setR S a k r).length = S.length := List.length_set
  refine ⟨by rw [hl]; exact h.1, fun j hj => by rw [(h1 j).1]; exact h.2.1 j hj, fun j h4 hj => ?_⟩
  rw [(h1 j).1, (h1 j).2.1, (h1 j).2.2]
  exact h.2.2 j h4 (by rw [← hl]; exact hj)
section
variable {p : Program} {l : Launch} {e : Env} {R : Room} {s : State} {m : MethodId} {args : Array Value} {below : List Frame} {meth : Method} {c : Code} {H : Heap} {locs : List Loc} {cells slots : Nat} {Q : State → Prop}
variable {G : mG} {cc : ByteArray} {nL o pc pc' len : Nat} {ls st ls' st' : List Value} {lr : Array Slot} {σ σ' : mSt} {ins : Instr} {i : Nat} {ct : Option (Nat × Nat)}
theorem simGet (C : Cx G p s m args c cc nL o) (hd : decode cc pc = .ok (.getfield i, 3)) (hW : Wd G s H σ) (h : mGet o i pc ls st σ = some (.inl (pc', ls', st', σ'))) (kk : pc' = pc + 3 → ls' = ls → σ' = σ → W p l e R s m args below meth c H locs cells slots Q (F0 m pc' lr (st'.map (rl G)))) : W p l e R s m args below meth c H locs cells slots Q (F0 m pc lr (st.map (rl G))) := by
  obtain ⟨hx, hb, -, hown, hts, hK, -⟩ := C
  unfold mGet at h
  split at h
  · rename_i a r ci k t fin hf
    split at h
    · rename_i hk
      cases h
      obtain ⟨c1, c2, c3, c4, c5, c6⟩ := fldF_spec hf
      obtain ⟨a4, al, an, ar⟩ := sh_n hW.1 hk c1
      have hn : (cel σ.1 a).2.1 = (clq ci).2.2 := an.trans (cls_n c1)
      refine va_get hx hb hts (cls_gw c1) hown hK hW.2.1 (a - 4) ((wsl_at a4 al).trans (by rw [ent_obj hk])) (cls_at c1) k c2 (hts _ c3) (fun x h => h) (entF_get (by omega)) hd ?_
      have e : (if ftR ci k = true then va_rf (rad G ((cel σ.1 a).2.2.getD k none)) else Value.int (σ.2 a k)) = rl G (if t = 2 then rfv (rfo σ.1 a k) else .int (σ.2 a k)) := by
        rcases c6 with ⟨rfl, h5⟩ | ⟨rfl, h5⟩ | ⟨rfl, h5, -⟩
        · simp [ftR, h5, rl]
        · simp [ftR, h5, rl]
        · rw [if_pos h5, if_pos rfl, rl_rfv]
          rfl
      rw [e]
      exact kk rfl rfl rfl
    · cases h
  · cases h
theorem simPut (C : Cx G p s m args c cc nL o) (hd : decode cc pc = .ok (.putfield i, 3)) (hW : Wd G s H σ) (hS : va_S (aA G) s.heap H locs) (hb0 : G.2.2.1 ≤ s.heap.size) (hnm : ct.isSome = true → meth.name = "<init>") (h : mPut o i ct pc ls st σ = some (.inl (pc', ls', st', σ'))) (kk : pc' = pc + 3 → ls' = ls → σ'.1.length = σ.1.length → ssum σ'.1 = ssum σ.1 → ∀ (H1 : Heap) (locs1 : List Loc), Wd G s H1 σ' → va_S (aA G) s.heap H1 locs1 → W p l e R s m args below meth c H1 locs1 cells slots Q (F0 m pc' lr (st'.map (rl G)))) : W p l e R s m args below meth c H locs cells slots Q (F0 m pc lr (st.map (rl G))) := by
  obtain ⟨hx, hb, -, hown, hts, hK, -⟩ := C
  unfold mPut at h
  split at h
  · rename_i x a r ci k t fin hf
    split at h
    · rename_i hk
      obtain ⟨hk, hfin, -, ht⟩ := hk
      cases h
      obtain ⟨c1, c2, c3, c4, c5, c6⟩ := fldF_spec hf
      obtain ⟨a4, al, an, ar⟩ := sh_n hW.1 hk c1
      have hn : (cel σ.1 a).2.1 = (clq ci).2.2 := an.trans (cls_n c1)
      have hr : ftR ci k = false := by
        rcases c6 with ⟨rfl, h5⟩ | ⟨rfl, h5⟩ | ⟨rfl, h5, -⟩
        · simp [ftR, h5]
        · simp [ftR, h5]
        · omega
      have hnf : narrow (fty ci k) (.int x) = .int x ∧ fits (fty ci k) (.int x) = true := by
        rcases c6 with ⟨rfl, h5⟩ | ⟨rfl, h5⟩ | ⟨rfl, h5, -⟩
        · rw [h5]
          exact ⟨rfl, rfl⟩
        · rw [h5]
          rcases ht with ht | ⟨-, rfl | rfl⟩
          · omega
          · exact ⟨rfl, rfl⟩
          · exact ⟨rfl, rfl⟩
        · omega
      refine va_put (A := aA G) (H0 := s.heap) hx hb hts (cls_gw c1) (fty ci) (cls_ty c1) (cls_nm c1) hown hK hW.2.1 (wsl_D G σ) hS (a - 4) ((wsl_at a4 al).trans (by rw [ent_obj hk])) (cls_at c1) k c2 (hts _ c3) (fun x h => h) (by rw [c4]; exact hfin) (cls_ty c1 k c2) hnf.1 hnf.2 (by rw [entF_len]; omega) hd (fun H1 locs1 hP1 hD1 hS1 => ?_)
      have e : (wsl G σ).set (a - 4) (ad G a, .inr (ci, (entF G ci (cel σ.1 a).2.1 (cel σ.1 a).2.2 (σ.2 a)).set k (.int x))) = wsl G (σ.1, up2 σ.2 a k x) :=
        wsl_set (σ' := (σ.1, up2 σ.2 a k x)) a4 al rfl (fun j hj => ⟨rfl, up2_o hj⟩) (show ent G (cel σ.1 a) (up2 σ.2 a k x a) = _ by rw [ent_obj hk, up2_s, entF_upd hr])
      have hP2 : va_P G.1 vwCl (wsl G (σ.1, up2 σ.2 a k x)) H1 := by rw [← e]; exact hP1
      exact kk rfl rfl rfl rfl H1 locs1 ⟨hW.1, hP2, Wd_old hW (locs := locs1) (fun j h4 => ⟨rfl, up2_o (by omega)⟩) (S_old hb0 hS hS1)⟩ hS1
    · cases h
  · rename_i b a r ci k t fin hf
    split at h
    · rename_i hk
      obtain ⟨hk, rfl, hct, hco⟩ := hk
      cases h
      obtain ⟨c1, c2, c3, c4, c5, c6⟩ := fldF_spec hf
      obtain ⟨a4, al, an, ar⟩ := sh_n hW.1 hk c1
      have hn : (cel σ.1 a).2.1 = (clq ci).2.2 := an.trans (cls_n c1)
      rcases c6 with ⟨h5, -⟩ | ⟨h5, -⟩ | ⟨-, h5, h6, h7⟩
      · omega
      · omega
      have hft : narrow (fty ci k) (.ref (ad G b)) = .ref (ad G b) ∧ fits (fty ci k) (.ref (ad G b)) = true := by
        generalize fty ci k = ty at h6 ⊢
        cases ty <;> first | exact ⟨rfl, rfl⟩ | (cases h6)
      refine va_putF (A := aA G) (H0 := s.heap) hx hb hts (cls_gw c1) (fty ci) (cls_ty c1) (cls_nm c1) hown hK hW.2.1 (wsl_D G σ) hS (a - 4) ((wsl_at a4 al).trans (by rw [ent_obj hk])) (cls_at c1) k c2 (hts _ c3) (fun x h => h) (c4.trans h7) (hnm hct) (c5.trans (by rw [hco])) (cls_ty c1 k c2) hft.1 hft.2 (by rw [entF_len]; omega) hd (fun H1 locs1 hP1 hD1 hS1 => ?_)
      have hkr : k < (cel σ.1 a).2.2.length := by rw [ar, cls_n c1]; exact c2
      have hce : cel (setR σ.1 a k (some b)) a = ((cel σ.1 a).1, (cel σ.1 a).2.1, (cel σ.1 a).2.2.set k (some b)) := by
        show (σ.1.set a _).getD a _ = _
        rw [List.getD_eq_getElem?_getD, List.getElem?_set_self al]
        rfl
      have hco2 : ∀ j, j ≠ a → cel (setR σ.1 a k (some b)) j = cel σ.1 j := by
        intro j hj
        show (σ.1.set a _).getD j _ = σ.1.getD j _
        rw [List.getD_eq_getElem?_getD, List.getElem?_set_ne (fun e => hj e.symm), List.getD_eq_getElem?_getD]
      have hlen : (setR σ.1 a k (some b)).length = σ.1.length := List.length_set
      have e : (wsl G σ).set (a - 4) (ad G a, .inr (ci, (entF G ci (cel σ.1 a).2.1 (cel σ.1 a).2.2 (σ.2 a)).set k (.ref (ad G b)))) = wsl G (setR σ.1 a k (some b), σ.2) :=
        wsl_set (σ' := (setR σ.1 a k (some b), σ.2)) a4 al hlen (fun j hj => ⟨hco2 j hj, rfl⟩) (show ent G (cel (setR σ.1 a k (some b)) a) (σ.2 a) = _ by rw [hce, ent_obj (c := ((cel σ.1 a).1, (cel σ.1 a).2.1, (cel σ.1 a).2.2.set k (some b))) (ci := ci) hk, entF_setR h5 hkr])
      have hP2 : va_P G.1 vwCl (wsl G (setR σ.1 a k (some b), σ.2)) H1 := by rw [← e]; exact hP1
      exact kk rfl rfl hlen (setR_sum al) H1 locs1 ⟨setR_ok hW.1 al, hP2, Wd_old hW (locs := locs1) (fun j h4 => ⟨by show (cel (setR σ.1 a k (some b)) j).2.1 = _; rw [hco2 j (Nat.ne_of_lt (Nat.lt_of_lt_of_le h4 a4))]; rfl, rfl⟩) (S_old hb0 hS hS1)⟩ hS1
    · cases h
  · cases h
end
section
variable {p : Program} {l : Launch} {e : Env} {R : Room} {s : State} {m : MethodId} {args : Array Value} {below : List Frame} {meth : Method} {c : Code} {H : Heap} {locs : List Loc} {cells slots : Nat} {Q : State → Prop}
variable {G : mG} {cc : ByteArray} {nL o pc pc' len : Nat} {ls st ls' st' : List Value} {lr : Array Slot} {σ σ' : mSt} {ins : Instr} {i : Nat} {ct : Option (Nat × Nat)}
theorem simIald (C : Cx G p s m args c cc nL o) (hd : decode cc pc = .ok (.iaload, 1)) (hW : Wd G s H σ) (h : mIald pc ls st σ = some (.inl (pc', ls', st', σ'))) (kk : pc' = pc + 1 → ls' = ls → σ' = σ → W p l e R s m args below meth c H locs cells slots Q (F0 m pc' lr (st'.map (rl G)))) : W p l e R s m args below meth c H locs cells slots Q (F0 m pc lr (st.map (rl G))) := by
  obtain ⟨hx, hb, -, -, -, hK, -⟩ := C
  unfold mIald at h
  split at h
  · rename_i i a r
    split at h
    · rename_i hk
      obtain ⟨hk, hi⟩ := hk
      cases h
      rcases hk with hk | hk
      · obtain ⟨a4, al⟩ := sh_in hW.1 (a := a) (by omega) (by omega)
        exact va_iald hx hb hK hW.2.1 (a - 4) 0 ((wsl_at a4 al).trans (by rw [ent_0 hk]; try rfl)) rfl (inb_in hi) hd (kk rfl rfl rfl)
      · have a4 : a < 4 := by
          rcases Nat.lt_or_ge a 4 with h1 | h1
          · exact h1
          · rcases Nat.lt_or_ge a σ.1.length with h2 | h2
            · rcases hW.1.2.2 a h1 h2 with h3 | ⟨c2, h3, h4, -⟩
              · omega
              · omega
            · rw [kd_out h2] at hk; omega
        obtain ⟨⟨scr, x1, x2, x3, x4, -, x5⟩, -⟩ := hW.2.2 a a4
        have hin := inb_in hi
        have hlt : i.toNatClampNeg < ln σ.1 a := Nat.not_le.mp fun q => hin (Or.inr q)
        have hc : H[ad G a]? = some scr := by rw [ad_lo a4]; exact x1
        exact W.iald hx hb hc x2 x3 (fun q => by rcases q with q | q; exact hin (Or.inl q); omega) (x5 _ hlt) rfl rfl hd (kk rfl rfl rfl)
    · cases h
  · cases h
theorem simBald (C : Cx G p s m args c cc nL o) (hd : decode cc pc = .ok (.baload, 1)) (hW : Wd G s H σ) (h : mBald pc ls st σ = some (.inl (pc', ls', st', σ'))) (kk : pc' = pc + 1 → ls' = ls → σ' = σ → W p l e R s m args below meth c H locs cells slots Q (F0 m pc' lr (st'.map (rl G)))) : W p l e R s m args below meth c H locs cells slots Q (F0 m pc lr (st.map (rl G))) := by
  obtain ⟨hx, hb, -, -, -, hK, -⟩ := C
  unfold mBald at h
  split at h
  · rename_i i a r
    split at h
    · rename_i hk
      obtain ⟨hk, hi⟩ := hk
      cases h
      obtain ⟨a4, al⟩ := sh_in hW.1 (a := a) (by omega) (by omega)
      exact va_zald hx hb hK hW.2.1 (a - 4) 1 ((wsl_at a4 al).trans (by rw [ent_1 hk]; try rfl)) rfl (inb_in hi) hd (kk rfl rfl rfl)
    · cases h
  · cases h
theorem simAald (C : Cx G p s m args c cc nL o) (hd : decode cc pc = .ok (.aaload, 1)) (hW : Wd G s H σ) (h : mAald pc ls st σ = some (.inl (pc', ls', st', σ'))) (kk : pc' = pc + 1 → ls' = ls → σ' = σ → W p l e R s m args below meth c H locs cells slots Q (F0 m pc' lr (st'.map (rl G)))) : W p l e R s m args below meth c H locs cells slots Q (F0 m pc lr (st.map (rl G))) := by
  obtain ⟨hx, hb, -, -, -, hK, -⟩ := C
  unfold mAald at h
  split at h
  · rename_i i a r
    split at h
    · rename_i hk
      obtain ⟨hk, hi⟩ := hk
      cases h
      have hin := inb_in hi
      rcases hk with hk | hk
      · obtain ⟨a4, al⟩ := sh_in hW.1 (a := a) (by omega) (by omega)
        refine va_aldq hx hb hK hW.2.1 (a - 4) 2 ((wsl_at a4 al).trans (by rw [ent_2 hk]; try rfl)) rfl hin hd ?_
        have e : va_rf (rad G ((cel σ.1 a).2.2.getD i.toNatClampNeg none)) = rl G (rfv (rfo σ.1 a i.toNatClampNeg)) := (rl_rfv G _).symm
        rw [e]
        exact kk rfl rfl rfl
      · obtain ⟨a4, al⟩ := sh_in hW.1 (a := a) (by omega) (by omega)
        have hlt : i.toNatClampNeg < ln σ.1 a := Nat.not_le.mp fun q => hin (Or.inr q)
        have ha := hW.2.1 (a - 4) _ ((wsl_at a4 al).trans (by rw [ent_3 hk]; try rfl))
        have e : va_rf (rad G ((cel σ.1 a).2.2.getD i.toNatClampNeg none)) = rl G (rfv (rfo σ.1 a i.toNatClampNeg)) := (rl_rfv G _).symm
        refine W.aald (v := rl G (rfv (rfo σ.1 a i.toNatClampNeg))) (ty := .array .int) hx hb ha ((hK.2 3 (G.2.1.2.2.2, .array .int) rfl).1 (cel σ.1 a).2.1 _) rfl (fun q => by cases q) ?_ ?_ rfl rfl hd (kk rfl rfl rfl)
        · show ¬ (i < 0 ∨ (arrV _ _ _).slots.size ≤ _)
          rw [arrV_size]
          exact hin
        · show (arrV _ _ _).slots[i.toNatClampNeg]? = _
          exact (arrV_read G.2.1.2.2.2 (fun j => va_rf (rad G ((cel σ.1 a).2.2.getD j none))) hlt).trans (by rw [← e])
    · cases h
  · cases h
theorem simIast (C : Cx G p s m args c cc nL o) (hd : decode cc pc = .ok (.iastore, 1)) (hW : Wd G s H σ) (hS : va_S (aA G) s.heap H locs) (hb0 : G.2.2.1 ≤ s.heap.size) (h : mIast pc ls st σ = some (.inl (pc', ls', st', σ'))) (kk : pc' = pc + 1 → ls' = ls → σ'.1 = σ.1 → ∀ (H1 : Heap) (locs1 : List Loc), Wd G s H1 σ' → va_S (aA G) s.heap H1 locs1 → W p l e R s m args below meth c H1 locs1 cells slots Q (F0 m pc' lr (st'.map (rl G)))) : W p l e R s m args below meth c H locs cells slots Q (F0 m pc lr (st.map (rl G))) := by
  obtain ⟨hx, hb, -, -, -, hK, -⟩ := C
  unfold mIast at h
  split at h
  · rename_i x i a r
    split at h
    · rename_i hk
      obtain ⟨hk, hi⟩ := hk
      cases h
      obtain ⟨a4, al⟩ := sh_in hW.1 (a := a) (by omega) (by omega)
      refine va_iast (A := aA G) (H0 := s.heap) hx hb hK hW.2.1 (wsl_D G σ) hS (a - 4) 0 ((wsl_at a4 al).trans (by rw [ent_0 hk]; try rfl)) rfl (inb_in hi) hd (fun H1 locs1 hP1 hD1 hS1 => ?_)
      have e : (wsl G σ).set (a - 4) (ad G a, .inl (G.2.1.1, (cel σ.1 a).2.1, .inl (upd (σ.2 a) i.toNatClampNeg x))) = wsl G (σ.1, up2 σ.2 a i.toNatClampNeg x) :=
        wsl_set (σ' := (σ.1, up2 σ.2 a i.toNatClampNeg x)) a4 al rfl (fun j hj => ⟨rfl, up2_o hj⟩) (show ent G (cel σ.1 a) (up2 σ.2 a i.toNatClampNeg x a) = _ by rw [ent_0 hk, up2_s])
      have hP2 : va_P G.1 vwCl (wsl G (σ.1, up2 σ.2 a i.toNatClampNeg x)) H1 := by rw [← e]; exact hP1
      exact kk rfl rfl rfl H1 locs1 ⟨hW.1, hP2, Wd_old hW (locs := locs1) (fun j h4 => ⟨rfl, up2_o (by omega)⟩) (S_old hb0 hS hS1)⟩ hS1
    · cases h
  · cases h
theorem simBast (C : Cx G p s m args c cc nL o) (hd : decode cc pc = .ok (.bastore, 1)) (hW : Wd G s H σ) (hS : va_S (aA G) s.heap H locs) (hb0 : G.2.2.1 ≤ s.heap.size) (h : mBast ct pc ls st σ = some (.inl (pc', ls', st', σ'))) (kk : pc' = pc + 1 → ls' = ls → σ'.1 = σ.1 → ∀ (H1 : Heap) (locs1 : List Loc), Wd G s H1 σ' → va_S (aA G) s.heap H1 locs1 → W p l e R s m args below meth c H1 locs1 cells slots Q (F0 m pc' lr (st'.map (rl G)))) : W p l e R s m args below meth c H locs cells slots Q (F0 m pc lr (st.map (rl G))) := by
  obtain ⟨hx, hb, -, -, -, hK, -⟩ := C
  unfold mBast at h
  split at h
  · rename_i x i a r
    split at h
    · rename_i hk
      obtain ⟨-, hk, hi, hz⟩ := hk
      cases h
      obtain ⟨a4, al⟩ := sh_in hW.1 (a := a) (by omega) (by omega)
      refine va_zast (A := aA G) (H0 := s.heap) hx hb hK hW.2.1 (wsl_D G σ) hS (a - 4) 1 ((wsl_at a4 al).trans (by rw [ent_1 hk]; try rfl)) rfl (inb_in hi) hd (fun H1 locs1 hP1 hD1 hS1 => ?_)
      have hz2 : vp_nar .boolean x = x := by rcases hz with rfl | rfl <;> rfl
      rw [hz2] at hP1
      have e : (wsl G σ).set (a - 4) (ad G a, .inl (G.2.1.2.1, (cel σ.1 a).2.1, .inl (upd (σ.2 a) i.toNatClampNeg x))) = wsl G (σ.1, up2 σ.2 a i.toNatClampNeg x) :=
        wsl_set (σ' := (σ.1, up2 σ.2 a i.toNatClampNeg x)) a4 al rfl (fun j hj => ⟨rfl, up2_o hj⟩) (show ent G (cel σ.1 a) (up2 σ.2 a i.toNatClampNeg x a) = _ by rw [ent_1 hk, up2_s])
      have hP2 : va_P G.1 vwCl (wsl G (σ.1, up2 σ.2 a i.toNatClampNeg x)) H1 := by rw [← e]; exact hP1
      exact kk rfl rfl rfl H1 locs1 ⟨hW.1, hP2, Wd_old hW (locs := locs1) (fun j h4 => ⟨rfl, up2_o (by omega)⟩) (S_old hb0 hS hS1)⟩ hS1
    · cases h
  · cases h
theorem simAlen (C : Cx G p s m args c cc nL o) (hd : decode cc pc = .ok (.arraylength, 1)) (hW : Wd G s H σ) (h : mAlen pc ls st σ = some (.inl (pc', ls', st', σ'))) (kk : pc' = pc + 1 → ls' = ls → σ' = σ → W p l e R s m args below meth c H locs cells slots Q (F0 m pc' lr (st'.map (rl G)))) : W p l e R s m args below meth c H locs cells slots Q (F0 m pc lr (st.map (rl G))) := by
  obtain ⟨hx, hb, -, -, -, hK, -⟩ := C
  unfold mAlen at h
  split at h
  · rename_i a r
    split at h
    · rename_i hk
      cases h
      rcases hk with hk | hk
      · obtain ⟨a4, al⟩ := sh_in hW.1 (a := a) (by omega) (by omega)
        exact va_alen (x := (ln σ.1 a, .inl (σ.2 a))) hx hb hK hW.2.1 (a - 4) 0 ((wsl_at a4 al).trans (by rw [ent_0 hk]; try rfl)) rfl rfl hd (kk rfl rfl rfl)
      · have a4 : a < 4 := by
          rcases Nat.lt_or_ge a 4 with h1 | h1
          · exact h1
          · rcases Nat.lt_or_ge a σ.1.length with h2 | h2
            · rcases hW.1.2.2 a h1 h2 with h3 | ⟨c2, h3, h4, -⟩
              · omega
              · omega
            · rw [kd_out h2] at hk; omega
        obtain ⟨⟨scr, x1, x2, x3, -, x4, x5⟩, -⟩ := hW.2.2 a a4
        have hc : H[ad G a]? = some scr := by rw [ad_lo a4]; exact x1
        exact W.alen (n := nI (ln σ.1 a)) hx hb hc x2 x4 rfl rfl hd (kk rfl rfl rfl)
    · cases h
  · cases h
theorem cp2_o {h : mMem} {a sp b dp n k : Nat} (hk : k ≠ b) : cp2 h a sp b dp n k = h k := by
  funext j
  simp [cp2, hk]
theorem cp2_s (h : mMem) (a sp b dp n : Nat) : cp2 h a sp b dp n b = va_cpy (h a) (h b) sp dp n := by
  funext j
  simp [cp2, va_cpy]
theorem simAcy (C : Cx G p s m args c cc nL o) (hL : LR G nL ls lr) (hd : decode cc pc = .ok (.invokestatic i, 3)) (hW : Wd G s H σ) (hS : va_S (aA G) s.heap H locs) (hb0 : G.2.2.1 ≤ s.heap.size) (hR : 1 ≤ R.frames ∧ 40 ≤ R.locals) (hy : acyF o i = true) (h : mAcy ct pc ls st σ = some (.inl (pc', ls', st', σ'))) (kk : pc' = pc + 3 → ls' = ls → σ'.1 = σ.1 → ∀ (H1 : Heap) (locs1 : List Loc), Wd G s H1 σ' → va_S (aA G) s.heap H1 locs1 → W p l e R s m args below meth c H1 locs1 cells slots Q (F0 m pc' lr (st'.map (rl G)))) : W p l e R s m args below meth c H locs cells slots Q (F0 m pc lr (st.map (rl G))) := by
  obtain ⟨hx, hb, hml, hown, hts, hK, -⟩ := C
  unfold mAcy at h
  split at h
  · rename_i n dp b sp a r
    split at h
    · rename_i hk
      obtain ⟨-, ha, hbk, h1, h2, h3, h4, h5, h6⟩ := hk
      cases h
      obtain ⟨a4, al⟩ := sh_in hW.1 (a := a) (by omega) (by omega)
      obtain ⟨b4, bl⟩ := sh_in hW.1 (a := b) (by omega) (by omega)
      refine va_copyi (A := aA G) (H0 := s.heap) (ty := .int) hx hb (hml.trans hL.2.1.symm) hown (hts _ (acyF_spec hy)) (hts _ (wAt_gw acy_n rfl)) (hts _ (wAt_gw acy_s rfl)) (hts _ (wAt_gw acy_i rfl)) hK hW.2.1 (wsl_D G σ) hS (a - 4) (b - 4) 0 0 ((wsl_at a4 al).trans (by rw [ent_0 ha]; try rfl)) ((wsl_at b4 bl).trans (by rw [ent_0 hbk]; try rfl)) rfl rfl rfl h1 h2 h3 h4 h5 (fun _ _ => rfl) hR.1 ?_ hd (fun H1 locs1 hP1 hD1 hS1 => ?_)
      · rw [rl_sum]
        have : nativeFrameWords "java/lang/System" "arraycopy" 5 = 7 := by decide
        omega
      · have e : (wsl G σ).set (b - 4) (ad G b, .inl (G.2.1.1, (cel σ.1 b).2.1, .inl (va_cpy (σ.2 a) (σ.2 b) sp.toNatClampNeg dp.toNatClampNeg n.toNatClampNeg))) = wsl G (σ.1, cp2 σ.2 a sp.toNatClampNeg b dp.toNatClampNeg n.toNatClampNeg) :=
          wsl_set (σ' := (σ.1, cp2 σ.2 a sp.toNatClampNeg b dp.toNatClampNeg n.toNatClampNeg)) b4 bl rfl (fun j hj => ⟨rfl, cp2_o hj⟩) (show ent G (cel σ.1 b) (cp2 σ.2 a sp.toNatClampNeg b dp.toNatClampNeg n.toNatClampNeg b) = _ by rw [ent_0 hbk, cp2_s])
        have hP2 : va_P G.1 vwCl (wsl G (σ.1, cp2 σ.2 a sp.toNatClampNeg b dp.toNatClampNeg n.toNatClampNeg)) H1 := by rw [← e]; exact hP1
        exact kk rfl rfl rfl H1 locs1 ⟨hW.1, hP2, Wd_old hW (locs := locs1) (fun j h4 => ⟨rfl, cp2_o (by omega)⟩) (S_old hb0 hS hS1)⟩ hS1
    · cases h
  · cases h
theorem simStc (C : Cx G p s m args c cc nL o) (hd : decode cc pc = .ok (.getstatic i, 3)) (hS : va_S (aA G) s.heap H locs) {k : Nat} (hc : stcF o i = some k) (kk : W p l e R s m args below meth c H locs cells slots Q (F0 m (pc + 3) lr (.ref (ad G k) :: st.map (rl G)))) : W p l e R s m args below meth c H locs cells slots Q (F0 m pc lr (st.map (rl G))) := by
  obtain ⟨hx, hb, -, hown, hts, -, hZ⟩ := C
  obtain ⟨⟨k1, k3⟩, hl⟩ := stcF_spec hc
  rw [ad_lo (show k < 4 by omega)] at kk
  rcases hl with hl | hl
  · exact va_gets hx hb (hZ k k1 k3) hS hown (hts _ hl) (fun x h => h) hd kk
  · exact va_getsN hx hb (hZ k k1 k3) hS hown (hts _ hl) (fun x h => h) hd kk
end
