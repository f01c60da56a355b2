/-! THE CLAIM OUT OF ONE WALK OF THE LAW'S BODY. Your part is whole_start (and what it stands on); all else here is the same for every law, but numbers. -/
def R_law : String := "SoupRightsLaw"
def lw_P (b : Addr) (xs : List Int32) (args : Array Value) (s : State) : Prop := args = #[.ref b] ∧ s.IntsAt b xs ∧ xs.length ≤ 384 ∧ (Jvm.Cond.and given_1 narrow_1).before args s = true
def lw_Q (_ : Array Value) (s : State) (o : Outcome) (t : State) : Prop := o = .returned (some (.int 1)) ∧ Framed s o t [] 600000 7302250
def lw_Z (below : List Frame) (a : Array Value) (s : State) : State → Prop := fun t => ∃ o, t.status = .running ∧ Ended t below o ∧ lw_Q a s o t
/-- the law's own end, with 1 on the stack, nothing written that was there before, its room as the claim has it -/
theorem lw_ret {p : Program} {l : Launch} {e : Env} {s : State} {m : MethodId} {below : List Frame} {meth : Method} {c : Code} {b : Nat} (hx : p.tables.exec = Jvm.exec) (hb : c.code = code) (hr : meth.sig.returnType = ret) (hlocks : meth.locks = false) {pc : Nat} {H : Heap} {ls : Array Slot} (hdg : decode code pc = .ok (.ireturn, 1)) : W p l e room_1 s m #[Value.ref b] below meth c H [] 600000 7302250 (lw_Z below #[Value.ref b] s) (F0 m pc ls [.int 1]) := by
  intro T hT X
  obtain ⟨fs, hret, hrun, hended, hW, hframe⟩ := X.leave (v := some (.int 1)) (hlocks := hlocks) (fun h => by rw [hr] at h; cases h)
  have hmeth' : T.vm.method? m = some meth := X.method'
  refine ⟨T.setFrames fs, ?_, .returned (some (.int 1)), hrun, hended, rfl, ⟨_, rfl⟩, hW, hframe⟩
  jvm_step X.here [X.here.top, hx, hb, hdg, hmeth', hr, ret, narrow_b1]
  (try refine ⟨rfl, ?_⟩); (try refine ⟨rfl, ?_⟩)
  first | (intro acts; rw [hret _ acts rfl rfl rfl]) | rw [hret _ _ rfl rfl rfl]
  exact Steps.refl _
/-- what holds at the law's entry: the machine, the code, the tables' words (any of lw_tbl by 'hts w (by decide +kernel)'), the script of L ints xs at the cell b, what the Statement gives of the start (any of its parts by flat_of_before) -/
def lw_At (p : Program) (s : State) (m : MethodId) (meth : Method) (c : Code) (b L : Nat) (xs : Nat → Int32) : Prop :=
  p.tables.exec = Jvm.exec ∧ c.code = code ∧ meth.sig.returnType = ret ∧ c.maxLocals = 4 ∧ s.vm.findClass R_law = some m.cls ∧ (∀ w ∈ lw_tbl, w.before #[Value.ref b] s = true) ∧ va_X b L xs s s.heap ∧ b < s.heap.size ∧ meth.locks = false ∧ (Jvm.Cond.and given_1 narrow_1).before #[Value.ref b] s = true
/-! ===== the law's walk, out of a run of the mini machine ===== -/
def M_L : mRec := (9, yL_law, code, 4, some .boolean, 1, none)
def olds (L : Nat) : mSh := [(4, L, []), (4, 6, []), (4, 6, []), (4, 6, [])]
def S0 (L : Nat) : mSh := olds L ++ (scl 4 ++ mdl 106)
def tbP (j : Nat) : Int32 := match j with
  | 0 => -1
  | 1 => 0
  | 2 => 1
  | 3 => 1
  | 4 => 0
  | 5 => 4
  | _ => 0
def tbS (j : Nat) : Int32 := match j with
  | 0 => 10
  | 1 => 11
  | 2 => 12
  | 3 => 11
  | 4 => 13
  | 5 => 14
  | _ => 0
def tbM (j : Nat) : Int32 := match j with
  | 0 => 20
  | 1 => 21
  | 2 => 24
  | 3 => 22
  | 4 => 23
  | 5 => 23
  | _ => 0
def h0 (xs : Nat → Int32) : mMem := fun a j => match a with
  | 0 => xs j
  | 1 => tbP j
  | 2 => tbS j
  | 3 => tbM j
  | _ => 0
def hin (xs : Nat → Int32) : mMem := m18 (m18 (h0 xs) 16) 110
theorem h0_cl (xs : Nat → Int32) (n : Nat) (hn : 4 ≤ n) : cl2 (h0 xs) n = h0 xs := by
  funext a j
  simp only [cl2]
  by_cases h : n ≤ a
  · rw [if_pos h]
    match a, h with
    | 0, h => omega
    | 1, h => omega
    | 2, h => omega
    | 3, h => omega
    | a + 4, h => rfl
  · rw [if_neg h]
theorem noI {o i pc : Nat} {ls st : List Value} {σ : mSt} {y : mRec × List Value × List Value} (h : mInvI o i none pc ls st σ = some (.inr (.inr y))) : False := by
  unfold mInvI at h
  split at h
  · split at h
    · split at h <;> cases h
    · cases h
  · cases hc : calF o i with
    | none => rw [hc] at h; cases h
    | some q => rw [hc] at h; cases h
theorem noR {ret : Option FieldType} {st : List Value} {σ : mSt} {y : mRec × List Value × List Value} : (mIret ret none st σ = some (.inr (.inr y)) → False) ∧ (mLret ret none st σ = some (.inr (.inr y)) → False) ∧ (mAret ret none st σ = some (.inr (.inr y)) → False) ∧ (mVret ret none st σ = some (.inr (.inr y)) → False) := by
  refine ⟨fun h => ?_, fun h => ?_, fun h => ?_, fun h => ?_⟩
  · unfold mIret mEnd at h
    repeat' (split at h)
    all_goals (cases h)
  · unfold mLret mEnd at h
    repeat' (split at h)
    all_goals (cases h)
  · unfold mAret mEnd at h
    repeat' (split at h)
    all_goals (cases h)
  · unfold mVret mEnd at h
    repeat' (split at h)
    all_goals (cases h)
section
variable {p : Program} {l : Launch} {e : Env} {s : State} {m : MethodId} {b : Nat} {below : List Frame} {meth : Method} {c : Code} {G : mG}
set_option maxRecDepth 100000 in
theorem law_W {D : Nat} (IH : SndM l G D) (hD : D + 1 ≤ 2000) (hx : p.tables.exec = Jvm.exec) (hb : c.code = code) (hr : meth.sig.returnType = ret) (hlk : meth.locks = false) (hG : G.2.2.1 = s.heap.size) (C : Cx G p s m #[Value.ref b] c code 4 9) : ∀ (n pc : Nat) (ls st : List Value) (σ : mSt), wpx (WP D) M_L none n pc ls st σ (fun r _ => r = some (.int 1)) → ∀ {H : Heap} {locs : List Loc} {cells slots : Nat} {lr : Array Slot}, LR G 4 ls lr → Wd G s H σ → va_S (aA G) s.heap H locs → cells ≤ 600000 ∧ slots ≤ 7302250 → W p l e room_1 s m #[Value.ref b] below meth c H locs cells slots (lw_Z below #[Value.ref b] s) (F0 m pc lr (st.map (rl G))) := by
  intro n
  induction n with
  | zero => intro pc ls st σ h; exact h.elim
  | succ n ih =>
    intro pc ls st σ h H locs cells slots lr hL hW hS hcs
    have hb0 : G.2.2.1 ≤ s.heap.size := Nat.le_of_eq hG
    have hR : 1 ≤ room_1.frames ∧ 40 ≤ room_1.locals := by decide
    have hR2 : D + 1 ≤ room_1.frames ∧ 40 * (D + 1) ≤ room_1.locals := ⟨by show D + 1 ≤ 2048; omega, by show 40 * (D + 1) ≤ 84000; omega⟩
    have hcs2 : cells ≤ room_1.cells ∧ slots ≤ room_1.slots := hcs
    simp only [wpx] at h
    split at h
    · rename_i pc' ls' st' σ' hat
      obtain ⟨ins, len, hd, hl, hs⟩ := mAt_spec hat
      obtain ⟨g1, -⟩ := grow hs
      refine sim1 C (fun hc => by cases hc) hd hl hL hW hS hb0 hR hcs2 (fun q hq => by cases hq) hs (fun k1 k2 lr' H1 locs1 e1 e2 hL1 hW1 hS1 => ?_)
      obtain ⟨a1, a2⟩ := g1 rfl
      exact ih pc' ls' st' σ' h hL1 hW1 hS1 (by omega)
    · rename_i r σ' hat
      obtain ⟨ins, len, hd, hl, hs⟩ := mAt_spec hat
      have hs5 := mStep_cases hs
      clear hs hat
      rcases hs5 with hs | hs | hs | hs | hs
      · exact (noA1 hs).elim
      · exact (noA2 hs).elim
      · exact (noA3 hs).elim
      · exact (noB hs).elim
      · unfold mStC at hs
        split at hs
        all_goals (try (exfalso; simp only [mInvV, mInvS, mInvI, mAcy, mMmx, mCallR, nxt] at hs; repeat' (split at hs)))
        all_goals (try (cases hs; done))
        · have h1 : len = 1 := by simpa [mLen] using hl
          subst h1
          replace hs := Option.some.inj hs
          unfold mIret at hs
          split at hs
          · rename_i v hr2
            cases hr2
          · rename_i v hr2
            split at hs
            · cases hs
              have hv : v = 1 := Value.int.inj (Option.some.inj h)
              subst hv
              refine va_forget (fun q hq => by have := hS.2.2 q hq; unfold aA at this; omega) (W.widen hcs.1 hcs.2 ?_)
              exact lw_ret hx hb hr hlk hd
            · cases hs
          · cases hs
        · replace hs := Option.some.inj hs
          unfold mLret at hs
          split at hs
          · rename_i v hr2; cases hr2
          · cases hs
        · replace hs := Option.some.inj hs
          unfold mAret at hs
          split at hs
          · rename_i v _ hr2; cases hr2
          · cases hs
        · replace hs := Option.some.inj hs
          unfold mVret at hs
          split at hs
          · rename_i hr2; cases hr2
          · cases hs
    · rename_i M' as rest hat
      obtain ⟨ins, len, hd, hl, hs⟩ := mAt_spec hat
      have hs5 := mStep_cases hs
      clear hs hat
      rcases hs5 with hs | hs | hs | hs | hs
      · exact (noA1 hs).elim
      · exact (noA2 hs).elim
      · exact (noA3 hs).elim
      · exact (noB hs).elim
      · unfold mStC at hs
        split at hs
        · have h1 : len = 3 := by simpa [mLen] using hl
          subst h1
          exact simV IH C hL hd hW hS hb0 hR2 hcs2.1 hcs2.2 (Option.some.inj hs) h (fun r σ' H1 locs1 hQ hW1 hS1 => ih _ _ _ _ hQ hL hW1 hS1 hcs)
        · have h1 : len = 3 := by simpa [mLen] using hl
          subst h1
          exact simS IH C hL hd hW hS hb0 hR2 hcs2.1 hcs2.2 (Option.some.inj hs) h (fun r σ' H1 locs1 hQ hW1 hS1 => ih _ _ _ _ hQ hL hW1 hS1 hcs)
        · exact (noI (Option.some.inj hs)).elim
        · exact (noR.1 (Option.some.inj hs)).elim
        · exact (noR.2.1 (Option.some.inj hs)).elim
        · exact (noR.2.2.1 (Option.some.inj hs)).elim
        · exact (noR.2.2.2 (Option.some.inj hs)).elim
        · cases hs
    · exact h.elim
end
theorem tb_of {args : Array Value} {s : State} {n : String} {f : Nat → Int32} {k : Nat} (hl : (Cond.laysStatic RX7 n "[I").before args s = true) (hini : (Cond.initialized RX7).before args s = true) (harr : (Cond.arrayOf (.static RX7 n "[I") .int).before args s = true) (hlen : (Cond.eq (.length (.static RX7 n "[I")) (.int 6)).before args s = true) (hel : ∀ j : Nat, j < 6 → (Cond.eq (.elem (.static RX7 n "[I") (.int (Int32.ofNat j))) (.int (f j))).before args s = true) : ∃ t : Nat, va_Z RX7 n "[I" (.ref t) (fun q => s.heap.size ≤ q) s s.heap ∧ oX t 6 f s s.heap ∧ t < s.heap.size := by
  have hA : ∀ a : Nat, a < s.heap.size → ¬ (fun q : Nat => s.heap.size ≤ q) a := fun a h => Nat.not_le.mpr h
  obtain ⟨t, h1, cell, c1, c2, c3, c4, c5, c6, -⟩ := va_Tof (N := 6) (f := fun j => .int (f j)) (A := fun q => s.heap.size ≤ q) (by decide) harr (va_eqt hlen) (fun j hj => va_eqt (hel j hj)) hA
  exact ⟨t, va_Zref hl hini h1 hA, ⟨cell, c1, c2, c3, c4, c5, c6⟩, (Array.getElem?_eq_some_iff.mp c1).1⟩
theorem lt6 {P : Nat → Prop} (a0 : P 0) (a1 : P 1) (a2 : P 2) (a3 : P 3) (a4 : P 4) (a5 : P 5) : ∀ j, j < 6 → P j := by
  intro j hj
  rcases (show j = 0 ∨ j = 1 ∨ j = 2 ∨ j = 3 ∨ j = 4 ∨ j = 5 by omega) with rfl | rfl | rfl | rfl | rfl | rfl
  · exact a0
  · exact a1
  · exact a2
  · exact a3
  · exact a4
  · exact a5
set_option maxRecDepth 100000 in
set_option maxHeartbeats 4000000 in
/-- the law from its entry, if the mini machine's run of its loop ends with 1 -/
theorem start_of {p : Program} {e : Env} {s : State} {m : MethodId} {below : List Frame} {meth : Method} {c : Code} (l : Launch) {b L : Nat} {xs : Nat → Int32} (hL : L ≤ 384) (C0 : lw_At p s m meth c b L xs) {D : Nat} (hD : D + 4 ≤ 2000) (hpure : Wp (D + 3) M_L none 18 [.ref 0, .ref 4, .ref 106, .int (nI 0)] [] (S0 L, hin xs) (fun r _ => r = some (.int 1))) : W p l e room_1 s m #[Value.ref b] below meth c s.heap [] 0 0 (lw_Z below #[Value.ref b] s) (entryFrame m ([Value.ref b] : List Value).toArray 4) := by
  obtain ⟨hx, hb, hr, hml, hown, hts, hX, hbl, hlocks, hgv⟩ := id C0
  have hgw : ∀ w ∈ gw, w.before #[Value.ref b] s = true := fun w hw => hts w (List.mem_filter.mp hw).1
  have hg := flat_of_before _ hgv
  have hkn : ∀ ci, ci < 9 → ∃ (cC : ClassId) (iS : Nat → Nat), u_Kn s (clq ci).1 (clq ci).2.1 (clq ci).2.2 cC iS := by
    intro ci hc
    have hi : Cond.instantiable (cn ci) (nFl ci) ∈ gw := by
      rcases (show ci = 0 ∨ ci = 1 ∨ ci = 2 ∨ ci = 3 ∨ ci = 4 ∨ ci = 5 ∨ ci = 6 ∨ ci = 7 ∨ ci = 8 by omega) with rfl | rfl | rfl | rfl | rfl | rfl | rfl | rfl | rfl
      · exact (newF_spec (o := 7) (i := 34) (by decide +kernel)).2.2.1
      · exact (newF_spec (o := 7) (i := 55) (by decide +kernel)).2.2.1
      · exact (newF_spec (o := 7) (i := 48) (by decide +kernel)).2.2.1
      · exact (newF_spec (o := 7) (i := 41) (by decide +kernel)).2.2.1
      · exact (newF_spec (o := 7) (i := 23) (by decide +kernel)).2.2.1
      · exact (newF_spec (o := 7) (i := 7) (by decide +kernel)).2.2.1
      · exact (newF_spec (o := 7) (i := 16) (by decide +kernel)).2.2.1
      · exact (newF_spec (o := 9) (i := 7) (by decide +kernel)).2.2.1
      · exact (newF_spec (o := 9) (i := 10) (by decide +kernel)).2.2.1
    have := hgw _ hi
    rw [← cls_cn hc] at this
    exact u_known hts (cls_in hc) this
  obtain ⟨Dg, hDg⟩ : ∃ Dg : va_G, ∀ (ci : Nat) (q : vw_C), vwCl[ci]? = some q → u_Kn s q.1 q.2.1 q.2.2 (Dg.1 ci) (Dg.2 ci) := by
    refine ⟨(fun ci => if h : ci < 9 then Classical.choose (hkn ci h) else 0, fun ci => if h : ci < 9 then Classical.choose (Classical.choose_spec (hkn ci h)) else fun _ => 0), fun ci q hq => ?_⟩
    have hc : ci < 9 := by
      have h9 := (List.getElem?_eq_some_iff.mp hq).1
      exact h9
    have e : q = clq ci := Option.some.inj (hq.symm.trans (cls_at hc))
    subst e
    simp only [dif_pos hc]
    exact Classical.choose_spec (Classical.choose_spec (hkn ci hc))
  obtain ⟨cI, kI, pI, i1, i2, i3⟩ := Cond.arrayClass_spec (hgw _ (wAt_gw ac_I rfl))
  obtain ⟨cZ, kZ, pZ, z1, z2, z3⟩ := Cond.arrayClass_spec (hgw _ (wAt_gw ac_Z rfl))
  obtain ⟨pH, cH, kH, g1, -, g2, g3, g4⟩ := Cond.arrayOver_spec (hgw _ (wAt_gw ao_H rfl))
  obtain ⟨pG, cG, kG, w1, -, w2, w3, w4⟩ := arrayOver_specB (hgw _ (wAt_gw ao_I rfl))
  have hini := hts _ (wAt_in (i := 69) (w := .initialized RX7) (by decide +kernel))
  obtain ⟨t1, hz1, hx1, ht1⟩ := tb_of (n := "PARENT") (f := tbP) (k := 0) (hts _ (wAt_in ls_1)) hini (hg _ (by decide +kernel)) (hg _ (by decide +kernel)) (lt6 (hg _ (by decide +kernel)) (hg _ (by decide +kernel)) (hg _ (by decide +kernel)) (hg _ (by decide +kernel)) (hg _ (by decide +kernel)) (hg _ (by decide +kernel)))
  obtain ⟨t2, hz2, hx2, ht2⟩ := tb_of (n := "SIZE_BODY") (f := tbS) (k := 0) (hts _ (wAt_in ls_2)) hini (hg _ (by decide +kernel)) (hg _ (by decide +kernel)) (lt6 (hg _ (by decide +kernel)) (hg _ (by decide +kernel)) (hg _ (by decide +kernel)) (hg _ (by decide +kernel)) (hg _ (by decide +kernel)) (hg _ (by decide +kernel)))
  obtain ⟨t3, hz3, hx3, ht3⟩ := tb_of (n := "MARK_BODY") (f := tbM) (k := 0) (hts _ (wAt_in ls_3)) hini (hg _ (by decide +kernel)) (hg _ (by decide +kernel)) (lt6 (hg _ (by decide +kernel)) (hg _ (by decide +kernel)) (hg _ (by decide +kernel)) (hg _ (by decide +kernel)) (hg _ (by decide +kernel)) (hg _ (by decide +kernel)))
  obtain ⟨G, hG⟩ : ∃ G : mG, G = (Dg, (cI, cZ, cH, cG), s.heap.size, fun k => match k with | 0 => b | 1 => t1 | 2 => t2 | _ => t3) := ⟨_, rfl⟩
  have hG1 : G.2.2.1 = s.heap.size := by rw [hG]
  have hK : va_K G.1 vwCl (tysG G) s := by
    rw [hG]
    refine ⟨hDg, fun k q hk => ?_⟩
    have h4 : k < 4 := (List.getElem?_eq_some_iff.mp hk).1
    rcases (show k = 0 ∨ k = 1 ∨ k = 2 ∨ k = 3 by omega) with rfl | rfl | rfl | rfl
    · cases hk
      exact ⟨fun N z => ⟨fun q hq => (by cases hq), kI, i2, pI, i3⟩, i1⟩
    · cases hk
      exact ⟨fun N z => ⟨fun q hq => (by cases hq), kZ, z2, pZ, z3⟩, z1⟩
    · cases hk
      exact ⟨fun N z => ⟨fun q hq => (by cases hq), kH, g2, pH, g3⟩, kH, pH, g2, g3, g1, g4⟩
    · cases hk
      exact ⟨fun N z => ⟨fun q hq => (by cases hq), kG, w2, pG, w3⟩, w4⟩
  have hZ : ∀ k, 1 ≤ k → k ≤ 3 → va_Z RX7 (stn k) "[I" (.ref (G.2.2.2 k)) (aA G) s s.heap := by
    intro k k1 k3
    rw [hG]
    rcases (show k = 1 ∨ k = 2 ∨ k = 3 by omega) with rfl | rfl | rfl
    · exact hz1
    · exact hz2
    · exact hz3
  have C : Cx G p s m #[Value.ref b] c code 4 9 := ⟨hx, hb, hml, hown, hgw, hK, hZ⟩
  have hW : Wd G s s.heap (olds L, h0 xs) := by
    refine ⟨⟨by show 4 ≤ 4; decide, fun k hk => ?_, fun k h4 hk => ?_⟩, fun j q hj => ?_, fun k hk => ?_⟩
    · rcases (show k = 0 ∨ k = 1 ∨ k = 2 ∨ k = 3 by omega) with rfl | rfl | rfl | rfl <;> rfl
    · exfalso
      have : k < 4 := hk
      omega
    · exfalso
      rw [wsl_get] at hj
      rw [if_neg (by show ¬ j < 4 - 4; omega)] at hj
      cases hj
    · rw [hG]
      rcases (show k = 0 ∨ k = 1 ∨ k = 2 ∨ k = 3 by omega) with rfl | rfl | rfl | rfl
      · obtain ⟨scr, x1, x2, x3, x4, x5⟩ := hX
        exact ⟨⟨scr, x1, x2, x3, Nat.le_of_eq x4.symm, by rw [x4]; rfl, x5⟩, hbl⟩
      · exact ⟨hx1, ht1⟩
      · exact ⟨hx2, ht2⟩
      · exact ⟨hx3, ht3⟩
  have hb0 : G.2.2.1 ≤ s.heap.size := Nat.le_of_eq hG1
  have hS : va_S (aA G) s.heap s.heap [] := va_S.rf
  have IH := snd_all l G (D + 3)
  have hR2 : D + 3 + 1 ≤ room_1.frames ∧ 40 * (D + 3 + 1) ≤ room_1.locals := ⟨by show D + 3 + 1 ≤ 2048; omega, by show 40 * (D + 3 + 1) ≤ 84000; omega⟩
  have hl := lv_entry ([.ref b]) (n := 4) (Nat.le_of_ble_eq_true rfl)
  have eb : [Value.ref b] = [Value.ref 0].map (rl G) := by
    show _ = [Value.ref (ad G 0)]
    rw [ad_lo (show 0 < 4 by decide), hG]
    rfl
  rw [lg_entry_eq]
  generalize (lg_sl ([Value.ref b]) ++ List.replicate (4 - (lg_sl ([Value.ref b])).length) Slot.unset).toArray = lr at hl ⊢
  have hLR := ini_LR (G := G) (as := [.ref 0]) (n := 4) (lr := lr) (by decide) (by rw [← eb]; exact hl)
  have hLR : LR G 4 [.ref 0, jnk, jnk, jnk] lr := hLR
  have hl4 : (olds L).length = 4 := rfl
  have hs4 : ssum (olds L) = L + 18 := by simp [olds, ssum_cons, ssum_nil]
  have n1 : mNew 9 7 (some (300, 10000)) 0 [.ref 0, jnk, jnk, jnk] [] (olds L, h0 xs) = some (.inl (3, [.ref 0, jnk, jnk, jnk], [.ref 4], (olds L ++ [(17, 10, List.replicate 10 none)], cl2 (h0 xs) 4))) := g_new (o := 9) (i := 7) (c := (300, 10000)) (ret := none) (pc := 0) (ls := [.ref 0, jnk, jnk, jnk]) (st := []) (S := olds L) (h := h0 xs) (ci := 7) (by decide +kernel) (by rw [hl4]; decide) (by rw [hs4]; show L + 18 + 10 ≤ 10000; omega)
  refine simNew C (show decode code 0 = .ok (.new 7, 3) by decide +kernel) hW hS hb0 (fun q hq => by cases hq; rw [hl4, hs4, hG1]; refine ⟨rfl, ?_, ?_⟩; (show 0 + (300 - 4) ≤ 600000; decide); (show 0 + (10000 - (L + 18)) ≤ 7302250; omega)) n1 (fun _ _ n1 k1 e1 e2 H1 hW hS => ?_)
  have hl5 : (olds L ++ [(17, 10, List.replicate 10 none)]).length = 5 := rfl
  have hs5 : ssum (olds L ++ [(17, 10, List.replicate 10 none)]) = L + 28 := by rw [ssum_app, hs4]; rfl
  have e1 : n1 = 1 := by rw [hl4, hl5] at e1; omega
  have e2 : k1 = 10 := by rw [hs4, hs5] at e2; omega
  subst e1; subst e2
  refine simA1 (σ := (olds L ++ [(17, 10, List.replicate 10 none)], cl2 (h0 xs) 4)) (st := [.ref 4]) C (show decode code 3 = .ok (.dup, 1) by decide +kernel) rfl hLR rfl (fun _ lr hLR => ?_)
  have n2 : mInvI 9 9 (some (300, 10000)) 4 [.ref 0, jnk, jnk, jnk] [.ref 4, .ref 4] (olds L ++ [(17, 10, List.replicate 10 none)], cl2 (h0 xs) 4) = some (.inr (.inr (M_X7_init, [.ref 4], [.ref 4]))) := g_invI (o := 9) (i := 9) (c := (300, 10000)) (pc := 4) (ls := [.ref 0, jnk, jnk, jnk]) (S := olds L ++ [(17, 10, List.replicate 10 none)]) (h := cl2 (h0 xs) 4) (ret := none) (t := 2) (q := (101, 1373)) (by decide +kernel) rfl (by decide) rfl rfl (by rw [hl5]; decide) (by rw [hs5]; show L + 28 + 1373 ≤ 10000; omega) ⟨Nat.le_of_ble_eq_true rfl, Nat.le_of_ble_eq_true rfl⟩
  refine simI (d := D + 3) (Q' := fun r σ => r = none ∧ σ = (olds L ++ scl 4, m18 (h0 xs) 16)) IH C hLR (show decode code 4 = .ok (.invokespecial 9, 3) by decide +kernel) hW hS hb0 hR2 (fun q hq => by cases hq; rw [hl5, hs5, hG1]; refine ⟨rfl, ?_, ?_⟩; (show 1 + (300 - 5) ≤ 600000; decide); (show 10 + (10000 - (L + 28)) ≤ 7302250; omega)) n2 ?_ ?_
  · rw [h0_cl xs 4 (by decide), q_X7_init (a := 4) (P := olds L) rfl rfl]
    refine ⟨rfl, ?_⟩
    rw [h0_cl xs _ (by rw [hl4]; decide)]
    rfl
  rintro r σ' H2 locs2 ⟨rfl, rfl⟩ hW hS f1 f2
  refine simA1 (σ := (olds L ++ scl 4, m18 (h0 xs) 16)) (st := [.ref 4]) C (show decode code 7 = .ok (.astore_n 1, 1) by decide +kernel) rfl hLR rfl (fun _ lr hLR => ?_)
  have hl6 : (olds L ++ scl 4).length = 106 := rfl
  have hs6 : ssum (olds L ++ scl 4) = L + 1401 := by
    rw [ssum_app, hs4]
    simp only [scl, ssum_cons, ssum_app, shf_sum, tap_sum, hsc_sum, act_sum, fsc_sum, bar_sum, askc_sum, Nat.reduceAdd, Nat.add_assoc]
  have n3 : mNew 9 10 (some (300, 10000)) 8 [.ref 0, .ref 4, jnk, jnk] [] (olds L ++ scl 4, m18 (h0 xs) 16) = some (.inl (11, [.ref 0, .ref 4, jnk, jnk], [.ref 106], (olds L ++ scl 4 ++ [(18, 18, List.replicate 18 none)], cl2 (m18 (h0 xs) 16) 106))) := g_new (o := 9) (i := 10) (c := (300, 10000)) (ret := none) (pc := 8) (ls := [.ref 0, .ref 4, jnk, jnk]) (st := []) (S := olds L ++ scl 4) (h := m18 (h0 xs) 16) (ci := 8) (by decide +kernel) (by rw [hl6]; decide) (by rw [hs6]; show L + 1401 + 18 ≤ 10000; omega)
  refine simNew C (show decode code 8 = .ok (.new 10, 3) by decide +kernel) hW hS hb0 (fun q hq => by cases hq; rw [hl6, hs6, hG1]; refine ⟨rfl, ?_, ?_⟩; (show 0 + 1 + 101 + (300 - 106) ≤ 600000; decide); (show 0 + 10 + 1373 + (10000 - (L + 1401)) ≤ 7302250; omega)) n3 (fun _ _ n1 k1 e1 e2 H3 hW hS => ?_)
  have hl7 : (olds L ++ scl 4 ++ [(18, 18, List.replicate 18 none)]).length = 107 := rfl
  have hs7 : ssum (olds L ++ scl 4 ++ [(18, 18, List.replicate 18 none)]) = L + 1419 := by rw [ssum_app, hs6]; rfl
  have e1 : n1 = 1 := by rw [hl6, hl7] at e1; omega
  have e2 : k1 = 18 := by rw [hs6, hs7] at e2; omega
  subst e1; subst e2
  refine simA1 (σ := (olds L ++ scl 4 ++ [(18, 18, List.replicate 18 none)], cl2 (m18 (h0 xs) 16) 106)) (st := [.ref 106]) C (show decode code 11 = .ok (.dup, 1) by decide +kernel) rfl hLR rfl (fun _ lr hLR => ?_)
  have n4 : mInvI 9 12 (some (300, 10000)) 12 [.ref 0, .ref 4, jnk, jnk] [.ref 106, .ref 106] (olds L ++ scl 4 ++ [(18, 18, List.replicate 18 none)], cl2 (m18 (h0 xs) 16) 106) = some (.inr (.inr (M_X8_init, [.ref 106], [.ref 106]))) := g_invI (o := 9) (i := 12) (c := (300, 10000)) (pc := 12) (ls := [.ref 0, .ref 4, jnk, jnk]) (S := olds L ++ scl 4 ++ [(18, 18, List.replicate 18 none)]) (h := cl2 (m18 (h0 xs) 16) 106) (ret := none) (t := 2) (q := (7, 2054)) (by decide +kernel) rfl (by decide) rfl rfl (by rw [hl7]; decide) (by rw [hs7]; show L + 1419 + 2054 ≤ 10000; omega) ⟨Nat.le_of_ble_eq_true rfl, Nat.le_of_ble_eq_true rfl⟩
  have hm : ∀ n, 17 ≤ n → cl2 (m18 (h0 xs) 16) n = m18 (h0 xs) 16 := by
    intro n hn
    rw [← h0_cl xs 4 (by decide)]
    exact cl2_m18 _ _ _ _ (by omega) (by omega)
  refine simI (d := D + 3) (Q' := fun r σ => r = none ∧ σ = (S0 L, hin xs)) IH C hLR (show decode code 12 = .ok (.invokespecial 12, 3) by decide +kernel) hW hS hb0 hR2 (fun q hq => by cases hq; rw [hl7, hs7, hG1]; refine ⟨rfl, ?_, ?_⟩; (show 0 + 1 + 101 + 1 + (300 - 107) ≤ 600000; decide); (show 0 + 10 + 1373 + 18 + (10000 - (L + 1419)) ≤ 7302250; omega)) n4 ?_ ?_
  · rw [hm 106 (by decide), q_X8_init (a := 106) (P := olds L ++ scl 4) rfl hl6.symm]
    refine ⟨rfl, ?_⟩
    rw [hm _ (by rw [hl6]; decide)]
    unfold S0
    rw [List.append_assoc]
    rfl
  rintro r σ' H4 locs4 ⟨rfl, rfl⟩ hW hS f1 f2
  refine simA1 (σ := (S0 L, hin xs)) (st := [.ref 106]) C (show decode code 15 = .ok (.astore_n 2, 1) by decide +kernel) rfl hLR rfl (fun _ lr hLR => ?_)
  refine simA1 (σ := (S0 L, hin xs)) (st := []) C (show decode code 16 = .ok (.iconst 0, 1) by decide +kernel) rfl hLR rfl (fun _ lr hLR => ?_)
  refine simA1 (σ := (S0 L, hin xs)) (st := [.int (nI 0)]) C (show decode code 17 = .ok (.istore_n 3, 1) by decide +kernel) rfl hLR rfl (fun _ lr hLR => ?_)
  obtain ⟨n, hn⟩ := hpure
  exact law_W IH (by omega) hx hb hr hlocks hG1 C n 18 [.ref 0, .ref 4, .ref 106, .int (nI 0)] [] (S0 L, hin xs) hn hLR hW hS ⟨by show 0 + 1 + 101 + 1 + 7 ≤ 600000; decide, by show 0 + 10 + 1373 + 18 + 2054 ≤ 7302250; decide⟩
