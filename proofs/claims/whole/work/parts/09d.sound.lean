/-! ===== what the mini machine says of a method holds of the machine ===== -/
def rmd (d : Nat) (q : Nat × Nat) : Room := { frames := d, cells := q.1, slots := q.2, locals := 40 * d }
def bq (M : mRec) : Nat × Nat := M.2.2.2.2.2.2.getD (0, 0)
def Ent (G : mG) (U : State) (σ : mSt) : Prop := va_K G.1 vwCl (tysG G) U ∧ (∀ k, 1 ≤ k → k ≤ 3 → va_Z RX7 (stn k) "[I" (.ref (G.2.2.2 k)) (aA G) U U.heap) ∧ Wd G U U.heap σ ∧ G.2.2.1 ≤ U.heap.size
def PcM (G : mG) (M : mRec) (σ : mSt) (as : List Value) : Array Value → State → Prop := fun v U => v = (as.map (rl G)).toArray ∧ Ent G U σ ∧ (M.2.2.2.2.2.2.isSome = true → U.heap.size = G.2.2.1 + (σ.1.length - 4))
def QcM (G : mG) (M : mRec) (σ : mSt) (Q : mQ) : Array Value → State → Outcome → State → Prop := fun _ st oc t => ∃ (r : Option Value) (σ' : mSt), oc = .returned (r.map (rl G)) ∧ Q r σ' ∧ Ent G t σ' ∧ va_F (aA G) st t ∧ ∀ q, M.2.2.2.2.2.2 = some q → σ'.1.length = σ.1.length + q.1 ∧ ssum σ'.1 = ssum σ.1 + q.2
def wsM (M : mRec) : List Cond := Cond.code M.2.1 M.2.2.1 M.2.2.2.1 M.2.2.2.2.1 :: gw
def SndM (l : Launch) (G : mG) (d : Nat) : Prop := ∀ (M : mRec) (as : List Value) (σ : mSt) (Q : mQ), mOk M → (as.map fun v => v.category).sum ≤ M.2.2.2.1 → WP d M as σ Q → Met l M.2.1 (wsM M) (rmd d (bq M)) (PcM G M σ as) (QcM G M σ Q) (bq M).1 (bq M).2 (aA G)
theorem Wd_mv {G : mG} {u U : State} {H : Heap} {σ : mSt} (hvm : u.vm.Alike U.vm) (h : Wd G u H σ) : Wd G U H σ := ⟨h.1, h.2.1, fun k hk => ⟨(h.2.2 k hk).1.moved hvm, (h.2.2 k hk).2⟩⟩
theorem Ent_blind {G : mG} {M : mRec} {σ : mSt} {as : List Value} : FrameBlind (PcM G M σ as) := by
  intro a U g mk h
  obtain ⟨h1, ⟨h2, h3, h4, h5⟩, h6⟩ := h
  have hv : U.vm.Alike (U.calling g mk a).vm := Vm.Alike.refl U.vm
  exact ⟨h1, ⟨va_K.moved hv h2, fun k k1 k3 => (h3 k k1 k3).moved hv, Wd_mv hv h4, h5⟩, h6⟩
theorem Ent_of {G : mG} {p : Program} {s : State} {m : MethodId} {args : Array Value} {c : Code} {cc : ByteArray} {nL o : Nat} {H : Heap} {locs : List Loc} {σ : mSt} (C : Cx G p s m args c cc nL o) (hW : Wd G s H σ) (hS : va_S (aA G) s.heap H locs) (hb0 : G.2.2.1 ≤ s.heap.size) {U : State} (hU : U.heap = H) (hw : s.WarmedH U.vm) : Ent G U σ := by
  obtain ⟨-, -, -, -, -, hK, hZ⟩ := C
  refine ⟨va_K.moved hw.alike hK, fun k k1 k3 => ?_, ?_, ?_⟩
  · rw [hU]
    exact ((hZ k k1 k3).kept (fun a h1 h2 => hS.2.1 a h1 h2)).moved hw.alike
  · rw [hU]
    exact Wd_mv hw.alike hW
  · rw [hU]
    exact Nat.le_trans hb0 hS.1
section
variable {p : Program} {l : Launch} {e : Env} {R : Room} {s : State} {m : MethodId} {args : Array Value} {below : List Frame} {meth : Method} {c : Code} {H : Heap} {locs : List Loc} {cells slots : Nat} {Q : State → Prop}
variable {G : mG} {cc : ByteArray} {nL o pc pc' len : Nat} {ls st ls' st' : List Value} {lr : Array Slot} {σ σ' : mSt} {ins : Instr} {i : Nat} {ct : Option (Nat × Nat)}
theorem call_go {M : mRec} {Q' : mQ} {mc ms : Nat} {st0 rest : List Value} {a : Array Value} (hr : va_Run p l e R s m args below meth c H locs cells slots mc ms (F0 m pc lr st0) rest (QcM G M σ Q' a) (aA G)) (hS : va_S (aA G) s.heap H locs)
    (kk : ∀ (r : Option Value) (σ' : mSt) (H1 : Heap) (locs1 : List Loc), Q' r σ' → Wd G s H1 σ' → va_S (aA G) s.heap H1 locs1 → (∀ q, M.2.2.2.2.2.2 = some q → σ'.1.length = σ.1.length + q.1 ∧ ssum σ'.1 = ssum σ.1 + q.2) → W p l e R s m args below meth c H1 locs1 (cells + mc) (slots + ms) Q (F0 m (pc + 3) lr ((r.map (rl G)).toList ++ rest))) : W p l e R s m args below meth c H locs cells slots Q (F0 m pc lr st0) := by
  intro T hT X
  obtain ⟨v, st₀, t, T', L, h0, X', hL, e1, e2, ⟨r, σ', hv, hQ, hE, ⟨hz, hk⟩, hbd⟩, go⟩ := hr T hT X
  have hv : v = r.map (rl G) := by injection hv
  subst hv
  rw [h0] at hz hk
  have hal : s.vm.Alike t.vm := by rw [← e2]; exact X'.warmed.alike
  obtain ⟨t2, a1, b1⟩ := kk r σ' T'.heap (locs ++ L) hQ (by rw [e1]; exact Wd_mv hal.symm hE.2.2.1)
    ⟨Nat.le_trans hS.1 (by rw [e1]; exact hz), fun q h1 h2 => by rw [e1, hk q (Nat.lt_of_lt_of_le h1 hS.1) h2]; exact hS.2.1 q h1 h2, fun q hq => by
      rcases List.mem_append.mp hq with h | h
      · exact hS.2.2 q h
      · exact hL q h⟩ hbd T' rfl X'
  exact ⟨t2, go t2 a1, b1⟩
theorem cb_of {M : mRec} {d : Nat} (C : Cx G p s m args c cc nL o) (hM : mOk M) (hR : d + 1 ≤ R.frames ∧ 40 * (d + 1) ≤ R.locals) (hl : (Cond.methodLink (cn o) i M.2.1).before args s = true) : CallB R s args (cn o) i M.2.1 M.2.2.1 M.2.2.2.1 M.2.2.2.2.1 (wsM M) (rmd d (bq M)) (bq M).1 (bq M).2 M.2.2.2.2.2.1 := by
  obtain ⟨-, -, -, -, hts, -⟩ := C
  obtain ⟨h1, h2, h3, h4, h5, h6, h7, -⟩ := hM
  refine ⟨rfl, rfl, hR.1, ?_, fun w hw => ?_, List.mem_cons_self, hts _ h7, by rw [h1]; exact hts _ h6, by rw [h1]; exact h4, fun sig hs => ?_, hl⟩
  · show 8 + (M.2.2.2.1 + 11) + 40 * d ≤ _
    omega
  · rcases List.mem_cons.mp hw with rfl | hw
    · exact tbl_warm hts _ h7
    · exact tbl_warm hts w hw
  · rw [hs] at h5
    exact (Option.some.inj h5).symm
theorem cn_of {M : mRec} {d : Nat} (C : Cx G p s m args c cc nL o) (hM : mOk M) (hR : d + 1 ≤ R.frames ∧ 40 * (d + 1) ≤ R.locals) (hl : (Cond.methodLinkNest (cn o) i M.2.1 RX7).before args s = true) : va_CN R s args (cn o) i M.2.1 RX7 M.2.2.1 M.2.2.2.1 M.2.2.2.2.1 (wsM M) (rmd d (bq M)) (bq M).1 (bq M).2 M.2.2.2.2.2.1 := by
  obtain ⟨-, -, -, -, hts, -⟩ := C
  obtain ⟨h1, h2, h3, h4, h5, h6, h7, -⟩ := hM
  refine ⟨⟨rfl, rfl, hR.1, ?_, fun w hw => ?_, List.mem_cons_self⟩, hts _ h7, by rw [h1]; exact hts _ h6, by rw [h1]; exact h4, fun sig hs => ?_, hl⟩
  · show 8 + (M.2.2.2.1 + 11) + 40 * d ≤ _
    omega
  · rcases List.mem_cons.mp hw with rfl | hw
    · exact tbl_warm hts _ h7
    · exact tbl_warm hts w hw
  · rw [hs] at h5
    exact (Option.some.inj h5).symm
/-- a virtual call -/
theorem simV {d : Nat} {M : mRec} {as rest : List Value} {Q' : mQ} (IH : SndM l G d) (C : Cx G p s m args c cc nL o) (hL : LR G nL ls lr) (hd : decode cc pc = .ok (.invokevirtual i, 3)) (hW : Wd G s H σ) (hS : va_S (aA G) s.heap H locs) (hb0 : G.2.2.1 ≤ s.heap.size) (hR : d + 1 ≤ R.frames ∧ 40 * (d + 1) ≤ R.locals) (hc : cells ≤ R.cells) (hsl : slots ≤ R.slots) (h : mInvV o i ct st σ = some (.inr (.inr (M, as, rest)))) (hE : WP d M as σ Q')
    (kk : ∀ (r : Option Value) (σ' : mSt) (H1 : Heap) (locs1 : List Loc), Q' r σ' → Wd G s H1 σ' → va_S (aA G) s.heap H1 locs1 → W p l e R s m args below meth c H1 locs1 cells slots Q (F0 m (pc + 3) lr ((r.toList ++ rest).map (rl G)))) : W p l e R s m args below meth c H locs cells slots Q (F0 m pc lr (st.map (rl G))) := by
  unfold mInvV at h
  split at h
  · rename_i M1 hcal
    split at h
    · rename_i hn
      split at h
      · rename_i b rest1 hdrop
        split at h
        · rename_i hk
          unfold mCallR at h
          split at h
          · rename_i hsum
            cases h
            obtain ⟨hM, hcs⟩ := calF_spec hcal
            rcases hcs with ⟨-, w1, w2, w3, w4, w5⟩ | ⟨h0, -⟩ | ⟨h0, -⟩ | ⟨h0, -⟩ | ⟨h0, -⟩
            · have hbq : bq M = (0, 0) := by unfold bq; rw [w5]; rfl
              have hts := C.2.2.2.2.1
              have hK := C.2.2.2.2.2.1
              obtain ⟨b4, bl, -, -⟩ := sh_n hW.1 hk w4
              have hmet := IH M _ σ Q' hM hsum.2 hE
              have hcb := cb_of (d := d) (R := R) C hM hR (hts _ w1)
              have hst : st.map (rl G) = ((((st.take M.2.2.2.2.2.1).reverse).map (rl G)).reverse) ++ .ref (ad G b) :: rest.map (rl G) := by
                conv => lhs; rw [← List.take_append_drop M.2.2.2.2.2.1 st, hdrop]
                rw [List.map_append, List.map_reverse, List.reverse_reverse]
                rfl
              have hrun := va_runV (H := H) (locs := locs) (cells := cells) (slots := slots) (below := below) (meth := meth) (e := e) (b := ad G b) (As := ((st.take M.2.2.2.2.2.1).reverse).map (rl G)) (rest := rest.map (rl G)) (C := cn M.1) (g := F0 m pc lr (st.map (rl G))) ⟨C.1, C.2.1, C.2.2.1, C.2.2.2.1, hts⟩ hmet ⟨hcb, hts _ w2, hts _ w3⟩
                ⟨Ent_blind, by
                  have := va_recv hK hW.2.1 (cls_at w4) ((wsl_at b4 bl).trans (by rw [ent_obj hk]))
                  rw [cls_cn w4] at this
                  exact this, fun U hU hw => ⟨rfl, Ent_of C hW hS hb0 hU hw, fun h => by rw [w5] at h; cases h⟩⟩ rfl (by simp; omega) hL.2.1 hst (lv_room (by rw [rl_sum]; exact hsum.1)) hd (by rw [hbq]; exact ⟨hc, hsl⟩)
              refine call_go hrun hS (fun r σ' H1 locs1 hQ hW1 hS1 _ => ?_)
              rw [hbq]
              have := kk r σ' H1 locs1 hQ hW1 hS1
              rw [List.map_append] at this
              have e : r.toList.map (rl G) = (r.map (rl G)).toList := by cases r <;> rfl
              rw [e] at this
              exact this
            · cases h0
            · cases h0
            · cases h0
            · cases h0
          · cases h
        · cases h
      · cases h
    · cases h
  · cases h
/-- a static call -/
theorem simS {d : Nat} {M : mRec} {as rest : List Value} {Q' : mQ} (IH : SndM l G d) (C : Cx G p s m args c cc nL o) (hL : LR G nL ls lr) (hd : decode cc pc = .ok (.invokestatic i, 3)) (hW : Wd G s H σ) (hS : va_S (aA G) s.heap H locs) (hb0 : G.2.2.1 ≤ s.heap.size) (hR : d + 1 ≤ R.frames ∧ 40 * (d + 1) ≤ R.locals) (hc : cells ≤ R.cells) (hsl : slots ≤ R.slots) (h : mInvS o i ct pc ls st σ = some (.inr (.inr (M, as, rest)))) (hE : WP d M as σ Q')
    (kk : ∀ (r : Option Value) (σ' : mSt) (H1 : Heap) (locs1 : List Loc), Q' r σ' → Wd G s H1 σ' → va_S (aA G) s.heap H1 locs1 → W p l e R s m args below meth c H1 locs1 cells slots Q (F0 m (pc + 3) lr ((r.toList ++ rest).map (rl G)))) : W p l e R s m args below meth c H locs cells slots Q (F0 m pc lr (st.map (rl G))) := by
  unfold mInvS at h
  split at h
  · exfalso
    unfold mAcy at h
    split at h
    · split at h <;> cases h
    · cases h
  · split at h
    · exfalso
      unfold mMmx at h
      split at h
      · split at h <;> cases h
      · cases h
    · split at h
      · rename_i k M1 hcal
        split at h
        · rename_i hn
          unfold mCallR at h
          split at h
          · rename_i hsum
            cases h
            obtain ⟨hM, hcs⟩ := calF_spec hcal
            have hts := C.2.2.2.2.1
            have hmet := IH M _ σ Q' hM hsum.2 hE
            have hst : st.map (rl G) = ((((st.take M.2.2.2.2.2.1).reverse).map (rl G)).reverse) ++ (st.drop M.2.2.2.2.2.1).map (rl G) := by
              conv => lhs; rw [← List.take_append_drop M.2.2.2.2.2.1 st]
              rw [List.map_append, List.map_reverse, List.reverse_reverse]
            rcases hcs with ⟨h0, -⟩ | ⟨h0, w1, w2, w5⟩ | ⟨h0, -⟩ | ⟨h0, w1, w2, w5⟩ | ⟨h0, -⟩
            · omega
            · have hbq : bq M = (0, 0) := by unfold bq; rw [w5]; rfl
              have hcb := cb_of (d := d) (R := R) C hM hR (hts _ w1)
              have hrun := va_runS (H := H) (locs := locs) (cells := cells) (slots := slots) (below := below) (meth := meth) (e := e) (As := ((st.take M.2.2.2.2.2.1).reverse).map (rl G)) (rest := (st.drop M.2.2.2.2.2.1).map (rl G)) (g := F0 m pc lr (st.map (rl G))) ⟨C.1, C.2.1, C.2.2.1, C.2.2.2.1, hts⟩ hmet ⟨hcb, hts _ w2⟩
                ⟨Ent_blind, fun U hU hw => ⟨rfl, Ent_of C hW hS hb0 hU hw, fun h => by rw [w5] at h; cases h⟩⟩ rfl (by simp; omega) hL.2.1 hst (lv_room (by rw [rl_sum]; exact hsum.1)) hd (by rw [hbq]; exact ⟨hc, hsl⟩)
              refine call_go hrun hS (fun r σ' H1 locs1 hQ hW1 hS1 _ => ?_)
              rw [hbq]
              have := kk r σ' H1 locs1 hQ hW1 hS1
              rw [List.map_append] at this
              have e : r.toList.map (rl G) = (r.map (rl G)).toList := by cases r <;> rfl
              rw [e] at this
              exact this
            · omega
            · have hbq : bq M = (0, 0) := by unfold bq; rw [w5]; rfl
              have hcb := cn_of (d := d) (R := R) C hM hR (hts _ w1)
              have hrun := va_runSN (H := H) (locs := locs) (cells := cells) (slots := slots) (below := below) (meth := meth) (e := e) (As := ((st.take M.2.2.2.2.2.1).reverse).map (rl G)) (rest := (st.drop M.2.2.2.2.2.1).map (rl G)) (g := F0 m pc lr (st.map (rl G))) ⟨C.1, C.2.1, C.2.2.1, C.2.2.2.1, hts⟩ hmet ⟨hcb, hts _ w2, trivial⟩
                ⟨Ent_blind, fun U hU hw => ⟨rfl, Ent_of C hW hS hb0 hU hw, fun h => by rw [w5] at h; cases h⟩⟩ rfl (by simp; omega) hL.2.1 hst (lv_room (by rw [rl_sum]; exact hsum.1)) hd (by rw [hbq]; exact ⟨hc, hsl⟩)
              refine call_go hrun hS (fun r σ' H1 locs1 hQ hW1 hS1 _ => ?_)
              rw [hbq]
              have := kk r σ' H1 locs1 hQ hW1 hS1
              rw [List.map_append] at this
              have e : r.toList.map (rl G) = (r.map (rl G)).toList := by cases r <;> rfl
              rw [e] at this
              exact this
            · omega
          · cases h
        · cases h
      · cases h
/-- a constructor's call -/
theorem simI {d : Nat} {M : mRec} {as rest : List Value} {Q' : mQ} (IH : SndM l G d) (C : Cx G p s m args c cc nL o) (hL : LR G nL ls lr) (hd : decode cc pc = .ok (.invokespecial i, 3)) (hW : Wd G s H σ) (hS : va_S (aA G) s.heap H locs) (hb0 : G.2.2.1 ≤ s.heap.size) (hR : d + 1 ≤ R.frames ∧ 40 * (d + 1) ≤ R.locals) (hz : ∀ q, ct = some q → s.heap.size + cells = G.2.2.1 + (σ.1.length - 4) ∧ cells + (q.1 - σ.1.length) ≤ R.cells ∧ slots + (q.2 - ssum σ.1) ≤ R.slots) (h : mInvI o i ct pc ls st σ = some (.inr (.inr (M, as, rest)))) (hE : WP d M as σ Q')
    (kk : ∀ (r : Option Value) (σ' : mSt) (H1 : Heap) (locs1 : List Loc), Q' r σ' → Wd G s H1 σ' → va_S (aA G) s.heap H1 locs1 → σ'.1.length = σ.1.length + (bq M).1 → ssum σ'.1 = ssum σ.1 + (bq M).2 → W p l e R s m args below meth c H1 locs1 (cells + (bq M).1) (slots + (bq M).2) Q (F0 m (pc + 3) lr ((r.toList ++ rest).map (rl G)))) : W p l e R s m args below meth c H locs cells slots Q (F0 m pc lr (st.map (rl G))) := by
  unfold mInvI at h
  split at h
  · exfalso
    split at h
    · split at h <;> cases h
    · cases h
  · split at h
    · rename_i k M1 q hcal
      split at h
      · rename_i hk
        split at h
        · rename_i b rest1 q2 hp hq2
          split at h
          · rename_i hfit
            unfold mCallR at h
            split at h
            · rename_i hsum
              cases h
              obtain ⟨z1, z2, z3⟩ := hz q rfl
              refine W.size (fun hsz => ?_)
              have hlt := Wd_lt hW hS hb0
              have h4 := hW.1.1
              have hHs : H.size = G.2.2.1 + (σ.1.length - 4) := by omega
              obtain ⟨hM, hcs⟩ := calF_spec hcal
              have hbq : bq M = q2 := by unfold bq; rw [hq2]; rfl
              have hts := C.2.2.2.2.1
              have hmet := IH M _ σ Q' hM hsum.2 hE
              have hkk : ∀ (r : Option Value) (σ' : mSt) (H1 : Heap) (locs1 : List Loc), Q' r σ' → Wd G s H1 σ' → va_S (aA G) s.heap H1 locs1 → (∀ q, M.2.2.2.2.2.2 = some q → σ'.1.length = σ.1.length + q.1 ∧ ssum σ'.1 = ssum σ.1 + q.2) → W p l e R s m args below meth c H1 locs1 (cells + (bq M).1) (slots + (bq M).2) Q (F0 m (pc + 3) lr ((r.map (rl G)).toList ++ rest.map (rl G))) := by
                intro r σ' H1 locs1 hQ hW1 hS1 hbd
                obtain ⟨d1, d2⟩ := hbd q2 hq2
                have := kk r σ' H1 locs1 hQ hW1 hS1 (by rw [hbq]; exact d1) (by rw [hbq]; exact d2)
                rw [List.map_append] at this
                have e : r.toList.map (rl G) = (r.map (rl G)).toList := by cases r <;> rfl
                rw [e] at this
                exact this
              rcases hcs with ⟨h0, -⟩ | ⟨h0, -⟩ | ⟨h0, w1, w2, w3, w4⟩ | ⟨h0, -⟩ | ⟨h0, w1, w2, w3, w4⟩
              · omega
              · omega
              · have hcb := cb_of (d := d) (R := R) C hM hR (hts _ w1)
                rw [w4] at hcb
                refine call_go (va_runI (H := H) (locs := locs) (cells := cells) (slots := slots) (below := below) (meth := meth) (e := e) (b := ad G b) (As := []) (rest := rest.map (rl G)) (g := F0 m pc lr ((.ref b :: rest).map (rl G))) ⟨C.1, C.2.1, C.2.2.1, C.2.2.2.1, hts⟩ hmet ⟨hcb, w3, hts _ w2⟩
                  ⟨Ent_blind, fun U hU hw => ⟨rfl, Ent_of C hW hS hb0 hU hw, fun h => by rw [hU]; exact hHs⟩⟩ rfl hp.symm hL.2.1 rfl (lv_room (by rw [rl_sum]; exact hsum.1)) hd (by rw [hbq]; omega)) hS hkk
              · omega
              · have hcb := cn_of (d := d) (R := R) C hM hR (hts _ w1)
                rw [w4] at hcb
                refine call_go (va_runIN (H := H) (locs := locs) (cells := cells) (slots := slots) (below := below) (meth := meth) (e := e) (b := ad G b) (As := []) (rest := rest.map (rl G)) (g := F0 m pc lr ((.ref b :: rest).map (rl G))) ⟨C.1, C.2.1, C.2.2.1, C.2.2.2.1, hts⟩ hmet ⟨hcb, w3, hts _ w2⟩
                  ⟨Ent_blind, fun U hU hw => ⟨rfl, Ent_of C hW hS hb0 hU hw, fun h => by rw [hU]; exact hHs⟩⟩ rfl hp.symm hL.2.1 rfl (lv_room (by rw [rl_sum]; exact hsum.1)) hd (by rw [hbq]; omega)) hS hkk
            · cases h
          · cases h
        · cases h
      · cases h
    · cases h
end
