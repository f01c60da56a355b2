/-! ===== a step of the mini machine is a step of the machine: locals, stack, numbers ===== -/
theorem mcI_i (n : Int) : Int32.ofInt n = mcI n := by
  cases n with
  | ofNat k => rfl
  | negSucc k =>
    show Int32.ofInt (Int.negSucc k) = -(Int32.ofNat (k + 1))
    rw [Int.negSucc_eq, Int32.ofInt_neg]
    rfl
theorem mcI_b {n : Int} (h1 : -128 ≤ n) (h2 : n ≤ 127) : (Int8.ofInt n).toInt32 = mcI n := by
  rw [← mcI_i]
  apply Int32.toInt_inj.mp
  rw [Int8.toInt_toInt32, Int8.toInt_ofInt, Int32.toInt_ofInt]
  have e1 : Int8.size = 256 := rfl
  have e2 : Int32.size = 4294967296 := rfl
  rw [e1, e2]
  rw [Int.bmod_eq_of_le (by omega) (by omega), Int.bmod_eq_of_le (by omega) (by omega)]
theorem mcI_s {n : Int} (h1 : -32768 ≤ n) (h2 : n ≤ 32767) : (Int16.ofInt n).toInt32 = mcI n := by
  rw [← mcI_i]
  apply Int32.toInt_inj.mp
  rw [Int16.toInt_toInt32, Int16.toInt_ofInt, Int32.toInt_ofInt]
  have e1 : Int16.size = 65536 := rfl
  have e2 : Int32.size = 4294967296 := rfl
  rw [e1, e2]
  rw [Int.bmod_eq_of_le (by omega) (by omega), Int.bmod_eq_of_le (by omega) (by omega)]
def Cx (G : mG) (p : Program) (s : State) (m : MethodId) (args : Array Value) (c : Code) (cc : ByteArray) (nL o : Nat) : Prop :=
  p.tables.exec = Jvm.exec ∧ c.code = cc ∧ c.maxLocals = nL ∧ s.vm.findClass (cn o) = some m.cls ∧ (∀ w ∈ gw, w.before args s = true) ∧ va_K G.1 vwCl (tysG G) s ∧ ∀ k, 1 ≤ k → k ≤ 3 → va_Z RX7 (stn k) "[I" (.ref (G.2.2.2 k)) (aA G) s s.heap
theorem rl_cat (G : mG) (v : Value) : (rl G v).category = v.category := by cases v <;> rfl
theorem rl_sum (G : mG) (l : List Value) : ((l.map (rl G)).map fun v => v.category).sum = (l.map fun v => v.category).sum := by
  rw [List.map_map]
  congr 1
  exact List.map_congr_left (fun v _ => rl_cat G v)
section
variable {p : Program} {l : Launch} {e : Env} {R : Room} {s : State} {m : MethodId} {args : Array Value} {below : List Frame} {meth : Method} {c : Code} {H : Heap} {locs : List Loc} {cells slots : Nat} {Q : State → Prop}
variable {G : mG} {cc : ByteArray} {nL o pc pc' len : Nat} {ls st ls' st' : List Value} {lr : Array Slot} {σ σ' : mSt} {ins : Instr}
theorem simA1 (C : Cx G p s m args c cc nL o) (hd : decode cc pc = .ok (ins, len)) (hl : mLen ins len = true) (hL : LR G nL ls lr) (h : mStA1 ins pc ls st σ = some (some (.inl (pc', ls', st', σ')))) (kk : σ' = σ → ∀ lr' : Array Slot, LR G nL ls' lr' → W p l e R s m args below meth c H locs cells slots Q (F0 m pc' lr' (st'.map (rl G)))) : W p l e R s m args below meth c H locs cells slots Q (F0 m pc lr (st.map (rl G))) := by
  obtain ⟨hx, hb, -⟩ := C
  unfold mStA1 at h
  split at h
  · cases h
    have h1 : len = 1 := by simpa [mLen] using hl
    subst h1
    exact lv_iconst hx hb hd (mcI_i _) (kk rfl lr hL)
  · split at h
    · rename_i hr
      cases h
      have h1 : len = 2 := by simpa [mLen] using hl
      subst h1
      exact lv_bipush hx hb hd (mcI_b hr.1 hr.2) (kk rfl lr hL)
    · cases h
  · split at h
    · rename_i hr
      cases h
      have h1 : len = 3 := by simpa [mLen] using hl
      subst h1
      exact lv_sipush hx hb hd (mcI_s hr.1 hr.2) (kk rfl lr hL)
    · cases h
  · cases h
    have h1 : len = 1 := by simpa [mLen] using hl
    subst h1
    exact lv_lconst hx hb hd rfl (kk rfl lr hL)
  · unfold mLdI at h
    split at h
    · rename_i hi
      cases h
      have h1 : len = 1 := by simpa [mLen] using hl
      subst h1
      exact lv_iload_n hx hb hd rfl (LR_i hL hi) (kk rfl lr hL)
    · cases h
  · unfold mLdI at h
    split at h
    · rename_i hi
      cases h
      have h1 : len = 2 := by simpa [mLen] using hl
      subst h1
      exact lv_iload hx hb hd (LR_i hL hi) (kk rfl lr hL)
    · cases h
  · unfold mLdL at h
    split at h
    · rename_i hi hj
      cases h
      have h1 : len = 1 := by simpa [mLen] using hl
      subst h1
      exact lv_lload_n hx hb hd rfl (LR_l hL hi hj) (kk rfl lr hL)
    · cases h
  · unfold mLdL at h
    split at h
    · rename_i hi hj
      cases h
      have h1 : len = 2 := by simpa [mLen] using hl
      subst h1
      exact lv_lload hx hb hd (LR_l hL hi hj) (kk rfl lr hL)
    · cases h
  · unfold mLdA at h
    split at h
    · rename_i hi
      cases h
      have h1 : len = 1 := by simpa [mLen] using hl
      subst h1
      exact lv_aload_n hx hb hd rfl (LR_a hL hi) (kk rfl lr hL)
    · cases h
  · unfold mLdA at h
    split at h
    · rename_i hi
      cases h
      have h1 : len = 2 := by simpa [mLen] using hl
      subst h1
      exact lv_aload hx hb hd (LR_a hL hi) (kk rfl lr hL)
    · cases h
  · unfold mStI at h
    split at h
    · split at h
      · rename_i hi
        cases h
        have h1 : len = 1 := by simpa [mLen] using hl
        subst h1
        exact lv_istore_n hx hb hd rfl hL.2 (by have := hL.1; omega) rfl (fun lr' h' => kk rfl lr' (LR_sti hL.1 (by have := hL.1; omega) h'))
      · cases h
    · cases h
  · unfold mStI at h
    split at h
    · split at h
      · rename_i hi
        cases h
        have h1 : len = 2 := by simpa [mLen] using hl
        subst h1
        exact lv_istore hx hb hd hL.2 (by have := hL.1; omega) rfl (fun lr' h' => kk rfl lr' (LR_sti hL.1 (by have := hL.1; omega) h'))
      · cases h
    · cases h
  · unfold mStL at h
    split at h
    · split at h
      · rename_i hi
        cases h
        have h1 : len = 1 := by simpa [mLen] using hl
        subst h1
        exact lv_lstore_n hx hb hd rfl hL.2 (by have := hL.1; omega) rfl (fun lr' h' => kk rfl lr' (LR_stl hL.1 (by have := hL.1; omega) h'))
      · cases h
    · cases h
  · unfold mStL at h
    split at h
    · split at h
      · rename_i hi
        cases h
        have h1 : len = 2 := by simpa [mLen] using hl
        subst h1
        exact lv_lstore hx hb hd hL.2 (by have := hL.1; omega) rfl (fun lr' h' => kk rfl lr' (LR_stl hL.1 (by have := hL.1; omega) h'))
      · cases h
    · cases h
  · unfold mStA at h
    split at h
    · split at h
      · rename_i hi
        cases h
        have h1 : len = 1 := by simpa [mLen] using hl
        subst h1
        exact lv_astore_n hx hb hd rfl hL.2 (by have := hL.1; omega) rfl (fun lr' h' => kk rfl lr' (LR_sta hL.1 (by have := hL.1; omega) h'))
      · cases h
    · cases h
  · unfold mStA at h
    split at h
    · split at h
      · rename_i hi
        cases h
        have h1 : len = 2 := by simpa [mLen] using hl
        subst h1
        exact lv_astore hx hb hd hL.2 (by have := hL.1; omega) rfl (fun lr' h' => kk rfl lr' (LR_sta hL.1 (by have := hL.1; omega) h'))
      · cases h
    · cases h
  · unfold mInc at h
    split at h
    · rename_i i n _ x hi
      cases h
      have h1 : len = 3 := by simpa [mLen] using hl
      subst h1
      have hm : (i, Value.int x) ∈ lvs G ls := lvs_mem (i := i) (by unfold lvs1; rw [hi])
      obtain ⟨k, hk⟩ := List.getElem?_of_mem hm
      have hlt : i < ls.length := (List.getElem?_eq_some_iff.mp hi).1
      exact lv_iinc hx hb hd hL.2 hk (by rw [mcI_i]) (by have := hL.1; omega) rfl (fun lr' h' => kk rfl lr' (LR_sti hL.1 (by have := hL.1; omega) h'))
    · cases h
  · unfold mDup at h
    split at h
    · split at h
      · rename_i hc
        cases h
        have h1 : len = 1 := by simpa [mLen] using hl
        subst h1
        exact lv_dup hx hb hd ((rl_cat G _).trans hc) (kk rfl lr hL)
      · cases h
    · cases h
  · unfold mDup2 at h
    split at h
    · split at h
      · rename_i hc
        cases h
        have h1 : len = 1 := by simpa [mLen] using hl
        subst h1
        exact lv_dup2_11 hx hb hd ((rl_cat G _).trans hc.1) ((rl_cat G _).trans hc.2) (kk rfl lr hL)
      · cases h
    · cases h
  · unfold mPop at h
    split at h
    · split at h
      · rename_i hc
        cases h
        have h1 : len = 1 := by simpa [mLen] using hl
        subst h1
        exact lv_pop hx hb hd ((rl_cat G _).trans hc) (kk rfl lr hL)
      · cases h
    · cases h
  · cases h
end
section
variable {p : Program} {l : Launch} {e : Env} {R : Room} {s : State} {m : MethodId} {args : Array Value} {below : List Frame} {meth : Method} {c : Code} {H : Heap} {locs : List Loc} {cells slots : Nat} {Q : State → Prop}
variable {G : mG} {cc : ByteArray} {nL o pc pc' len : Nat} {ls st ls' st' : List Value} {lr : Array Slot} {σ σ' : mSt} {ins : Instr}
theorem mBin_spec {f : Int32 → Int32 → Int32} {x : mNx} (h : mBin f pc ls st σ = some x) : ∃ a b r, st = .int b :: .int a :: r ∧ x = .inl (pc + 1, ls, .int (f a b) :: r, σ) := by
  unfold mBin at h
  split at h
  · cases h; exact ⟨_, _, _, rfl, rfl⟩
  · cases h
theorem mBinZ_spec {f : Int32 → Int32 → Int32} {x : mNx} (h : mBinZ f pc ls st σ = some x) : ∃ a b r, ¬ b = 0 ∧ st = .int b :: .int a :: r ∧ x = .inl (pc + 1, ls, .int (f a b) :: r, σ) := by
  unfold mBinZ at h
  split at h
  · split at h
    · cases h
    · rename_i hz
      cases h; exact ⟨_, _, _, hz, rfl, rfl⟩
  · cases h
theorem mBinL_spec {f : Int64 → Int64 → Int64} {x : mNx} (h : mBinL f pc ls st σ = some x) : ∃ a b r, st = .long b :: .long a :: r ∧ x = .inl (pc + 1, ls, .long (f a b) :: r, σ) := by
  unfold mBinL at h
  split at h
  · cases h; exact ⟨_, _, _, rfl, rfl⟩
  · cases h
theorem mBinLZ_spec {f : Int64 → Int64 → Int64} {x : mNx} (h : mBinLZ f pc ls st σ = some x) : ∃ a b r, ¬ b = 0 ∧ st = .long b :: .long a :: r ∧ x = .inl (pc + 1, ls, .long (f a b) :: r, σ) := by
  unfold mBinLZ at h
  split at h
  · split at h
    · cases h
    · rename_i hz
      cases h; exact ⟨_, _, _, hz, rfl, rfl⟩
  · cases h
theorem mUn_spec {f : Int32 → Value} {x : mNx} (h : mUn f pc ls st σ = some x) : ∃ a r, st = .int a :: r ∧ x = .inl (pc + 1, ls, f a :: r, σ) := by
  unfold mUn at h
  split at h
  · cases h; exact ⟨_, _, rfl, rfl⟩
  · cases h
theorem simA2 (C : Cx G p s m args c cc nL o) (hd : decode cc pc = .ok (ins, len)) (hl : mLen ins len = true) (hL : LR G nL ls lr) (h : mStA2 ins pc ls st σ = some (some (.inl (pc', ls', st', σ')))) (kk : σ' = σ → ∀ lr' : Array Slot, LR G nL ls' lr' → W p l e R s m args below meth c H locs cells slots Q (F0 m pc' lr' (st'.map (rl G)))) : W p l e R s m args below meth c H locs cells slots Q (F0 m pc lr (st.map (rl G))) := by
  obtain ⟨hx, hb, -⟩ := C
  unfold mStA2 at h
  split at h
  · obtain ⟨a, b, r, rfl, e⟩ := mBin_spec (Option.some.inj h); cases e
    have h1 : len = 1 := by simpa [mLen] using hl
    subst h1
    exact lv_iadd hx hb hd (kk rfl lr hL)
  · obtain ⟨a, b, r, rfl, e⟩ := mBin_spec (Option.some.inj h); cases e
    have h1 : len = 1 := by simpa [mLen] using hl
    subst h1
    exact lv_isub hx hb hd (kk rfl lr hL)
  · obtain ⟨a, b, r, rfl, e⟩ := mBin_spec (Option.some.inj h); cases e
    have h1 : len = 1 := by simpa [mLen] using hl
    subst h1
    exact lv_imul hx hb hd (kk rfl lr hL)
  · obtain ⟨a, b, r, rfl, e⟩ := mBin_spec (Option.some.inj h); cases e
    have h1 : len = 1 := by simpa [mLen] using hl
    subst h1
    exact lv_iand hx hb hd (kk rfl lr hL)
  · obtain ⟨a, b, r, rfl, e⟩ := mBin_spec (Option.some.inj h); cases e
    have h1 : len = 1 := by simpa [mLen] using hl
    subst h1
    exact lv_ior hx hb hd (kk rfl lr hL)
  · obtain ⟨a, b, r, rfl, e⟩ := mBin_spec (Option.some.inj h); cases e
    have h1 : len = 1 := by simpa [mLen] using hl
    subst h1
    exact lv_ixor hx hb hd (kk rfl lr hL)
  · obtain ⟨a, b, r, rfl, e⟩ := mBin_spec (Option.some.inj h); cases e
    have h1 : len = 1 := by simpa [mLen] using hl
    subst h1
    exact lv_ishl hx hb hd (kk rfl lr hL)
  · obtain ⟨a, b, r, rfl, e⟩ := mBin_spec (Option.some.inj h); cases e
    have h1 : len = 1 := by simpa [mLen] using hl
    subst h1
    exact lv_ishr hx hb hd (kk rfl lr hL)
  · obtain ⟨a, b, r, rfl, e⟩ := mBin_spec (Option.some.inj h); cases e
    have h1 : len = 1 := by simpa [mLen] using hl
    subst h1
    exact lv_iushr hx hb hd rfl (kk rfl lr hL)
  · obtain ⟨a, b, r, hz, rfl, e⟩ := mBinZ_spec (Option.some.inj h); cases e
    have h1 : len = 1 := by simpa [mLen] using hl
    subst h1
    exact lv_idiv hx hb hd hz (kk rfl lr hL)
  · obtain ⟨a, b, r, hz, rfl, e⟩ := mBinZ_spec (Option.some.inj h); cases e
    have h1 : len = 1 := by simpa [mLen] using hl
    subst h1
    exact lv_irem hx hb hd hz (kk rfl lr hL)
  · obtain ⟨a, r, rfl, e⟩ := mUn_spec (Option.some.inj h); cases e
    have h1 : len = 1 := by simpa [mLen] using hl
    subst h1
    exact lv_ineg hx hb hd (kk rfl lr hL)
  · obtain ⟨a, r, rfl, e⟩ := mUn_spec (Option.some.inj h); cases e
    have h1 : len = 1 := by simpa [mLen] using hl
    subst h1
    exact lv_i2l hx hb hd rfl (kk rfl lr hL)
  · obtain ⟨a, r, rfl, e⟩ := mUn_spec (Option.some.inj h); cases e
    have h1 : len = 1 := by simpa [mLen] using hl
    subst h1
    exact lv_i2b hx hb hd rfl (kk rfl lr hL)
  · obtain ⟨a, r, rfl, e⟩ := mUn_spec (Option.some.inj h); cases e
    have h1 : len = 1 := by simpa [mLen] using hl
    subst h1
    exact lv_i2s hx hb hd rfl (kk rfl lr hL)
  · unfold mL2i at h
    split at h
    · cases h
      have h1 : len = 1 := by simpa [mLen] using hl
      subst h1
      exact lv_l2i hx hb hd rfl (kk rfl lr hL)
    · cases h
  · obtain ⟨a, b, r, rfl, e⟩ := mBinL_spec (Option.some.inj h); cases e
    have h1 : len = 1 := by simpa [mLen] using hl
    subst h1
    exact lv_ladd hx hb hd (kk rfl lr hL)
  · obtain ⟨a, b, r, rfl, e⟩ := mBinL_spec (Option.some.inj h); cases e
    have h1 : len = 1 := by simpa [mLen] using hl
    subst h1
    exact lv_lmul hx hb hd (kk rfl lr hL)
  · obtain ⟨a, b, r, hz, rfl, e⟩ := mBinLZ_spec (Option.some.inj h); cases e
    have h1 : len = 1 := by simpa [mLen] using hl
    subst h1
    exact lv_ldiv hx hb hd hz (kk rfl lr hL)
  · obtain ⟨a, b, r, hz, rfl, e⟩ := mBinLZ_spec (Option.some.inj h); cases e
    have h1 : len = 1 := by simpa [mLen] using hl
    subst h1
    exact lv_lrem hx hb hd hz (kk rfl lr hL)
  · unfold mLcmp at h
    split at h
    · cases h
      have h1 : len = 1 := by simpa [mLen] using hl
      subst h1
      exact W.lcmp hx hb hd (kk rfl lr hL)
    · cases h
  · cases h
end
theorem itn_spec {t : Int} {n : Nat} (h : itn t = some n) : t = (n : Int) := by
  unfold itn at h
  split at h
  · cases h; rfl
  · cases h
theorem mcI_eq {x : Int32} {k : Int} (h1 : -2147483648 ≤ k) (h2 : k ≤ 2147483647) : x = mcI k ↔ x.toInt = k := by
  rw [← mcI_i, ← Int32.toInt_inj, Int32.toInt_ofInt]
  have e2 : Int32.size = 4294967296 := rfl
  rw [e2, Int.bmod_eq_of_le (by omega) (by omega)]
theorem swf_off {pc : Nat} {d : Int} {t : Nat} (ht : itn ((pc : Int) + d) = some t) (x : Int32) : ∀ (cs : List (Int × Int)) (l : List (Int32 × Nat)), swc pc cs = some l → (pc : Int) + Op.lookupswitch.offset cs d x.toInt = (swf l t x : Int)
  | [], l, h => by
    cases h
    rw [Op.lookupswitch.offset_nil]
    exact itn_spec ht
  | (k, off) :: r, l, h => by
    unfold swc at h
    split at h
    · rename_i hr
      split at h
      · rename_i t1 l1 h1 h2
        cases h
        rw [Op.lookupswitch.offset_cons]
        unfold swf
        by_cases hx : x = mcI k
        · rw [if_pos hx, if_pos ((mcI_eq hr.1 hr.2).mp hx).symm]
          exact itn_spec h1
        · rw [if_neg hx, if_neg (fun e => hx ((mcI_eq hr.1 hr.2).mpr e.symm))]
          exact swf_off ht x r l1 h2
      · cases h
    · cases h
theorem mTab_out {d x : Int} : ∀ (offs : List Int) (lo : Int), (x < lo ∨ lo + (offs.length : Int) ≤ x) → Op.lookupswitch.offset (mTab lo offs) d x = d
  | [], lo, _ => rfl
  | o :: r, lo, h => by
    unfold mTab
    have hl : ((o :: r).length : Int) = (r.length : Int) + 1 := by simp
    rw [hl] at h
    rw [Op.lookupswitch.offset_cons, if_neg (by omega)]
    exact mTab_out r (lo + 1) (by omega)
theorem mTab_in {d x : Int} : ∀ (offs : List Int) (lo : Int), lo ≤ x → x < lo + (offs.length : Int) → offs[(x - lo).toNat]? = some (Op.lookupswitch.offset (mTab lo offs) d x)
  | [], lo, h1, h2 => by simp at h2; omega
  | o :: r, lo, h1, h2 => by
    unfold mTab
    have hl : ((o :: r).length : Int) = (r.length : Int) + 1 := by simp
    rw [hl] at h2
    rw [Op.lookupswitch.offset_cons]
    by_cases e : lo = x
    · subst e
      rw [if_pos rfl, Int.sub_self]
      rfl
    · rw [if_neg e, show (x - lo).toNat = (x - (lo + 1)).toNat + 1 by omega, List.getElem?_cons_succ]
      exact mTab_in r (lo + 1) (by omega) (by omega)
section
variable {p : Program} {l : Launch} {e : Env} {R : Room} {s : State} {m : MethodId} {args : Array Value} {below : List Frame} {meth : Method} {c : Code} {H : Heap} {locs : List Loc} {cells slots : Nat} {Q : State → Prop}
variable {G : mG} {cc : ByteArray} {nL o pc pc' len : Nat} {ls st ls' st' : List Value} {lr : Array Slot} {σ σ' : mSt} {ins : Instr}
theorem mJmp_spec {t : Int} {b : Bool} {x : mNx} (h : mJmp t b pc ls st σ = some x) : ∃ n : Nat, t = (n : Int) ∧ x = .inl (if b = true then n else pc + 3, ls, st, σ) := by
  unfold mJmp at h
  split at h
  · cases h; exact ⟨_, rfl, rfl⟩
  · cases h
theorem simA3 (C : Cx G p s m args c cc nL o) (hd : decode cc pc = .ok (ins, len)) (hl : mLen ins len = true) (hL : LR G nL ls lr) (h : mStA3 o ins pc ls st σ = some (some (.inl (pc', ls', st', σ')))) (kk : σ' = σ → ∀ lr' : Array Slot, LR G nL ls' lr' → W p l e R s m args below meth c H locs cells slots Q (F0 m pc' lr' (st'.map (rl G)))) : W p l e R s m args below meth c H locs cells slots Q (F0 m pc lr (st.map (rl G))) := by
  obtain ⟨hx, hb, -, hown, hts, -⟩ := C
  unfold mStA3 at h
  split at h
  · unfold mPushI at h
    split at h
    · rename_i hc
      cases h
      have h1 : len = 2 := by simpa [mLen] using hl
      subst h1
      exact lv_ldc hx hb hown (hts _ (cstF_spec hc)) hd (kk rfl lr hL)
    · cases h
  · unfold mPushI at h
    split at h
    · rename_i hc
      cases h
      have h1 : len = 3 := by simpa [mLen] using hl
      subst h1
      exact lv_ldcw hx hb hown (hts _ (cstF_spec hc)) hd (kk rfl lr hL)
    · cases h
  · split at h
    · rename_i hc
      cases h
      have h1 : len = 3 := by simpa [mLen] using hl
      subst h1
      exact lv_ldc2 hx hb hown (hts _ (cslF_spec hc)) hd (kk rfl lr hL)
    · cases h
  · obtain ⟨n, ht, e⟩ := mJmp_spec (Option.some.inj h); cases e
    have h1 : len = 3 := by simpa [mLen] using hl
    subst h1
    exact lv_goto hx hb hd ht (kk rfl lr hL)
  · unfold mIf1 at h
    split at h
    · obtain ⟨n, ht, e⟩ := mJmp_spec (Option.some.inj h)
      have h1 : len = 3 := by simpa [mLen] using hl
      subst h1
      rename_i cd off _ x r
      cases cd
      · exact lv_if_eq hx hb hd ht (fun q => by simp only [mCmp, q] at e; cases e; exact kk rfl lr hL) (fun q => by simp only [mCmp, q] at e; cases e; exact kk rfl lr hL)
      · exact lv_if_ne hx hb hd ht (fun q => by simp only [mCmp, q] at e; cases e; exact kk rfl lr hL) (fun q => by simp only [mCmp, q] at e; cases e; exact kk rfl lr hL)
      · exact lv_if_lt hx hb hd ht (fun q => by simp only [mCmp, q] at e; cases e; exact kk rfl lr hL) (fun q => by simp only [mCmp, q] at e; cases e; exact kk rfl lr hL)
      · exact lv_if_ge hx hb hd ht (fun q => by simp only [mCmp, q] at e; cases e; exact kk rfl lr hL) (fun q => by simp only [mCmp, q] at e; cases e; exact kk rfl lr hL)
      · exact lv_if_gt hx hb hd ht (fun q => by simp only [mCmp, q] at e; cases e; exact kk rfl lr hL) (fun q => by simp only [mCmp, q] at e; cases e; exact kk rfl lr hL)
      · exact lv_if_le hx hb hd ht (fun q => by simp only [mCmp, q] at e; cases e; exact kk rfl lr hL) (fun q => by simp only [mCmp, q] at e; cases e; exact kk rfl lr hL)
    · cases h
  · unfold mIf2 at h
    split at h
    · obtain ⟨n, ht, e⟩ := mJmp_spec (Option.some.inj h)
      have h1 : len = 3 := by simpa [mLen] using hl
      subst h1
      rename_i cd off _ y x r
      cases cd
      · exact lv_icmp_eq hx hb hd ht (fun q => by simp only [mCmp, q] at e; cases e; exact kk rfl lr hL) (fun q => by simp only [mCmp, q] at e; cases e; exact kk rfl lr hL)
      · exact lv_icmp_ne hx hb hd ht (fun q => by simp only [mCmp, q] at e; cases e; exact kk rfl lr hL) (fun q => by simp only [mCmp, q] at e; cases e; exact kk rfl lr hL)
      · exact lv_icmp_lt hx hb hd ht (fun q => by simp only [mCmp, q] at e; cases e; exact kk rfl lr hL) (fun q => by simp only [mCmp, q] at e; cases e; exact kk rfl lr hL)
      · exact lv_icmp_ge hx hb hd ht (fun q => by simp only [mCmp, q] at e; cases e; exact kk rfl lr hL) (fun q => by simp only [mCmp, q] at e; cases e; exact kk rfl lr hL)
      · exact lv_icmp_gt hx hb hd ht (fun q => by simp only [mCmp, q] at e; cases e; exact kk rfl lr hL) (fun q => by simp only [mCmp, q] at e; cases e; exact kk rfl lr hL)
      · exact lv_icmp_le hx hb hd ht (fun q => by simp only [mCmp, q] at e; cases e; exact kk rfl lr hL) (fun q => by simp only [mCmp, q] at e; cases e; exact kk rfl lr hL)
    · cases h
  · split at h
    · rename_i d lo hi offs hs
      unfold mSw at h
      split at h
      · rename_i x r cs t hc ht
        cases h
        have e := swf_off ht x _ _ hc
        by_cases hr : x.toInt < lo ∨ hi < x.toInt
        · rw [mTab_out offs.toList lo (by omega)] at e
          exact lv_tableOut hx hb hd hr e (kk rfl lr hL)
        · have e2 := mTab_in (d := d) (x := x.toInt) offs.toList lo (by omega) (by omega)
          rw [Array.getElem?_toList] at e2
          exact lv_tableIn hx hb hd (by omega) (by omega) e2 e (kk rfl lr hL)
      · cases h
    · cases h
  · split at h
    · rename_i d ps hs
      unfold mSw at h
      split at h
      · rename_i x r cs t hc ht
        cases h
        exact lv_lookup hx hb hd hs rfl (swf_off ht x _ _ hc) (kk rfl lr hL)
      · cases h
    · cases h
  · cases h
end
