/-! ===== what the real heap is, of a shape and a memory ===== -/
/-- what is fixed for a run: the classes' numbers and slots; the classes of int[], boolean[], House[], int[][]; where the heap began; where the script and the three static arrays lie -/
abbrev mG : Type := va_G × (ClassId × ClassId × ClassId × ClassId) × Nat × (Nat → Nat)
def ad (G : mG) (k : Nat) : Nat := if k < 4 then G.2.2.2 k else G.2.2.1 + (k - 4)
def rl (G : mG) (v : Value) : Value := match v with
  | .ref k => .ref (ad G k)
  | v => v
def rad (G : mG) (o : Option Nat) : Option Nat := o.map (ad G)
def aA (G : mG) : Nat → Prop := fun q => G.2.2.1 ≤ q
def entF (G : mG) (ci n : Nat) (rs : List (Option Nat)) (f : Nat → Int32) : List Value := (List.range n).map (fun i => if ftR ci i = true then va_rf (rad G (rs.getD i none)) else .int (f i))
def ent (G : mG) (c : Nat × Nat × List (Option Nat)) (f : Nat → Int32) : va_E := match c.1 with
  | 0 => .inl (G.2.1.1, c.2.1, .inl f)
  | 1 => .inl (G.2.1.2.1, c.2.1, .inl f)
  | 2 => .inl (G.2.1.2.2.1, c.2.1, .inr (.inr (.inr (.inr (fun j => rad G (c.2.2.getD j none))))))
  | 3 => .inl (G.2.1.2.2.2, c.2.1, .inr (.inr (.inr (.inr (fun j => rad G (c.2.2.getD j none))))))
  | n => .inr (n - 10, entF G (n - 10) c.2.1 c.2.2 f)
def wsl (G : mG) (σ : mSt) : va_W := (List.range (σ.1.length - 4)).map (fun j => (G.2.2.1 + j, ent G (cel σ.1 (j + 4)) (σ.2 (j + 4))))
def tysG (G : mG) : List (ClassId × FieldType) := [(G.2.1.1, .int), (G.2.1.2.1, .boolean), (G.2.1.2.2.1, .object RX4), (G.2.1.2.2.2, .array .int)]
def shOk (S : mSh) : Prop := 4 ≤ S.length ∧ (∀ k, k < 4 → kd S k = 4) ∧ ∀ k, 4 ≤ k → k < S.length → (kd S k ≤ 3 ∧ (kd S k = 2 → (cel S k).2.2.length = ln S k)) ∨ ∃ ci, ci < 9 ∧ kd S k = 10 + ci ∧ ln S k = nFl ci ∧ (cel S k).2.2.length = nFl ci
/-- an array that was there before -/
def oX (b L : Nat) (xs : Nat → Int32) (U : State) (H : Heap) : Prop := ∃ scr : Cell, H[b]? = some scr ∧ U.isArrayOf scr .int ∧ scr.vm ≠ .unknown ∧ L ≤ scr.slots.size ∧ scr.slots.size.toInt32 = nI L ∧ ∀ j : Nat, j < L → scr.slots[j]? = some (.int (xs j))
theorem oX.kept {b L : Nat} {xs : Nat → Int32} {U : State} {H H1 : Heap} (h : oX b L xs U H) (hq : H1[b]? = H[b]?) : oX b L xs U H1 := by
  obtain ⟨scr, h1, h2⟩ := h
  exact ⟨scr, by rw [hq]; exact h1, h2⟩
theorem oX.moved {b L : Nat} {xs : Nat → Int32} {u U : State} {H : Heap} (hvm : u.vm.Alike U.vm) (h : oX b L xs u H) : oX b L xs U H := by
  obtain ⟨scr, h1, h2, h3⟩ := h
  exact ⟨scr, h1, State.isArrayOf_alike hvm h2, h3⟩
def Wd (G : mG) (U : State) (H : Heap) (σ : mSt) : Prop := shOk σ.1 ∧ va_P G.1 vwCl (wsl G σ) H ∧ ∀ k, k < 4 → oX (G.2.2.2 k) (ln σ.1 k) (σ.2 k) U H ∧ G.2.2.2 k < G.2.2.1
theorem kd_out {S : mSh} {a : Nat} (h : S.length ≤ a) : kd S a = 99 := by
  unfold kd cel
  rw [List.getD_eq_getElem?_getD, List.getElem?_eq_none h]
  rfl
theorem sh_in {S : mSh} (h : shOk S) {a : Nat} (h4 : kd S a ≠ 4) (h9 : kd S a ≠ 99) : 4 ≤ a ∧ a < S.length := by
  constructor
  · rcases Nat.lt_or_ge a 4 with h1 | h1
    · exact absurd (h.2.1 a h1) h4
    · exact h1
  · rcases Nat.lt_or_ge a S.length with h1 | h1
    · exact h1
    · exact absurd (kd_out h1) h9
theorem sh_n {S : mSh} (h : shOk S) {a ci : Nat} (hk : kd S a = 10 + ci) (hc : ci < 9) : 4 ≤ a ∧ a < S.length ∧ ln S a = nFl ci ∧ (cel S a).2.2.length = nFl ci := by
  obtain ⟨h1, h2⟩ := sh_in h (a := a) (by omega) (by omega)
  refine ⟨h1, h2, ?_⟩
  rcases h.2.2 a h1 h2 with h3 | ⟨c2, h3, h4, h5⟩
  · omega
  · have : c2 = ci := by omega
    subst this
    exact h5
theorem ad_hi {G : mG} {a : Nat} (h : 4 ≤ a) : ad G a = G.2.2.1 + (a - 4) := by
  unfold ad
  rw [if_neg (by omega)]
theorem ad_lo {G : mG} {a : Nat} (h : a < 4) : ad G a = G.2.2.2 a := by
  unfold ad
  rw [if_pos h]
theorem wsl_len (G : mG) (σ : mSt) : (wsl G σ).length = σ.1.length - 4 := by simp [wsl]
theorem wsl_get (G : mG) (σ : mSt) (j : Nat) : (wsl G σ)[j]? = if j < σ.1.length - 4 then some (G.2.2.1 + j, ent G (cel σ.1 (j + 4)) (σ.2 (j + 4))) else none := by
  unfold wsl
  rw [List.getElem?_map]
  by_cases h : j < σ.1.length - 4
  · rw [List.getElem?_range h, if_pos h]
    rfl
  · rw [if_neg h, List.getElem?_eq_none (by rw [List.length_range]; omega)]
    rfl
theorem wsl_at {G : mG} {σ : mSt} {a : Nat} (h4 : 4 ≤ a) (ha : a < σ.1.length) : (wsl G σ)[a - 4]? = some (ad G a, ent G (cel σ.1 a) (σ.2 a)) := by
  rw [wsl_get, if_pos (by omega), ad_hi h4, show a - 4 + 4 = a by omega]
theorem wsl_set {G : mG} {σ σ' : mSt} {a : Nat} (h4 : 4 ≤ a) (ha : a < σ.1.length) (hl : σ'.1.length = σ.1.length) (ho : ∀ k, k ≠ a → cel σ'.1 k = cel σ.1 k ∧ σ'.2 k = σ.2 k) {e : va_E} (he : ent G (cel σ'.1 a) (σ'.2 a) = e) : (wsl G σ).set (a - 4) (ad G a, e) = wsl G σ' := by
  apply List.ext_getElem?
  intro j
  rw [List.getElem?_set, wsl_get, wsl_get, wsl_len, hl]
  by_cases hj : a - 4 = j
  · rw [if_pos hj, if_pos (by omega), if_pos (by omega), ← he, ad_hi h4]
    subst hj
    rw [show a - 4 + 4 = a by omega]
  · rw [if_neg hj]
    by_cases h : j < σ.1.length - 4
    · rw [if_pos h, if_pos h, (ho (j + 4) (by omega)).1, (ho (j + 4) (by omega)).2]
    · rw [if_neg h, if_neg h]
theorem wsl_D (G : mG) (σ : mSt) : va_D (aA G) (wsl G σ) := by
  refine ⟨fun i j x y hi hj hxy => ?_, fun k q hk => ?_⟩
  · rw [wsl_get] at hi hj
    split at hi
    · split at hj
      · cases hi; cases hj
        dsimp only at hxy
        omega
      · cases hj
    · cases hi
  · rw [wsl_get] at hk
    split at hk
    · cases hk
      exact Nat.le_add_right _ _
    · cases hk
/-! the locals -/
def lvs1 (G : mG) (ls : List Value) (i : Nat) : Option (Nat × Value) := match ls[i]? with
  | some (.int x) => some (i, .int x)
  | some (.ref k) => some (i, .ref (ad G k))
  | some (.long x) => if ls[i + 1]? = some sec then some (i, .long x) else none
  | _ => none
def lvs (G : mG) (ls : List Value) : List (Nat × Value) := (List.range ls.length).filterMap (lvs1 G ls)
def LR (G : mG) (nL : Nat) (ls : List Value) (lr : Array Slot) : Prop := ls.length = nL ∧ lv_has lr nL (lvs G ls)
theorem lv_less {ls : Array Slot} {nL : Nat} {l l' : List (Nat × Value)} (h : lv_has ls nL l) (hl : ∀ q ∈ l', q ∈ l) : lv_has ls nL l' := ⟨h.1, h.2.1, fun q hq => h.2.2 q (hl q hq)⟩
theorem lvs_mem {G : mG} {ls : List Value} {i : Nat} {q : Nat × Value} (h : lvs1 G ls i = some q) : q ∈ lvs G ls := by
  refine List.mem_filterMap.mpr ⟨i, List.mem_range.mpr ?_, h⟩
  unfold lvs1 at h
  rcases Nat.lt_or_ge i ls.length with h1 | h1
  · exact h1
  · rw [List.getElem?_eq_none h1] at h
    cases h
theorem lvs_of {G : mG} {ls : List Value} {q : Nat × Value} (h : q ∈ lvs G ls) : lvs1 G ls q.1 = some q := by
  obtain ⟨i, -, hi⟩ := List.mem_filterMap.mp h
  have : q.1 = i := by
    unfold lvs1 at hi
    split at hi
    · cases hi; rfl
    · cases hi; rfl
    · split at hi
      · cases hi; rfl
      · cases hi
    · cases hi
  rw [this]
  exact hi
theorem LR_i {G : mG} {nL : Nat} {ls : List Value} {lr : Array Slot} (h : LR G nL ls lr) {i : Nat} {x : Int32} (hi : ls[i]? = some (.int x)) : lr[i]? = some (.val (.int x)) :=
  h.2.2.2 (i, .int x) (lvs_mem (i := i) (by unfold lvs1; rw [hi]))
theorem LR_a {G : mG} {nL : Nat} {ls : List Value} {lr : Array Slot} (h : LR G nL ls lr) {i k : Nat} (hi : ls[i]? = some (.ref k)) : lr[i]? = some (.val (.ref (ad G k))) :=
  h.2.2.2 (i, .ref (ad G k)) (lvs_mem (i := i) (by unfold lvs1; rw [hi]))
theorem LR_l {G : mG} {nL : Nat} {ls : List Value} {lr : Array Slot} (h : LR G nL ls lr) {i : Nat} {x : Int64} (hi : ls[i]? = some (.long x)) (h1 : ls[i + 1]? = some sec) : lr[i]? = some (.val (.long x)) :=
  h.2.2.2 (i, .long x) (lvs_mem (i := i) (by unfold lvs1; rw [hi]; dsimp only; rw [if_pos h1]))
theorem lvs_other {G : mG} {ls : List Value} {i j : Nat} {v : Value} (hv : v ≠ sec) (hj : j ≠ i) {q : Nat × Value} (h : lvs1 G (ls.set i v) j = some q) : lvs1 G ls j = some q ∧ (q.2.category = 2 → j + 1 ≠ i) ∧ q.1 = j := by
  unfold lvs1 at h ⊢
  rw [List.getElem?_set_ne (fun e => hj e.symm)] at h
  split at h
  · cases h
    exact ⟨rfl, fun h => (by cases h), rfl⟩
  · cases h
    exact ⟨rfl, fun h => (by cases h), rfl⟩
  · rename_i x h1
    split at h
    · rename_i h2
      have hne : j + 1 ≠ i := by
        intro e
        subst e
        rw [List.getElem?_set] at h2
        rw [if_pos rfl] at h2
        split at h2
        · exact hv (Option.some.inj h2)
        · cases h2
      rw [List.getElem?_set_ne (fun e => hne e.symm)] at h2
      cases h
      rw [if_pos h2]
      exact ⟨rfl, fun _ => hne, rfl⟩
    · cases h
  · cases h
theorem LR_st1 {G : mG} {nL : Nat} {ls : List Value} {lr : Array Slot} {i : Nat} {v w : Value} (hl : ls.length = nL) (hv : v ≠ sec) (hvw : ∀ q, lvs1 G (ls.set i v) i = some q → q = (i, w)) (h : lv_has lr nL ((i, w) :: (lvs G ls).filter (fun q => !(q.1 == i) && !(q.1 + 1 == i && q.2.category == 2)))) : LR G nL (ls.set i v) lr := by
  refine ⟨by rw [List.length_set]; exact hl, lv_less h (fun q hq => ?_)⟩
  have h1 := lvs_of hq
  by_cases hj : q.1 = i
  · rw [hj] at h1
    rw [hvw q h1]
    exact List.mem_cons_self
  · obtain ⟨h2, h3, -⟩ := lvs_other hv hj h1
    refine List.mem_cons_of_mem _ (List.mem_filter.mpr ⟨lvs_mem h2, ?_⟩)
    simp only [Bool.and_eq_true, Bool.not_eq_true', beq_eq_false_iff_ne, ne_eq, Bool.and_eq_false_iff]
    refine ⟨hj, ?_⟩
    by_cases hc : q.2.category = 2
    · exact Or.inl (h3 hc)
    · exact Or.inr hc
theorem LR_sti {G : mG} {nL : Nat} {ls : List Value} {lr : Array Slot} {i : Nat} {x : Int32} (hl : ls.length = nL) (hi : i < nL) (h : lv_has lr nL ((i, .int x) :: (lvs G ls).filter (fun q => !(q.1 == i) && !(q.1 + 1 == i && q.2.category == 2)))) : LR G nL (ls.set i (.int x)) lr :=
  LR_st1 hl (by intro e; cases e) (fun q hq => by
    unfold lvs1 at hq
    rw [List.getElem?_set_self (by omega)] at hq
    cases hq
    rfl) h
theorem LR_sta {G : mG} {nL : Nat} {ls : List Value} {lr : Array Slot} {i k : Nat} (hl : ls.length = nL) (hi : i < nL) (h : lv_has lr nL ((i, .ref (ad G k)) :: (lvs G ls).filter (fun q => !(q.1 == i) && !(q.1 + 1 == i && q.2.category == 2)))) : LR G nL (ls.set i (.ref k)) lr :=
  LR_st1 hl (by intro e; cases e) (fun q hq => by
    unfold lvs1 at hq
    rw [List.getElem?_set_self (by omega)] at hq
    cases hq
    rfl) h
theorem LR_stl {G : mG} {nL : Nat} {ls : List Value} {lr : Array Slot} {i : Nat} {x : Int64} (hl : ls.length = nL) (hi : i + 1 < nL) (h : lv_has lr nL ((i, .long x) :: (lvs G ls).filter (fun q => !(q.1 == i) && (!(q.1 == i + 1) && !(q.1 + 1 == i && q.2.category == 2))))) : LR G nL ((ls.set i (.long x)).set (i + 1) sec) lr := by
  refine ⟨by rw [List.length_set, List.length_set]; exact hl, lv_less h (fun q hq => ?_)⟩
  have h1 := lvs_of hq
  by_cases hj : q.1 = i
  · rw [hj] at h1
    unfold lvs1 at h1
    rw [List.getElem?_set_ne (by omega), List.getElem?_set_self (by omega)] at h1
    dsimp only at h1
    split at h1
    · cases h1
      exact List.mem_cons_self
    · cases h1
  · have hj1 : q.1 ≠ i + 1 := by
      intro e
      rw [e] at h1
      unfold lvs1 at h1
      rw [List.getElem?_set_self (by rw [List.length_set]; omega)] at h1
      cases h1
    -- the rest: as it was
    have h2 : lvs1 G (ls.set i (.long x)) q.1 = some q := by
      unfold lvs1 at h1 ⊢
      rw [List.getElem?_set_ne (fun e => hj1 e.symm)] at h1
      split at h1
      · exact h1
      · exact h1
      · rw [List.getElem?_set_ne (by omega)] at h1
        exact h1
      · cases h1
    obtain ⟨h3, h4, -⟩ := lvs_other (by intro e; cases e) hj h2
    refine List.mem_cons_of_mem _ (List.mem_filter.mpr ⟨lvs_mem h3, ?_⟩)
    simp only [Bool.and_eq_true, Bool.not_eq_true', beq_eq_false_iff_ne, ne_eq, Bool.and_eq_false_iff]
    refine ⟨hj, hj1, ?_⟩
    by_cases hc : q.2.category = 2
    · exact Or.inl (h4 hc)
    · exact Or.inr hc
