/-! ===== the words stay; what a lookup in the tables gives ===== -/
def wKind (w : Cond) : Bool := goodWord w || (match w with
  | .methodLinkNest _ _ _ _ => true
  | .fieldLinkNest _ _ _ _ _ _ => true
  | .arrayOver _ => true
  | _ => false)
/-- the words that stay -/
def gw : List Cond := lw_tbl.filter wKind
theorem gw_of {w : Cond} (h : w ∈ lw_tbl) (hk : wKind w = true) : w ∈ gw := List.mem_filter.mpr ⟨h, hk⟩
theorem w_warm {args : Array Value} {s : State} {w : Cond} (hk : wKind w = true) (h : w.before args s = true) (a' : Array Value) (U : State) (hW : s.WarmedH U.vm) : w.before a' U = true := by
  unfold wKind at hk
  rw [Bool.or_eq_true] at hk
  rcases hk with hk | hk
  · exact word_at hW (good_of_word hk) h
  · split at hk
    · exact va_Nw.use rfl (va_Nw.warmM hW (va_Nw.of rfl h))
    · exact va_Nw.use rfl (va_Nw.warmF hW (va_Nw.of rfl h))
    · rename_i ty
      have e := Cond.arrayOver_setVmC (args := args) (s := s) (vm' := U.vm) hW.alike ty
      rw [h] at e
      exact e
    · cases hk
theorem tbl_warm {args : Array Value} {s : State} (hts : ∀ w ∈ gw, w.before args s = true) : ∀ w ∈ gw, ∀ (a' : Array Value) (U : State), s.WarmedH U.vm → w.before a' U = true :=
  fun w hw a' U hW => w_warm (List.mem_filter.mp hw).2 (hts w hw) a' U hW
theorem wAt_gw {i : Nat} {w : Cond} (h : wAt i w = true) (hk : wKind w = true) : w ∈ gw := gw_of (wAt_in h) hk
theorem find_spec {α : Type} {l : List α} {p : α → Bool} {x : α} (h : l.find? p = some x) : x ∈ l ∧ p x = true := ⟨List.mem_of_find?_eq_some h, List.find?_some h⟩
theorem and_beq {a b c d : Nat} (h : (a == b && c == d) = true) : a = b ∧ c = d := by
  simp only [Bool.and_eq_true, beq_iff_eq] at h
  exact h
theorem fldF_spec {o i ci k t : Nat} {fin : Bool} (h : fldF o i = some (ci, k, t, fin)) :
    ci < 9 ∧ k < (clq ci).2.2 ∧ Cond.fieldLink (cn o) i ((clq ci).2.1 k).1 ((clq ci).2.1 k).2.1 ((clq ci).2.1 k).2.2.1 ∈ gw ∧ ((clq ci).2.1 k).2.2.2 = fin ∧ ((clq ci).2.1 k).1 = cn ci ∧
      ((t = 0 ∧ fty ci k = .int) ∨ (t = 1 ∧ fty ci k = .boolean) ∨ (t = 2 ∧ ftR ci k = true ∧ fits (fty ci k) .null = true ∧ fin = true)) := by
  unfold fldF at h
  rw [Option.map_eq_some_iff] at h
  obtain ⟨e, he, h2⟩ := h
  obtain ⟨hm, hp⟩ := find_spec he
  have hc := List.all_eq_true.mp fld_all e hm
  obtain ⟨e1, e2, e3, e4, e5, e6, e7⟩ := e
  obtain ⟨p1, p2⟩ := and_beq hp
  dsimp only at p1 p2
  subst p1; subst p2
  simp only [Prod.mk.injEq] at h2
  obtain ⟨rfl, rfl, rfl, rfl⟩ := h2
  simp only [fldC, Bool.and_eq_true, decide_eq_true_eq, beq_iff_eq] at hc
  obtain ⟨⟨⟨⟨⟨c1, c2⟩, c3⟩, c4⟩, c5⟩, c6⟩ := hc
  refine ⟨c2, c3, wAt_gw c1 rfl, c4, c5, ?_⟩
  split at c6
  · exact Or.inl ⟨rfl, of_decide_eq_true c6⟩
  · exact Or.inr (Or.inl ⟨rfl, of_decide_eq_true c6⟩)
  · simp only [Bool.and_eq_true, decide_eq_true_eq] at c6
    obtain ⟨⟨⟨d1, d2⟩, d3⟩, d4⟩ := c6
    exact Or.inr (Or.inr ⟨d1, d2, d3, c4.symm.trans d4⟩)
theorem cstF_spec {o i : Nat} {v : Int32} (h : cstF o i = some v) : Cond.constant (cn o) i v ∈ gw := by
  unfold cstF at h
  rw [Option.map_eq_some_iff] at h
  obtain ⟨e, he, h2⟩ := h
  obtain ⟨hm, hp⟩ := find_spec he
  have hc := List.all_eq_true.mp cst_all e hm
  obtain ⟨p1, p2⟩ := and_beq hp
  subst p1; subst p2; subst h2
  exact wAt_gw hc rfl
theorem cslF_spec {o i : Nat} {v : Int64} (h : cslF o i = some v) : Cond.constantLong (cn o) i v ∈ gw := by
  unfold cslF at h
  rw [Option.map_eq_some_iff] at h
  obtain ⟨e, he, h2⟩ := h
  obtain ⟨hm, hp⟩ := find_spec he
  have hc := List.all_eq_true.mp csl_all e hm
  obtain ⟨p1, p2⟩ := and_beq hp
  subst p1; subst p2; subst h2
  exact wAt_gw hc rfl
theorem stcF_spec {o i k : Nat} (h : stcF o i = some k) : (1 ≤ k ∧ k ≤ 3) ∧ (Cond.fieldLink (cn o) i RX7 (stn k) "[I" ∈ gw ∨ Cond.fieldLinkNest (cn o) i RX7 (stn k) "[I" RX7 ∈ gw) := by
  unfold stcF at h
  rw [Option.map_eq_some_iff] at h
  obtain ⟨e, he, h2⟩ := h
  obtain ⟨hm, hp⟩ := find_spec he
  have hc := List.all_eq_true.mp stc_all e hm
  obtain ⟨p1, p2⟩ := and_beq hp
  subst p1; subst p2; subst h2
  simp only [stcC, Bool.and_eq_true, decide_eq_true_eq] at hc
  obtain ⟨⟨c1, c2⟩, c3⟩ := hc
  refine ⟨⟨c1, c2⟩, ?_⟩
  split at c3
  · exact Or.inl (wAt_gw c3 rfl)
  · exact Or.inr (wAt_gw c3 rfl)
theorem obiF_spec {o i : Nat} (h : obiF o i = true) : Cond.methodLink (cn o) i objectInit ∈ gw := by
  unfold obiF at h
  obtain ⟨e, hm, hp⟩ := List.any_eq_true.mp h
  have hc := List.all_eq_true.mp obi_all e hm
  obtain ⟨p1, p2⟩ := and_beq hp
  subst p1; subst p2
  exact wAt_gw hc rfl
theorem acyF_spec {o i : Nat} (h : acyF o i = true) : Cond.methodLink (cn o) i arraycopyName ∈ gw := by
  unfold acyF at h
  obtain ⟨e, hm, hp⟩ := List.any_eq_true.mp h
  have hc := List.all_eq_true.mp acy_all e hm
  obtain ⟨p1, p2⟩ := and_beq hp
  subst p1; subst p2
  exact wAt_gw hc rfl
theorem mnaF_spec {o i : Nat} (h : mnaF o i = true) : Cond.classLink (cn o) i "[[I" ∈ gw := by
  unfold mnaF at h
  obtain ⟨e, hm, hp⟩ := List.any_eq_true.mp h
  have hc := List.all_eq_true.mp mna_all e hm
  obtain ⟨p1, p2⟩ := and_beq hp
  subst p1; subst p2
  exact wAt_gw hc rfl
theorem mmxF_spec {o i k : Nat} (h : mmxF o i = some k) : (k = 0 ∨ k = 1) ∧ Cond.methodLink (cn o) i (if k = 0 then Lib.Math.max.name else Lib.Math.min.name) ∈ gw := by
  unfold mmxF at h
  rw [Option.map_eq_some_iff] at h
  obtain ⟨e, he, h2⟩ := h
  obtain ⟨hm, hp⟩ := find_spec he
  have hc := List.all_eq_true.mp mmx_all e hm
  obtain ⟨p1, p2⟩ := and_beq hp
  subst p1; subst p2; subst h2
  simp only [mmxC, Bool.and_eq_true, decide_eq_true_eq] at hc
  exact ⟨by omega, wAt_gw hc.1 rfl⟩
theorem newF_spec {o i ci : Nat} (h : newF o i = some ci) : ci < 9 ∧ Cond.classLink (cn o) i (cn ci) ∈ gw ∧ Cond.instantiable (cn ci) (nFl ci) ∈ gw ∧ Cond.initialized (cn ci) ∈ gw := by
  unfold newF at h
  rw [Option.map_eq_some_iff] at h
  obtain ⟨e, he, h2⟩ := h
  obtain ⟨hm, hp⟩ := find_spec he
  have hc := List.all_eq_true.mp new_all e hm
  obtain ⟨p1, p2⟩ := and_beq hp
  subst p1; subst p2; subst h2
  simp only [newC, Bool.and_eq_true, decide_eq_true_eq] at hc
  obtain ⟨⟨⟨c1, c2⟩, c3⟩, c4⟩ := hc
  exact ⟨c1, wAt_gw c2 rfl, wAt_gw c3 rfl, wAt_gw c4 rfl⟩
/-- what is known of a callee -/
def mOk (M : mRec) : Prop := M.2.1.cls = cn M.1 ∧ plainName (cn M.1) = true ∧ M.2.2.2.1 ≤ 21 ∧ (cn M.1 ≠ "java/lang/invoke/MethodHandle" ∧ cn M.1 ≠ "java/lang/invoke/VarHandle") ∧ (parseMethodDescriptor M.2.1.desc).map (fun d => d.parameters.length) = some M.2.2.2.2.2.1 ∧ Cond.initialized (cn M.1) ∈ gw ∧ Cond.code M.2.1 M.2.2.1 M.2.2.2.1 M.2.2.2.2.1 ∈ gw ∧ (M.2.2.2.2.2.2.isSome = true → M.2.1.name = "<init>")
theorem calF_spec {o i k : Nat} {M : mRec} (h : calF o i = some (k, M)) : mOk M ∧
    ((k = 0 ∧ Cond.methodLink (cn o) i M.2.1 ∈ gw ∧ Cond.instanceMethod M.2.1 ∈ gw ∧ Cond.selects (cn M.1) M.2.1 M.2.1 ∈ gw ∧ M.1 < 9 ∧ M.2.2.2.2.2.2 = none) ∨
     (k = 1 ∧ Cond.methodLink (cn o) i M.2.1 ∈ gw ∧ Cond.static M.2.1 ∈ gw ∧ M.2.2.2.2.2.2 = none) ∨
     (k = 2 ∧ Cond.methodLink (cn o) i M.2.1 ∈ gw ∧ Cond.instanceMethod M.2.1 ∈ gw ∧ M.2.1.name = "<init>" ∧ M.2.2.2.2.1 = none) ∨
     (k = 3 ∧ Cond.methodLinkNest (cn o) i M.2.1 RX7 ∈ gw ∧ Cond.static M.2.1 ∈ gw ∧ M.2.2.2.2.2.2 = none) ∨
     (k = 4 ∧ Cond.methodLinkNest (cn o) i M.2.1 RX7 ∈ gw ∧ Cond.instanceMethod M.2.1 ∈ gw ∧ M.2.1.name = "<init>" ∧ M.2.2.2.2.1 = none)) := by
  unfold calF at h
  rw [Option.map_eq_some_iff] at h
  obtain ⟨e, he, h2⟩ := h
  obtain ⟨hm, hp⟩ := find_spec he
  have hc := List.all_eq_true.mp (cal_all o) e hm
  have hcode : Cond.code e.2.2.1.2.1 e.2.2.1.2.2.1 e.2.2.1.2.2.2.1 e.2.2.1.2.2.2.2.1 ∈ gw := by
    obtain ⟨j, hj⟩ := List.getElem?_of_mem hm
    have h3 := congrArg (fun l => l[j]?) (cod_all o)
    simp only [List.getElem?_map, hj, Option.map_some, Option.some.injEq] at h3
    exact gw_of (List.mem_of_getElem? h3) rfl
  rw [beq_iff_eq] at hp
  subst hp
  simp only [Prod.mk.injEq] at h2
  obtain ⟨rfl, rfl⟩ := h2
  simp only [calC, Bool.and_eq_true, decide_eq_true_eq] at hc
  obtain ⟨⟨⟨⟨⟨⟨⟨c0, c1⟩, c2⟩, c3⟩, c4⟩, c5⟩, c6⟩, c7⟩ := hc
  have hnm : e.2.2.1.2.2.2.2.2.2.isSome = true → e.2.2.1.2.1.name = "<init>" := by
    have c9 := c0
    split at c9
    · simp only [Bool.and_eq_true, decide_eq_true_eq] at c9
      intro h
      rw [Option.isNone_iff_eq_none.mp c9.2] at h
      cases h
    · simp only [Bool.and_eq_true, decide_eq_true_eq] at c9
      intro h
      rw [Option.isNone_iff_eq_none.mp c9.2] at h
      cases h
    · simp only [Bool.and_eq_true, decide_eq_true_eq] at c9
      exact fun _ => c9.1.2
    · simp only [Bool.and_eq_true, decide_eq_true_eq] at c9
      intro h
      rw [Option.isNone_iff_eq_none.mp c9.2] at h
      cases h
    · simp only [Bool.and_eq_true, decide_eq_true_eq] at c9
      exact fun _ => c9.1.1.2
  refine ⟨⟨c2, c3, c4, ⟨c5, c6⟩, c7, wAt_gw c1 rfl, hcode, hnm⟩, ?_⟩
  split at c0
  · simp only [Bool.and_eq_true, decide_eq_true_eq] at c0
    obtain ⟨⟨⟨⟨d1, d2⟩, d3⟩, d4⟩, d5⟩ := c0
    rename_i hk
    exact Or.inl ⟨hk, wAt_gw d1 rfl, wAt_gw d2 rfl, wAt_gw d3 rfl, d4, Option.isNone_iff_eq_none.mp d5⟩
  · simp only [Bool.and_eq_true, decide_eq_true_eq] at c0
    obtain ⟨⟨d1, d2⟩, d3⟩ := c0
    rename_i hk
    exact Or.inr (Or.inl ⟨hk, wAt_gw d1 rfl, wAt_gw d2 rfl, Option.isNone_iff_eq_none.mp d3⟩)
  · simp only [Bool.and_eq_true, decide_eq_true_eq] at c0
    obtain ⟨⟨⟨d1, d2⟩, d3⟩, d4⟩ := c0
    rename_i hk
    exact Or.inr (Or.inr (Or.inl ⟨hk, wAt_gw d1 rfl, wAt_gw d2 rfl, d3, d4⟩))
  · simp only [Bool.and_eq_true, decide_eq_true_eq] at c0
    obtain ⟨⟨d1, d2⟩, d3⟩ := c0
    rename_i hk
    exact Or.inr (Or.inr (Or.inr (Or.inl ⟨hk, wAt_gw d1 rfl, wAt_gw d2 rfl, Option.isNone_iff_eq_none.mp d3⟩)))
  · simp only [Bool.and_eq_true, decide_eq_true_eq] at c0
    obtain ⟨⟨⟨⟨d1, d2⟩, d3⟩, d4⟩, d5⟩ := c0
    exact Or.inr (Or.inr (Or.inr (Or.inr ⟨d5, wAt_gw d1 rfl, wAt_gw d2 rfl, d3, d4⟩)))
theorem cls_gw {ci : Nat} (h : ci < 9) : ∀ w ∈ u_ws (clq ci).1 (clq ci).2.1 (clq ci).2.2, w ∈ gw := fun w hw => gw_of (cls_in h w hw) (by
  obtain ⟨k, -, rfl⟩ := List.mem_map.mp hw
  unfold u_lay
  split <;> rfl)
