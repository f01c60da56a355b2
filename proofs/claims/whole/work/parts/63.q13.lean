/-! ===== pure: method by method: ask ===== -/
/-- the class's trace: n numbers, then l -/
def aC (a i : Nat) : Prop := a = 89 ∨ (a = 88 ∧ i = 1)
def TrC (h : mMem) (n : Nat) (l : List Nat) (h' : mMem) : Prop := Fr aC h h' ∧ h' 88 1 = nI (n + l.length) ∧ (∀ i, i < n → h' 89 i = h 89 i) ∧ ∀ i, i < l.length → h' 89 (n + i) = nI (l.getD i 0)
theorem TrC_t {h h' h'' : mMem} {n : Nat} {l l' : List Nat} (a : TrC h n l h') (b : TrC h' (n + l.length) l' h'') : TrC h n (l ++ l') h'' := by
  obtain ⟨a1, a2, a3, a4⟩ := a
  obtain ⟨b1, b2, b3, b4⟩ := b
  refine ⟨Fr_t a1 b1, by rw [b2, List.length_append, Nat.add_assoc], fun i hi => by rw [b3 i (by omega), a3 i hi], fun i hi => ?_⟩
  rw [List.length_append] at hi
  by_cases q : i < l.length
  · rw [b3 _ (by omega), a4 i q, List.getD_eq_getElem?_getD, List.getD_eq_getElem?_getD, List.getElem?_append_left q]
  · have := b4 (i - l.length) (by omega)
    rw [show n + l.length + (i - l.length) = n + i by omega] at this
    rw [this, List.getD_eq_getElem?_getD, List.getD_eq_getElem?_getD, List.getElem?_append_right (by omega)]
theorem TrC_1 {h : mMem} {n b : Nat} : TrC h n [b] (up2 (up2 h 89 n (nI b)) 88 1 (nI (n + 1))) := by
  refine ⟨Fr_t (Fr_u (Or.inl rfl)) (Fr_u (Or.inr ⟨rfl, rfl⟩)), up2_a, fun i hi => by rw [up2_n (by omega), up2_n (by omega)], fun i hi => ?_⟩
  have : i = 0 := by simpa using hi
  subst this
  rw [up2_n (by omega), Nat.add_zero, up2_a]
  rfl
