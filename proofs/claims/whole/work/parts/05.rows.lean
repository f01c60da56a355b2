/-! ===== rows by which steps are laid ===== -/
theorem Wp_if {d : Nat} {M : mRec} {ct : Option (Nat × Nat)} {pc : Nat} {ls st : List Value} {σ : mSt} {Q : mQ} {t f : Nat} {ls' st' : List Value} {σ' : mSt} {c : Prop} [Decidable c] (h : mAt M ct pc ls st σ = some (.inl (if decide c = true then t else f, ls', st', σ'))) : Wp d M ct pc ls st σ Q = if c then Wp d M ct t ls' st' σ' Q else Wp d M ct f ls' st' σ' Q := by
  by_cases hc : c
  · rw [if_pos hc]
    exact Wp_go (h.trans (by rw [decide_eq_true hc]; rfl))
  · rw [if_neg hc]
    exact Wp_go (h.trans (by rw [decide_eq_false hc]; rfl))
theorem Wp_ifn {d : Nat} {M : mRec} {ct : Option (Nat × Nat)} {pc : Nat} {ls st : List Value} {σ : mSt} {Q : mQ} {t f : Nat} {ls' st' : List Value} {σ' : mSt} {c : Prop} [Decidable c] (h : mAt M ct pc ls st σ = some (.inl (if (!(decide c)) = true then t else f, ls', st', σ'))) : Wp d M ct pc ls st σ Q = if c then Wp d M ct f ls' st' σ' Q else Wp d M ct t ls' st' σ' Q := by
  by_cases hc : c
  · rw [if_pos hc]
    exact Wp_go (h.trans (by rw [decide_eq_true hc]; rfl))
  · rw [if_neg hc]
    exact Wp_go (h.trans (by rw [decide_eq_false hc]; rfl))
def swW (F : Nat → Prop) : List (Int32 × Nat) → Nat → Int32 → Prop
  | [], d, _ => F d
  | (v, t) :: r, d, x => if x = v then F t else swW F r d x
theorem swW_eq (F : Nat → Prop) : ∀ (l : List (Int32 × Nat)) (d : Nat) (x : Int32), F (swf l d x) = swW F l d x
  | [], _, _ => rfl
  | (v, t) :: r, d, x => by
    unfold swf swW
    by_cases h : x = v
    · rw [if_pos h, if_pos h]
    · rw [if_neg h, if_neg h]
      exact swW_eq F r d x
theorem Wp_sw {d : Nat} {M : mRec} {ct : Option (Nat × Nat)} {pc : Nat} {ls st : List Value} {σ : mSt} {Q : mQ} {l : List (Int32 × Nat)} {t : Nat} {x : Int32} {ls' st' : List Value} {σ' : mSt} (h : mAt M ct pc ls st σ = some (.inl (swf l t x, ls', st', σ'))) : Wp d M ct pc ls st σ Q = swW (fun q => Wp d M ct q ls' st' σ' Q) l t x :=
  (Wp_go h).trans (swW_eq (fun q => Wp d M ct q ls' st' σ' Q) l t x)
theorem inb_nI {r n : Nat} (h : r < n) (hn : n < 2147483648) : inb (nI r) n = true := by
  unfold inb
  rw [nI_clamp (by omega)]
  simp only [decide_eq_false (nI_pos (show r < 2 ^ 31 by omega)), decide_eq_true h]
  rfl
section
variable {o pc i a b k ci : Nat} {ct : Option (Nat × Nat)} {ret : Option FieldType} {ls r : List Value} {S : mSh} {h : mMem}
theorem g_getI {fin : Bool} (hf : fldF o i = some (ci, k, 0, fin)) (hk : kd S a = 10 + ci) : mStep o ct ret (.getfield i) pc ls (.ref a :: r) (S, h) = nxt (pc + 3) ls (.int (h a k) :: r) (S, h) := by
  show mGet o i pc ls (.ref a :: r) (S, h) = _
  simp only [mGet, hf, hk, if_true]
  rfl
theorem g_getZ {fin : Bool} (hf : fldF o i = some (ci, k, 1, fin)) (hk : kd S a = 10 + ci) : mStep o ct ret (.getfield i) pc ls (.ref a :: r) (S, h) = nxt (pc + 3) ls (.int (h a k) :: r) (S, h) := by
  show mGet o i pc ls (.ref a :: r) (S, h) = _
  simp only [mGet, hf, hk, if_true]
  rfl
theorem g_getR {fin : Bool} (hf : fldF o i = some (ci, k, 2, fin)) (hk : kd S a = 10 + ci) : mStep o ct ret (.getfield i) pc ls (.ref a :: r) (S, h) = nxt (pc + 3) ls (rfv (rfo S a k) :: r) (S, h) := by
  show mGet o i pc ls (.ref a :: r) (S, h) = _
  simp only [mGet, hf, hk, if_true]
theorem g_putI {x : Int32} (hf : fldF o i = some (ci, k, 0, false)) (hk : kd S a = 10 + ci) : mStep o none ret (.putfield i) pc ls (.int x :: .ref a :: r) (S, h) = nxt (pc + 3) ls r (S, up2 h a k x) := by
  show mPut o i none pc ls (.int x :: .ref a :: r) (S, h) = _
  simp only [mPut, hf]
  exact if_pos ⟨hk, by simp⟩
theorem g_putZ {x : Int32} (hf : fldF o i = some (ci, k, 1, false)) (hk : kd S a = 10 + ci) (hx : x = nI 0 ∨ x = nI 1) : mStep o none ret (.putfield i) pc ls (.int x :: .ref a :: r) (S, h) = nxt (pc + 3) ls r (S, up2 h a k x) := by
  show mPut o i none pc ls (.int x :: .ref a :: r) (S, h) = _
  have hx' : x = 0 ∨ x = 1 := hx
  simp only [mPut, hf]
  exact if_pos ⟨hk, by simp [hx']⟩
theorem g_iald {j : Nat} (hk : kd S a = 0) (hj : j < ln S a) (hn : ln S a < 2147483648) : mStep o ct ret .iaload pc ls (.int (nI j) :: .ref a :: r) (S, h) = nxt (pc + 1) ls (.int (h a j) :: r) (S, h) := by
  show mIald pc ls (.int (nI j) :: .ref a :: r) (S, h) = _
  simp only [mIald]
  rw [if_pos ⟨Or.inl hk, inb_nI hj hn⟩, nI_clamp (by omega)]
theorem g_ialO {j : Nat} (hk : kd S a = 4) (hj : j < ln S a) (hn : ln S a < 2147483648) : mStep o ct ret .iaload pc ls (.int (nI j) :: .ref a :: r) (S, h) = nxt (pc + 1) ls (.int (h a j) :: r) (S, h) := by
  show mIald pc ls (.int (nI j) :: .ref a :: r) (S, h) = _
  simp only [mIald]
  rw [if_pos ⟨Or.inr hk, inb_nI hj hn⟩, nI_clamp (by omega)]
theorem g_bald {j : Nat} (hk : kd S a = 1) (hj : j < ln S a) (hn : ln S a < 2147483648) : mStep o ct ret .baload pc ls (.int (nI j) :: .ref a :: r) (S, h) = nxt (pc + 1) ls (.int (h a j) :: r) (S, h) := by
  show mBald pc ls (.int (nI j) :: .ref a :: r) (S, h) = _
  simp only [mBald]
  rw [if_pos ⟨hk, inb_nI hj hn⟩, nI_clamp (by omega)]
theorem g_aald2 {j : Nat} (hk : kd S a = 2) (hj : j < ln S a) (hn : ln S a < 2147483648) : mStep o ct ret .aaload pc ls (.int (nI j) :: .ref a :: r) (S, h) = nxt (pc + 1) ls (rfv (rfo S a j) :: r) (S, h) := by
  show mAald pc ls (.int (nI j) :: .ref a :: r) (S, h) = _
  simp only [mAald]
  rw [if_pos ⟨Or.inl hk, inb_nI hj hn⟩, nI_clamp (by omega)]
theorem g_aald3 {j : Nat} (hk : kd S a = 3) (hj : j < ln S a) (hn : ln S a < 2147483648) : mStep o ct ret .aaload pc ls (.int (nI j) :: .ref a :: r) (S, h) = nxt (pc + 1) ls (rfv (rfo S a j) :: r) (S, h) := by
  show mAald pc ls (.int (nI j) :: .ref a :: r) (S, h) = _
  simp only [mAald]
  rw [if_pos ⟨Or.inr hk, inb_nI hj hn⟩, nI_clamp (by omega)]
theorem g_iast {j : Nat} {x : Int32} (hk : kd S a = 0) (hj : j < ln S a) (hn : ln S a < 2147483648) : mStep o ct ret .iastore pc ls (.int x :: .int (nI j) :: .ref a :: r) (S, h) = nxt (pc + 1) ls r (S, up2 h a j x) := by
  show mIast pc ls (.int x :: .int (nI j) :: .ref a :: r) (S, h) = _
  simp only [mIast]
  rw [if_pos ⟨hk, inb_nI hj hn⟩, nI_clamp (by omega)]
theorem g_bast {j : Nat} {x : Int32} (hk : kd S a = 1) (hj : j < ln S a) (hn : ln S a < 2147483648) (hx : x = nI 0 ∨ x = nI 1) : mStep o none ret .bastore pc ls (.int x :: .int (nI j) :: .ref a :: r) (S, h) = nxt (pc + 1) ls r (S, up2 h a j x) := by
  show mBast none pc ls (.int x :: .int (nI j) :: .ref a :: r) (S, h) = _
  simp only [mBast]
  rw [nI_clamp (by omega)]
  exact if_pos ⟨trivial, hk, inb_nI hj hn, hx⟩
theorem g_alen4 (hk : kd S a = 4) : mStep o ct ret .arraylength pc ls (.ref a :: r) (S, h) = nxt (pc + 1) ls (.int (nI (ln S a)) :: r) (S, h) := by
  show mAlen pc ls (.ref a :: r) (S, h) = _
  simp only [mAlen]
  rw [if_pos (Or.inr hk)]
theorem g_acy {s t n : Nat} (hy : acyF o i = true) (hr : (r.map fun v => v.category).sum ≤ 8) (ha : kd S a = 0) (hb : kd S b = 0) (h1 : s + n ≤ ln S a) (h2 : t + n ≤ ln S b) (n1 : ln S a < 2147483648) (n2 : ln S b < 2147483648) : mStep o none ret (.invokestatic i) pc ls (.int (nI n) :: .int (nI t) :: .ref b :: .int (nI s) :: .ref a :: r) (S, h) = nxt (pc + 3) ls r (S, cp2 h a s b t n) := by
  show mInvS o i none pc ls (.int (nI n) :: .int (nI t) :: .ref b :: .int (nI s) :: .ref a :: r) (S, h) = _
  simp only [mInvS, hy, if_true, mAcy]
  rw [nI_clamp (show s < 2 ^ 31 by omega), nI_clamp (show t < 2 ^ 31 by omega), nI_clamp (show n < 2 ^ 31 by omega)]
  rw [if_pos ⟨trivial, ha, hb, nI_pos (by omega), nI_pos (by omega), nI_pos (by omega), h1, h2, hr⟩]
theorem g_idiv {x y : Int32} (hy : ¬ y = 0) : mStep o ct ret .idiv pc ls (.int y :: .int x :: r) (S, h) = nxt (pc + 1) ls (.int (x / y) :: r) (S, h) := by
  show mBinZ (fun x y => x / y) pc ls (.int y :: .int x :: r) (S, h) = _
  simp only [mBinZ]
  rw [if_neg hy]
theorem g_irem {x y : Int32} (hy : ¬ y = 0) : mStep o ct ret .irem pc ls (.int y :: .int x :: r) (S, h) = nxt (pc + 1) ls (.int (x - x / y * y) :: r) (S, h) := by
  show mBinZ (fun x y => x - x / y * y) pc ls (.int y :: .int x :: r) (S, h) = _
  simp only [mBinZ]
  rw [if_neg hy]
theorem g_ldiv {x y : Int64} (hy : ¬ y = 0) : mStep o ct ret .ldiv pc ls (.long y :: .long x :: r) (S, h) = nxt (pc + 1) ls (.long (x / y) :: r) (S, h) := by
  show mBinLZ (fun x y => x / y) pc ls (.long y :: .long x :: r) (S, h) = _
  simp only [mBinLZ]
  rw [if_neg hy]
theorem g_lrem {x y : Int64} (hy : ¬ y = 0) : mStep o ct ret .lrem pc ls (.long y :: .long x :: r) (S, h) = nxt (pc + 1) ls (.long (x - x / y * y) :: r) (S, h) := by
  show mBinLZ (fun x y => x - x / y * y) pc ls (.long y :: .long x :: r) (S, h) = _
  simp only [mBinLZ]
  rw [if_neg hy]
theorem g_zret {v : Int32} (hv : v = nI 0 ∨ v = nI 1) : mStep o none (some .boolean) .ireturn pc ls [.int v] (S, h) = some (.inr (.inl (some (.int v), (S, h)))) := by
  show mIret (some .boolean) none [.int v] (S, h) = _
  simp only [mIret]
  exact (if_pos (show v = 0 ∨ v = 1 from hv))
theorem g_mmx {x y : Int32} (hm : mmxF o i = some 0) (hr : (r.map fun v => v.category).sum ≤ 8) (hy : acyF o i = false := by decide +kernel) : mStep o ct ret (.invokestatic i) pc ls (.int y :: .int x :: r) (S, h) = nxt (pc + 3) ls (.int (if x < y then y else x) :: r) (S, h) := by
  show mInvS o i ct pc ls (.int y :: .int x :: r) (S, h) = _
  simp only [mInvS, hy, hm, mMmx]
  rw [if_neg (by decide), if_pos hr]
  rfl
theorem g_mmn {x y : Int32} (hm : mmxF o i = some 1) (hr : (r.map fun v => v.category).sum ≤ 8) (hy : acyF o i = false := by decide +kernel) : mStep o ct ret (.invokestatic i) pc ls (.int y :: .int x :: r) (S, h) = nxt (pc + 3) ls (.int (if y < x then y else x) :: r) (S, h) := by
  show mInvS o i ct pc ls (.int y :: .int x :: r) (S, h) = _
  simp only [mInvS, hy, hm, mMmx]
  rw [if_neg (by decide), if_pos hr]
  rfl
theorem g_invV {M : mRec} {n : Nat} {st as : List Value} (hc : calF o i = some (0, M)) (hn : M.2.2.2.2.2.1 = n) (hk : kd S b = 10 + M.1) (h1 : n ≤ st.length) (h2 : st.drop n = .ref b :: r) (h3 : (st.take n).reverse = as) (hr : (r.map fun v => v.category).sum ≤ 8 ∧ ((.ref b :: as).map fun v => v.category).sum ≤ M.2.2.2.1) : mStep o none ret (.invokevirtual i) pc ls st (S, h) = some (.inr (.inr (M, .ref b :: as, r))) := by
  show mInvV o i none st (S, h) = _
  simp only [mInvV, hc, hn]
  rw [if_pos h1, h2]
  simp only [hk, if_true, h3, mCallR]
  rw [if_pos hr]
theorem g_invS {M : mRec} {n q : Nat} {st as : List Value} (hy : acyF o i = false) (hm : mmxF o i = none) (hc : calF o i = some (q, M)) (hq : q = 1 ∨ q = 3) (hn : M.2.2.2.2.2.1 = n) (h1 : n ≤ st.length) (h2 : st.drop n = r) (h3 : (st.take n).reverse = as) (hr : (r.map fun v => v.category).sum ≤ 8 ∧ (as.map fun v => v.category).sum ≤ M.2.2.2.1) : mStep o none ret (.invokestatic i) pc ls st (S, h) = some (.inr (.inr (M, as, r))) := by
  show mInvS o i none pc ls st (S, h) = _
  simp only [mInvS, hy, hm, hc, hn]
  rw [if_neg (by decide), if_pos ⟨hq, h1⟩, h2, h3]
  simp only [mCallR]
  rw [if_pos hr]
end
