/-! ===== pure: loops that run downwards; counts, firsts ===== -/
def ritr {α : Type} (f : Nat → α → α) : Nat → α → α
  | 0, a => a
  | n + 1, a => ritr f n (f n a)
theorem lpdj {α γ : Type} {N : Nat} {f : Nat → α → α} {W : Nat → α → γ → mQ → Prop} (hs : ∀ i a u, i < N → ∃ u', ∀ Q, W (i + 1) a u Q = W i (f i a) u' Q) : ∀ n a u, n ≤ N → ∃ u', ∀ Q, W n a u Q = W 0 (ritr f n a) u' Q := by
  intro n
  induction n with
  | zero => intro a u _; exact ⟨u, fun Q => rfl⟩
  | succ n ih =>
    intro a u hn
    obtain ⟨u1, e1⟩ := hs n a u (by omega)
    obtain ⟨u2, e2⟩ := ih (f n a) u1 (by omega)
    exact ⟨u2, fun Q => by rw [e1, e2]; rfl⟩
theorem lpdm {α γ : Type} {N : Nat} {I : mMem → Prop} {f : Nat → α → α} {W : Nat → α → γ → mMem → mQ → Prop} (hs : ∀ i a u g, i < N → I g → ∃ g' u', I g' ∧ ∀ Q, W (i + 1) a u g Q = W i (f i a) u' g' Q) : ∀ n a u g, n ≤ N → I g → ∃ g' u', I g' ∧ ∀ Q, W n a u g Q = W 0 (ritr f n a) u' g' Q := by
  intro n
  induction n with
  | zero => intro a u g _ hI; exact ⟨g, u, hI, fun Q => rfl⟩
  | succ n ih =>
    intro a u g hn hI
    obtain ⟨g1, u1, hI1, e1⟩ := hs n a u g (by omega) hI
    obtain ⟨g2, u2, hI2, e2⟩ := ih (f n a) u1 g1 (by omega) hI1
    exact ⟨g2, u2, hI2, fun Q => by rw [e1, e2]; rfl⟩
theorem dn1 (n : Nat) : nI n + mcI (-1) = nI n - nI 1 := (Int32.sub_eq_add_neg _ _).symm
theorem dn0 : (nI 0 - nI 1 < 0) = True := eq_true (by decide)
theorem dnS (n : Nat) : nI (n + 1) - nI 1 = nI n := pk_sub (by omega)
theorem ad0 (x : Int32) : x + nI 0 = x := by rw [nI_0, Int32.add_zero]
theorem or0 (x : Int32) : x ||| nI 0 = x := by rw [nI_0, Int32.or_zero]
theorem itr_sn {α : Type} {f : Nat → α → α} : ∀ n i a, itr f (n + 1) i a = f (i + n) (itr f n i a) := by
  intro n
  induction n with
  | zero => intro i a; rfl
  | succ n ih =>
    intro i a
    show itr f (n + 1) (i + 1) (f i a) = f (i + (n + 1)) (itr f n (i + 1) (f i a))
    rw [ih, show i + 1 + n = i + (n + 1) by omega]
theorem itr_cm {α : Type} {f : Nat → α → α} {g : α → α} (hc : ∀ i a, f i (g a) = g (f i a)) : ∀ n i a, itr f n i (g a) = g (itr f n i a) := by
  intro n
  induction n with
  | zero => intro i a; rfl
  | succ n ih =>
    intro i a
    show itr f n (i + 1) (f i (g a)) = g (itr f n (i + 1) (f i a))
    rw [hc, ih]
theorem ritr_cm {α : Type} {f : Nat → α → α} (hc : ∀ i j a, f i (f j a) = f j (f i a)) : ∀ n a, ritr f n a = itr f n 0 a := by
  intro n
  induction n with
  | zero => intro a; rfl
  | succ n ih =>
    intro a
    show ritr f n (f n a) = _
    rw [ih, itr_sn, Nat.zero_add, itr_cm (fun i a => hc i n a)]
theorem ritr_2 {α β : Type} {f : Nat → α → α} {g : Nat → β → β} : ∀ n p, ritr (fun i (p : α × β) => (f i p.1, g i p.2)) n p = (ritr f n p.1, ritr g n p.2) := by
  intro n
  induction n with
  | zero => intro p; rfl
  | succ n ih => intro p; exact ih (f n p.1, g n p.2)
theorem itr_2 {α β : Type} {f : Nat → α → α} {g : Nat → β → β} : ∀ n i p, itr (fun i (p : α × β) => (f i p.1, g i p.2)) n i p = (itr f n i p.1, itr g n i p.2) := by
  intro n
  induction n with
  | zero => intro i p; rfl
  | succ n ih => intro i p; exact ih (i + 1) (f i p.1, g i p.2)
theorem ritr_c {α : Type} {f g : Nat → α → α} : ∀ n a, (∀ i a, i < n → f i a = g i a) → ritr f n a = ritr g n a := by
  intro n
  induction n with
  | zero => intro a _; rfl
  | succ n ih =>
    intro a h
    show ritr f n (f n a) = ritr g n (g n a)
    rw [h n a (by omega), ih _ (fun i a hi => h i a (by omega))]
theorem itr_c {α : Type} {f g : Nat → α → α} : ∀ n i a, (∀ j a, i ≤ j → j < i + n → f j a = g j a) → itr f n i a = itr g n i a := by
  intro n
  induction n with
  | zero => intro i a _; rfl
  | succ n ih =>
    intro i a h
    show itr f n (i + 1) (f i a) = itr g n (i + 1) (g i a)
    rw [h i a (by omega) (by omega), ih _ _ (fun j a h1 h2 => h j a (by omega) (by omega))]
def sm {α β : Type} (x : α ⊕ β) (k : α → α ⊕ β) : α ⊕ β := match x with
  | .inl a => k a
  | .inr b => .inr b
theorem itx_s {α β : Type} {f : Nat → α → α ⊕ β} {n i : Nat} {a : α} : itx f (n + 1) i a = sm (f i a) (itx f n (i + 1)) := rfl
theorem itx_sn {α β : Type} {f : Nat → α → α ⊕ β} : ∀ n i a, itx f (n + 1) i a = match itx f n i a with
    | .inl a' => f (i + n) a'
    | .inr b => .inr b := by
  intro n
  induction n with
  | zero =>
    intro i a
    show (match f i a with
      | .inl a' => .inl a'
      | .inr b => .inr b) = f i a
    cases f i a <;> rfl
  | succ n ih =>
    intro i a
    have e : ∀ n, itx f (n + 1) i a = match f i a with
      | .inl a' => itx f n (i + 1) a'
      | .inr b => .inr b := fun n => rfl
    rw [e (n + 1), e n]
    cases f i a with
    | inl a' =>
      show itx f (n + 1) (i + 1) a' = match itx f n (i + 1) a' with
        | .inl a' => f (i + (n + 1)) a'
        | .inr b => .inr b
      rw [ih, show i + 1 + n = i + (n + 1) by omega]
    | inr b => rfl
/-- what is overwritten, from above down: the first that there is -/
def orv (y : Int32) (u : Nat → Int32) : Unit ⊕ Nat → Int32
  | .inl _ => y
  | .inr x => u x
theorem ritr_ow {P : Nat → Bool} {u : Nat → Int32} {e : Nat → Nat} : ∀ n y, ritr (fun k y => if P k then u (e k) else y) n y = orv y u (itx (fun k (_ : Unit) => if P k then (.inr (e k) : Unit ⊕ Nat) else .inl ()) n 0 ()) := by
  intro n
  induction n with
  | zero => intro y; rfl
  | succ n ih =>
    intro y
    show ritr _ n (if P n then u (e n) else y) = _
    rw [ih, itx_sn, Nat.zero_add]
    cases itx (fun k (_ : Unit) => if P k then (.inr (e k) : Unit ⊕ Nat) else .inl ()) n 0 () with
    | inl a =>
      show (if P n then u (e n) else y) = orv y u (if P n then .inr (e n) else .inl ())
      cases P n <;> rfl
    | inr b => rfl
theorem ritr_og {g : Nat → Unit ⊕ Nat} {u : Nat → Int32} : ∀ n y, ritr (fun r y => orv y u (g r)) n y = orv y u (itx (fun r (_ : Unit) => g r) n 0 ()) := by
  intro n
  induction n with
  | zero => intro y; rfl
  | succ n ih =>
    intro y
    show ritr _ n (orv y u (g n)) = _
    rw [ih, itx_sn, Nat.zero_add]
    cases itx (fun r (_ : Unit) => g r) n 0 () with
    | inl a => rfl
    | inr b => rfl
def cnF (P : Nat → Bool) (k : Nat) (y : Int32) : Int32 := if P k then y + nI 1 else y
theorem cnF_c (P R : Nat → Bool) (i j : Nat) (a : Int32) : cnF P i (cnF R j a) = cnF R j (cnF P i a) := by
  unfold cnF
  split <;> split <;> rfl
theorem cnt_d (P : Nat → Nat → Bool) (R H : Nat) : ritr (fun r x => ritr (cnF (P r)) H x) R (nI 0) = cnt2 P R H := by
  have e1 : ∀ r x, ritr (cnF (P r)) H x = itr (cnF (P r)) H 0 x := fun r x => ritr_cm (fun i j a => cnF_c _ _ i j a) H x
  rw [ritr_c R _ (fun r x _ => e1 r x), ritr_cm (fun r s x => ?_)]
  · rfl
  · exact itr_cm (fun i a => (itr_cm (fun j a => cnF_c _ _ j i a) H 0 a).symm) H 0 x
def ssF (P : Nat → Nat → Bool) (r i : Nat) (p : Int32 × Int32) : Int32 × Int32 := (cnF (P r) i p.1, if P r i then nI (10 * r + i) else p.2)
theorem ssF_t {P : Nat → Nat → Bool} {r i : Nat} {p : Int32 × Int32} (h : P r i = true) : ssF P r i p = (p.1 + nI 1, nI (10 * r + i)) := by unfold ssF cnF; rw [h]; rfl
theorem ssF_f {P : Nat → Nat → Bool} {r i : Nat} {p : Int32 × Int32} (h : P r i = false) : ssF P r i p = p := by unfold ssF cnF; rw [h]; rfl
theorem ss_all (P : Nat → Nat → Bool) (R H : Nat) (y : Int32) : ritr (fun r p => ritr (ssF P r) H p) R (nI 0, y) = (cnt2 P R H, orv y nI (fst2 P R H)) := by
  have e1 : ∀ r p, ritr (ssF P r) H p = (ritr (cnF (P r)) H p.1, orv p.2 nI (fst1 P H r)) := fun r p => by
    rw [show ritr (ssF P r) H p = _ from ritr_2 (f := cnF (P r)) (g := fun i y => if P r i then nI (10 * r + i) else y) H p, ritr_ow (P := P r) (u := nI) (e := fun i => 10 * r + i)]
    rfl
  rw [ritr_c R _ (fun r p _ => e1 r p), ritr_2 (f := fun r x => ritr (cnF (P r)) H x) (g := fun r y => orv y nI (fst1 P H r)), cnt_d, ritr_og]
  rfl
theorem orv_rv (s : Unit ⊕ Nat) : orv (-1000000) nI s = rv s := by cases s <;> rfl
theorem itx_mp {P : Nat → Bool} {e : Nat → Nat} : ∀ n i, itx (fun k (_ : Unit) => if P k then (.inr (e k) : Unit ⊕ Nat) else .inl ()) n i () = match itx (fun k (_ : Unit) => if P k then (.inr k : Unit ⊕ Nat) else .inl ()) n i () with
    | .inl _ => .inl ()
    | .inr k => .inr (e k) := by
  intro n
  induction n with
  | zero => intro i; rfl
  | succ n ih =>
    intro i
    rw [itx_s, itx_s]
    cases P i
    · exact ih (i + 1)
    · rfl
theorem sal_all (t : Nat → Nat) : ritr (fun r p => ritr (ssF (isS t) r) (t 0) p) (t 1) (nI 0, -1000000) = (hms t, rv (fsa t)) := by
  rw [ss_all, orv_rv]
  have e : fst2 (isS t) (t 1) (t 0) = fsa t := by
    unfold fst2 fsa
    congr 1
    funext r _
    exact itx_mp (P := isS t r) (e := fun k => 10 * r + k) (t 0) 0
  rw [e]
  rfl
/-- bonds -/
def anF (c : Bool) (P : Nat → Bool) (i : Nat) (b : Bool) : Bool := b || (c && P i)
theorem an_all (c : Bool) (P : Nat → Bool) : ∀ n, itr (anF c P) n 0 false = (c && match itx (fun k (_ : Unit) => if P k then (.inr k : Unit ⊕ Nat) else .inl ()) n 0 () with
    | .inl _ => false
    | .inr _ => true) := by
  intro n
  induction n with
  | zero => cases c <;> rfl
  | succ n ih =>
    rw [itr_sn, ih, itx_sn, Nat.zero_add]
    cases itx (fun k (_ : Unit) => if P k then (.inr k : Unit ⊕ Nat) else .inl ()) n 0 () with
    | inl a =>
      show (c && false || (c && P n)) = (c && match (if P n then (.inr n : Unit ⊕ Nat) else .inl ()) with
        | .inl _ => false
        | .inr _ => true)
      cases c <;> cases P n <;> rfl
    | inr b => cases c <;> cases h : P n <;> simp [anF, h]
def bnB (t : Nat → Nat) (k r : Nat) : Bool := decide (t (35 + r) = k ∧ fby t r ≠ .inl ())
theorem an_b (t : Nat → Nat) (k r : Nat) : itr (anF (decide (t (35 + r) = k)) (isS t r)) (t 0) 0 false = bnB t k r := by
  rw [an_all]
  unfold bnB
  change (decide (t (35 + r) = k) && match fby t r with
    | .inl _ => false
    | .inr _ => true) = _
  cases fby t r <;> by_cases h : t (35 + r) = k <;> simp [h]
def bnF (t : Nat → Nat) (k r : Nat) (p : Int32 × Int32) : Int32 × Int32 := (if t (35 + r) = k ∧ fby t r ≠ .inl () then p.1 ||| shl1 r else p.1, if t (35 + r) = k ∧ fby t r ≠ .inl () then p.2 + nI 1 else p.2)
theorem bnF_t {t : Nat → Nat} {k r : Nat} {p : Int32 × Int32} (h : bnB t k r = true) : bnF t k r p = (p.1 ||| shl1 r, p.2 + nI 1) := by
  unfold bnF
  rw [if_pos (of_decide_eq_true h), if_pos (of_decide_eq_true h)]
theorem bnF_f {t : Nat → Nat} {k r : Nat} {p : Int32 × Int32} (h : bnB t k r = false) : bnF t k r p = p := by
  unfold bnF
  rw [if_neg (of_decide_eq_false h), if_neg (of_decide_eq_false h)]
theorem popS : ∀ r, r < 7 → ∀ b, b < 2 ^ r → pop (b + 2 ^ r) = pop b + 1 := by decide +kernel
theorem bn_all {t : Nat → Nat} (h7 : t 1 ≤ 7) (k : Nat) : ∃ b, b < 128 ∧ rfs t k = nI b ∧ itr (bnF t k) (t 1) 0 (nI 0, nI 0) = (nI b, nI (pop b)) := by
  have h : ∃ b, b < 2 ^ t 1 ∧ itr (bnF t k) (t 1) 0 (nI 0, nI 0) = (nI b, nI (pop b)) := by
    refine itr_inv (P := fun i p => ∃ b, b < 2 ^ i ∧ p = (nI b, nI (pop b))) (N := t 1) ?_ (t 1) 0 (nI 0, nI 0) (by omega) ⟨0, by decide, rfl⟩
    rintro i p hi ⟨b, hb, rfl⟩
    have hp := Nat.pow_succ 2 i
    cases e : bnB t k i
    · exact ⟨b, by omega, bnF_f e⟩
    · refine ⟨b + 2 ^ i, by omega, ?_⟩
      rw [bnF_t e, popS i (by omega) b hb, show nI b ||| shl1 i = _ from orb i (by omega) b hb, nI_add]
  obtain ⟨b, hb, e⟩ := h
  have hl : 2 ^ t 1 ≤ 2 ^ 7 := Nat.pow_le_pow_right (by decide) h7
  refine ⟨b, by omega, ?_, e⟩
  have e2 : itr (bnF t k) (t 1) 0 (nI 0, nI 0) = _ := itr_2 (f := fun r x => if t (35 + r) = k ∧ fby t r ≠ .inl () then x ||| shl1 r else x) (g := fun r x => if t (35 + r) = k ∧ fby t r ≠ .inl () then x + nI 1 else x) (t 1) 0 (nI 0, nI 0)
  have := congrArg Prod.fst (e2.symm.trans e)
  exact this
