/-! ===== pure: barter: the greatest sum, and which sale comes first ===== -/
def rvN (x : Nat) : Int32 := if x = 0 then -1000000 else nI x
theorem rvN_p {x : Nat} (h : 1 ≤ x) : rvN x = nI x := if_neg (by omega)
theorem rvN_0 : rvN 0 = -1000000 := rfl
theorem rvN_t {x : Nat} (h : x ≤ 1000) : (rvN x).toInt = if x = 0 then -1000000 else (x : Int) := by
  unfold rvN
  split
  · rfl
  · exact nI_toInt (by omega)
theorem rvN_le {x y : Nat} (hx : x ≤ 1000) (hy : y ≤ 1000) : (rvN x ≤ rvN y) = (x ≤ y) := propext (by
  rw [Int32.le_iff_toInt_le, rvN_t hx, rvN_t hy]
  split <;> split <;> omega)
theorem rvN_e {x : Nat} (hx : x ≤ 1000) : (rvN x = -1000000) = (x = 0) := propext (by
  constructor
  · intro h
    have h2 := rvN_t hx
    rw [h] at h2
    rw [show (-1000000 : Int32).toInt = -1000000 from rfl] at h2
    split at h2 <;> omega
  · rintro rfl
    rfl)
def sur (u : Nat → Nat) (r k : Nat) : Nat := wrt u r k - wrt u r (u (35 + r))
theorem isS_i {u : Nat → Nat} {r k : Nat} : (isS u r k = true) ↔ k ≠ u (35 + r) ∧ bd u r = 0 ∧ prc u r ≤ u (4 + k) ∧ prc u r ≤ wrt u r k := by
  unfold isS cB
  simp only [Bool.and_eq_true, decide_eq_true_eq]
  constructor
  · rintro ⟨⟨⟨⟨h1, h2⟩, h3⟩, h4⟩, h5⟩
    exact ⟨h1, h2, h3, h5⟩
  · rintro ⟨h1, h2, h3, h5⟩
    exact ⟨⟨⟨⟨h1, h2⟩, h3⟩, by unfold prc; omega⟩, h5⟩
theorem sur_1 {u : Nat → Nat} {r k : Nat} (h : isS u r k = true) : 1 ≤ sur u r k := by
  have := (isS_i.mp h).2.2.2
  unfold prc at this
  unfold sur
  omega
theorem sur_l {u : Nat → Nat} (w : Wf u) {r k : Nat} (hr : r < u 1) : sur u r k ≤ 180 := by
  have := wrt_le w (k := k) hr
  unfold sur
  omega
def brt (f : Nat → Nat → Nat) (r k : Nat) (p : Nat × Int32) : Nat × Int32 := if p.1 < f r k then (f r k, nI (10 * r + k)) else p
def grt (f : Nat → Nat → Nat) (R H : Nat) : Nat × Int32 := itr (fun r p => itr (brt f r) H 0 p) R 0 (0, -1000000)
def swg (g : (Nat → Nat) → Nat) (u : Nat → Nat) (r k : Nat) : Nat := if isS u r k then (if g (trd u r k (prc u r)) = 0 then 0 else sur u r k + g (trd u r k (prc u r))) else 0
def sw0 (u : Nat → Nat) (r k : Nat) : Nat := if isS u r k then sur u r k else 0
def gsm : Nat → (Nat → Nat) → Nat × Int32
  | 0, u => grt (sw0 u) (u 1) (u 0)
  | m + 1, u => grt (swg (fun v => (gsm m v).1) u) (u 1) (u 0)
def swm (m : Nat) (u : Nat → Nat) : Nat → Nat → Nat := match m with
  | 0 => sw0 u
  | m + 1 => swg (fun v => (gsm m v).1) u
theorem gsm_e (m : Nat) (u : Nat → Nat) : gsm m u = grt (swm m u) (u 1) (u 0) := by cases m <;> rfl
theorem brt_l {f : Nat → Nat → Nat} {B r k : Nat} {p : Nat × Int32} (h : f r k ≤ B) (hp : p.1 ≤ B) : (brt f r k p).1 ≤ B := by
  unfold brt
  split
  · exact h
  · exact hp
theorem grt_l {f : Nat → Nat → Nat} {B R H : Nat} (h : ∀ r k, r < R → k < H → f r k ≤ B) : (grt f R H).1 ≤ B := by
  unfold grt
  refine itr_inv (f := fun r p => itr (brt f r) H 0 p) (P := fun _ p => p.1 ≤ B) (N := R) ?_ R 0 (0, -1000000) (by omega) (Nat.zero_le _)
  intro r p hr hp
  exact itr_inv (P := fun _ p => p.1 ≤ B) (N := H) (fun k p hk hp => brt_l (h r k hr hk) hp) H 0 p (by omega) hp
theorem trd_01 {u : Nat → Nat} {r k n : Nat} : trd u r k n 0 = u 0 ∧ trd u r k n 1 = u 1 ∧ trd u r k n 2 = u 2 := by
  unfold trd gts
  refine ⟨?_, ?_, ?_⟩ <;> rw [ts_o (by omega), ts_o (by omega), ts_o (by omega), ts_o (by omega)]
theorem gsm_l : ∀ m u, Wf u → (gsm m u).1 ≤ 180 * (m + 1) := by
  intro m
  induction m with
  | zero =>
    intro u w
    refine grt_l (fun r k hr hk => ?_)
    unfold sw0
    split
    · have := sur_l w (k := k) hr
      omega
    · omega
  | succ m ih =>
    intro u w
    refine grt_l (fun r k hr hk => ?_)
    have h1 := ih _ (trd_p w (n := prc u r) hr hk).1
    have h2 := sur_l w (k := k) hr
    unfold swg
    dsimp only
    split
    · split
      · omega
      · omega
    · omega
theorem swm_l {m : Nat} {u : Nat → Nat} (w : Wf u) {r k : Nat} (hr : r < u 1) (hk : k < u 0) : swm m u r k ≤ 180 * (m + 1) := by
  have h2 := sur_l w (k := k) hr
  cases m with
  | zero =>
    show sw0 u r k ≤ _
    unfold sw0
    split <;> omega
  | succ m =>
    have e : swm (m + 1) u r k = swg (fun v => (gsm m v).1) u r k := rfl
    rw [e]
    have h1 := gsm_l m _ (trd_p w (n := prc u r) hr hk).1
    unfold swg
    dsimp only
    split
    · split <;> omega
    · omega
/-- one row of sales -/
def tk (s : Nat) (v : Int32) (p : Nat × Int32) : Nat × Int32 := if p.1 < s then (s, v) else p
def adS (s x : Nat) : Nat := if x = 0 then 0 else s + x
theorem tk_0 {v : Int32} {p : Nat × Int32} : tk 0 v p = p := if_neg (by omega)
theorem tk_tk {s x y : Nat} {v : Int32} {p : Nat × Int32} : tk (adS s x) v (tk (adS s y) v p) = tk (adS s (max y x)) v p := by
  have e : adS s (max y x) = max (adS s y) (adS s x) := by
    unfold adS
    split <;> split <;> split <;> omega
  rw [e]
  unfold tk
  by_cases h1 : p.1 < adS s y
  · rw [if_pos h1]
    by_cases h2 : adS s y < adS s x
    · rw [if_pos h2, if_pos (by omega), show max (adS s y) (adS s x) = adS s x by omega]
    · rw [if_neg h2, if_pos (by omega), show max (adS s y) (adS s x) = adS s y by omega]
  · rw [if_neg h1]
    by_cases h2 : p.1 < adS s x
    · rw [if_pos h2, if_pos (by omega), show max (adS s y) (adS s x) = adS s x by omega]
    · rw [if_neg h2, if_neg (by omega)]
theorem tk_f1 {f : Nat → Nat} {s : Nat} {v : Int32} {p : Nat × Int32} : ∀ n i y, itr (fun k p => tk (adS s (f k)) v p) n i (tk (adS s y) v p) = tk (adS s (itr (fun k y => max y (f k)) n i y)) v p := by
  intro n
  induction n with
  | zero => intro i y; rfl
  | succ n ih =>
    intro i y
    show itr _ n (i + 1) (tk (adS s (f i)) v (tk (adS s y) v p)) = _
    rw [tk_tk, ih]
    rfl
theorem tk_f2 {f : Nat → Nat → Nat} {s H : Nat} {v : Int32} {p : Nat × Int32} : ∀ n i y, itr (fun r p => itr (fun k p => tk (adS s (f r k)) v p) H 0 p) n i (tk (adS s y) v p) = tk (adS s (itr (fun r y => itr (fun k y => max y (f r k)) H 0 y) n i y)) v p := by
  intro n
  induction n with
  | zero => intro i y; rfl
  | succ n ih =>
    intro i y
    show itr _ n (i + 1) (itr (fun k p => tk (adS s (f i k)) v p) H 0 (tk (adS s y) v p)) = _
    rw [tk_f1, ih]
    rfl
theorem adS_0 (s : Nat) : adS s 0 = 0 := rfl
theorem adS_p {s x : Nat} (h : 1 ≤ x) : adS s x = s + x := if_neg (by omega)
theorem brt_1 {f : Nat → Nat → Nat} {r k : Nat} {p : Nat × Int32} : (brt f r k p).1 = max p.1 (f r k) := by
  unfold brt
  split
  · show f r k = _
    omega
  · omega
theorem itr_p1 {α β : Type} {f : Nat → α → α} {g : Nat → β → β} {q : α → β} (h : ∀ i a, q (f i a) = g i (q a)) : ∀ n i a, q (itr f n i a) = itr g n i (q a) := by
  intro n
  induction n with
  | zero => intro i a; rfl
  | succ n ih =>
    intro i a
    show q (itr f n (i + 1) (f i a)) = itr g n (i + 1) (g i (q a))
    rw [ih, h]
theorem grt_1 (f : Nat → Nat → Nat) (R H : Nat) : (grt f R H).1 = itr (fun r y => itr (fun k y => max y (f r k)) H 0 y) R 0 0 :=
  itr_p1 (q := Prod.fst) (fun r p => itr_p1 (q := Prod.fst) (fun k p => brt_1) H 0 p) R 0 (0, -1000000)
/-- the model counts right and heir in one number -/
def lvl (u : Nat → Nat) (G : Nat → Nat → Nat × Int32 → Nat × Int32) (i : Nat) (p : Nat × Int32) : Nat × Int32 := if i / 5 < u 1 ∧ i % 5 < u 0 ∧ isS u (i / 5) (i % 5) = true then G (i / 5) (i % 5) p else p
theorem itr_add {α : Type} {f : Nat → α → α} : ∀ a b i p, itr f (a + b) i p = itr f b (i + a) (itr f a i p) := by
  intro a
  induction a with
  | zero => intro b i p; rw [Nat.zero_add]; rfl
  | succ a ih =>
    intro b i p
    rw [show a + 1 + b = (a + b) + 1 by omega]
    show itr f (a + b) (i + 1) (f i p) = itr f b (i + (a + 1)) (itr f a (i + 1) (f i p))
    rw [ih, show i + 1 + a = i + (a + 1) by omega]
theorem itr_id {α : Type} {f : Nat → α → α} : ∀ n i p, (∀ j q, i ≤ j → f j q = q) → itr f n i p = p := by
  intro n
  induction n with
  | zero => intro i p _; rfl
  | succ n ih =>
    intro i p h
    show itr f n (i + 1) (f i p) = p
    rw [h i p (Nat.le_refl _)]
    exact ih (i + 1) p (fun j q hj => h j q (by omega))
theorem itr_cut {α : Type} {f : Nat → α → α} {R N : Nat} (h : R ≤ N) (hf : ∀ j q, R ≤ j → f j q = q) (p : α) : itr f N 0 p = itr f R 0 p := by
  obtain ⟨M, rfl⟩ : ∃ M, N = R + M := ⟨N - R, by omega⟩
  rw [itr_add, itr_id]
  intro j q hj
  exact hf j q (by omega)
theorem itr_blk {α : Type} {F : Nat → Nat → α → α} : ∀ n j p, itr (fun i p => F (i / 5) (i % 5) p) (5 * n) (5 * j) p = itr (fun r p => itr (F r) 5 0 p) n j p := by
  intro n
  induction n with
  | zero => intro j p; rfl
  | succ n ih =>
    intro j p
    rw [show 5 * (n + 1) = 5 + 5 * n by omega, itr_add, show 5 * j + 5 = 5 * (j + 1) by omega, ih]
    show itr _ n (j + 1) (itr (fun i p => F (i / 5) (i % 5) p) 5 (5 * j) p) = itr _ n (j + 1) (itr (F j) 5 0 p)
    congr 1
    show F ((5 * j + 1 + 1 + 1 + 1) / 5) ((5 * j + 1 + 1 + 1 + 1) % 5) (F ((5 * j + 1 + 1 + 1) / 5) ((5 * j + 1 + 1 + 1) % 5) (F ((5 * j + 1 + 1) / 5) ((5 * j + 1 + 1) % 5) (F ((5 * j + 1) / 5) ((5 * j + 1) % 5) (F (5 * j / 5) (5 * j % 5) p)))) = F j 4 (F j 3 (F j 2 (F j 1 (F j 0 p))))
    rw [show (5 * j + 1 + 1 + 1 + 1) / 5 = j by omega, show (5 * j + 1 + 1 + 1 + 1) % 5 = 4 by omega, show (5 * j + 1 + 1 + 1) / 5 = j by omega, show (5 * j + 1 + 1 + 1) % 5 = 3 by omega, show (5 * j + 1 + 1) / 5 = j by omega, show (5 * j + 1 + 1) % 5 = 2 by omega, show (5 * j + 1) / 5 = j by omega, show (5 * j + 1) % 5 = 1 by omega, show 5 * j / 5 = j by omega, show 5 * j % 5 = 0 by omega]
theorem lvl_all {u : Nat → Nat} {G : Nat → Nat → Nat × Int32 → Nat × Int32} (h5 : u 0 ≤ 5) (h7 : u 1 ≤ 7) (p : Nat × Int32) : itr (lvl u G) 35 0 p = itr (fun r p => itr (fun k p => if isS u r k then G r k p else p) (u 0) 0 p) (u 1) 0 p := by
  have e1 : itr (lvl u G) 35 0 p = itr (fun r p => itr (fun k p => if r < u 1 ∧ k < u 0 ∧ isS u r k = true then G r k p else p) 5 0 p) 7 0 p := itr_blk (F := fun r k p => if r < u 1 ∧ k < u 0 ∧ isS u r k = true then G r k p else p) 7 0 p
  rw [e1, itr_cut h7 (fun r q hr => ?_)]
  · refine itr_c _ _ _ (fun r q _ hr => ?_)
    rw [itr_cut h5 (fun k q hk => if_neg (by omega))]
    refine itr_c _ _ _ (fun k q _ hk => ?_)
    by_cases z : isS u r k = true
    · rw [if_pos ⟨by omega, by omega, z⟩, if_pos z]
    · rw [if_neg (fun h => z h.2.2), if_neg z]
  · exact itr_id 5 0 q (fun k q _ => if_neg (by omega))
def mg : Nat → (Nat → Nat) → Nat → Int32 → Nat × Int32 → Nat × Int32
  | 0, u, s, v, p => itr (lvl u (fun r k p => tk (s + sur u r k) v p)) 35 0 p
  | m + 1, u, s, v, p => itr (lvl u (fun r k p => mg m (trd u r k (prc u r)) (s + sur u r k) v p)) 35 0 p
theorem mg_e : ∀ m u s v p, u 0 ≤ 5 → u 1 ≤ 7 → mg m u s v p = tk (adS s (gsm m u).1) v p := by
  intro m
  induction m with
  | zero =>
    intro u s v p h5 h7
    show itr (lvl u (fun r k p => tk (s + sur u r k) v p)) 35 0 p = _
    rw [lvl_all h5 h7, show gsm 0 u = grt (sw0 u) (u 1) (u 0) from rfl, grt_1, ← tk_f2 (u 1) 0 0, adS_0, tk_0]
    refine itr_c _ _ _ (fun r q _ hr => itr_c _ _ _ (fun k q _ hk => ?_))
    unfold sw0
    by_cases z : isS u r k = true
    · rw [if_pos z, if_pos z, adS_p (sur_1 z)]
    · rw [if_neg z, if_neg z, adS_0, tk_0]
  | succ m ih =>
    intro u s v p h5 h7
    show itr (lvl u (fun r k p => mg m (trd u r k (prc u r)) (s + sur u r k) v p)) 35 0 p = _
    rw [lvl_all h5 h7, show gsm (m + 1) u = grt (swg (fun v => (gsm m v).1) u) (u 1) (u 0) from rfl, grt_1, ← tk_f2 (u 1) 0 0, adS_0, tk_0]
    refine itr_c _ _ _ (fun r q _ hr => itr_c _ _ _ (fun k q _ hk => ?_))
    unfold swg
    by_cases z : isS u r k = true
    · rw [if_pos z, if_pos z, ih _ _ _ _ (by rw [trd_01.1]; exact h5) (by rw [trd_01.2.1]; exact h7)]
      by_cases z2 : (gsm m (trd u r k (prc u r))).1 = 0
      · rw [if_pos z2, z2, adS_0, adS_0]
      · rw [if_neg z2, adS_p (by omega), adS_p (by have := sur_1 z; omega), Nat.add_assoc]
    · rw [if_neg z, if_neg z, adS_0, tk_0]
def tpl (m : Nat) (u : Nat → Nat) (r k : Nat) (p : Nat × Int32) : Nat × Int32 := match m with
  | 0 => tk (sur u r k) (nI (10 * r + k)) p
  | m + 1 => mg m (trd u r k (prc u r)) (sur u r k) (nI (10 * r + k)) p
theorem tpl_all (m : Nat) {u : Nat → Nat} (h5 : u 0 ≤ 5) (h7 : u 1 ≤ 7) : itr (lvl u (tpl m u)) 35 0 (0, -1000000) = gsm m u := by
  rw [lvl_all h5 h7, gsm_e]
  refine itr_c _ _ _ (fun r q _ hr => itr_c _ _ _ (fun k q _ hk => ?_))
  by_cases z : isS u r k = true
  · rw [if_pos z]
    cases m with
    | zero =>
      show tk _ _ _ = brt (sw0 u) r k q
      unfold brt sw0
      rw [if_pos z]
      rfl
    | succ m =>
      show mg m (trd u r k (prc u r)) (sur u r k) (nI (10 * r + k)) q = brt (swg (fun v => (gsm m v).1) u) r k q
      rw [mg_e _ _ _ _ _ (by rw [trd_01.1]; exact h5) (by rw [trd_01.2.1]; exact h7)]
      unfold brt swg
      rw [if_pos z]
      rfl
  · rw [if_neg z]
    have e : swm m u r k = 0 := by
      cases m with
      | zero =>
        show sw0 u r k = 0
        unfold sw0
        rw [if_neg z]
      | succ m =>
        have e : swm (m + 1) u r k = swg (fun v => (gsm m v).1) u r k := rfl
        rw [e]
        unfold swg
        rw [if_neg z]
    unfold brt
    rw [e, if_neg (by omega)]
