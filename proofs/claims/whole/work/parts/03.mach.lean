/-! ===== the mini machine: what the methods do, over a shape S (what there is, and which refers to which) and a memory h of ints ===== -/
/-- a shape: of each cell its kind (0 int[], 1 boolean[], 2 House[], 3 int[][], 4 an int[] that was there before, 10 + ci an object), its size, its references -/
abbrev mSh : Type := List (Nat × Nat × List (Option Nat))
abbrev mMem : Type := Nat → Nat → Int32
abbrev mSt : Type := mSh × mMem
def cel (S : mSh) (a : Nat) : Nat × Nat × List (Option Nat) := S.getD a (99, 0, [])
def kd (S : mSh) (a : Nat) : Nat := (cel S a).1
def ln (S : mSh) (a : Nat) : Nat := (cel S a).2.1
def rfo (S : mSh) (a i : Nat) : Option Nat := (cel S a).2.2.getD i none
def rfv (o : Option Nat) : Value := match o with
  | some b => .ref b
  | none => .null
def up2 (h : mMem) (a i : Nat) (v : Int32) : mMem := fun a' i' => if a' = a ∧ i' = i then v else h a' i'
def cp2 (h : mMem) (a sp b dp n : Nat) : mMem := fun a' i' => if a' = b ∧ dp ≤ i' ∧ i' < dp + n then h a (sp + (i' - dp)) else h a' i'
def cl2 (h : mMem) (a : Nat) : mMem := fun a' i' => if a ≤ a' then 0 else h a' i'
def ssum (S : mSh) : Nat := (S.map (fun c => c.2.1)).sum
def setR (S : mSh) (a k : Nat) (r : Option Nat) : mSh := S.set a ((cel S a).1, (cel S a).2.1, (cel S a).2.2.set k r)
/-- an index within -/
def inb (i : Int32) (n : Nat) : Bool := !(decide (i < 0)) && decide (i.toNatClampNeg < n)
/-- constants -/
def mcI (n : Int) : Int32 := match n with
  | .ofNat k => nI k
  | .negSucc k => -(nI (k + 1))
/-- locals: nothing, the second half of a long -/
abbrev jnk : Value := .retAddr 0
abbrev sec : Value := .retAddr 1
def iniL (as : List Value) (n : Nat) : List Value :=
  let l := as.flatMap (fun v => if v.category = 2 then [v, sec] else [v])
  l ++ List.replicate (n - l.length) jnk
/-- what comes next: a place; an answer; a call -/
abbrev mNx : Type := (Nat × List Value × List Value × mSt) ⊕ (Option Value × mSt) ⊕ (mRec × List Value × List Value)
abbrev nxt (pc : Nat) (ls st : List Value) (σ : mSt) : Option mNx := some (.inl (pc, ls, st, σ))
/-- lookups -/
def fldF (o i : Nat) : Option (Nat × Nat × Nat × Bool) := (fldL.find? (fun e => e.1 == o && e.2.1 == i)).map (fun e => (e.2.2.1, e.2.2.2.1, e.2.2.2.2.1, e.2.2.2.2.2.1))
def stcF (o i : Nat) : Option Nat := (stcL.find? (fun e => e.1 == o && e.2.1 == i)).map (fun e => e.2.2.1)
def cstF (o i : Nat) : Option Int32 := (cstL.find? (fun e => e.1 == o && e.2.1 == i)).map (fun e => e.2.2.1)
def cslF (o i : Nat) : Option Int64 := (cslL.find? (fun e => e.1 == o && e.2.1 == i)).map (fun e => e.2.2.1)
def calF (o i : Nat) : Option (Nat × mRec) := ((calL o).find? (fun e => e.1 == i)).map (fun e => (e.2.1, e.2.2.1))
def obiF (o i : Nat) : Bool := obiL.any (fun e => e.1 == o && e.2.1 == i)
def acyF (o i : Nat) : Bool := acyL.any (fun e => e.1 == o && e.2.1 == i)
def mmxF (o i : Nat) : Option Nat := (mmxL.find? (fun e => e.1 == o && e.2.1 == i)).map (fun e => e.2.2.1)
def newF (o i : Nat) : Option Nat := (newL.find? (fun e => e.1 == o && e.2.1 == i)).map (fun e => e.2.2.1)
def mnaF (o i : Nat) : Bool := mnaL.any (fun e => e.1 == o && e.2.1 == i)
def nFl (ci : Nat) : Nat := match vwCl[ci]? with
  | some q => q.2.2
  | none => 0
/-- the parts of a step -/
def mPushI (pc : Nat) (ls : List Value) (st : List Value) (σ : mSt) (v : Option Int32) : Option mNx := match v with
  | some x => nxt pc ls (.int x :: st) σ
  | none => none
def mBin (f : Int32 → Int32 → Int32) (pc : Nat) (ls : List Value) (st : List Value) (σ : mSt) : Option mNx := match st with
  | .int y :: .int x :: r => nxt (pc + 1) ls (.int (f x y) :: r) σ
  | _ => none
def mBinZ (f : Int32 → Int32 → Int32) (pc : Nat) (ls : List Value) (st : List Value) (σ : mSt) : Option mNx := match st with
  | .int y :: .int x :: r => if y = 0 then none else nxt (pc + 1) ls (.int (f x y) :: r) σ
  | _ => none
def mBinL (f : Int64 → Int64 → Int64) (pc : Nat) (ls : List Value) (st : List Value) (σ : mSt) : Option mNx := match st with
  | .long y :: .long x :: r => nxt (pc + 1) ls (.long (f x y) :: r) σ
  | _ => none
def mBinLZ (f : Int64 → Int64 → Int64) (pc : Nat) (ls : List Value) (st : List Value) (σ : mSt) : Option mNx := match st with
  | .long y :: .long x :: r => if y = 0 then none else nxt (pc + 1) ls (.long (f x y) :: r) σ
  | _ => none
def mUn (f : Int32 → Value) (pc : Nat) (ls : List Value) (st : List Value) (σ : mSt) : Option mNx := match st with
  | .int x :: r => nxt (pc + 1) ls (f x :: r) σ
  | _ => none
def mLdI (i pc : Nat) (ls st : List Value) (σ : mSt) : Option mNx := match ls[i]? with
  | some (.int x) => nxt pc ls (.int x :: st) σ
  | _ => none
def mLdL (i pc : Nat) (ls st : List Value) (σ : mSt) : Option mNx := match ls[i]?, ls[i + 1]? with
  | some (.long x), some (.retAddr 1) => nxt pc ls (.long x :: st) σ
  | _, _ => none
def mLdA (i pc : Nat) (ls st : List Value) (σ : mSt) : Option mNx := match ls[i]? with
  | some (.ref x) => nxt pc ls (.ref x :: st) σ
  | _ => none
def mStI (i pc : Nat) (ls st : List Value) (σ : mSt) : Option mNx := match st with
  | .int x :: r => if i < ls.length then nxt pc (ls.set i (.int x)) r σ else none
  | _ => none
def mStA (i pc : Nat) (ls st : List Value) (σ : mSt) : Option mNx := match st with
  | .ref x :: r => if i < ls.length then nxt pc (ls.set i (.ref x)) r σ else none
  | _ => none
def mStL (i pc : Nat) (ls st : List Value) (σ : mSt) : Option mNx := match st with
  | .long x :: r => if i + 1 < ls.length then nxt pc ((ls.set i (.long x)).set (i + 1) sec) r σ else none
  | _ => none
def mInc (i : Nat) (n : Int) (pc : Nat) (ls st : List Value) (σ : mSt) : Option mNx := match ls[i]? with
  | some (.int x) => nxt (pc + 3) (ls.set i (.int (x + mcI n))) st σ
  | _ => none
def mJmp (t : Int) (c : Bool) (pc : Nat) (ls st : List Value) (σ : mSt) : Option mNx := match t with
  | .ofNat t => nxt (if c then t else pc + 3) ls st σ
  | .negSucc _ => none
def mCmp (c : Jvm.ClassFile.Cond) (x y : Int32) : Bool := match c with
  | .eq => decide (x = y)
  | .ne => !(decide (x = y))
  | .lt => decide (x < y)
  | .ge => decide (y ≤ x)
  | .gt => decide (y < x)
  | .le => decide (x ≤ y)
def mIf1 (c : Jvm.ClassFile.Cond) (off : Int) (pc : Nat) (ls st : List Value) (σ : mSt) : Option mNx := match st with
  | .int x :: r => mJmp ((pc : Int) + off) (mCmp c x 0) pc ls r σ
  | _ => none
def mIf2 (c : Jvm.ClassFile.Cond) (off : Int) (pc : Nat) (ls st : List Value) (σ : mSt) : Option mNx := match st with
  | .int y :: .int x :: r => mJmp ((pc : Int) + off) (mCmp c x y) pc ls r σ
  | _ => none
/-- a switch: the first of the cases that fits -/
def swf : List (Int32 × Nat) → Nat → Int32 → Nat
  | [], d, _ => d
  | (v, t) :: r, d, x => if x = v then t else swf r d x
def itn (t : Int) : Option Nat := match t with
  | .ofNat t => some t
  | .negSucc _ => none
def swc (pc : Nat) : List (Int × Int) → Option (List (Int32 × Nat))
  | [] => some []
  | (k, off) :: r => if -2147483648 ≤ k ∧ k ≤ 2147483647 then (match itn ((pc : Int) + off), swc pc r with
    | some t, some l => some ((mcI k, t) :: l)
    | _, _ => none) else none
def mSw (pc : Nat) (cs : List (Int × Int)) (d : Int) (ls st : List Value) (σ : mSt) : Option mNx := match st, swc pc cs, itn ((pc : Int) + d) with
  | .int x :: r, some l, some t => nxt (swf l t x) ls r σ
  | _, _, _ => none
def mTab (lo : Int) : List Int → List (Int × Int)
  | [] => []
  | o :: r => (lo, o) :: mTab (lo + 1) r
def mGet (o i pc : Nat) (ls st : List Value) (σ : mSt) : Option mNx := match st, fldF o i with
  | .ref a :: r, some (ci, k, t, _) => if kd σ.1 a = 10 + ci then nxt (pc + 3) ls ((if t = 2 then rfv (rfo σ.1 a k) else .int (σ.2 a k)) :: r) σ else none
  | _, _ => none
def mPut (o i : Nat) (ct : Option (Nat × Nat)) (pc : Nat) (ls st : List Value) (σ : mSt) : Option mNx := match st, fldF o i with
  | .int x :: .ref a :: r, some (ci, k, t, fin) => if kd σ.1 a = 10 + ci ∧ fin = false ∧ ct = none ∧ (t = 0 ∨ (t = 1 ∧ (x = 0 ∨ x = 1))) then nxt (pc + 3) ls r (σ.1, up2 σ.2 a k x) else none
  | .ref b :: .ref a :: r, some (ci, k, t, _) => if kd σ.1 a = 10 + ci ∧ t = 2 ∧ ct.isSome = true ∧ ci = o then nxt (pc + 3) ls r (setR σ.1 a k (some b), σ.2) else none
  | _, _ => none
def mIald (pc : Nat) (ls st : List Value) (σ : mSt) : Option mNx := match st with
  | .int i :: .ref a :: r => if (kd σ.1 a = 0 ∨ kd σ.1 a = 4) ∧ inb i (ln σ.1 a) = true then nxt (pc + 1) ls (.int (σ.2 a i.toNatClampNeg) :: r) σ else none
  | _ => none
def mBald (pc : Nat) (ls st : List Value) (σ : mSt) : Option mNx := match st with
  | .int i :: .ref a :: r => if kd σ.1 a = 1 ∧ inb i (ln σ.1 a) = true then nxt (pc + 1) ls (.int (σ.2 a i.toNatClampNeg) :: r) σ else none
  | _ => none
def mAald (pc : Nat) (ls st : List Value) (σ : mSt) : Option mNx := match st with
  | .int i :: .ref a :: r => if (kd σ.1 a = 2 ∨ kd σ.1 a = 3) ∧ inb i (ln σ.1 a) = true then nxt (pc + 1) ls (rfv (rfo σ.1 a i.toNatClampNeg) :: r) σ else none
  | _ => none
def mIast (pc : Nat) (ls st : List Value) (σ : mSt) : Option mNx := match st with
  | .int x :: .int i :: .ref a :: r => if kd σ.1 a = 0 ∧ inb i (ln σ.1 a) = true then nxt (pc + 1) ls r (σ.1, up2 σ.2 a i.toNatClampNeg x) else none
  | _ => none
def mBast (ct : Option (Nat × Nat)) (pc : Nat) (ls st : List Value) (σ : mSt) : Option mNx := match st with
  | .int x :: .int i :: .ref a :: r => if ct = none ∧ kd σ.1 a = 1 ∧ inb i (ln σ.1 a) = true ∧ (x = 0 ∨ x = 1) then nxt (pc + 1) ls r (σ.1, up2 σ.2 a i.toNatClampNeg x) else none
  | _ => none
def mAlen (pc : Nat) (ls st : List Value) (σ : mSt) : Option mNx := match st with
  | .ref a :: r => if kd σ.1 a = 0 ∨ kd σ.1 a = 4 then nxt (pc + 1) ls (.int (nI (ln σ.1 a)) :: r) σ else none
  | _ => none
def mAcy (ct : Option (Nat × Nat)) (pc : Nat) (ls st : List Value) (σ : mSt) : Option mNx := match st with
  | .int n :: .int dp :: .ref b :: .int sp :: .ref a :: r =>
    if ct = none ∧ kd σ.1 a = 0 ∧ kd σ.1 b = 0 ∧ ¬ sp < 0 ∧ ¬ dp < 0 ∧ ¬ n < 0 ∧ sp.toNatClampNeg + n.toNatClampNeg ≤ ln σ.1 a ∧ dp.toNatClampNeg + n.toNatClampNeg ≤ ln σ.1 b ∧ (r.map fun v => v.category).sum ≤ 8 then nxt (pc + 3) ls r (σ.1, cp2 σ.2 a sp.toNatClampNeg b dp.toNatClampNeg n.toNatClampNeg) else none
  | _ => none
/-- makings, in constructors alone: ct is what there must be at the end -/
def mNew (o i : Nat) (ct : Option (Nat × Nat)) (pc : Nat) (ls st : List Value) (σ : mSt) : Option mNx := match newF o i, ct with
  | some ci, some c => if σ.1.length + 1 ≤ c.1 ∧ ssum σ.1 + nFl ci ≤ c.2 then nxt (pc + 3) ls (.ref σ.1.length :: st) (σ.1 ++ [(10 + ci, nFl ci, List.replicate (nFl ci) none)], cl2 σ.2 σ.1.length) else none
  | _, _ => none
def mNwa (ty : ArrayType) (ct : Option (Nat × Nat)) (pc : Nat) (ls st : List Value) (σ : mSt) : Option mNx := match st, ct with
  | .int n :: r, some c => if (ty = .int ∨ ty = .boolean) ∧ ¬ n < 0 ∧ n.toNatClampNeg ≤ 10000 ∧ σ.1.length + 1 ≤ c.1 ∧ ssum σ.1 + n.toNatClampNeg ≤ c.2 then
      nxt (pc + 2) ls (.ref σ.1.length :: r) (σ.1 ++ [(if ty = .int then 0 else 1, n.toNatClampNeg, [])], cl2 σ.2 σ.1.length) else none
  | _, _ => none
def mAnw (o i : Nat) (ct : Option (Nat × Nat)) (pc : Nat) (ls st : List Value) (σ : mSt) : Option mNx := match st, newF o i, ct with
  | .int n :: r, some ci, some c => if ci = 4 ∧ ¬ n < 0 ∧ n.toNatClampNeg ≤ 10000 ∧ σ.1.length + 1 ≤ c.1 ∧ ssum σ.1 + n.toNatClampNeg ≤ c.2 then
      nxt (pc + 3) ls (.ref σ.1.length :: r) (σ.1 ++ [(2, n.toNatClampNeg, List.replicate n.toNatClampNeg none)], cl2 σ.2 σ.1.length) else none
  | _, _, _ => none
def mMna (o i : Nat) (ct : Option (Nat × Nat)) (pc : Nat) (ls st : List Value) (σ : mSt) : Option mNx := match st, ct with
  | .int k :: .int n :: r, some c => if mnaF o i = true ∧ ¬ n < 0 ∧ ¬ k < 0 ∧ n.toNatClampNeg ≤ 10000 ∧ k.toNatClampNeg ≤ 10000 ∧ σ.1.length + (1 + n.toNatClampNeg) ≤ c.1 ∧ ssum σ.1 + (n.toNatClampNeg + n.toNatClampNeg * k.toNatClampNeg) ≤ c.2 then
      nxt (pc + 4) ls (.ref σ.1.length :: r) (σ.1 ++ (3, n.toNatClampNeg, (List.range n.toNatClampNeg).map (fun j => some (σ.1.length + 1 + j))) :: List.replicate n.toNatClampNeg (0, k.toNatClampNeg, []), cl2 σ.2 σ.1.length) else none
  | _, _ => none
def mAast (ct : Option (Nat × Nat)) (pc : Nat) (ls st : List Value) (σ : mSt) : Option mNx := match st with
  | .ref v :: .int i :: .ref a :: r => if ct.isSome = true ∧ kd σ.1 a = 2 ∧ kd σ.1 v = 14 ∧ inb i (ln σ.1 a) = true then nxt (pc + 1) ls r (setR σ.1 a i.toNatClampNeg (some v), σ.2) else none
  | _ => none
def mMmx (t : Nat) (pc : Nat) (ls st : List Value) (σ : mSt) : Option mNx := match st with
  | .int y :: .int x :: r => if (r.map fun v => v.category).sum ≤ 8 then nxt (pc + 3) ls (.int (if t = 0 then (if x < y then y else x) else (if y < x then y else x)) :: r) σ else none
  | _ => none
/-- calls -/
def mCallR (M : mRec) (as rest : List Value) : Option mNx := if (rest.map fun v => v.category).sum ≤ 8 ∧ (as.map fun v => v.category).sum ≤ M.2.2.2.1 then some (.inr (.inr (M, as, rest))) else none
def mInvV (o i : Nat) (ct : Option (Nat × Nat)) (st : List Value) (σ : mSt) : Option mNx := match calF o i, ct with
  | some (0, M), none => if M.2.2.2.2.2.1 ≤ st.length then (match st.drop M.2.2.2.2.2.1 with
      | .ref b :: rest => if kd σ.1 b = 10 + M.1 then mCallR M (.ref b :: (st.take M.2.2.2.2.2.1).reverse) rest else none
      | _ => none) else none
  | _, _ => none
def mInvS (o i : Nat) (ct : Option (Nat × Nat)) (pc : Nat) (ls st : List Value) (σ : mSt) : Option mNx :=
  if acyF o i = true then mAcy ct pc ls st σ else match mmxF o i with
  | some t => mMmx t pc ls st σ
  | none => match calF o i, ct with
  | some (k, M), none => if (k = 1 ∨ k = 3) ∧ M.2.2.2.2.2.1 ≤ st.length then mCallR M (st.take M.2.2.2.2.2.1).reverse (st.drop M.2.2.2.2.2.1) else none
  | _, _ => none
def mInvI (o i : Nat) (ct : Option (Nat × Nat)) (pc : Nat) (ls st : List Value) (σ : mSt) : Option mNx :=
  if obiF o i = true then (match st with
    | .ref _ :: r => if (r.map fun v => v.category).sum ≤ 8 then nxt (pc + 3) ls r σ else none
    | _ => none) else match calF o i, ct with
  | some (k, M), some c => if k = 2 ∨ k = 4 then (match st, M.2.2.2.2.2.1, M.2.2.2.2.2.2 with
      | .ref b :: rest, 0, some q => if σ.1.length + q.1 ≤ c.1 ∧ ssum σ.1 + q.2 ≤ c.2 then mCallR M [.ref b] rest else none
      | _, _, _ => none) else none
  | _, _ => none
/-- answers -/
def mEnd (ct : Option (Nat × Nat)) (v : Option Value) (σ : mSt) : Option mNx := match ct with
  | none => some (.inr (.inl (v, σ)))
  | some c => if σ.1.length = c.1 ∧ ssum σ.1 = c.2 then some (.inr (.inl (v, σ))) else none
def mIret (ret : Option FieldType) (ct : Option (Nat × Nat)) (st : List Value) (σ : mSt) : Option mNx := match st, ret with
  | [.int v], some .int => mEnd ct (some (.int v)) σ
  | [.int v], some .boolean => if v = 0 ∨ v = 1 then mEnd ct (some (.int v)) σ else none
  | _, _ => none
def mLret (ret : Option FieldType) (ct : Option (Nat × Nat)) (st : List Value) (σ : mSt) : Option mNx := match st, ret with
  | [.long v], some .long => mEnd ct (some (.long v)) σ
  | _, _ => none
def mAret (ret : Option FieldType) (ct : Option (Nat × Nat)) (st : List Value) (σ : mSt) : Option mNx := match st, ret with
  | [.ref v], some (.object _) => mEnd ct (some (.ref v)) σ
  | _, _ => none
def mVret (ret : Option FieldType) (ct : Option (Nat × Nat)) (st : List Value) (σ : mSt) : Option mNx := match st, ret with
  | [], none => mEnd ct none σ
  | _, _ => none
def mDup (pc : Nat) (ls st : List Value) (σ : mSt) : Option mNx := match st with
  | v :: r => if v.category = 1 then nxt (pc + 1) ls (v :: v :: r) σ else none
  | _ => none
def mDup2 (pc : Nat) (ls st : List Value) (σ : mSt) : Option mNx := match st with
  | v :: w :: r => if v.category = 1 ∧ w.category = 1 then nxt (pc + 1) ls (v :: w :: v :: w :: r) σ else none
  | _ => none
def mPop (pc : Nat) (ls st : List Value) (σ : mSt) : Option mNx := match st with
  | v :: r => if v.category = 1 then nxt (pc + 1) ls r σ else none
  | _ => none
def mLcmp (pc : Nat) (ls st : List Value) (σ : mSt) : Option mNx := match st with
  | .long y :: .long x :: r => nxt (pc + 1) ls (.int (lg_cmp x y) :: r) σ
  | _ => none
def mL2i (pc : Nat) (ls st : List Value) (σ : mSt) : Option mNx := match st with
  | .long x :: r => nxt (pc + 1) ls (.int x.toInt32 :: r) σ
  | _ => none
/-- a step: the locals and the stack -/
def mStA1 (ins : Instr) (pc : Nat) (ls st : List Value) (σ : mSt) : Option (Option mNx) := match ins with
  | .iconst n => some (nxt (pc + 1) ls (.int (mcI n) :: st) σ)
  | .bipush n => some (if -128 ≤ n ∧ n ≤ 127 then nxt (pc + 2) ls (.int (mcI n) :: st) σ else none)
  | .sipush n => some (if -32768 ≤ n ∧ n ≤ 32767 then nxt (pc + 3) ls (.int (mcI n) :: st) σ else none)
  | .lconst n => some (nxt (pc + 1) ls (.long (lN n.val) :: st) σ)
  | .iload_n k => some (mLdI k.val (pc + 1) ls st σ)
  | .iload i => some (mLdI i (pc + 2) ls st σ)
  | .lload_n k => some (mLdL k.val (pc + 1) ls st σ)
  | .lload i => some (mLdL i (pc + 2) ls st σ)
  | .aload_n k => some (mLdA k.val (pc + 1) ls st σ)
  | .aload i => some (mLdA i (pc + 2) ls st σ)
  | .istore_n k => some (mStI k.val (pc + 1) ls st σ)
  | .istore i => some (mStI i (pc + 2) ls st σ)
  | .lstore_n k => some (mStL k.val (pc + 1) ls st σ)
  | .lstore i => some (mStL i (pc + 2) ls st σ)
  | .astore_n k => some (mStA k.val (pc + 1) ls st σ)
  | .astore i => some (mStA i (pc + 2) ls st σ)
  | .iinc i n => some (mInc i n pc ls st σ)
  | .dup => some (mDup pc ls st σ)
  | .dup2 => some (mDup2 pc ls st σ)
  | .pop => some (mPop pc ls st σ)
  | _ => none
def mStA2 (ins : Instr) (pc : Nat) (ls st : List Value) (σ : mSt) : Option (Option mNx) := match ins with
  | .iadd => some (mBin (fun x y => x + y) pc ls st σ)
  | .isub => some (mBin (fun x y => x - y) pc ls st σ)
  | .imul => some (mBin (fun x y => x * y) pc ls st σ)
  | .iand => some (mBin (fun x y => x &&& y) pc ls st σ)
  | .ior => some (mBin (fun x y => x ||| y) pc ls st σ)
  | .ixor => some (mBin (fun x y => x ^^^ y) pc ls st σ)
  | .ishl => some (mBin (fun x y => x <<< (y &&& 31)) pc ls st σ)
  | .ishr => some (mBin (fun x y => x >>> (y &&& 31)) pc ls st σ)
  | .iushr => some (mBin (fun x y => (x.toUInt32 >>> (y.toUInt32 &&& Int32.toUInt32 31)).toInt32) pc ls st σ)
  | .idiv => some (mBinZ (fun x y => x / y) pc ls st σ)
  | .irem => some (mBinZ (fun x y => x - x / y * y) pc ls st σ)
  | .ineg => some (mUn (fun x => .int (-x)) pc ls st σ)
  | .i2l => some (mUn (fun x => .long x.toInt64) pc ls st σ)
  | .i2b => some (mUn (fun x => .int x.toInt8.toInt32) pc ls st σ)
  | .i2s => some (mUn (fun x => .int x.toInt16.toInt32) pc ls st σ)
  | .l2i => some (mL2i pc ls st σ)
  | .ladd => some (mBinL (fun x y => x + y) pc ls st σ)
  | .lmul => some (mBinL (fun x y => x * y) pc ls st σ)
  | .ldiv => some (mBinLZ (fun x y => x / y) pc ls st σ)
  | .lrem => some (mBinLZ (fun x y => x - x / y * y) pc ls st σ)
  | .lcmp => some (mLcmp pc ls st σ)
  | _ => none
def mStA3 (o : Nat) (ins : Instr) (pc : Nat) (ls st : List Value) (σ : mSt) : Option (Option mNx) := match ins with
  | .ldc i => some (mPushI (pc + 2) ls st σ (cstF o i))
  | .ldc_w i => some (mPushI (pc + 3) ls st σ (cstF o i))
  | .ldc2_w i => some (match cslF o i with
    | some x => nxt (pc + 3) ls (.long x :: st) σ
    | none => none)
  | .goto off => some (mJmp ((pc : Int) + off) true pc ls st σ)
  | .ifCond c off => some (mIf1 c off pc ls st σ)
  | .if_icmp c off => some (mIf2 c off pc ls st σ)
  | .tableswitch d lo hi offs => some (if hi + 1 = lo + (offs.toList.length : Int) then mSw pc (mTab lo offs.toList) d ls st σ else none)
  | .lookupswitch d ps => some (if (ps.toList.zip (ps.toList.drop 1)).all (fun (a, next) => a.1 < next.1) = true then mSw pc ps.toList d ls st σ else none)
  | _ => none
def mStB (o : Nat) (ct : Option (Nat × Nat)) (ins : Instr) (pc : Nat) (ls st : List Value) (σ : mSt) : Option (Option mNx) := match ins with
  | .getfield i => some (mGet o i pc ls st σ)
  | .putfield i => some (mPut o i ct pc ls st σ)
  | .getstatic i => some (match stcF o i with
    | some b => nxt (pc + 3) ls (.ref b :: st) σ
    | none => none)
  | .iaload => some (mIald pc ls st σ)
  | .baload => some (mBald pc ls st σ)
  | .aaload => some (mAald pc ls st σ)
  | .iastore => some (mIast pc ls st σ)
  | .bastore => some (mBast ct pc ls st σ)
  | .arraylength => some (mAlen pc ls st σ)
  | .new i => some (mNew o i ct pc ls st σ)
  | .newarray ty => some (mNwa ty ct pc ls st σ)
  | .anewarray i => some (mAnw o i ct pc ls st σ)
  | .multianewarray i 2 => some (mMna o i ct pc ls st σ)
  | .aastore => some (mAast ct pc ls st σ)
  | _ => none
def mStC (o : Nat) (ct : Option (Nat × Nat)) (ret : Option FieldType) (ins : Instr) (pc : Nat) (ls st : List Value) (σ : mSt) : Option (Option mNx) := match ins with
  | .invokevirtual i => some (mInvV o i ct st σ)
  | .invokestatic i => some (mInvS o i ct pc ls st σ)
  | .invokespecial i => some (mInvI o i ct pc ls st σ)
  | .ireturn => some (mIret ret ct st σ)
  | .lreturn => some (mLret ret ct st σ)
  | .areturn => some (mAret ret ct st σ)
  | .return_ => some (mVret ret ct st σ)
  | _ => none
def mStep (o : Nat) (ct : Option (Nat × Nat)) (ret : Option FieldType) (ins : Instr) (pc : Nat) (ls st : List Value) (σ : mSt) : Option mNx :=
  match mStA1 ins pc ls st σ with
  | some r => r
  | none => match mStA2 ins pc ls st σ with
    | some r => r
    | none => match mStA3 o ins pc ls st σ with
      | some r => r
      | none => match mStB o ct ins pc ls st σ with
        | some r => r
        | none => match mStC o ct ret ins pc ls st σ with
          | some r => r
          | none => none
