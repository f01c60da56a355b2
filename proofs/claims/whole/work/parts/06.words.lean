/-! ===== what the machine's tables say of the claim's words ===== -/
def fty (ci k : Nat) : FieldType := match ci with
  | 0 => tyX0 k
  | 1 => tyX1 k
  | 2 => tyX2 k
  | 3 => tyX3 k
  | 4 => tyX4 k
  | 5 => tyX5 k
  | 6 => tyX6 k
  | 7 => tyX7 k
  | _ => tyX8 k
def clq (ci : Nat) : vw_C := vwCl.getD ci (RX8, TX8, 18)
def ftR (ci k : Nat) : Bool := match fty ci k with
  | .int => false
  | .boolean => false
  | _ => true
theorem cls_at {ci : Nat} (h : ci < 9) : vwCl[ci]? = some (clq ci) := by
  rcases (show ci = 0 ∨ ci = 1 ∨ ci = 2 ∨ ci = 3 ∨ ci = 4 ∨ ci = 5 ∨ ci = 6 ∨ ci = 7 ∨ ci = 8 by omega) with rfl | rfl | rfl | rfl | rfl | rfl | rfl | rfl | rfl <;> rfl
theorem cls_in {ci : Nat} (h : ci < 9) : ∀ w ∈ u_ws (clq ci).1 (clq ci).2.1 (clq ci).2.2, w ∈ lw_tbl := by
  rcases (show ci = 0 ∨ ci = 1 ∨ ci = 2 ∨ ci = 3 ∨ ci = 4 ∨ ci = 5 ∨ ci = 6 ∨ ci = 7 ∨ ci = 8 by omega) with rfl | rfl | rfl | rfl | rfl | rfl | rfl | rfl | rfl
  · exact inX0
  · exact inX1
  · exact inX2
  · exact inX3
  · exact inX4
  · exact inX5
  · exact inX6
  · exact inX7
  · exact inX8
theorem cls_ty {ci : Nat} (h : ci < 9) : ∀ k, k < (clq ci).2.2 → parseFieldDescriptor ((clq ci).2.1 k).2.2.1 = some (fty ci k) := by
  rcases (show ci = 0 ∨ ci = 1 ∨ ci = 2 ∨ ci = 3 ∨ ci = 4 ∨ ci = 5 ∨ ci = 6 ∨ ci = 7 ∨ ci = 8 by omega) with rfl | rfl | rfl | rfl | rfl | rfl | rfl | rfl | rfl
  · exact tyX0_ok
  · exact tyX1_ok
  · exact tyX2_ok
  · exact tyX3_ok
  · exact tyX4_ok
  · exact tyX5_ok
  · exact tyX6_ok
  · exact tyX7_ok
  · exact tyX8_ok
theorem cls_nm {ci : Nat} (h : ci < 9) : ∀ a, a < (clq ci).2.2 → ∀ b, b < (clq ci).2.2 → a ≠ b → ((clq ci).2.1 a).2.1 ≠ ((clq ci).2.1 b).2.1 := by
  rcases (show ci = 0 ∨ ci = 1 ∨ ci = 2 ∨ ci = 3 ∨ ci = 4 ∨ ci = 5 ∨ ci = 6 ∨ ci = 7 ∨ ci = 8 by omega) with rfl | rfl | rfl | rfl | rfl | rfl | rfl | rfl | rfl
  · exact nmX0
  · exact nmX1
  · exact nmX2
  · exact nmX3
  · exact nmX4
  · exact nmX5
  · exact nmX6
  · exact nmX7
  · exact nmX8
theorem cls_n {ci : Nat} (h : ci < 9) : nFl ci = (clq ci).2.2 := by
  rcases (show ci = 0 ∨ ci = 1 ∨ ci = 2 ∨ ci = 3 ∨ ci = 4 ∨ ci = 5 ∨ ci = 6 ∨ ci = 7 ∨ ci = 8 by omega) with rfl | rfl | rfl | rfl | rfl | rfl | rfl | rfl | rfl <;> rfl
theorem cls_cn {ci : Nat} (h : ci < 9) : (clq ci).1 = cn ci := by
  rcases (show ci = 0 ∨ ci = 1 ∨ ci = 2 ∨ ci = 3 ∨ ci = 4 ∨ ci = 5 ∨ ci = 6 ∨ ci = 7 ∨ ci = 8 by omega) with rfl | rfl | rfl | rfl | rfl | rfl | rfl | rfl | rfl <;> rfl
/-- a word at its place -/
def wAt (i : Nat) (w : Cond) : Bool := decide (lw_tbl[i]? = some w)
theorem wAt_in {i : Nat} {w : Cond} (h : wAt i w = true) : w ∈ lw_tbl := List.mem_of_getElem? (of_decide_eq_true h)
def fldC (e : Nat × Nat × Nat × Nat × Nat × Bool × Nat) : Bool :=
  wAt e.2.2.2.2.2.2 (.fieldLink (cn e.1) e.2.1 ((clq e.2.2.1).2.1 e.2.2.2.1).1 ((clq e.2.2.1).2.1 e.2.2.2.1).2.1 ((clq e.2.2.1).2.1 e.2.2.2.1).2.2.1) && decide (e.2.2.1 < 9) && decide (e.2.2.2.1 < (clq e.2.2.1).2.2) && (((clq e.2.2.1).2.1 e.2.2.2.1).2.2.2 == e.2.2.2.2.2.1) && decide (((clq e.2.2.1).2.1 e.2.2.2.1).1 = cn e.2.2.1) &&
  (match e.2.2.2.2.1 with
    | 0 => decide (fty e.2.2.1 e.2.2.2.1 = .int)
    | 1 => decide (fty e.2.2.1 e.2.2.2.1 = .boolean)
    | _ => decide (e.2.2.2.2.1 = 2) && ftR e.2.2.1 e.2.2.2.1 && fits (fty e.2.2.1 e.2.2.2.1) .null && ((clq e.2.2.1).2.1 e.2.2.2.1).2.2.2)
theorem fld_all : fldL.all fldC = true := by decide +kernel
def cstC (e : Nat × Nat × Int32 × Nat) : Bool := wAt e.2.2.2 (.constant (cn e.1) e.2.1 e.2.2.1)
theorem cst_all : cstL.all cstC = true := by decide +kernel
def cslC (e : Nat × Nat × Int64 × Nat) : Bool := wAt e.2.2.2 (.constantLong (cn e.1) e.2.1 e.2.2.1)
theorem csl_all : cslL.all cslC = true := by decide +kernel
def obiC (e : Nat × Nat × Nat) : Bool := wAt e.2.2 (.methodLink (cn e.1) e.2.1 objectInit)
theorem obi_all : obiL.all obiC = true := by decide +kernel
theorem obi_i : wAt 87 (.instanceMethod objectInit) = true := by decide +kernel
theorem obi_c : wAt 88 (.code objectInit ⟨#[0xb1]⟩ 1 none) = true := by decide +kernel
def acyC (e : Nat × Nat × Nat) : Bool := wAt e.2.2 (.methodLink (cn e.1) e.2.1 arraycopyName)
theorem acy_all : acyL.all acyC = true := by decide +kernel
theorem acy_n : wAt 379 (.native arraycopyName) = true := by decide +kernel
theorem acy_s : wAt 378 (.static arraycopyName) = true := by decide +kernel
theorem acy_i : wAt 78 (.initialized "java/lang/System") = true := by decide +kernel
def mmxC (e : Nat × Nat × Nat × Nat) : Bool := wAt e.2.2.2 (.methodLink (cn e.1) e.2.1 (if e.2.2.1 = 0 then Lib.Math.max.name else Lib.Math.min.name)) && decide (e.2.2.1 < 2)
theorem mmx_all : mmxL.all mmxC = true := by decide +kernel
theorem mmx_i : wAt 79 (.initialized "java/lang/Math") = true := by decide +kernel
theorem mmx_s0 : wAt 514 (.static Lib.Math.max.name) = true := by decide +kernel
theorem mmx_s1 : wAt 503 (.static Lib.Math.min.name) = true := by decide +kernel
theorem mmx_c0 : wAt 515 (.code Lib.Math.max.name Lib.Math.max.code 2 (some .int)) = true := by decide +kernel
theorem mmx_c1 : wAt 504 (.code Lib.Math.min.name Lib.Math.min.code 2 (some .int)) = true := by decide +kernel
def newC (e : Nat × Nat × Nat × List Nat) : Bool := decide (e.2.2.1 < 9) && wAt (e.2.2.2.getD 0 0) (.classLink (cn e.1) e.2.1 (cn e.2.2.1)) && wAt (e.2.2.2.getD 1 0) (.instantiable (cn e.2.2.1) (nFl e.2.2.1)) && wAt (e.2.2.2.getD 2 0) (.initialized (cn e.2.2.1))
theorem new_all : newL.all newC = true := by decide +kernel
def mnaC (e : Nat × Nat × Nat) : Bool := wAt e.2.2 (.classLink (cn e.1) e.2.1 "[[I")
theorem mna_all : mnaL.all mnaC = true := by decide +kernel
theorem ao_H : wAt 209 (.arrayOver (.object RX4)) = true := by decide +kernel
theorem ao_I : wAt 96 (.arrayOver (.array .int)) = true := by decide +kernel
theorem ac_I : wAt 109 (.arrayClass .int) = true := by decide +kernel
theorem ac_Z : wAt 899 (.arrayClass .boolean) = true := by decide +kernel
def stn (k : Nat) : String := match k with
  | 1 => "PARENT"
  | 2 => "SIZE_BODY"
  | _ => "MARK_BODY"
def stcC (e : Nat × Nat × Nat × Nat × Nat) : Bool := decide (1 ≤ e.2.2.1) && decide (e.2.2.1 ≤ 3) && (if e.2.2.2.1 = 0 then wAt e.2.2.2.2 (.fieldLink (cn e.1) e.2.1 RX7 (stn e.2.2.1) "[I") else wAt e.2.2.2.2 (.fieldLinkNest (cn e.1) e.2.1 RX7 (stn e.2.2.1) "[I" RX7))
theorem stc_all : stcL.all stcC = true := by decide +kernel
theorem ls_1 : wAt 803 (.laysStatic RX7 "PARENT" "[I") = true := by decide +kernel
theorem ls_2 : wAt 814 (.laysStatic RX7 "SIZE_BODY" "[I") = true := by decide +kernel
theorem ls_3 : wAt 816 (.laysStatic RX7 "MARK_BODY" "[I") = true := by decide +kernel
/-- a call's words, and what else is asked of the callee -/
def calC (o : Nat) (e : Nat × Nat × mRec × List Nat) : Bool :=
  (match e.2.1 with
    | 0 => wAt (e.2.2.2.getD 0 0) (.methodLink (cn o) e.1 e.2.2.1.2.1) && wAt (e.2.2.2.getD 3 0) (.instanceMethod e.2.2.1.2.1) && wAt (e.2.2.2.getD 4 0) (.selects (cn e.2.2.1.1) e.2.2.1.2.1 e.2.2.1.2.1) && decide (e.2.2.1.1 < 9) && e.2.2.1.2.2.2.2.2.2.isNone
    | 1 => wAt (e.2.2.2.getD 0 0) (.methodLink (cn o) e.1 e.2.2.1.2.1) && wAt (e.2.2.2.getD 3 0) (.static e.2.2.1.2.1) && e.2.2.1.2.2.2.2.2.2.isNone
    | 2 => wAt (e.2.2.2.getD 0 0) (.methodLink (cn o) e.1 e.2.2.1.2.1) && wAt (e.2.2.2.getD 3 0) (.instanceMethod e.2.2.1.2.1) && decide (e.2.2.1.2.1.name = "<init>") && decide (e.2.2.1.2.2.2.2.1 = none)
    | 3 => wAt (e.2.2.2.getD 0 0) (.methodLinkNest (cn o) e.1 e.2.2.1.2.1 RX7) && wAt (e.2.2.2.getD 3 0) (.static e.2.2.1.2.1) && e.2.2.1.2.2.2.2.2.2.isNone
    | _ => wAt (e.2.2.2.getD 0 0) (.methodLinkNest (cn o) e.1 e.2.2.1.2.1 RX7) && wAt (e.2.2.2.getD 3 0) (.instanceMethod e.2.2.1.2.1) && decide (e.2.2.1.2.1.name = "<init>") && decide (e.2.2.1.2.2.2.2.1 = none) && decide (e.2.1 = 4)) &&
  wAt (e.2.2.2.getD 1 0) (.initialized (cn e.2.2.1.1)) &&
  decide (e.2.2.1.2.1.cls = cn e.2.2.1.1) && plainName (cn e.2.2.1.1) && decide (e.2.2.1.2.2.2.1 ≤ 21) && decide (cn e.2.2.1.1 ≠ "java/lang/invoke/MethodHandle") && decide (cn e.2.2.1.1 ≠ "java/lang/invoke/VarHandle") &&
  decide ((parseMethodDescriptor e.2.2.1.2.1.desc).map (fun d => d.parameters.length) = some e.2.2.1.2.2.2.2.2.1)
set_option maxRecDepth 100000 in
theorem cod_all0 : calL0.map (fun e => lw_tbl[e.2.2.2.getD 2 0]?) = calL0.map (fun e => some (Cond.code e.2.2.1.2.1 e.2.2.1.2.2.1 e.2.2.1.2.2.2.1 e.2.2.1.2.2.2.2.1)) := rfl
set_option maxRecDepth 100000 in
theorem cod_all1 : calL1.map (fun e => lw_tbl[e.2.2.2.getD 2 0]?) = calL1.map (fun e => some (Cond.code e.2.2.1.2.1 e.2.2.1.2.2.1 e.2.2.1.2.2.2.1 e.2.2.1.2.2.2.2.1)) := rfl
set_option maxRecDepth 100000 in
theorem cod_all2 : calL2.map (fun e => lw_tbl[e.2.2.2.getD 2 0]?) = calL2.map (fun e => some (Cond.code e.2.2.1.2.1 e.2.2.1.2.2.1 e.2.2.1.2.2.2.1 e.2.2.1.2.2.2.2.1)) := rfl
set_option maxRecDepth 100000 in
theorem cod_all3 : calL3.map (fun e => lw_tbl[e.2.2.2.getD 2 0]?) = calL3.map (fun e => some (Cond.code e.2.2.1.2.1 e.2.2.1.2.2.1 e.2.2.1.2.2.2.1 e.2.2.1.2.2.2.2.1)) := rfl
set_option maxRecDepth 100000 in
theorem cod_all4 : calL4.map (fun e => lw_tbl[e.2.2.2.getD 2 0]?) = calL4.map (fun e => some (Cond.code e.2.2.1.2.1 e.2.2.1.2.2.1 e.2.2.1.2.2.2.1 e.2.2.1.2.2.2.2.1)) := rfl
set_option maxRecDepth 100000 in
theorem cod_all5 : calL5.map (fun e => lw_tbl[e.2.2.2.getD 2 0]?) = calL5.map (fun e => some (Cond.code e.2.2.1.2.1 e.2.2.1.2.2.1 e.2.2.1.2.2.2.1 e.2.2.1.2.2.2.2.1)) := rfl
set_option maxRecDepth 100000 in
theorem cod_all6 : calL6.map (fun e => lw_tbl[e.2.2.2.getD 2 0]?) = calL6.map (fun e => some (Cond.code e.2.2.1.2.1 e.2.2.1.2.2.1 e.2.2.1.2.2.2.1 e.2.2.1.2.2.2.2.1)) := rfl
set_option maxRecDepth 100000 in
theorem cod_all7 : calL7.map (fun e => lw_tbl[e.2.2.2.getD 2 0]?) = calL7.map (fun e => some (Cond.code e.2.2.1.2.1 e.2.2.1.2.2.1 e.2.2.1.2.2.2.1 e.2.2.1.2.2.2.2.1)) := rfl
set_option maxRecDepth 100000 in
theorem cod_all8 : calL8.map (fun e => lw_tbl[e.2.2.2.getD 2 0]?) = calL8.map (fun e => some (Cond.code e.2.2.1.2.1 e.2.2.1.2.2.1 e.2.2.1.2.2.2.1 e.2.2.1.2.2.2.2.1)) := rfl
set_option maxRecDepth 100000 in
theorem cod_all9 : calL9.map (fun e => lw_tbl[e.2.2.2.getD 2 0]?) = calL9.map (fun e => some (Cond.code e.2.2.1.2.1 e.2.2.1.2.2.1 e.2.2.1.2.2.2.1 e.2.2.1.2.2.2.2.1)) := rfl
theorem cal_all0 : calL0.all (calC 0) = true := by decide +kernel
theorem cal_all1 : calL1.all (calC 1) = true := by decide +kernel
theorem cal_all2 : calL2.all (calC 2) = true := by decide +kernel
theorem cal_all3 : calL3.all (calC 3) = true := by decide +kernel
theorem cal_all4 : calL4.all (calC 4) = true := by decide +kernel
theorem cal_all5 : calL5.all (calC 5) = true := by decide +kernel
theorem cal_all6 : calL6.all (calC 6) = true := by decide +kernel
theorem cal_all7 : calL7.all (calC 7) = true := by decide +kernel
theorem cal_all8 : calL8.all (calC 8) = true := by decide +kernel
theorem cal_all9 : calL9.all (calC 9) = true := by decide +kernel
theorem cal_all (o : Nat) : (calL o).all (calC o) = true := match o with
  | 0 => cal_all0
  | 1 => cal_all1
  | 2 => cal_all2
  | 3 => cal_all3
  | 4 => cal_all4
  | 5 => cal_all5
  | 6 => cal_all6
  | 7 => cal_all7
  | 8 => cal_all8
  | 9 => cal_all9
  | n + 10 => rfl
theorem cod_all (o : Nat) : (calL o).map (fun e => lw_tbl[e.2.2.2.getD 2 0]?) = (calL o).map (fun e => some (Cond.code e.2.2.1.2.1 e.2.2.1.2.2.1 e.2.2.1.2.2.2.1 e.2.2.1.2.2.2.2.1)) := match o with
  | 0 => cod_all0
  | 1 => cod_all1
  | 2 => cod_all2
  | 3 => cod_all3
  | 4 => cod_all4
  | 5 => cod_all5
  | 6 => cod_all6
  | 7 => cod_all7
  | 8 => cod_all8
  | 9 => cod_all9
  | n + 10 => rfl
