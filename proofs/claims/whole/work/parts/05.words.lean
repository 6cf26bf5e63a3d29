def xtG : List Cond := lw_tbl.filter goodWord
def xw (w : Cond) (i : Nat) : Bool := decide (lw_tbl[i]? = some w) && goodWord w
theorem xw_in {w : Cond} {i : Nat} (h : xw w i = true) : w ∈ xtG := by
  simp only [xw, Bool.and_eq_true, decide_eq_true_eq] at h
  exact List.mem_filter.mpr ⟨List.mem_of_getElem? h.1, h.2⟩
def xisN : Cond → Bool
  | .methodLinkNest _ _ _ _ => true
  | .fieldLinkNest _ _ _ _ _ _ => true
  | _ => false
def xtN : List Cond := lw_tbl.filter xisN
def xwN (w : Cond) (i : Nat) : Bool := decide (lw_tbl[i]? = some w) && xisN w
theorem xwN_in {w : Cond} {i : Nat} (h : xwN w i = true) : w ∈ xtN := by
  simp only [xwN, Bool.and_eq_true, decide_eq_true_eq] at h
  exact List.mem_filter.mpr ⟨List.mem_of_getElem? h.1, h.2⟩
set_option maxRecDepth 100000 in
set_option maxHeartbeats 4000000 in
theorem xk_code0 : (xtab.drop 1).map (fun M => some (Cond.code M.1 M.2.1 M.2.2.1 M.2.2.2.1)) = (xpC.drop 1).map (fun i => lw_tbl[i]?) := rfl
set_option maxRecDepth 100000 in
theorem xk_cls : (List.range 188).all (fun id => decide ((xy id).cls = xnm (xown id)) && Jvm.plainName (xy id).cls && decide (xown id < 14)) = true := by decide +kernel
theorem xk_ini : (List.range 14).all (fun c => xw (.initialized (xnm c)) (xpI.getD c 0) && decide (xnm c ≠ "java/lang/invoke/MethodHandle") && decide (xnm c ≠ "java/lang/invoke/VarHandle")) = true := by decide +kernel
def xkf (e : (Nat × Nat) × Nat × Nat × Bool × Bool × Nat) : Bool := match e with
  | ((o, i), ci, f, nest, dat, pl) => match xcl[ci]? with
    | some (C, T, N) => decide (f < N) && (if nest = true then xwN (.fieldLinkNest (xnm o) i C (T f).2.1 (T f).2.2.1 "KineticCup") pl else xw (.fieldLink (xnm o) i C (T f).2.1 (T f).2.2.1) pl) && (if dat = true then decide ((T f).2.2.2 = false) && decide (xty ci f = .int ∨ (xty ci f = .boolean ∧ xzf ci f = true)) else decide ((T f).2.2.2 = true) && decide (narrow (xty ci f) (.ref 0) = .ref 0) && fits (xty ci f) (.ref 0))
    | none => false
set_option maxRecDepth 100000 in
theorem xk_fld : xfl.all xkf = true := by decide +kernel
def xkc (e : (Nat × Nat) × Value × Nat) : Bool := match e.2.1 with
  | .int v => xw (.constant (xnm e.1.1) e.1.2 v) e.2.2
  | .long v => xw (.constantLong (xnm e.1.1) e.1.2 v) e.2.2
  | .retAddr 1 => e.1 == (4, 75)
  | _ => false
set_option maxRecDepth 100000 in
theorem xk_cst : xcs.all xkc = true := by decide +kernel
def xkm (e : (Nat × Nat) × Nat × Nat × Nat × Nat × Nat × Nat) : Bool := match e with
  | ((o, i), kind, j, n, p1, p2, p3) => match kind with
    | 0 => xw (.methodLink (xnm o) i (xy j)) p1 && xw (.static (xy j)) p2 && decide ((parseMethodDescriptor (xy j).desc).map (fun d => d.parameters.length) = some n) && decide (1 ≤ j) && decide (j < 188)
    | 3 => xwN (.methodLinkNest (xnm o) i (xy j) "KineticCup") p1 && xw (.static (xy j)) p2 && decide ((parseMethodDescriptor (xy j).desc).map (fun d => d.parameters.length) = some n) && decide (1 ≤ j) && decide (j < 188)
    | 1 => xw (.methodLink (xnm o) i (xy j)) p1 && xw (.instanceMethod (xy j)) p2 && xw (.selects (xnm (xown j)) (xy j) (xy j)) p3 && decide ((parseMethodDescriptor (xy j).desc).map (fun d => d.parameters.length) = some n) && decide (1 ≤ j) && decide (j < 188)
    | 2 => xw (.methodLink (xnm o) i (xy j)) p1 && xw (.instanceMethod (xy j)) p2 && decide ((xy j).name = "<init>") && decide (xret j = none) && decide ((parseMethodDescriptor (xy j).desc).map (fun d => d.parameters.length) = some n) && decide (1 ≤ j) && decide (j < 188)
    | 5 => xwN (.methodLinkNest (xnm o) i (xy j) "KineticCup") p1 && xw (.instanceMethod (xy j)) p2 && decide ((xy j).name = "<init>") && decide (xret j = none) && decide ((parseMethodDescriptor (xy j).desc).map (fun d => d.parameters.length) = some n) && decide (1 ≤ j) && decide (j < 188)
    | 6 => xw (.methodLink (xnm o) i objectInit) p1 && xw (.instanceMethod objectInit) p2
    | 7 => xw (.methodLink (xnm o) i arraycopyName) p1 && xw (.static arraycopyName) p2
    | 9 => xw (.methodLink (xnm o) i Lib.Math.abs.name) p1 && xw (.static Lib.Math.abs.name) p2
    | 10 => xw (.methodLink (xnm o) i Lib.MathLoose.abs_long.x) p1 && xw (.static Lib.MathLoose.abs_long.x) p2
    | 11 => xw (.methodLink (xnm o) i Lib.Math.max.name) p1 && xw (.static Lib.Math.max.name) p2
    | 12 => xw (.methodLink (xnm o) i Lib.Math.min.name) p1 && xw (.static Lib.Math.min.name) p2
    | 8 => xw (.methodLink (xnm o) i ⟨"java/lang/String", "charAt", "(I)C"⟩) p1
    | _ => false
set_option maxRecDepth 100000 in
theorem xk_mth : xmt.all xkm = true := by decide +kernel
def xkn (e : (Nat × Nat) × Nat × Nat) : Bool := xw (.classLink (xnm e.1.1) e.1.2 (xnm e.2.1)) e.2.2 && decide (e.2.1 < 10)
set_option maxRecDepth 100000 in
theorem xk_new : xnw.all xkn = true := by decide +kernel
def xko (c : Nat) : Bool := match xcl[c]? with
  | some (C, T, N) => decide (C = xnm c) && xw (.instantiable C N) (xpN.getD c 0) && (List.range N).all (fun k => xw (u_lay C T k) ((xpL.getD c []).getD k 0) && decide ((T k).1 = C) && decide (parseFieldDescriptor (T k).2.2.1 = some (xty c k))) && decide (∀ a, a < N → ∀ b, b < N → a ≠ b → (T a).2.1 ≠ (T b).2.1) && decide ((xblank.getD c []).length = N) && (List.range N).all (fun k => decide (defaultValue (xty c k) = (xblank.getD c []).getD k .null))
  | none => false
set_option maxRecDepth 100000 in
theorem xk_cl : (List.range 10).all xko = true := by decide +kernel
theorem xk_cln : xcl.length = 10 := by decide +kernel
