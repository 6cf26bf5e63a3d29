set_option maxRecDepth 100000 in
theorem xk_abs : Cond.code Lib.Math.abs.name Lib.Math.abs.code 1 (some .int) ∈ xtG := List.mem_filter.mpr ⟨List.mem_of_getElem? (i := 604) rfl, rfl⟩
set_option maxRecDepth 100000 in
theorem xk_absl : Cond.code Lib.MathLoose.abs_long.x Lib.MathLoose.abs_long.code 2 (some .long) ∈ xtG := List.mem_filter.mpr ⟨List.mem_of_getElem? (i := 645) rfl, rfl⟩
set_option maxRecDepth 100000 in
theorem xk_max : Cond.code Lib.Math.max.name Lib.Math.max.code 2 (some .int) ∈ xtG := List.mem_filter.mpr ⟨List.mem_of_getElem? (i := 724) rfl, rfl⟩
set_option maxRecDepth 100000 in
theorem xk_min : Cond.code Lib.Math.min.name Lib.Math.min.code 2 (some .int) ∈ xtG := List.mem_filter.mpr ⟨List.mem_of_getElem? (i := 721) rfl, rfl⟩
theorem xk_obj : Cond.code objectInit ⟨#[0xb1]⟩ 1 none ∈ xtG := List.mem_filter.mpr ⟨List.mem_of_getElem? (i := 71) rfl, rfl⟩
theorem xk_sys : xw (.initialized "java/lang/System") 57 = true := by decide +kernel
theorem xk_mat : xw (.initialized "java/lang/Math") 58 = true := by decide +kernel
theorem xk_nat : xw (.native arraycopyName) 422 = true := by decide +kernel
theorem xk_arI : xw (.arrayClass .int) 106 = true := by decide +kernel
theorem xk_arZ : xw (.arrayClass .boolean) 107 = true := by decide +kernel
theorem xtab_len : xtab.length = 188 := by decide +kernel
theorem xk_code {id : Nat} (h1 : 1 ≤ id) (h2 : id < 188) : Cond.code (xy id) (xbc id) (xml id) (xret id) ∈ xtG := by
  have e := congrArg (fun l => l[id - 1]?) xk_code0
  have hl : id < xtab.length := by rw [xtab_len]; exact h2
  have e1 : xtab[id]? = some (xm id) := by
    unfold xm
    rw [List.getElem?_eq_getElem hl, List.getD_eq_getElem?_getD, List.getElem?_eq_getElem hl]
    rfl
  simp only [List.getElem?_map, List.getElem?_drop] at e
  rw [show 1 + (id - 1) = id by omega, e1] at e
  cases hp : xpC[id]? with
  | none => rw [hp] at e; cases e
  | some i =>
    rw [hp] at e
    have e2 : lw_tbl[i]? = some (Cond.code (xy id) (xbc id) (xml id) (xret id)) := by
      have := Option.some.inj e
      exact this.symm
    exact List.mem_filter.mpr ⟨List.mem_of_getElem? e2, rfl⟩
theorem xk_own {id : Nat} (h2 : id < 188) : (xy id).cls = xnm (xown id) ∧ Jvm.plainName (xy id).cls = true ∧ xown id < 14 := by
  have h := List.all_eq_true.mp xk_cls id (List.mem_range.mpr h2)
  simp only [Bool.and_eq_true, decide_eq_true_eq] at h
  exact ⟨h.1.1, h.1.2, h.2⟩
theorem xk_init {c : Nat} (h : c < 14) : Cond.initialized (xnm c) ∈ xtG ∧ xnm c ≠ "java/lang/invoke/MethodHandle" ∧ xnm c ≠ "java/lang/invoke/VarHandle" := by
  have h := List.all_eq_true.mp xk_ini c (List.mem_range.mpr h)
  simp only [Bool.and_eq_true, decide_eq_true_eq] at h
  exact ⟨xw_in h.1.1, h.1.2, h.2⟩
theorem xlook {α β : Type} [BEq α] [LawfulBEq α] {a : α} {b : β} : ∀ {l : List (α × β)}, l.lookup a = some b → (a, b) ∈ l
  | [], h => by cases h
  | (x, y) :: l, h => by
    rw [List.lookup_cons] at h
    cases he : a == x with
    | true =>
      rw [he] at h
      cases h
      rw [eq_of_beq he]
      exact List.mem_cons_self
    | false =>
      rw [he] at h
      exact List.mem_cons_of_mem _ (xlook h)
theorem xk_fldw {o i ci f p : Nat} {b d : Bool} (h : xfld o i = some (ci, f, b, d, p)) : ∃ C T N, xcl[ci]? = some (C, T, N) ∧ f < N ∧ (b = true → Cond.fieldLinkNest (xnm o) i C (T f).2.1 (T f).2.2.1 "KineticCup" ∈ xtN) ∧ (b = false → Cond.fieldLink (xnm o) i C (T f).2.1 (T f).2.2.1 ∈ xtG) ∧ (d = true → (T f).2.2.2 = false ∧ (xty ci f = .int ∨ (xty ci f = .boolean ∧ xzf ci f = true))) ∧ (d = false → (T f).2.2.2 = true ∧ narrow (xty ci f) (.ref 0) = .ref 0 ∧ fits (xty ci f) (.ref 0) = true) := by
  have h := List.all_eq_true.mp xk_fld _ (xlook h)
  unfold xkf at h
  dsimp only at h
  split at h
  · rename_i C T N hc
    simp only [Bool.and_eq_true, decide_eq_true_eq] at h
    obtain ⟨⟨h1, h2⟩, h3⟩ := h
    refine ⟨C, T, N, hc, h1, fun hb => ?_, fun hb => ?_, fun hd => ?_, fun hd => ?_⟩
    · rw [if_pos hb] at h2; exact xwN_in h2
    · rw [if_neg (by rw [hb]; decide)] at h2; exact xw_in h2
    · rw [if_pos hd] at h3
      simp only [Bool.and_eq_true, decide_eq_true_eq] at h3
      exact h3
    · rw [if_neg (by rw [hd]; decide)] at h3
      simp only [Bool.and_eq_true, decide_eq_true_eq] at h3
      exact ⟨h3.1.1, h3.1.2, h3.2⟩
  · cases h
theorem xk_clw {c : Nat} {C : String} {T : u_T} {N : Nat} (h : xcl[c]? = some (C, T, N)) : C = xnm c ∧ Cond.instantiable C N ∈ xtG ∧ (∀ w ∈ u_ws C T N, w ∈ xtG) ∧ (∀ k, k < N → (T k).1 = C) ∧ (∀ k, k < N → parseFieldDescriptor (T k).2.2.1 = some (xty c k)) ∧ (∀ a, a < N → ∀ b, b < N → a ≠ b → (T a).2.1 ≠ (T b).2.1) ∧ (xblank.getD c []).length = N ∧ (∀ k, k < N → defaultValue (xty c k) = (xblank.getD c []).getD k .null) ∧ c < 10 := by
  have hlt : c < 10 := by rw [← xk_cln]; exact (List.getElem?_eq_some_iff.mp h).1
  have h2 := List.all_eq_true.mp xk_cl c (List.mem_range.mpr hlt)
  unfold xko at h2
  rw [h] at h2
  simp only [Bool.and_eq_true, decide_eq_true_eq, List.all_eq_true, List.mem_range] at h2
  obtain ⟨⟨⟨⟨⟨a1, a2⟩, a3⟩, a4⟩, a5⟩, a6⟩ := h2
  refine ⟨a1, xw_in a2, fun w hw => ?_, fun k hk => (a3 k hk).1.2, fun k hk => (a3 k hk).2, a4, a5, a6, hlt⟩
  obtain ⟨k, hk, rfl⟩ := List.mem_map.mp hw
  exact xw_in (a3 k (List.mem_range.mp hk)).1.1
