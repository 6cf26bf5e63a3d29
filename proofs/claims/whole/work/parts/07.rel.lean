def xtv (base : Nat) (ex : Nat → Nat) (v : Value) : Value := match v with
  | .ref k => .ref (base + k)
  | .retAddr n => .ref (ex n)
  | v => v
def xfv (σ : Nat → Nat → Int32) (k j : Nat) (v : Value) : Value := match v with
  | .int _ => .int (σ k j)
  | v => v
def xce (base : Nat) (ex : Nat → Nat) (D : va_G) (cA : Nat → ClassId) (σ : Nat → Nat → Int32) (H : Heap) (k t n : Nat) (vs : List Value) : Prop :=
  (t = 0 → H[base + k]? = some (arrV (cA 0) n (fun j => .int (σ k j)))) ∧
  (t = 1 → (∀ j, σ k j = 0 ∨ σ k j = 1) ∧ H[base + k]? = some (arrV (cA 1) n (fun j => .int (σ k j)))) ∧
  (t = 2 → vs.length = n ∧ H[base + k]? = some (arrV (cA 2) n (fun j => xtv base ex (vs.getD j .null)))) ∧
  (∀ ci, t = ci + 3 → ∃ C T, xcl[ci]? = some (C, T, n) ∧ vs.length = n ∧ t_OB (base + k) (D.1 ci) n (D.2 ci) H (fun j => xtv base ex (xfv σ k j (vs.getD j .null))))
def xhp (base : Nat) (ex : Nat → Nat) (D : va_G) (cA : Nat → ClassId) (H00 : Heap) (S : xS) (H : Heap) : Prop :=
  H.size = base + S.1.length ∧ (∀ k t n vs, S.1[k]? = some (t, n, vs) → xce base ex D cA S.2 H k t n vs) ∧ ∀ q, q < base → H[q]? = H00[q]?
def xkw (base : Nat) (ex : Nat → Nat) (D : va_G) (cA : Nat → ClassId) (H00 : Heap) (X : xX) (Z : State → Prop) (U : State) : Prop :=
  va_K D xcl [(cA 0, .int), (cA 1, .boolean), (cA 2, .object "KineticCup$Image")] U ∧ (∀ w ∈ xtN, va_Nw w U) ∧ va_AO "KineticCup$Image" U ∧ (va_X (ex 0) X.1 X.2 U H00 ∧ ex 0 < base) ∧ Z U
def xfx (base : Nat) (ex : Nat → Nat) (D : va_G) (cA : Nat → ClassId) (H00 : Heap) (X : xX) (Z : State → Prop) (p : Program) (R : Room) (s : State) (m : MethodId) (args : Array Value) (meth : Method) (c : Code) (id : Nat) : Prop :=
  p.tables.exec = Jvm.exec ∧ c.code = xbc id ∧ meth.sig.returnType = xret id ∧ c.maxLocals = xml id ∧ s.vm.findClass (xnm (xown id)) = some m.cls ∧ (∀ w ∈ xtG, w.before args s = true) ∧ xkw base ex D cA H00 X Z s ∧ meth.locks = false ∧ meth.name = (xy id).name ∧ xrf id ≤ R.frames ∧ xrl id ≤ R.locals
def xbad : Value → Bool
  | .float _ => true
  | .double _ => true
  | _ => false
def xlr (base : Nat) (ex : Nat → Nat) (arr : Array Slot) (nL : Nat) (ls : List Value) : Prop :=
  arr.size = nL ∧ ls.length = nL ∧ lv_wf arr ∧ ∀ (i : Nat) (v : Value), ls[i]? = some v → xbad v = false → arr[i]? = some (Slot.val (xtv base ex v))
def xps (base : Nat) (ex : Nat → Nat) (ls : List Value) : List (Nat × Value) := ls.zipIdx.filterMap (fun q => if xbad q.1 = true then none else some (q.2, xtv base ex q.1))
theorem xtv_cat (base : Nat) (ex : Nat → Nat) (v : Value) : (xtv base ex v).category = v.category := by cases v <;> rfl
theorem xps_mem {base : Nat} {ex : Nat → Nat} {ls : List Value} {i : Nat} {w : Value} : (i, w) ∈ xps base ex ls ↔ ∃ v, ls[i]? = some v ∧ xbad v = false ∧ w = xtv base ex v := by
  unfold xps
  rw [List.mem_filterMap]
  constructor
  · rintro ⟨⟨v, j⟩, h1, h2⟩
    have h1 := List.mem_zipIdx_iff_getElem?.mp h1
    dsimp only at h1 h2
    by_cases hb : xbad v = true
    · rw [if_pos hb] at h2; cases h2
    · rw [if_neg hb] at h2
      cases h2
      exact ⟨v, h1, by simpa using hb, rfl⟩
  · rintro ⟨v, h1, h2, rfl⟩
    exact ⟨(v, i), List.mem_zipIdx_iff_getElem?.mpr h1, by dsimp only; rw [if_neg (by rw [h2]; decide)]⟩
theorem xlr_has {base : Nat} {ex : Nat → Nat} {arr : Array Slot} {nL : Nat} {ls : List Value} (h : xlr base ex arr nL ls) : lv_has arr nL (xps base ex ls) := by
  obtain ⟨h1, h2, h3, h4⟩ := h
  refine ⟨h1, h3, ?_⟩
  rintro ⟨i, w⟩ hq
  obtain ⟨v, a, b, rfl⟩ := xps_mem.mp hq
  exact h4 i v a b
theorem xkl_get {ls : List Value} {i j : Nat} {w : Value} (h : (xkl ls i)[j]? = some w) (hw : xbad w = false) : ls[j]? = some w ∧ ¬ (j + 1 = i ∧ w.category = 2) := by
  unfold xkl at h
  split at h
  · exact ⟨h, by omega⟩
  · rename_i k
    split at h
    · rename_i y hy
      by_cases hjk : j = k
      · subst hjk
        have hl := (List.getElem?_eq_some_iff.mp hy).1
        rw [List.getElem?_set_self hl] at h
        cases h
        cases hw
      · rw [List.getElem?_set_ne (Ne.symm hjk)] at h
        exact ⟨h, by omega⟩
    · rename_i hn
      refine ⟨h, ?_⟩
      rintro ⟨e, hc⟩
      have : j = k := by omega
      subst this
      cases w with
      | long y => exact hn y h
      | double _ => cases hw
      | _ => cases hc
theorem xkl_len (ls : List Value) (i : Nat) : (xkl ls i).length = ls.length := by
  unfold xkl
  split
  · rfl
  · split <;> simp
theorem xlr_st1 {base : Nat} {ex : Nat → Nat} {arr' : Array Slot} {nL i : Nat} {ls : List Value} {v : Value} (hls : ls.length = nL) (h : lv_has arr' nL ((i, xtv base ex v) :: (xps base ex ls).filter (fun q => !(q.1 == i) && !(q.1 + 1 == i && q.2.category == 2)))) : xlr base ex arr' nL (xst1 ls i v) := by
  obtain ⟨h1, h2, h3⟩ := h
  refine ⟨h1, by simp [xst1, xkl_len, hls], h2, fun j w hj hw => ?_⟩
  unfold xst1 at hj
  by_cases hji : j = i
  · subst hji
    have hl : j < (xkl ls j).length := by simpa using (List.getElem?_eq_some_iff.mp hj).1
    rw [List.getElem?_set_self hl] at hj
    cases hj
    exact h3 (j, _) List.mem_cons_self
  · rw [List.getElem?_set_ne (Ne.symm hji)] at hj
    obtain ⟨a, b⟩ := xkl_get hj hw
    refine h3 (j, _) (List.mem_cons_of_mem _ (List.mem_filter.mpr ⟨xps_mem.mpr ⟨w, a, hw, rfl⟩, ?_⟩))
    simp only [xtv_cat, Bool.and_eq_true, Bool.not_eq_true', beq_eq_false_iff_ne, Bool.and_eq_false_iff, ne_eq]
    refine ⟨hji, ?_⟩
    by_cases c : j + 1 = i
    · exact Or.inr (fun e => b ⟨c, (xtv_cat base ex w).symm.trans e⟩)
    · exact Or.inl c
theorem xlr_st2 {base : Nat} {ex : Nat → Nat} {arr' : Array Slot} {nL i : Nat} {ls : List Value} {v : Value} (hls : ls.length = nL) (h : lv_has arr' nL ((i, xtv base ex v) :: (xps base ex ls).filter (fun q => !(q.1 == i) && (!(q.1 == i + 1) && !(q.1 + 1 == i && q.2.category == 2))))) : xlr base ex arr' nL (xst2 ls i v) := by
  obtain ⟨h1, h2, h3⟩ := h
  refine ⟨h1, by simp [xst2, xkl_len, hls], h2, fun j w hj hw => ?_⟩
  unfold xst2 at hj
  by_cases hj2 : j = i + 1
  · subst hj2
    have hl : i + 1 < ((xkl ls i).set i v).length := by simpa using (List.getElem?_eq_some_iff.mp hj).1
    rw [List.getElem?_set_self hl] at hj
    cases hj
    cases hw
  · rw [List.getElem?_set_ne (Ne.symm hj2)] at hj
    by_cases hji : j = i
    · subst hji
      have hl : j < (xkl ls j).length := by simpa using (List.getElem?_eq_some_iff.mp hj).1
      rw [List.getElem?_set_self hl] at hj
      cases hj
      exact h3 (j, _) List.mem_cons_self
    · rw [List.getElem?_set_ne (Ne.symm hji)] at hj
      obtain ⟨a, b⟩ := xkl_get hj hw
      refine h3 (j, _) (List.mem_cons_of_mem _ (List.mem_filter.mpr ⟨xps_mem.mpr ⟨w, a, hw, rfl⟩, ?_⟩))
      simp only [xtv_cat, Bool.and_eq_true, Bool.not_eq_true', beq_eq_false_iff_ne, Bool.and_eq_false_iff, ne_eq]
      refine ⟨hji, hj2, ?_⟩
      by_cases c : j + 1 = i
      · exact Or.inr (fun e => b ⟨c, (xtv_cat base ex w).symm.trans e⟩)
      · exact Or.inl c
theorem xce_kept {base : Nat} {ex : Nat → Nat} {D : va_G} {cA : Nat → ClassId} {σ σ' : Nat → Nat → Int32} {H H' : Heap} {k t n : Nat} {vs : List Value} (h : xce base ex D cA σ H k t n vs) (hH : H'[base + k]? = H[base + k]?) (hs : ∀ j, σ' k j = σ k j) : xce base ex D cA σ' H' k t n vs := by
  obtain ⟨h0, h1, h2, h3⟩ := h
  have e : σ' k = σ k := funext hs
  refine ⟨fun ht => ?_, fun ht => ?_, fun ht => ?_, fun ci ht => ?_⟩
  · rw [hH, h0 ht, e]
  · rw [hH, (h1 ht).2, e]; exact ⟨(h1 ht).1, rfl⟩
  · rw [hH]; exact h2 ht
  · obtain ⟨C, T, a, b, c⟩ := h3 ci ht
    refine ⟨C, T, a, b, (c.kept hH).to (fun j _ => ?_)⟩
    unfold xfv
    cases vs.getD j .null <;> simp only [hs]
theorem xin_iff {i : Int32} {n : Nat} : xin i n = true ↔ vp_in i n := by
  rw [vp_in_iff]
  simp [xin]
theorem xbk_01 {base : Nat} {ex : Nat → Nat} {D : va_G} {cA : Nat → ClassId} {H00 : Heap} {S : xS} {H : Heap} {x : Int32} (hH : xhp base ex D cA H00 S H) (h : (x = 0 ∨ x = 1) ∨ xbk S x = true) : x = 0 ∨ x = 1 := by
  rcases h with h | h
  · exact h
  · unfold xbk at h
    obtain ⟨⟨⟨t, n, vs⟩, k⟩, h1, h2⟩ := List.any_eq_true.mp h
    have h1 := List.mem_zipIdx_iff_getElem?.mp h1
    dsimp only at h1 h2
    rw [Bool.and_eq_true] at h2
    obtain ⟨h2, h3⟩ := h2
    have ht : t = 1 := of_decide_eq_true h2
    obtain ⟨j, _, h4⟩ := List.any_eq_true.mp h3
    have hx : S.2 k j = x := of_decide_eq_true h4
    subst ht
    rw [← hx]
    exact ((hH.2.1 k 1 n vs h1).2.1 rfl).1 j
theorem xbk_of {sh : List (Nat × Nat × List Value)} {σ : Nat → Nat → Int32} {k i n : Nat} {vs : List Value} (h : sh[k]? = some (1, n, vs)) (hi : i < n) : xbk (sh, σ) (σ k i) = true := by
  unfold xbk
  refine List.any_eq_true.mpr ⟨((1, n, vs), k), List.mem_zipIdx_iff_getElem?.mpr h, ?_⟩
  rw [Bool.and_eq_true]
  exact ⟨decide_eq_true rfl, List.any_eq_true.mpr ⟨i, List.mem_range.mpr hi, decide_eq_true rfl⟩⟩
