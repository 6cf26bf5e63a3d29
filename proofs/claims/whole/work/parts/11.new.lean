theorem xn4000 {n : Int32} (h : 0 ≤ n ∧ n ≤ 4000) : ¬ n < 0 ∧ n.toNatClampNeg ≤ 4000 := by
  obtain ⟨h1, h2⟩ := h
  rw [Int32.le_iff_toInt_le] at h1 h2
  refine ⟨fun q => ?_, ?_⟩
  · rw [Int32.lt_iff_toInt_lt] at q
    omega
  · show n.toInt.toNat ≤ 4000
    have e4 : (4000 : Int32).toInt = 4000 := by decide
    rw [e4] at h2
    omega
section XB
variable {p : Program} {l : Launch} {e : Env} {R : Room} {s : State} {m : MethodId} {args : Array Value} {below : List Frame} {meth : Method} {c : Code} {H : Heap} {locs : List Loc} {cells slots : Nat} {Q : State → Prop}
variable {base : Nat} {ex : Nat → Nat} {D : va_G} {cA : Nat → ClassId} {H00 : Heap} {X : xX} {Z : State → Prop} {id pc : Nat} {arr : Array Slot} {rest : List Value} {S S' : xS}
theorem xg_newI {n : Int32} (F : xfx base ex D cA H00 X Z p R s m args meth c id) (hH : xhp base ex D cA H00 S H) (hd : decode (xbc id) pc = .ok (.newarray .int, 2)) (hg : xnwa S 0 n = some S') (hc : cells + 1 ≤ R.cells) (hz : slots + (xsz S'.1 - xsz S.1) ≤ R.slots)
    (kk : ∀ (H' : Heap), S'.1.length = S.1.length + 1 → xhp base ex D cA H00 S' H' → W p l e R s m args below meth c H' locs (cells + 1) (slots + (xsz S'.1 - xsz S.1)) Q (F0 m (pc + 2) arr (.ref (base + S.1.length) :: rest))) : W p l e R s m args below meth c H locs cells slots Q (F0 m pc arr (.int n :: rest)) := by
  obtain ⟨hx, hb, hr, hml, hown, hts, hkw, hlk, hnm, hrf, hrl⟩ := F
  unfold xnwa at hg
  split at hg
  · rename_i hn
    cases hg
    obtain ⟨hn0, hn4⟩ := xn4000 hn
    rw [xsz_app] at hz kk
    dsimp only at hz kk
    rw [Nat.add_sub_cancel_left] at hz kk
    refine va_newaK (atype := .int) hx hb (hts _ (xw_in xk_arI)) rfl hd rfl hn0 rfl (by show _ * 4 ≤ _; omega) hc hz hH.1 fun H' cI e1 z1 o1 _ hfc => ?_
    have hcI : cI = cA 0 := by
      have h2 : s.vm.findClass ("[" ++ FieldType.int.toString) = some (cA 0) := (hkw.1.2 0 _ rfl).2
      exact Option.some.inj (hfc.symm.trans h2)
    subst hcI
    refine kk H' (by simp) (xhp_new hH (by rw [z1, hH.1]) (by rw [hH.1]; exact o1) ⟨fun _ => ?_, fun h => by omega, fun h => by omega, fun ci' h => by omega⟩)
    rw [e1]
    congr 2
    funext j
    simp [xzr]
    rfl
  · cases hg
theorem xg_newZ {n : Int32} (F : xfx base ex D cA H00 X Z p R s m args meth c id) (hH : xhp base ex D cA H00 S H) (hd : decode (xbc id) pc = .ok (.newarray .boolean, 2)) (hg : xnwa S 1 n = some S') (hc : cells + 1 ≤ R.cells) (hz : slots + (xsz S'.1 - xsz S.1) ≤ R.slots)
    (kk : ∀ (H' : Heap), S'.1.length = S.1.length + 1 → xhp base ex D cA H00 S' H' → W p l e R s m args below meth c H' locs (cells + 1) (slots + (xsz S'.1 - xsz S.1)) Q (F0 m (pc + 2) arr (.ref (base + S.1.length) :: rest))) : W p l e R s m args below meth c H locs cells slots Q (F0 m pc arr (.int n :: rest)) := by
  obtain ⟨hx, hb, hr, hml, hown, hts, hkw, hlk, hnm, hrf, hrl⟩ := F
  unfold xnwa at hg
  split at hg
  · rename_i hn
    cases hg
    obtain ⟨hn0, hn4⟩ := xn4000 hn
    rw [xsz_app] at hz kk
    dsimp only at hz kk
    rw [Nat.add_sub_cancel_left] at hz kk
    refine va_newaK (atype := .boolean) hx hb (hts _ (xw_in xk_arZ)) rfl hd rfl hn0 rfl (by show _ * 1 ≤ _; omega) hc hz hH.1 fun H' cI e1 z1 o1 _ hfc => ?_
    have hcI : cI = cA 1 := by
      have h2 : s.vm.findClass ("[" ++ FieldType.boolean.toString) = some (cA 1) := (hkw.1.2 1 _ rfl).2
      exact Option.some.inj (hfc.symm.trans h2)
    subst hcI
    refine kk H' (by simp) (xhp_new hH (by rw [z1, hH.1]) (by rw [hH.1]; exact o1) ⟨fun h => by omega, fun _ => ⟨fun j => Or.inl (by simp [xzr]), ?_⟩, fun h => by omega, fun ci' h => by omega⟩)
    rw [e1]
    congr 2
    funext j
    simp [xzr]
    rfl
  · cases hg
theorem xg_newQ {j pl : Nat} {n : Int32} (F : xfx base ex D cA H00 X Z p R s m args meth c id) (hH : xhp base ex D cA H00 S H) (hd : decode (xbc id) pc = .ok (.anewarray j, 3)) (hf : xnew (xown id) j = some (1, pl)) (hg : xnwq S n = some S') (hc : cells + 1 ≤ R.cells) (hz : slots + (xsz S'.1 - xsz S.1) ≤ R.slots)
    (kk : ∀ (H' : Heap), S'.1.length = S.1.length + 1 → xhp base ex D cA H00 S' H' → W p l e R s m args below meth c H' locs (cells + 1) (slots + (xsz S'.1 - xsz S.1)) Q (F0 m (pc + 3) arr (.ref (base + S.1.length) :: rest))) : W p l e R s m args below meth c H locs cells slots Q (F0 m pc arr (.int n :: rest)) := by
  obtain ⟨hx, hb, hr, hml, hown, hts, hkw, hlk, hnm, hrf, hrl⟩ := F
  have hw := List.all_eq_true.mp xk_new _ (xlook hf)
  simp only [xkn, Bool.and_eq_true, decide_eq_true_eq] at hw
  unfold xnwq at hg
  split at hg
  · rename_i hn
    cases hg
    obtain ⟨hn0, hn4⟩ := xn4000 hn
    rw [xsz_app] at hz kk
    dsimp only at hz kk
    rw [Nat.add_sub_cancel_left] at hz kk
    refine W.anew (C := "KineticCup$Image") hx hb hown (hts _ (xw_in hw.1)) (va_AO.use hkw.2.2.1) rfl hd rfl hn0 (by omega) hc hz fun cI kA comp f1 f2 f3 f4 => ?_
    have hcI : cI = cA 2 := by
      obtain ⟨_, _, -, -, -, h2⟩ := (hkw.1.2 2 _ rfl).2
      exact Option.some.inj (f1.symm.trans h2)
    subst hcI
    have hsz := hH.1
    have e1 : (H.push ({ cls := cA 2, slots := Array.replicate n.toNatClampNeg .null, vm := .none } : Cell))[H.size]? = some (arrV (cA 2) n.toNatClampNeg (fun _ => .null)) := by rw [Array.getElem?_push_size, ← arrV_new]
    have o1 : ∀ q : Nat, q < H.size → (H.push ({ cls := cA 2, slots := Array.replicate n.toNatClampNeg .null, vm := .none } : Cell))[q]? = H[q]? := fun q hq => by rw [Array.getElem?_push, if_neg (Nat.ne_of_lt hq)]
    have z1 : (H.push ({ cls := cA 2, slots := Array.replicate n.toNatClampNeg .null, vm := .none } : Cell)).size = H.size + 1 := by rw [Array.size_push]
    rw [show H.size = base + S.1.length from hsz]
    refine kk _ (by simp) (xhp_new hH z1 o1 ⟨fun h => by omega, fun h => by omega, fun _ => ⟨by simp, ?_⟩, fun ci' h => by omega⟩)
    rw [← hsz, e1]
    congr 2
    funext j
    by_cases hj : j < n.toNatClampNeg
    · simp [List.getD_eq_getElem?_getD, List.getElem?_replicate, hj, xtv]
    · simp [List.getD_eq_getElem?_getD, List.getElem?_replicate, hj, xtv]
  · cases hg
theorem xcats (r : List Value) : ((r.map (xtv base ex)).map fun v => v.category).sum = xcat r := by
  induction r with
  | nil => rfl
  | cons v r ih => simp only [List.map_cons, List.sum_cons, xcat, xtv_cat, ih]
theorem xg_copy {j k0 k1 p1 p2 p3 a b : Nat} {sp dp n : Int32} {r : List Value} (F : xfx base ex D cA H00 X Z p R s m args meth c id) (hH : xhp base ex D cA H00 S H) (hL : ∀ q ∈ locs, base ≤ q.base) (hsize : arr.size = xml id) (hd : decode (xbc id) pc = .ok (.invokestatic j, 3)) (hf : xmth (xown id) j = some (7, a, b, p1, p2, p3)) (hr8 : xcat r ≤ 8) (hf1 : 1 ≤ xrf id) (hf2 : 28 ≤ xrl id) (hg : xacp S k0 k1 sp dp n = some S')
    (kk : ∀ (H' : Heap) (locs' : List Loc), xhp base ex D cA H00 S' H' → (∀ q ∈ locs', base ≤ q.base) → W p l e R s m args below meth c H' locs' cells slots Q (F0 m (pc + 3) arr (r.map (xtv base ex)))) : W p l e R s m args below meth c H locs cells slots Q (F0 m pc arr (.int n :: .int dp :: .ref (base + k1) :: .int sp :: .ref (base + k0) :: r.map (xtv base ex))) := by
  obtain ⟨hx, hb, hr, hml, hown, hts, hkw, hlk, hnm, hrf, hrl⟩ := F
  have hw := List.all_eq_true.mp xk_mth _ (xlook hf)
  simp only [xkm, Bool.and_eq_true] at hw
  unfold xacp at hg
  split at hg
  · rename_i t0 n0 v0 t1 n1 v1 hS0 hS1
    split at hg
    · rename_i hc
      obtain ⟨rfl, ht2, h1, h2, h3, h4, h5⟩ := hc
      cases hg
      have nn : ∀ z : Int32, 0 ≤ z → ¬ z < 0 ∧ z.toInt = (z.toNatClampNeg : Int) := by
        intro z hz
        have hz0 : (0 : Int) ≤ z.toInt := by simpa using Int32.le_iff_toInt_le.mp hz
        refine ⟨fun q => ?_, ?_⟩
        · have := Int32.lt_iff_toInt_lt.mp q
          simp at this
          omega
        · show z.toInt = ((z.toInt.toNat : Nat) : Int)
          omega
      have key : ∃ (ty : FieldType), [(cA 0, FieldType.int), (cA 1, .boolean), (cA 2, .object "KineticCup$Image")][t0]? = some (cA t0, ty) ∧ refKind ty = false ∧ (∀ i, fits ty (.int (S.2 k0 i)) = true) ∧ H[base + k0]? = some (arrV (cA t0) n0 (fun j => .int (S.2 k0 j))) ∧ H[base + k1]? = some (arrV (cA t0) n1 (fun j => .int (S.2 k1 j))) := by
        rcases (by omega : t0 = 0 ∨ t0 = 1) with rfl | rfl
        · exact ⟨_, rfl, rfl, fun _ => rfl, (hH.2.1 _ _ _ _ hS0).1 rfl, (hH.2.1 _ _ _ _ hS1).1 rfl⟩
        · refine ⟨_, rfl, rfl, fun i => ?_, ((hH.2.1 _ _ _ _ hS0).2.1 rfl).2, ((hH.2.1 _ _ _ _ hS1).2.1 rfl).2⟩
          exact (xn01 (((hH.2.1 _ _ _ _ hS0).2.1 rfl).1 i)).2
      obtain ⟨ty, hty, hprim, hfit, hc0, hc1⟩ := key
      obtain ⟨-, kk0, hk0, cm0, hkk0⟩ := (hkw.1.2 t0 _ hty).1 n0 (fun j => .int (S.2 k0 j))
      intro T hT Y
      obtain ⟨vm', Y', step⟩ := Y.arraycopy hx hown (hts _ (xw_in hw.1)) (hts _ (xw_in xk_nat)) (hts _ (xw_in hw.2)) (hts _ (xw_in xk_sys)) (src := base + k0) (dst := base + k1) (cs := arrV (cA t0) n0 (fun j => .int (S.2 k0 j))) (cd := arrV (cA t0) n1 (fun j => .int (S.2 k1 j))) (srcPos := sp) (destPos := dp) (n := n) (by rw [hT]; exact hc0) (by rw [hT]; exact hc1)
        (fun _ h => by cases h) (fun _ h => by cases h) (fun h => by cases h) (fun h => by cases h) hk0 hk0 hkk0 hkk0 (by simp [hprim]) (nn sp h1).1 (nn dp h2).1 (nn n h3).1
        (by rw [(nn sp h1).2, (nn n h3).2, arrV_size]; omega)
        (by rw [(nn dp h2).2, (nn n h3).2, arrV_size]; omega)
        (fun vm₁ _ i hi => by
          have ee : (arrV (cA t0) n0 (fun j => .int (S.2 k0 j))).slots.getD (sp.toNatClampNeg + i) .null = .int (S.2 k0 (sp.toNatClampNeg + i)) := by
            rw [Array.getD_eq_getD_getElem?, arrV_read _ _ (by omega)]
            rfl
          rw [ee]
          exact ⟨hfit _, trivial⟩)
        (g := F0 m pc arr (.int n :: .int dp :: .ref (base + k1) :: .int sp :: .ref (base + k0) :: r.map (xtv base ex))) rfl (by rw [hml]; exact hsize) (rest := r.map (xtv base ex)) rfl (by rw [hb]; exact hd) (by omega) (by
          have e8 := xcats (base := base) (ex := ex) r
          have e18 : nativeFrameWords "java/lang/System" "arraycopy" 5 = 7 := by decide +kernel
          rw [e8, e18]
          show 2 * 0 + _ + _ ≤ _
          omega)
      have e1 : copied (arrV (cA t0) n0 (fun j => .int (S.2 k0 j))) (arrV (cA t0) n1 (fun j => .int (S.2 k1 j))) sp dp n = arrV (cA t0) n1 (fun j => .int (va_cpy (S.2 k0) (S.2 k1) sp.toNatClampNeg dp.toNatClampNeg n.toNatClampNeg j)) := va_copied (fun z => .int z) (cA t0) (cA t0) (S.2 k0) (S.2 k1) h4
      rw [e1] at Y' step
      have hl : base + k1 < H.size := (Array.getElem?_eq_some_iff.mp hc1).1
      have e2 : xcp S.2 k0 k1 sp.toNatClampNeg dp.toNatClampNeg n.toNatClampNeg k1 = va_cpy (S.2 k0) (S.2 k1) sp.toNatClampNeg dp.toNatClampNeg n.toNatClampNeg := by
        funext j
        simp [xcp, va_cpy]
      have hheap : ((T.setVm vm').setCell (base + k1) (arrV (cA t0) n1 (fun j => .int (va_cpy (S.2 k0) (S.2 k1) sp.toNatClampNeg dp.toNatClampNeg n.toNatClampNeg j)))).heap = H.setIfInBounds (base + k1) (arrV (cA t0) n1 (fun j => .int (va_cpy (S.2 k0) (S.2 k1) sp.toNatClampNeg dp.toNatClampNeg n.toNatClampNeg j))) := by rw [← hT]; rfl
      have hnew : (H.setIfInBounds (base + k1) (arrV (cA t0) n1 (fun j => .int (va_cpy (S.2 k0) (S.2 k1) sp.toNatClampNeg dp.toNatClampNeg n.toNatClampNeg j))))[base + k1]? = some (arrV (cA t0) n1 (fun j => .int (va_cpy (S.2 k0) (S.2 k1) sp.toNatClampNeg dp.toNatClampNeg n.toNatClampNeg j))) := by simp [Array.getElem?_setIfInBounds, hl]
      have hx2 := xhp_upd (H' := H.setIfInBounds (base + k1) (arrV (cA t0) n1 (fun j => .int (va_cpy (S.2 k0) (S.2 k1) sp.toNatClampNeg dp.toNatClampNeg n.toNatClampNeg j)))) (σ' := xcp S.2 k0 k1 sp.toNatClampNeg dp.toNatClampNeg n.toNatClampNeg) (vs' := v1) hH hS1 (by simp) (fun q hq => by simp [Array.getElem?_setIfInBounds, Ne.symm hq]) (fun a j h => by simp [xcp, h]) ⟨fun h => by rw [hnew, e2, h], fun h => ⟨fun j => by
          rw [e2]
          have b0 := ((hH.2.1 _ _ _ _ hS0).2.1 h).1
          have b1 := ((hH.2.1 _ _ _ _ hS1).2.1 h).1
          unfold va_cpy
          split
          · exact b0 _
          · exact b1 _, by rw [hnew, e2, h]⟩, fun h => by omega, fun ci h => by omega⟩
      rw [xset_self hS1] at hx2
      obtain ⟨t, a1, b1⟩ := kk _ _ hx2 (fun q hq => by
          rcases List.mem_append.mp hq with h | h
          · exact hL q h
          · obtain ⟨z, -, hz⟩ := List.mem_map.mp h
            rw [← hz]
            show base ≤ base + k1
            omega) _ hheap Y'
      exact ⟨t, step t a1, b1⟩
    · cases hg
  · cases hg
end XB
