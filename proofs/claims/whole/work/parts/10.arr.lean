def xsz (sh : List (Nat × Nat × List Value)) : Nat := (sh.map (fun q => q.2.1)).sum
theorem xsz_app (sh : List (Nat × Nat × List Value)) (q : Nat × Nat × List Value) : xsz (sh ++ [q]) = xsz sh + q.2.1 := by simp [xsz]
theorem xupd_v (f : Nat → Int32) (k : Nat) (x : Int32) : updV (fun j => Value.int (f j)) k (.int x) = fun j => .int (if j = k then x else f j) := by
  funext j
  unfold updV
  by_cases h : j = k <;> simp [h]
section XA
variable {p : Program} {l : Launch} {e : Env} {R : Room} {s : State} {m : MethodId} {args : Array Value} {below : List Frame} {meth : Method} {c : Code} {H : Heap} {locs : List Loc} {cells slots : Nat} {Q : State → Prop}
variable {base : Nat} {ex : Nat → Nat} {D : va_G} {cA : Nat → ClassId} {H00 : Heap} {X : xX} {Z : State → Prop} {id pc : Nat} {arr : Array Slot} {rest : List Value} {S S' : xS}
theorem xal_inv {k t : Nat} {i v : Int32} (h : xal S k t i = some v) : ∃ n vs, S.1[k]? = some (t, n, vs) ∧ vp_in i n ∧ v = S.2 k i.toNatClampNeg := by
  unfold xal at h
  split at h
  · rename_i t' n vs hS
    split at h
    · rename_i hc
      obtain ⟨rfl, h2⟩ := hc
      exact ⟨n, vs, hS, xin_iff.mp h2, (Option.some.inj h).symm⟩
    · cases h
  · cases h
theorem xas_inv {k t : Nat} {i x : Int32} (h : xas S k t i x = some S') : ∃ n vs, S.1[k]? = some (t, n, vs) ∧ vp_in i n ∧ S' = (S.1, xup S.2 k i.toNatClampNeg x) := by
  unfold xas at h
  split at h
  · rename_i t' n vs hS
    split at h
    · rename_i hc
      obtain ⟨rfl, h2⟩ := hc
      exact ⟨n, vs, hS, xin_iff.mp h2, (Option.some.inj h).symm⟩
    · cases h
  · cases h
theorem xg_iald {k : Nat} {i v : Int32} (F : xfx base ex D cA H00 X Z p R s m args meth c id) (hH : xhp base ex D cA H00 S H) (hd : decode (xbc id) pc = .ok (.iaload, 1)) (hg : xal S k 0 i = some v)
    (kk : W p l e R s m args below meth c H locs cells slots Q (F0 m (pc + 1) arr (.int v :: rest))) : W p l e R s m args below meth c H locs cells slots Q (F0 m pc arr (.int i :: .ref (base + k) :: rest)) := by
  obtain ⟨hx, hb, hr, hml, hown, hts, hkw, hlk, hnm, hrf, hrl⟩ := F
  obtain ⟨n, vs, hS, hin, rfl⟩ := xal_inv hg
  have hc := (hH.2.1 k 0 n vs hS).1 rfl
  have hlt : i.toNatClampNeg < n := Nat.not_le.mp fun q => hin (Or.inr q)
  exact W.iald (v := .int (S.2 k i.toNatClampNeg)) hx hb hc ((hkw.1.2 0 _ rfl).1 n _) (fun q => by cases q) (by rw [arrV_size]; exact hin) (by rw [arrV_read _ _ hlt]) rfl rfl hd kk
theorem xg_zald {k : Nat} {i v : Int32} (F : xfx base ex D cA H00 X Z p R s m args meth c id) (hH : xhp base ex D cA H00 S H) (hd : decode (xbc id) pc = .ok (.baload, 1)) (hg : xal S k 1 i = some v)
    (kk : W p l e R s m args below meth c H locs cells slots Q (F0 m (pc + 1) arr (.int v :: rest))) : W p l e R s m args below meth c H locs cells slots Q (F0 m pc arr (.int i :: .ref (base + k) :: rest)) := by
  obtain ⟨hx, hb, hr, hml, hown, hts, hkw, hlk, hnm, hrf, hrl⟩ := F
  obtain ⟨n, vs, hS, hin, rfl⟩ := xal_inv hg
  have hc := ((hH.2.1 k 1 n vs hS).2.1 rfl).2
  have hP : va_P D xcl [(base + k, .inl (cA 1, n, .inl (S.2 k)))] H := by
    intro k' q hq
    have hz : k' < 1 := (List.getElem?_eq_some_iff.mp hq).1
    rw [show k' = 0 by omega] at hq
    cases hq
    exact hc
  exact va_zald hx hb hkw.1 hP 0 1 rfl rfl hin hd kk
theorem xg_iast {k : Nat} {i x : Int32} (F : xfx base ex D cA H00 X Z p R s m args meth c id) (hH : xhp base ex D cA H00 S H) (hL : ∀ q ∈ locs, base ≤ q.base) (hd : decode (xbc id) pc = .ok (.iastore, 1)) (hg : xas S k 0 i x = some S')
    (kk : ∀ (H' : Heap) (locs' : List Loc), xhp base ex D cA H00 S' H' → (∀ q ∈ locs', base ≤ q.base) → W p l e R s m args below meth c H' locs' cells slots Q (F0 m (pc + 1) arr rest)) : W p l e R s m args below meth c H locs cells slots Q (F0 m pc arr (.int x :: .int i :: .ref (base + k) :: rest)) := by
  obtain ⟨hx, hb, hr, hml, hown, hts, hkw, hlk, hnm, hrf, hrl⟩ := F
  obtain ⟨n, vs, hS, hin, rfl⟩ := xas_inv hg
  have hc := (hH.2.1 k 0 n vs hS).1 rfl
  refine W.iast hx hb hc ((hkw.1.2 0 _ rfl).1 n _) (fun q => by cases q) (by rw [arrV_size]; exact hin) rfl rfl hd fun H' e1 z oq => ?_
  rw [arrV_store, xupd_v] at e1
  refine kk H' _ ?_ (fun q hq => ?_)
  · have := xhp_upd (σ' := xup S.2 k i.toNatClampNeg x) (vs' := vs) hH hS z oq (fun a j h => by simp [xup, h]) ⟨fun _ => ?_, fun h => by omega, fun h => by omega, fun ci h => by omega⟩
    · rw [xset_self hS] at this; exact this
    · rw [e1]; simp [xup]
  · rcases List.mem_append.mp hq with h | h
    · exact hL q h
    · rw [List.mem_singleton.mp h]; show base ≤ base + k; omega
theorem xg_zast {k : Nat} {i x : Int32} (F : xfx base ex D cA H00 X Z p R s m args meth c id) (hH : xhp base ex D cA H00 S H) (hL : ∀ q ∈ locs, base ≤ q.base) (hd : decode (xbc id) pc = .ok (.bastore, 1)) (hx01 : x = 0 ∨ x = 1) (hg : xas S k 1 i x = some S')
    (kk : ∀ (H' : Heap) (locs' : List Loc), xhp base ex D cA H00 S' H' → (∀ q ∈ locs', base ≤ q.base) → W p l e R s m args below meth c H' locs' cells slots Q (F0 m (pc + 1) arr rest)) : W p l e R s m args below meth c H locs cells slots Q (F0 m pc arr (.int x :: .int i :: .ref (base + k) :: rest)) := by
  obtain ⟨hx, hb, hr, hml, hown, hts, hkw, hlk, hnm, hrf, hrl⟩ := F
  obtain ⟨n, vs, hS, hin, rfl⟩ := xas_inv hg
  have hc := (hH.2.1 k 1 n vs hS).2.1 rfl
  refine W.zast hx hb hc.2 ((hkw.1.2 1 _ rfl).1 n _) (fun q => by cases q) (by rw [arrV_size]; exact hin) rfl rfl hd fun H' e1 z oq => ?_
  rw [(xn01 hx01).1, arrV_store, xupd_v] at e1
  refine kk H' _ ?_ (fun q hq => ?_)
  · have := xhp_upd (σ' := xup S.2 k i.toNatClampNeg x) (vs' := vs) hH hS z oq (fun a j h => by simp [xup, h]) ⟨fun h => by omega, fun _ => ⟨fun j => ?_, ?_⟩, fun h => by omega, fun ci h => by omega⟩
    · rw [xset_self hS] at this; exact this
    · unfold xup
      by_cases q : k = k ∧ j = i.toNatClampNeg
      · rw [if_pos q]; exact hx01
      · rw [if_neg q]; exact hc.1 j
    · rw [e1]; simp [xup]
  · rcases List.mem_append.mp hq with h | h
    · exact hL q h
    · rw [List.mem_singleton.mp h]; show base ≤ base + k; omega
theorem xg_aald {k : Nat} {i : Int32} {v : Value} (F : xfx base ex D cA H00 X Z p R s m args meth c id) (hH : xhp base ex D cA H00 S H) (hd : decode (xbc id) pc = .ok (.aaload, 1)) (hg : xaq S k i = some v)
    (kk : W p l e R s m args below meth c H locs cells slots Q (F0 m (pc + 1) arr (xtv base ex v :: rest))) : W p l e R s m args below meth c H locs cells slots Q (F0 m pc arr (.int i :: .ref (base + k) :: rest)) := by
  obtain ⟨hx, hb, hr, hml, hown, hts, hkw, hlk, hnm, hrf, hrl⟩ := F
  unfold xaq at hg
  split at hg
  · rename_i t n vs hS
    split at hg
    · rename_i hc
      obtain ⟨rfl, h2⟩ := hc
      have hin := xin_iff.mp h2
      obtain ⟨hvl, hc⟩ := (hH.2.1 k 2 n vs hS).2.2.1 rfl
      have hlt : i.toNatClampNeg < n := Nat.not_le.mp fun q => hin (Or.inr q)
      split at hg
      · rename_i a ha
        cases hg
        exact W.aald (v := .ref (base + a)) (ty := .object "KineticCup$Image") hx hb hc ((hkw.1.2 2 _ rfl).1 n _) rfl (fun q => by cases q) (by rw [arrV_size]; exact hin) (by rw [arrV_read _ _ hlt, List.getD_eq_getElem?_getD, ha]; rfl) rfl rfl hd kk
      · cases hg
    · cases hg
  · cases hg
theorem xg_aast {k a : Nat} {i : Int32} (F : xfx base ex D cA H00 X Z p R s m args meth c id) (hH : xhp base ex D cA H00 S H) (hL : ∀ q ∈ locs, base ≤ q.base) (hd : decode (xbc id) pc = .ok (.aastore, 1)) (hg : xaw S k i a = some S')
    (kk : ∀ (H' : Heap) (locs' : List Loc), xhp base ex D cA H00 S' H' → (∀ q ∈ locs', base ≤ q.base) → W p l e R s m args below meth c H' locs' cells slots Q (F0 m (pc + 1) arr rest)) : W p l e R s m args below meth c H locs cells slots Q (F0 m pc arr (.ref (base + a) :: .int i :: .ref (base + k) :: rest)) := by
  obtain ⟨hx, hb, hr, hml, hown, hts, hkw, hlk, hnm, hrf, hrl⟩ := F
  unfold xaw at hg
  split at hg
  · rename_i t n vs hS
    split at hg
    · rename_i hc
      obtain ⟨rfl, h2, hvn⟩ := hc
      have hin := xin_iff.mp h2
      obtain ⟨hvl, hc⟩ := (hH.2.1 k 2 n vs hS).2.2.1 rfl
      have hlt : i.toNatClampNeg < n := Nat.not_le.mp fun q => hin (Or.inr q)
      have h0 : ¬ i < 0 := fun q => hin (Or.inl q)
      split at hg
      · rename_i t' n' vs' hA
        split at hg
        · rename_i ht'
          subst ht'
          cases hg
          obtain ⟨C, T, hC, -, cellV, g1, g2, g3, -⟩ := (hH.2.1 a 4 n' vs' hA).2.2.2 1 rfl
          have hCn : C = "KineticCup$Image" := (xk_clw hC).1
          have hcls := (hkw.1.1 1 _ hC).2
          rw [hCn] at hcls
          obtain ⟨kA, comp, k1, k2, k3, -⟩ := (hkw.1.2 2 _ rfl).2
          have hcomp : comp = D.1 1 := Option.some.inj (k3.symm.trans hcls.1)
          subst hcomp
          obtain ⟨kC, hkC, hkd⟩ := hcls.2
          refine W.aast hx hb hc (fun q h => by cases h) (fun h => by cases h) k1 k2 rfl hkC ⟨h0, by rw [arrV_size]; exact hlt⟩ g1 (fun q h => by rw [g3] at h; cases h) (by rw [g2]; exact hkC) (by rw [g2]; exact va_assign hcls) rfl rfl hd fun H' e1 z oq => ?_
          rw [arrV_store] at e1
          refine kk H' _ ?_ (fun q hq => ?_)
          · refine xhp_upd hH hS z oq (fun _ _ _ => rfl) ⟨fun h => by omega, fun h => by omega, fun _ => ⟨by simpa using hvl, ?_⟩, fun ci h => by omega⟩
            rw [e1]
            congr 2
            funext j
            unfold updV
            dsimp only
            by_cases hj : j = i.toNatClampNeg
            · subst hj
              rw [if_pos rfl, List.getD_eq_getElem?_getD, List.getElem?_set_self (by omega)]
              rfl
            · rw [if_neg hj, List.getD_eq_getElem?_getD, List.getD_eq_getElem?_getD, List.getElem?_set_ne (Ne.symm hj)]
          · rcases List.mem_append.mp hq with h | h
            · exact hL q h
            · rw [List.mem_singleton.mp h]; show base ≤ base + k; omega
        · cases hg
      · cases hg
    · cases hg
  · cases hg
theorem xg_alen {k : Nat} {v : Int32} (F : xfx base ex D cA H00 X Z p R s m args meth c id) (hH : xhp base ex D cA H00 S H) (hd : decode (xbc id) pc = .ok (.arraylength, 1)) (hg : xle S k = some v)
    (kk : W p l e R s m args below meth c H locs cells slots Q (F0 m (pc + 1) arr (.int v :: rest))) : W p l e R s m args below meth c H locs cells slots Q (F0 m pc arr (.ref (base + k) :: rest)) := by
  obtain ⟨hx, hb, hr, hml, hown, hts, hkw, hlk, hnm, hrf, hrl⟩ := F
  unfold xle at hg
  split at hg
  · rename_i t n vs hS
    split at hg
    · rename_i ht
      cases hg
      obtain ⟨a0, a1, a2, -⟩ := hH.2.1 k t n vs hS
      have key : ∃ (f : Nat → Value) (t0 : Nat) (ty : FieldType), [(cA 0, FieldType.int), (cA 1, .boolean), (cA 2, .object "KineticCup$Image")][t0]? = some (cA t, ty) ∧ H[base + k]? = some (arrV (cA t) n f) := by
        rcases (by omega : t = 0 ∨ t = 1 ∨ t = 2) with rfl | rfl | rfl
        · exact ⟨_, 0, _, rfl, a0 rfl⟩
        · exact ⟨_, 1, _, rfl, (a1 rfl).2⟩
        · exact ⟨_, 2, _, rfl, (a2 rfl).2⟩
      obtain ⟨f, t0, ty, ht0, hc⟩ := key
      exact W.alen (n := Int32.ofNat n) hx hb hc ((hkw.1.2 t0 _ ht0).1 n f) (by rw [arrV_size] <;> rfl) rfl rfl hd kk
    · cases hg
  · cases hg
theorem xhp_new {H' : Heap} {t n : Nat} {vs : List Value} (hH : xhp base ex D cA H00 S H) (z : H'.size = H.size + 1) (o1 : ∀ q : Nat, q < H.size → H'[q]? = H[q]?) (he : xce base ex D cA (xzr S.2 S.1.length) H' S.1.length t n vs) : xhp base ex D cA H00 (S.1 ++ [(t, n, vs)], xzr S.2 S.1.length) H' := by
  refine ⟨by rw [z, hH.1]; simp; omega, fun k t' n' vs' h => ?_, fun q hq => ?_⟩
  · dsimp only at h
    by_cases hk : k < S.1.length
    · rw [List.getElem?_append_left hk] at h
      refine xce_kept (hH.2.1 k t' n' vs' h) (o1 _ (by rw [hH.1]; omega)) (fun j => ?_)
      simp [xzr, Nat.ne_of_lt hk]
    · rw [List.getElem?_append_right (by omega)] at h
      have hz : k - S.1.length < 1 := (List.getElem?_eq_some_iff.mp h).1
      have hk2 : k = S.1.length := by omega
      subst hk2
      rw [Nat.sub_self] at h
      cases h
      exact he
  · rw [o1 q (by rw [hH.1]; omega)]; exact hH.2.2 q hq
theorem xg_newo {j ci pl : Nat} (F : xfx base ex D cA H00 X Z p R s m args meth c id) (hH : xhp base ex D cA H00 S H) (hL : ∀ q ∈ locs, base ≤ q.base) (hd : decode (xbc id) pc = .ok (.new j, 3)) (hf : xnew (xown id) j = some (ci, pl)) (hg : xnwo S ci = some S') (hc : cells + 1 ≤ R.cells) (hz : slots + (xsz S'.1 - xsz S.1) ≤ R.slots)
    (kk : ∀ (H' : Heap), S'.1.length = S.1.length + 1 → xhp base ex D cA H00 S' H' → W p l e R s m args below meth c H' locs (cells + 1) (slots + (xsz S'.1 - xsz S.1)) Q (F0 m (pc + 3) arr (.ref (base + S.1.length) :: rest))) : W p l e R s m args below meth c H locs cells slots Q (F0 m pc arr rest) := by
  obtain ⟨hx, hb, hr, hml, hown, hts, hkw, hlk, hnm, hrf, hrl⟩ := F
  have hw := List.all_eq_true.mp xk_new _ (xlook hf)
  simp only [xkn, Bool.and_eq_true, decide_eq_true_eq] at hw
  obtain ⟨hw1, hci⟩ := hw
  have hcl : ∃ C T N, xcl[ci]? = some (C, T, N) := by
    have : ci < xcl.length := by rw [xk_cln]; exact hci
    exact ⟨_, _, _, List.getElem?_eq_getElem this⟩
  obtain ⟨C, T, N, hcl⟩ := hcl
  obtain ⟨hC, hinst, hlay, hdecl, hpar, hne, hbl, hdef, -⟩ := xk_clw hcl
  unfold xnwo at hg
  split at hg
  · rename_i vs hvs
    cases hg
    have hvs2 : xblank.getD ci [] = vs := by rw [List.getD_eq_getElem?_getD, hvs]; rfl
    rw [hvs2] at hbl hdef
    have hKn := hkw.1.1 ci _ hcl
    rw [xsz_app] at hz kk
    dsimp only at hz kk
    rw [Nat.add_sub_cancel_left, hbl] at hz kk
    refine W.newcK hx hb hown (by have := hts _ (xw_in hw1); rw [← hC] at this; exact this) (hts _ hinst) (by rw [hC]; exact hts _ (xk_init (by omega)).1) rfl hd hc hz hKn.2.1 hH.1 fun H' kC hkC e1 z1 o1 => ?_
    refine kk H' (by simp) (xhp_new (vs := vs) hH (by rw [z1, hH.1]) (by rw [hH.1]; exact o1) ⟨fun h => by omega, fun h => by omega, fun h => by omega, fun ci' h => ?_⟩)
    have : ci' = ci := by omega
    subst this
    refine ⟨C, T, hcl, hbl, (u_born (xty ci') hts hlay hKn hkC e1 hpar).to (fun k hk => ?_)⟩
    rw [hdef k hk]
    have hk2 : k < vs.length := by omega
    rw [List.getD_eq_getElem?_getD, List.getElem?_eq_getElem hk2]
    have hb2 : ∀ (ci : Nat) (v : Value) (k : Nat), (xblank.getD ci [])[k]? = some v → v = .null ∨ v = .int 0 := by
      intro ci v k h
      have hall : xblank.all (fun l => l.all (fun v => decide (v = .null ∨ v = .int 0))) = true := by decide +kernel
      by_cases hci : ci < xblank.length
      · rw [List.getD_eq_getElem?_getD, List.getElem?_eq_getElem hci] at h
        have h2 := List.all_eq_true.mp hall _ (List.getElem_mem hci)
        have h3 := List.all_eq_true.mp h2 v (List.mem_of_getElem? h)
        simpa using h3
      · rw [List.getD_eq_getElem?_getD, show xblank[ci]? = none from List.getElem?_eq_none (by omega)] at h
        cases h
    have h4 := hb2 ci' vs[k] k (by rw [hvs2, List.getElem?_eq_getElem hk2])
    simp only [Option.getD_some]
    rcases h4 with h4 | h4
    · rw [h4]; rfl
    · rw [h4]; simp [xfv, xtv, xzr]
  · cases hg
end XA
