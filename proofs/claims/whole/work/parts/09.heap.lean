theorem xfits {ty : FieldType} {a b : Nat} (h : fits ty (.ref a) = true) : fits ty (.ref b) = true := by cases ty <;> first | exact h | rfl
theorem xnarr {ty : FieldType} (b : Nat) : narrow ty (.ref b) = .ref b := by cases ty <;> rfl
theorem xn01 {x : Int32} (h : x = 0 ∨ x = 1) : narrow .boolean (.int x) = .int x ∧ fits .boolean (.int x) = true := by
  rcases h with rfl | rfl <;> decide
section XH
variable {p : Program} {l : Launch} {e : Env} {R : Room} {s : State} {m : MethodId} {args : Array Value} {below : List Frame} {meth : Method} {c : Code} {H : Heap} {locs : List Loc} {cells slots : Nat} {Q : State → Prop}
variable {base : Nat} {ex : Nat → Nat} {D : va_G} {cA : Nat → ClassId} {H00 : Heap} {X : xX} {Z : State → Prop} {id pc : Nat} {arr : Array Slot} {rest : List Value} {S S' : xS}
theorem xg_get {j k ci f pl : Nat} {b d : Bool} {v : Value} (F : xfx base ex D cA H00 X Z p R s m args meth c id) (hH : xhp base ex D cA H00 S H) (hd : decode (xbc id) pc = .ok (.getfield j, 3)) (hf : xfld (xown id) j = some (ci, f, b, d, pl)) (hg : xgf S k ci f = some v)
    (kk : W p l e R s m args below meth c H locs cells slots Q (F0 m (pc + 3) arr (xtv base ex v :: rest))) : W p l e R s m args below meth c H locs cells slots Q (F0 m pc arr (.ref (base + k) :: rest)) := by
  obtain ⟨hx, hb, hr, hml, hown, hts, hkw, hlk, hnm, hrf, hrl⟩ := F
  obtain ⟨C, T, N, hc, hfN, hn1, hn2, -, -⟩ := xk_fldw hf
  obtain ⟨hC, hinst, hlay, hdecl, hpar, hne, -⟩ := xk_clw hc
  unfold xgf at hg
  split at hg
  · rename_i t n vs hS
    split at hg
    · rename_i ht
      obtain ⟨C', T', hc', hvs, cell, q1, q2, q3, q4⟩ := (hH.2.1 k t n vs hS).2.2.2 ci ht
      rw [hc] at hc'
      cases hc'
      obtain ⟨hSl, hfc, kC, hkC, hkind⟩ := hkw.1.1 ci _ hc
      obtain ⟨cf, kf, fi, fd, hi, hsl⟩ := hSl f hfN
      have hi2 : s.fieldFound? C (T f).2.1 (T f).2.2.1 = some (cf, kf, fi, fd) := by
        have := hi
        dsimp only at this
        rwa [hdecl f hfN] at this
      have hst := (u_facts hfc hkC (u_lays hts hlay hfN) hi).1
      have hv : cell.slots[fd.slot]? = some (xtv base ex v) := by
        rw [hsl, q4 f hfN]
        congr 1
        have hl : f < vs.length := by omega
        rw [List.getElem?_eq_getElem hl] at hg
        dsimp only
        rw [List.getD_eq_getElem?_getD, List.getElem?_eq_getElem hl]
        show xtv base ex (xfv S.2 k f vs[f]) = _
        cases hvf : vs[f] <;> rw [hvf] at hg <;> simp only [Option.some.injEq, reduceCtorEq] at hg <;> subst hg <;> rfl
      cases b with
      | false => exact W.getf hx hb hown (hts _ (hn2 rfl)) hi2 hst q1 (by rw [q3]; exact fun h => by cases h) hv rfl rfl hd kk
      | true => exact va_Wgetf hx hb hown (va_Nw.use rfl (hkw.2.1 _ (hn1 rfl))) hi2 hst q1 (by rw [q3]; exact fun h => by cases h) hv rfl rfl hd kk
    · cases hg
  · cases hg
theorem xhp_upd {k t n : Nat} {vs : List Value} {H' : Heap} (hH : xhp base ex D cA H00 S H) (hS : S.1[k]? = some (t, n, vs)) (z : H'.size = H.size) (oq : ∀ q : Nat, q ≠ base + k → H'[q]? = H[q]?) {σ' : Nat → Nat → Int32} (hσ : ∀ a j, a ≠ k → σ' a j = S.2 a j) {vs' : List Value} (he : xce base ex D cA σ' H' k t n vs') : xhp base ex D cA H00 (S.1.set k (t, n, vs'), σ') H' := by
  have hl := (List.getElem?_eq_some_iff.mp hS).1
  refine ⟨by rw [z, hH.1]; simp, fun k' t' n' vs'' h => ?_, fun q hq => ?_⟩
  · by_cases hk : k' = k
    · subst hk
      dsimp only at h
      rw [List.getElem?_set_self hl] at h
      cases h
      exact he
    · dsimp only at h
      rw [List.getElem?_set_ne (Ne.symm hk)] at h
      exact xce_kept (hH.2.1 k' t' n' vs'' h) (oq _ (by omega)) (fun j => hσ k' j hk)
  · rw [oq q (by omega)]; exact hH.2.2 q hq
theorem xset_self {α : Type} {l : List α} {k : Nat} {x : α} (h : l[k]? = some x) : l.set k x = l := by
  obtain ⟨hl, e⟩ := List.getElem?_eq_some_iff.mp h
  subst e
  simp
theorem xg_put {j k ci f pl : Nat} {x : Int32} (F : xfx base ex D cA H00 X Z p R s m args meth c id) (hH : xhp base ex D cA H00 S H) (hL : ∀ q ∈ locs, base ≤ q.base) (hd : decode (xbc id) pc = .ok (.putfield j, 3)) (hf : xfld (xown id) j = some (ci, f, false, true, pl)) (hg : xpf S k ci f x = some S')
    (kk : ∀ (H' : Heap) (locs' : List Loc), xhp base ex D cA H00 S' H' → (∀ q ∈ locs', base ≤ q.base) → W p l e R s m args below meth c H' locs' cells slots Q (F0 m (pc + 3) arr rest)) : W p l e R s m args below meth c H locs cells slots Q (F0 m pc arr (.int x :: .ref (base + k) :: rest)) := by
  obtain ⟨hx, hb, hr, hml, hown, hts, hkw, hlk, hnm, hrf, hrl⟩ := F
  obtain ⟨C, T, N, hc, hfN, -, hn2, hdat, -⟩ := xk_fldw hf
  obtain ⟨hC, hinst, hlay, hdecl, hpar, hne, -⟩ := xk_clw hc
  unfold xpf at hg
  split at hg
  · rename_i t n vs hS
    split at hg
    · rename_i ht
      split at hg
      · rename_i y hvf
        split at hg
        · cases hg
        · rename_i hz
          cases hg
          obtain ⟨C', T', hc', hvs, cell, q1, q2, q3, q4⟩ := (hH.2.1 k t n vs hS).2.2.2 ci ht
          rw [hc] at hc'
          cases hc'
          obtain ⟨hSl, hfc, kC, hkC, hkind⟩ := hkw.1.1 ci _ hc
          have hap := va_apart (own := C) hts hlay (xty ci) hpar hne hkw.1 hc
          obtain ⟨cf, kf, fi, fd, hi, hsl⟩ := hSl f hfN
          have hi2 : s.fieldFound? C (T f).2.1 (T f).2.2.1 = some (cf, kf, fi, fd) := by
            have := hi
            dsimp only at this
            rwa [hdecl f hfN] at this
          have hst := (u_facts hfc hkC (u_lays hts hlay hfN) hi).1
          have hl1 := hts _ (hlay _ (u_in_lay hfN))
          unfold u_lay at hl1
          rw [if_neg (by rw [(hdat rfl).1]; decide)] at hl1
          have hnf : narrow (xty ci f) (.int x) = .int x ∧ fits (xty ci f) (.int x) = true := by
            rcases (hdat rfl).2 with h | ⟨h, h2⟩
            · rw [h]; exact ⟨rfl, rfl⟩
            · rw [h]
              refine xn01 ?_
              by_cases q : x = 0 ∨ x = 1
              · exact q
              · exact absurd ⟨h2, q⟩ hz
          have h6 := u_store hfc hkC hkind hl1 hi (hpar f hfN) hnf.1 hnf.2
          refine W.putK hx hb (f := fd) ⟨hown, hts _ (hn2 rfl), ⟨_, _, _, hi2⟩, hst⟩ (by rw [q2]; exact h6) q1 q3 (by rw [hsl]; exact k2_hasslot (q4 f hfN)) rfl rfl hd fun H' e1 e2 e3 => ?_
          rw [hsl] at e1
          refine kk H' _ ?_ (fun q hq => ?_)
          · have := xhp_upd (σ' := xup S.2 k f x) (vs' := vs) hH hS e2 e3 (fun a j h => by simp [xup, h]) ⟨fun h => by omega, fun h => by omega, fun h => by omega, fun ci' h => ?_⟩
            · rw [xset_self hS] at this; exact this
            · have : ci' = ci := by omega
              subst this
              refine ⟨C, T, hc, hvs, _, e1, q2, q3, fun j hj => ?_⟩
              rw [t_set q4 hap hfN (.int x) j hj]
              congr 1
              unfold updV
              dsimp only
              by_cases hjf : j = f
              · subst hjf
                rw [if_pos rfl, List.getD_eq_getElem?_getD, hvf]
                simp [xfv, xtv, xup]
              · rw [if_neg hjf]
                unfold xfv
                cases vs.getD j .null <;> simp [xup, hjf]
          · rcases List.mem_append.mp hq with h | h
            · exact hL q h
            · rw [List.mem_singleton.mp h]; show base ≤ base + k; omega
      · cases hg
    · cases hg
  · cases hg
theorem xg_putF {j k ci f pl a : Nat} (F : xfx base ex D cA H00 X Z p R s m args meth c id) (hH : xhp base ex D cA H00 S H) (hL : ∀ q ∈ locs, base ≤ q.base) (hd : decode (xbc id) pc = .ok (.putfield j, 3)) (hf : xfld (xown id) j = some (ci, f, false, false, pl)) (hini : (xy id).name = "<init>") (hco : ci = xown id) (hg : xpr S k ci f a = some S')
    (kk : ∀ (H' : Heap) (locs' : List Loc), xhp base ex D cA H00 S' H' → (∀ q ∈ locs', base ≤ q.base) → W p l e R s m args below meth c H' locs' cells slots Q (F0 m (pc + 3) arr rest)) : W p l e R s m args below meth c H locs cells slots Q (F0 m pc arr (.ref (base + a) :: .ref (base + k) :: rest)) := by
  obtain ⟨hx, hb, hr, hml, hown, hts, hkw, hlk, hnm, hrf, hrl⟩ := F
  obtain ⟨C, T, N, hc, hfN, -, hn2, -, hdat⟩ := xk_fldw hf
  obtain ⟨hC, hinst, hlay, hdecl, hpar, hne, -⟩ := xk_clw hc
  unfold xpr at hg
  split at hg
  · rename_i t n vs hS
    split at hg
    · rename_i ht
      split at hg
      · rename_i hvf
        cases hg
        obtain ⟨C', T', hc', hvs, cell, q1, q2, q3, q4⟩ := (hH.2.1 k t n vs hS).2.2.2 ci ht
        rw [hc] at hc'
        cases hc'
        obtain ⟨hSl, hfc, kC, hkC, hkind⟩ := hkw.1.1 ci _ hc
        have hap := va_apart (own := C) hts hlay (xty ci) hpar hne hkw.1 hc
        obtain ⟨cf, kf, fi, fd, hi, hsl⟩ := hSl f hfN
        have hi2 : s.fieldFound? C (T f).2.1 (T f).2.2.1 = some (cf, kf, fi, fd) := by
          have := hi
          dsimp only at this
          rwa [hdecl f hfN] at this
        have hst := (u_facts hfc hkC (u_lays hts hlay hfN) hi).1
        have hl1 := hts _ (hlay _ (u_in_lay hfN))
        unfold u_lay at hl1
        rw [if_pos (hdat rfl).1] at hl1
        have hcf : m.cls = cf := by
          obtain ⟨_, _, c', _, _, _, -, -, hf', -, -, -, hown2, -⟩ := Cond.laysFinal_spec hl1
          have e1 : c' = cf := by have := hi.symm.trans hf'; simp at this; exact this.1.symm
          rw [hdecl f hfN, hC, hco] at hown2
          rw [← e1]; exact Option.some.inj (hown.symm.trans hown2)
        have h6 := u_fits (v := .ref (base + a)) hfc hkC hkind (Or.inr hl1) hi (hpar f hfN) (xnarr _) (xfits (hdat rfl).2.2)
        refine W.putFinK hx hb hown (hts _ (hn2 rfl)) hi2 hst hcf (by rw [hnm]; exact hini) (by rw [q2]; exact h6) q1 q3 (by rw [hsl]; exact k2_hasslot (q4 f hfN)) rfl rfl hd fun H' e1 e2 e3 => ?_
        rw [hsl] at e1
        have hfl : f < vs.length := (List.getElem?_eq_some_iff.mp hvf).1
        refine kk H' _ ?_ (fun q hq => ?_)
        · refine xhp_upd hH hS e2 e3 (fun _ _ _ => rfl) ⟨fun h => by omega, fun h => by omega, fun h => by omega, fun ci' h => ?_⟩
          have : ci' = ci := by omega
          subst this
          refine ⟨C, T, hc, by simpa using hvs, _, e1, q2, q3, fun j hj => ?_⟩
          rw [t_set q4 hap hfN (.ref (base + a)) j hj]
          congr 1
          unfold updV
          dsimp only
          by_cases hjf : j = f
          · subst hjf
            rw [if_pos rfl, List.getD_eq_getElem?_getD, List.getElem?_set_self hfl]
            rfl
          · rw [if_neg hjf, List.getD_eq_getElem?_getD, List.getD_eq_getElem?_getD, List.getElem?_set_ne (Ne.symm hjf)]
        · rcases List.mem_append.mp hq with h | h
          · exact hL q h
          · rw [List.mem_singleton.mp h]; show base ≤ base + k; omega
      · cases hg
    · cases hg
  · cases hg
end XH
