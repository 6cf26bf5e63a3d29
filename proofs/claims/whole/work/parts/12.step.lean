def xstrR (l : Launch) (base : Nat) (ex : Nat → Nat) (D : va_G) (cA : Nat → ClassId) (H00 : Heap) (X : xX) (Z : State → Prop) : Prop :=
  (∀ (p : Program) (e : Env) (R : Room) (s : State) (m : MethodId) (args : Array Value) (below : List Frame) (meth : Method) (c : Code) (H : Heap) (locs : List Loc) (cells slots : Nat) (Q : State → Prop) (id pc j pl : Nat) (arr : Array Slot) (rest : List Value), xfx base ex D cA H00 X Z p R s m args meth c id → decode (xbc id) pc = .ok (.ldc j, 2) → xcst (xown id) j = some (.retAddr 1, pl) → W p l e R s m args below meth c H locs cells slots Q (F0 m (pc + 2) arr (.ref (ex 1) :: rest)) → W p l e R s m args below meth c H locs cells slots Q (F0 m pc arr rest)) ∧
  (∀ (p : Program) (e : Env) (R : Room) (s : State) (m : MethodId) (args : Array Value) (below : List Frame) (meth : Method) (c : Code) (H : Heap) (locs : List Loc) (cells slots : Nat) (Q : State → Prop) (id pc j a b p1 p2 p3 : Nat) (arr : Array Slot) (r : List Value) (S : xS) (i v : Int32), xfx base ex D cA H00 X Z p R s m args meth c id → xhp base ex D cA H00 S H → (∀ q ∈ locs, base ≤ q.base) → arr.size = xml id → decode (xbc id) pc = .ok (.invokevirtual j, 3) → xmth (xown id) j = some (8, a, b, p1, p2, p3) → xcat r ≤ 8 → 4 ≤ xrf id → 81 ≤ xrl id → xchr i = some v → cells ≤ R.cells → slots ≤ R.slots → (∀ (H' : Heap) (locs' : List Loc), xhp base ex D cA H00 S H' → (∀ q ∈ locs', base ≤ q.base) → W p l e R s m args below meth c H' locs' cells slots Q (F0 m (pc + 3) arr (.int v :: r.map (xtv base ex)))) → W p l e R s m args below meth c H locs cells slots Q (F0 m pc arr (.int i :: .ref (ex 1) :: r.map (xtv base ex))))
section XT
variable {p : Program} {l : Launch} {e : Env} {R : Room} {s : State} {m : MethodId} {args : Array Value} {below : List Frame} {meth : Method} {c : Code} {H : Heap} {locs : List Loc} {cells slots : Nat} {Q : State → Prop}
variable {base : Nat} {ex : Nat → Nat} {D : va_G} {cA : Nat → ClassId} {H00 : Heap} {X : xX} {Z : State → Prop} {id : Nat} {arr : Array Slot}
theorem xisI_inv {v : Value} (h : xisI v = true) : ∃ x, v = .int x := by cases v <;> first | exact ⟨_, rfl⟩ | cases h
theorem xisL_inv {v : Value} (h : xisL v = true) : ∃ x, v = .long x := by cases v <;> first | exact ⟨_, rfl⟩ | cases h
theorem xisA_inv {v : Value} (h : xisA v = true) : ∃ x, xtv base ex v = .ref x ∧ xbad v = false ∧ v.category = 1 := by cases v <;> first | exact ⟨_, rfl, rfl, rfl⟩ | cases h
theorem xbp {α β : Type} {o : Option α} {f : α → Option β} {b : β} (h : o.bind f = some b) : ∃ a, o = some a ∧ f a = some b := Option.bind_eq_some_iff.mp h
set_option maxHeartbeats 4000000 in
theorem xsim (hZ : xstrR l base ex D cA H00 X Z) {fr fr' : xF} (F : xfx base ex D cA H00 X Z p R s m args meth c id) (hs : xstep X id fr = some (.inl fr')) (hH : xhp base ex D cA H00 fr.2.2.2 H) (hL : ∀ q ∈ locs, base ≤ q.base) (hA : xlr base ex arr (xml id) fr.2.1)
    (hc : cells + (fr'.2.2.2.1.length - fr.2.2.2.1.length) ≤ R.cells) (hz : slots + (xsz fr'.2.2.2.1 - xsz fr.2.2.2.1) ≤ R.slots)
    (kk : ∀ (H' : Heap) (locs' : List Loc) (arr' : Array Slot) (c' z' : Nat), c' = cells + (fr'.2.2.2.1.length - fr.2.2.2.1.length) → z' = slots + (xsz fr'.2.2.2.1 - xsz fr.2.2.2.1) → xhp base ex D cA H00 fr'.2.2.2 H' → (∀ q ∈ locs', base ≤ q.base) → xlr base ex arr' (xml id) fr'.2.1 → W p l e R s m args below meth c H' locs' c' z' Q (F0 m fr'.1 arr' (fr'.2.2.1.map (xtv base ex)))) :
    W p l e R s m args below meth c H locs cells slots Q (F0 m fr.1 arr (fr.2.2.1.map (xtv base ex))) := by
  obtain ⟨pc, ls, st, S⟩ := fr
  have F' := F
  obtain ⟨hx, hb, hr, hml, hown, hts, hkw, hlk, hnm, hrf, hrl⟩ := F
  dsimp only at hH hA hc hz kk ⊢
  have hcap : xlr base ex arr (xml id) ls := hA
  obtain ⟨ha1, ha2, ha3, ha4⟩ := hA
  rw [xstep_s] at hs
  split at hs
  · rename_i i n hd
    split at hs
    · rename_i hn
      have pure : ∀ {pc' : Nat} {st' : List Value}, (pc', ls, st', S) = fr' → W p l e R s m args below meth c H locs cells slots Q (F0 m pc' arr (st'.map (xtv base ex))) := by
        rintro pc' st' rfl
        exact kk H locs arr cells slots (by simp) (by simp) hH hL hcap
      have pureS : ∀ {pc' : Nat} {st' : List Value} {S' : xS}, (pc', ls, st', S') = fr' → S'.1.length = S.1.length → xsz S'.1 = xsz S.1 → ∀ (H' : Heap) (locs' : List Loc), xhp base ex D cA H00 S' H' → (∀ q ∈ locs', base ≤ q.base) → W p l e R s m args below meth c H' locs' cells slots Q (F0 m pc' arr (st'.map (xtv base ex))) := by
        rintro pc' st' S' rfl h1 h2 H' locs' hH' hL'
        exact kk H' locs' arr cells slots (by simp [h1]) (by simp [h2]) hH' hL' hcap
      have ldI : ∀ {k : Nat} {x : Int32}, ls[k]? = some (.int x) → arr[k]? = some (Slot.val (.int x)) := fun h => ha4 _ _ h rfl
      have ldL : ∀ {k : Nat} {x : Int64}, ls[k]? = some (.long x) → arr[k]? = some (Slot.val (.long x)) := fun h => ha4 _ _ h rfl
      cases i
      case iconst k =>
        (have hn : n = 1 := hn); subst hn
        exact lv_iconst hx hb hd rfl (pure (xnx_inj hs))
      case bipush k =>
        (have hn : n = 2 := hn); subst hn
        exact lv_bipush hx hb hd rfl (pure (xnx_inj hs))
      case sipush k =>
        (have hn : n = 3 := hn); subst hn
        exact lv_sipush hx hb hd rfl (pure (xnx_inj hs))
      case lconst k =>
        (have hn : n = 1 := hn); subst hn
        exact lv_lconst hx hb hd rfl (pure (xnx_inj hs))
      case ldc k =>
        (have hn : n = 2 := hn); subst hn
        obtain ⟨⟨w, pl⟩, h1, h2⟩ := xbp hs
        dsimp only at h2
        split at h2
        · have hw := List.all_eq_true.mp xk_cst _ (xlook h1)
          exact lv_ldc hx hb hown (hts _ (xw_in hw)) hd (pure (xnx_inj h2))
        · exact hZ.1 _ _ _ _ _ _ _ _ _ _ _ _ _ _ _ _ _ _ _ _ F' hd h1 (pure (xnx_inj h2))
        · cases h2
      case ldc2_w k =>
        (have hn : n = 3 := hn); subst hn
        obtain ⟨⟨w, pl⟩, h1, h2⟩ := xbp hs
        dsimp only at h2
        split at h2
        · have hw := List.all_eq_true.mp xk_cst _ (xlook h1)
          exact lv_ldc2 hx hb hown (hts _ (xw_in hw)) hd (pure (xnx_inj h2))
        · cases h2
      case iload k =>
        (have hn : n = 2 := hn); subst hn
        obtain ⟨v, h1, h2, h3⟩ := xld_inv hs
        obtain ⟨x, rfl⟩ := xisI_inv h2
        exact lv_iload hx hb hd (ldI h1) (pure h3)
      case iload_n k =>
        (have hn : n = 1 := hn); subst hn
        obtain ⟨v, h1, h2, h3⟩ := xld_inv hs
        obtain ⟨x, rfl⟩ := xisI_inv h2
        exact lv_iload_n hx hb hd rfl (ldI h1) (pure h3)
      case lload k =>
        (have hn : n = 2 := hn); subst hn
        obtain ⟨v, h1, h2, h3⟩ := xld_inv hs
        obtain ⟨x, rfl⟩ := xisL_inv h2
        exact lv_lload hx hb hd (ldL h1) (pure h3)
      case lload_n k =>
        (have hn : n = 1 := hn); subst hn
        obtain ⟨v, h1, h2, h3⟩ := xld_inv hs
        obtain ⟨x, rfl⟩ := xisL_inv h2
        exact lv_lload_n hx hb hd rfl (ldL h1) (pure h3)
      case aload k =>
        (have hn : n = 2 := hn); subst hn
        obtain ⟨v, h1, h2, h3⟩ := xld_inv hs
        obtain ⟨x, e1, e2, -⟩ := xisA_inv (base := base) (ex := ex) h2
        have h5 := ha4 _ _ h1 e2
        rw [e1] at h5
        refine lv_aload hx hb hd h5 ?_
        rw [← e1]
        exact pure h3
      case aload_n k =>
        (have hn : n = 1 := hn); subst hn
        obtain ⟨v, h1, h2, h3⟩ := xld_inv hs
        obtain ⟨x, e1, e2, -⟩ := xisA_inv (base := base) (ex := ex) h2
        have h5 := ha4 _ _ h1 e2
        rw [e1] at h5
        refine lv_aload_n hx hb hd rfl h5 ?_
        rw [← e1]
        exact pure h3
      case istore k =>
        (have hn : n = 2 := hn); subst hn
        obtain ⟨v, r, rfl, h1, h2, rfl⟩ := xsto_inv hs
        obtain ⟨x, rfl⟩ := xisI_inv h1
        exact lv_istore hx hb hd (xlr_has hcap) (by omega) rfl fun ls' hl => kk H locs ls' cells slots (by simp) (by simp) hH hL (xlr_st1 (v := .int x) ha2 hl)
      case istore_n k =>
        (have hn : n = 1 := hn); subst hn
        obtain ⟨v, r, rfl, h1, h2, rfl⟩ := xsto_inv hs
        obtain ⟨x, rfl⟩ := xisI_inv h1
        exact lv_istore_n hx hb hd rfl (xlr_has hcap) (by omega) rfl fun ls' hl => kk H locs ls' cells slots (by simp) (by simp) hH hL (xlr_st1 (v := .int x) ha2 hl)
      case astore k =>
        (have hn : n = 2 := hn); subst hn
        obtain ⟨v, r, rfl, h1, h2, rfl⟩ := xsto_inv hs
        obtain ⟨x, e1, e2, -⟩ := xisA_inv (base := base) (ex := ex) h1
        rw [List.map_cons, e1]
        refine lv_astore hx hb hd (xlr_has hcap) (by omega) rfl fun ls' hl => kk H locs ls' cells slots (by simp) (by simp) hH hL (xlr_st1 (v := v) ha2 ?_)
        rw [e1]; exact hl
      case astore_n k =>
        (have hn : n = 1 := hn); subst hn
        obtain ⟨v, r, rfl, h1, h2, rfl⟩ := xsto_inv hs
        obtain ⟨x, e1, e2, -⟩ := xisA_inv (base := base) (ex := ex) h1
        rw [List.map_cons, e1]
        refine lv_astore_n hx hb hd rfl (xlr_has hcap) (by omega) rfl fun ls' hl => kk H locs ls' cells slots (by simp) (by simp) hH hL (xlr_st1 (v := v) ha2 ?_)
        rw [e1]; exact hl
      case lstore k =>
        (have hn : n = 2 := hn); subst hn
        obtain ⟨x, r, rfl, h2, rfl⟩ := xsto2_inv hs
        exact lv_lstore hx hb hd (xlr_has hcap) (by omega) rfl fun ls' hl => kk H locs ls' cells slots (by simp) (by simp) hH hL (xlr_st2 (v := .long x) ha2 hl)
      case lstore_n k =>
        (have hn : n = 1 := hn); subst hn
        obtain ⟨x, r, rfl, h2, rfl⟩ := xsto2_inv hs
        exact lv_lstore_n hx hb hd rfl (xlr_has hcap) (by omega) rfl fun ls' hl => kk H locs ls' cells slots (by simp) (by simp) hH hL (xlr_st2 (v := .long x) ha2 hl)
      case iinc k d =>
        (have hn : n = 3 := hn); subst hn
        simp only [xex] at hs
        split at hs
        · rename_i x hk
          have hkl : k < ls.length := (List.getElem?_eq_some_iff.mp hk).1
          cases xnx_inj hs
          obtain ⟨q, hq⟩ := List.getElem?_of_mem (xps_mem (base := base) (ex := ex).mpr ⟨.int x, hk, rfl, rfl⟩)
          exact lv_iinc hx hb hd (xlr_has hcap) hq rfl (by omega) rfl fun ls' hl => kk H locs ls' cells slots (by simp) (by simp) hH hL (xlr_st1 (v := .int (x + Int32.ofInt d)) ha2 hl)
        · cases hs
      case iadd => (have hn : n = 1 := hn); subst hn; obtain ⟨y, x, r, rfl, h⟩ := xbi_inv hs; exact lv_iadd hx hb hd (pure h)
      case isub => (have hn : n = 1 := hn); subst hn; obtain ⟨y, x, r, rfl, h⟩ := xbi_inv hs; exact lv_isub hx hb hd (pure h)
      case imul => (have hn : n = 1 := hn); subst hn; obtain ⟨y, x, r, rfl, h⟩ := xbi_inv hs; exact lv_imul hx hb hd (pure h)
      case iand => (have hn : n = 1 := hn); subst hn; obtain ⟨y, x, r, rfl, h⟩ := xbi_inv hs; exact lv_iand hx hb hd (pure h)
      case ior => (have hn : n = 1 := hn); subst hn; obtain ⟨y, x, r, rfl, h⟩ := xbi_inv hs; exact lv_ior hx hb hd (pure h)
      case ishl => (have hn : n = 1 := hn); subst hn; obtain ⟨y, x, r, rfl, h⟩ := xbi_inv hs; exact lv_ishl hx hb hd (pure h)
      case ishr => (have hn : n = 1 := hn); subst hn; obtain ⟨y, x, r, rfl, h⟩ := xbi_inv hs; exact lv_ishr hx hb hd (pure h)
      case ladd => (have hn : n = 1 := hn); subst hn; obtain ⟨y, x, r, rfl, h⟩ := xbl_inv hs; exact lv_ladd hx hb hd (pure h)
      case lsub => (have hn : n = 1 := hn); subst hn; obtain ⟨y, x, r, rfl, h⟩ := xbl_inv hs; exact lv_lsub hx hb hd (pure h)
      case lmul => (have hn : n = 1 := hn); subst hn; obtain ⟨y, x, r, rfl, h⟩ := xbl_inv hs; exact lv_lmul hx hb hd (pure h)
      case land => (have hn : n = 1 := hn); subst hn; obtain ⟨y, x, r, rfl, h⟩ := xbl_inv hs; exact lv_land hx hb hd (pure h)
      case lor => (have hn : n = 1 := hn); subst hn; obtain ⟨y, x, r, rfl, h⟩ := xbl_inv hs; exact lv_lor hx hb hd (pure h)
      case idiv =>
        (have hn : n = 1 := hn); subst hn
        simp only [xex] at hs
        split at hs
        · split at hs
          · cases hs
          · rename_i hy; exact lv_idiv hx hb hd hy (pure (xnx_inj hs))
        · cases hs
      case irem =>
        (have hn : n = 1 := hn); subst hn
        simp only [xex] at hs
        split at hs
        · split at hs
          · cases hs
          · rename_i hy; exact lv_irem hx hb hd hy (pure (xnx_inj hs))
        · cases hs
      case ldiv =>
        (have hn : n = 1 := hn); subst hn
        simp only [xex] at hs
        split at hs
        · split at hs
          · cases hs
          · rename_i hy; exact lv_ldiv hx hb hd hy (pure (xnx_inj hs))
        · cases hs
      case lrem =>
        (have hn : n = 1 := hn); subst hn
        simp only [xex] at hs
        split at hs
        · split at hs
          · cases hs
          · rename_i hy; exact lv_lrem hx hb hd hy (pure (xnx_inj hs))
        · cases hs
      case ineg =>
        (have hn : n = 1 := hn); subst hn
        simp only [xex] at hs
        split at hs
        · exact lv_ineg hx hb hd (pure (xnx_inj hs))
        · cases hs
      case lneg =>
        (have hn : n = 1 := hn); subst hn
        simp only [xex] at hs
        split at hs
        · exact lv_lneg hx hb hd (pure (xnx_inj hs))
        · cases hs
      case lshl =>
        (have hn : n = 1 := hn); subst hn
        simp only [xex] at hs
        split at hs
        · exact lv_lshl hx hb hd rfl (pure (xnx_inj hs))
        · cases hs
      case lshr =>
        (have hn : n = 1 := hn); subst hn
        simp only [xex] at hs
        split at hs
        · exact lv_lshr hx hb hd rfl (pure (xnx_inj hs))
        · cases hs
      case lcmp =>
        (have hn : n = 1 := hn); subst hn
        simp only [xex] at hs
        split at hs
        · exact W.lcmp hx hb hd (pure (xnx_inj hs))
        · cases hs
      case i2l =>
        (have hn : n = 1 := hn); subst hn
        simp only [xex] at hs
        split at hs
        · exact lv_i2l hx hb hd rfl (pure (xnx_inj hs))
        · cases hs
      case l2i =>
        (have hn : n = 1 := hn); subst hn
        simp only [xex] at hs
        split at hs
        · exact lv_l2i hx hb hd rfl (pure (xnx_inj hs))
        · cases hs
      case dup =>
        (have hn : n = 1 := hn); subst hn
        simp only [xex] at hs
        split at hs
        · split at hs
          · rename_i hv; exact lv_dup hx hb hd (by rw [xtv_cat]; exact hv) (pure (xnx_inj hs))
          · cases hs
        · cases hs
      case pop =>
        (have hn : n = 1 := hn); subst hn
        simp only [xex] at hs
        split at hs
        · split at hs
          · rename_i hv; exact lv_pop hx hb hd (by rw [xtv_cat]; exact hv) (pure (xnx_inj hs))
          · cases hs
        · cases hs
      case dup2 =>
        (have hn : n = 1 := hn); subst hn
        simp only [xex] at hs
        split at hs
        · split at hs
          · rename_i hv; exact lv_dup2_11 hx hb hd (by rw [xtv_cat]; exact hv.1) (by rw [xtv_cat]; exact hv.2) (pure (xnx_inj hs))
          · cases hs
        · cases hs
      case goto off =>
        (have hn : n = 3 := hn); subst hn
        obtain ⟨h1, h2⟩ := xjp_inv hs
        exact lv_goto hx hb hd h1 (pure h2)
      case ifCond cd off =>
        have hn : n = 3 := hn
        subst hn
        simp only [xex] at hs
        split at hs
        · rename_i x r
          split at hs
          · rename_i h0
            have h1 : (pc : Int) + off = ((((pc : Int) + off).toNat : Nat) : Int) := by omega
            split at hs
            · rename_i hcm
              have h2 := xnx_inj hs
              cases cd
              case eq => exact lv_if_eq hx hb hd h1 (fun _ => pure h2) (fun q => absurd q (by simpa [xcmp] using hcm))
              case ne => exact lv_if_ne hx hb hd h1 (fun _ => pure h2) (fun q => absurd q (by simpa [xcmp] using hcm))
              case lt => exact lv_if_lt hx hb hd h1 (fun _ => pure h2) (fun q => absurd q (by simpa [xcmp] using hcm))
              case ge => exact lv_if_ge hx hb hd h1 (fun _ => pure h2) (fun q => absurd q (by simpa [xcmp] using hcm))
              case gt => exact lv_if_gt hx hb hd h1 (fun _ => pure h2) (fun q => absurd q (by simpa [xcmp] using hcm))
              case le => exact lv_if_le hx hb hd h1 (fun _ => pure h2) (fun q => absurd q (by simpa [xcmp] using hcm))
            · rename_i hcm
              have h2 := xnx_inj hs
              cases cd
              case eq => exact lv_if_eq hx hb hd h1 (fun q => absurd q (by simpa [xcmp] using hcm)) (fun _ => pure h2)
              case ne => exact lv_if_ne hx hb hd h1 (fun q => absurd q (by simpa [xcmp] using hcm)) (fun _ => pure h2)
              case lt => exact lv_if_lt hx hb hd h1 (fun q => absurd q (by simpa [xcmp] using hcm)) (fun _ => pure h2)
              case ge => exact lv_if_ge hx hb hd h1 (fun q => absurd q (by simpa [xcmp] using hcm)) (fun _ => pure h2)
              case gt => exact lv_if_gt hx hb hd h1 (fun q => absurd q (by simpa [xcmp] using hcm)) (fun _ => pure h2)
              case le => exact lv_if_le hx hb hd h1 (fun q => absurd q (by simpa [xcmp] using hcm)) (fun _ => pure h2)
          · cases hs
        · cases hs
      case if_icmp cd off =>
        have hn : n = 3 := hn
        subst hn
        simp only [xex] at hs
        split at hs
        · rename_i y x r
          split at hs
          · rename_i h0
            have h1 : (pc : Int) + off = ((((pc : Int) + off).toNat : Nat) : Int) := by omega
            split at hs
            · rename_i hcm
              have h2 := xnx_inj hs
              cases cd
              case eq => exact lv_icmp_eq hx hb hd h1 (fun _ => pure h2) (fun q => absurd q (by simpa [xcmp] using hcm))
              case ne => exact lv_icmp_ne hx hb hd h1 (fun _ => pure h2) (fun q => absurd q (by simpa [xcmp] using hcm))
              case lt => exact lv_icmp_lt hx hb hd h1 (fun _ => pure h2) (fun q => absurd q (by simpa [xcmp] using hcm))
              case ge => exact lv_icmp_ge hx hb hd h1 (fun _ => pure h2) (fun q => absurd q (by simpa [xcmp] using hcm))
              case gt => exact lv_icmp_gt hx hb hd h1 (fun _ => pure h2) (fun q => absurd q (by simpa [xcmp] using hcm))
              case le => exact lv_icmp_le hx hb hd h1 (fun _ => pure h2) (fun q => absurd q (by simpa [xcmp] using hcm))
            · rename_i hcm
              have h2 := xnx_inj hs
              cases cd
              case eq => exact lv_icmp_eq hx hb hd h1 (fun q => absurd q (by simpa [xcmp] using hcm)) (fun _ => pure h2)
              case ne => exact lv_icmp_ne hx hb hd h1 (fun q => absurd q (by simpa [xcmp] using hcm)) (fun _ => pure h2)
              case lt => exact lv_icmp_lt hx hb hd h1 (fun q => absurd q (by simpa [xcmp] using hcm)) (fun _ => pure h2)
              case ge => exact lv_icmp_ge hx hb hd h1 (fun q => absurd q (by simpa [xcmp] using hcm)) (fun _ => pure h2)
              case gt => exact lv_icmp_gt hx hb hd h1 (fun q => absurd q (by simpa [xcmp] using hcm)) (fun _ => pure h2)
              case le => exact lv_icmp_le hx hb hd h1 (fun q => absurd q (by simpa [xcmp] using hcm)) (fun _ => pure h2)
          · cases hs
        · cases hs
      case tableswitch d lo hi offs =>
        simp only [xex] at hs
        split at hs
        · rename_i x r
          split at hs
          · rename_i hlen
            obtain ⟨h1, h2⟩ := xtt_sim hs
            have h3 := xnum_off (x := x.toInt) (d := d) offs.toList lo
            have hp : (fr'.1, ls, r, S) = fr' := by rw [← h2]
            by_cases hout : x.toInt < lo ∨ hi < x.toInt
            · rw [h3.1 (by omega)] at h1
              exact lv_tableOut hx hb hd hout h1 (pure hp)
            · have h4 := h3.2 (by omega) (by omega)
              rw [Array.getElem?_toList] at h4
              exact lv_tableIn hx hb hd (by omega) (by omega) h4 h1 (pure hp)
          · cases hs
        · cases hs
      case lookupswitch d ps =>
        simp only [xex] at hs
        split at hs
        · rename_i x r
          split at hs
          · rename_i hps
            obtain ⟨h1, h2⟩ := xtt_sim hs
            exact lv_lookup hx hb hd hps rfl h1 (pure (by rw [← h2]))
          · cases hs
        · cases hs
      case getfield j =>
        have hn : n = 3 := hn
        subst hn
        simp only [xex] at hs
        split at hs
        · obtain ⟨⟨ci, f, b, dt, pl⟩, h1, h2⟩ := xbp hs
          obtain ⟨v, h3, h4⟩ := xbp h2
          exact xg_get F' hH hd h1 h3 (pure (xnx_inj h4))
        · cases hs
      case putfield j =>
        have hn : n = 3 := hn
        subst hn
        simp only [xex] at hs
        split at hs
        · obtain ⟨⟨ci, f, b, dt, pl⟩, h1, h2⟩ := xbp hs
          dsimp only at h2
          split at h2
          · cases h2
          · rename_i hbd
            obtain ⟨S', h3, h4⟩ := xbp h2
            simp only [not_or, Bool.not_eq_true, Bool.not_eq_false] at hbd
            obtain ⟨hb', hd'⟩ := hbd
            subst hb'; subst hd'
            have e3 : S'.1 = S.1 := by
              unfold xpf at h3
              split at h3
              · split at h3
                · split at h3
                  · split at h3
                    · cases h3
                    · cases h3; rfl
                  · cases h3
                · cases h3
              · cases h3
            exact xg_put F' hH hL hd h1 h3 (pureS (xnx_inj h4) (by rw [e3]) (by rw [e3]))
        · obtain ⟨⟨ci, f, b, dt, pl⟩, h1, h2⟩ := xbp hs
          dsimp only at h2
          split at h2
          · cases h2
          · rename_i hbd
            obtain ⟨S', h3, h4⟩ := xbp h2
            simp only [not_or, Bool.not_eq_true, Decidable.not_not] at hbd
            obtain ⟨hb', hd', hi', hc'⟩ := hbd
            subst hb'; subst hd'
            have e3 : S'.1.length = S.1.length ∧ xsz S'.1 = xsz S.1 := by
              unfold xpr at h3
              split at h3
              · rename_i t0 n0 vs0 hS0
                split at h3
                · split at h3
                  · cases h3
                    refine ⟨by simp, ?_⟩
                    unfold xsz
                    rw [List.map_set]
                    congr 1
                    exact xset_self (by rw [List.getElem?_map, hS0]; rfl)
                  · cases h3
                · cases h3
              · cases h3
            exact xg_putF F' hH hL hd h1 hi' hc' h3 (pureS (xnx_inj h4) e3.1 e3.2)
        · cases hs
      case iaload =>
        have hn : n = 1 := hn
        subst hn
        simp only [xex] at hs
        split at hs
        · obtain ⟨v, h1, h2⟩ := xbp hs
          exact xg_iald F' hH hd h1 (pure (xnx_inj h2))
        · split at hs
          · rename_i hin
            obtain ⟨scr, q1, q2, q3, q4, q5⟩ := hkw.2.2.2.1.1
            have hin := xin_iff.mp hin
            have hlt : _ < X.1 := Nat.not_le.mp fun q => hin (Or.inr q)
            exact W.iald hx hb (by rw [hH.2.2 _ hkw.2.2.2.1.2]; exact q1) q2 q3 (by rw [q4]; exact hin) (q5 _ hlt) rfl rfl hd (pure (xnx_inj hs))
          · cases hs
        · cases hs
      case baload =>
        have hn : n = 1 := hn
        subst hn
        simp only [xex] at hs
        split at hs
        · obtain ⟨v, h1, h2⟩ := xbp hs
          exact xg_zald F' hH hd h1 (pure (xnx_inj h2))
        · cases hs
      case iastore =>
        have hn : n = 1 := hn
        subst hn
        simp only [xex] at hs
        split at hs
        · obtain ⟨S', h1, h2⟩ := xbp hs
          have e3 : S'.1 = S.1 := by obtain ⟨_, _, _, _, rfl⟩ := xas_inv h1; rfl
          exact xg_iast F' hH hL hd h1 (pureS (xnx_inj h2) (by rw [e3]) (by rw [e3]))
        · cases hs
      case bastore =>
        have hn : n = 1 := hn
        subst hn
        simp only [xex] at hs
        split at hs
        · split at hs
          · rename_i h01
            obtain ⟨S', h1, h2⟩ := xbp hs
            have e3 : S'.1 = S.1 := by obtain ⟨_, _, _, _, rfl⟩ := xas_inv h1; rfl
            exact xg_zast F' hH hL hd (xbk_01 hH h01) h1 (pureS (xnx_inj h2) (by rw [e3]) (by rw [e3]))
          · cases hs
        · cases hs
      case aaload =>
        have hn : n = 1 := hn
        subst hn
        simp only [xex] at hs
        split at hs
        · obtain ⟨v, h1, h2⟩ := xbp hs
          exact xg_aald F' hH hd h1 (pure (xnx_inj h2))
        · cases hs
      case aastore =>
        have hn : n = 1 := hn
        subst hn
        simp only [xex] at hs
        split at hs
        · obtain ⟨S', h1, h2⟩ := xbp hs
          have e3 : S'.1.length = S.1.length ∧ xsz S'.1 = xsz S.1 := by
            unfold xaw at h1
            split at h1
            · rename_i t0 n0 vs0 hS0
              split at h1
              · split at h1
                · split at h1
                  · cases h1
                    refine ⟨by simp, ?_⟩
                    unfold xsz
                    rw [List.map_set]
                    congr 1
                    exact xset_self (by rw [List.getElem?_map, hS0]; rfl)
                  · cases h1
                · cases h1
              · cases h1
            · cases h1
          exact xg_aast F' hH hL hd h1 (pureS (xnx_inj h2) e3.1 e3.2)
        · cases hs
      case arraylength =>
        have hn : n = 1 := hn
        subst hn
        simp only [xex] at hs
        split at hs
        · obtain ⟨v, h1, h2⟩ := xbp hs
          exact xg_alen F' hH hd h1 (pure (xnx_inj h2))
        · obtain ⟨scr, q1, q2, q3, q4, q5⟩ := hkw.2.2.2.1.1
          exact W.alen (n := Int32.ofNat X.1) hx hb (by rw [hH.2.2 _ hkw.2.2.2.1.2]; exact q1) q2 (by rw [q4] <;> rfl) rfl rfl hd (pure (xnx_inj hs))
        · cases hs
      case newarray ty =>
        have hn : n = 2 := hn
        subst hn
        simp only [xex] at hs
        split at hs
        · split at hs
          · obtain ⟨S', h1, h2⟩ := xbp hs
            cases xnx_inj h2
            have e1 : S'.1.length = S.1.length + 1 := by
              unfold xnwa at h1
              split at h1
              · cases h1; simp
              · cases h1
            dsimp only at hc hz kk
            exact xg_newI F' hH hd h1 (by rw [e1] at hc; omega) hz (fun H' e2 hH' => kk H' locs arr _ _ (by rw [e1]; omega) rfl hH' hL hcap)
          · obtain ⟨S', h1, h2⟩ := xbp hs
            cases xnx_inj h2
            have e1 : S'.1.length = S.1.length + 1 := by
              unfold xnwa at h1
              split at h1
              · cases h1; simp
              · cases h1
            dsimp only at hc hz kk
            exact xg_newZ F' hH hd h1 (by rw [e1] at hc; omega) hz (fun H' e2 hH' => kk H' locs arr _ _ (by rw [e1]; omega) rfl hH' hL hcap)
          · cases hs
        · cases hs
      case anewarray j =>
        have hn : n = 3 := hn
        subst hn
        simp only [xex] at hs
        split at hs
        · obtain ⟨⟨ci, pl⟩, h0, h00⟩ := xbp hs
          dsimp only at h00
          split at h00
          · rename_i hci
            subst hci
            obtain ⟨S', h1, h2⟩ := xbp h00
            cases xnx_inj h2
            have e1 : S'.1.length = S.1.length + 1 := by
              unfold xnwq at h1
              split at h1
              · cases h1; simp
              · cases h1
            dsimp only at hc hz kk
            exact xg_newQ F' hH hd h0 h1 (by rw [e1] at hc; omega) hz (fun H' e2 hH' => kk H' locs arr _ _ (by rw [e1]; omega) rfl hH' hL hcap)
          · cases h00
        · cases hs
      case new j =>
        have hn : n = 3 := hn
        subst hn
        simp only [xex] at hs
        obtain ⟨⟨ci, pl⟩, h0, h00⟩ := xbp hs
        obtain ⟨S', h1, h2⟩ := xbp h00
        cases xnx_inj h2
        have e1 : S'.1.length = S.1.length + 1 := by
          unfold xnwo at h1
          split at h1
          · cases h1; simp
          · cases h1
        dsimp only at hc hz kk
        exact xg_newo F' hH hL hd h0 h1 (by rw [e1] at hc; omega) hz (fun H' e2 hH' => kk H' locs arr _ _ (by rw [e1]; omega) rfl hH' hL hcap)
      case invokestatic j =>
        have hn : n = 3 := hn
        subst hn
        simp only [xex] at hs
        obtain ⟨⟨kind, jj, nn, p1, p2, p3⟩, h1, h2⟩ := xbp hs
        dsimp only at h2
        split at h2
        · rename_i hks
          have h3 := h2
          unfold xcall at h3
          split at h3
          · obtain ⟨w, h4, h5⟩ := xbp h3
            split at h5 <;> cases h5
          · obtain ⟨w, h4, h5⟩ := xbp h3
            split at h5 <;> cases h5
          · cases hks
          · cases hks
          · cases hks
          · cases hks
          · split at h3
            · split at h3
              · rename_i hq
                obtain ⟨S', h4, h5⟩ := xbp h3
                have e3 : S'.1 = S.1 := by
                  unfold xacp at h4
                  split at h4
                  · split at h4
                    · cases h4; rfl
                    · cases h4
                  · cases h4
                exact xg_copy F' hH hL ha1 hd h1 hq.1 hq.2.1 hq.2.2 h4 (pureS (xnx_inj h5) (by rw [e3]) (by rw [e3]))
              · cases h3
            · cases h3
          · cases hks
          · split at h3
            · split at h3
              · rename_i hq
                have hw := List.all_eq_true.mp xk_mth _ (xlook h1)
                simp only [xkm, Bool.and_eq_true] at hw
                have h8 := xcats (base := base) (ex := ex)
                refine va_mabs hx hb (by rw [hml, ha1]) hown (hts _ (xw_in hw.1)) (hts _ (xw_in hw.2)) (hts _ (xw_in xk_mat)) (hts _ xk_abs) (by omega) (by rw [h8]; omega) (by omega) (by omega) hd ?_
                exact pure (xnx_inj h3)
              · cases h3
            · cases h3
          · split at h3
            · split at h3
              · rename_i hq
                have hw := List.all_eq_true.mp xk_mth _ (xlook h1)
                simp only [xkm, Bool.and_eq_true] at hw
                have h8 := xcats (base := base) (ex := ex)
                refine va_mabs_long hx hb (by rw [hml, ha1]) hown (hts _ (xw_in hw.1)) (hts _ (xw_in hw.2)) (hts _ (xw_in xk_mat)) (hts _ xk_absl) (by omega) (by rw [h8]; omega) (by omega) (by omega) hd ?_
                exact pure (xnx_inj h3)
              · cases h3
            · cases h3
          · split at h3
            · split at h3
              · rename_i hq
                have hw := List.all_eq_true.mp xk_mth _ (xlook h1)
                simp only [xkm, Bool.and_eq_true] at hw
                have h8 := xcats (base := base) (ex := ex)
                refine va_mmax hx hb (by rw [hml, ha1]) hown (hts _ (xw_in hw.1)) (hts _ (xw_in hw.2)) (hts _ (xw_in xk_mat)) (hts _ xk_max) (by omega) (by rw [h8]; omega) (by omega) (by omega) hd ?_
                exact pure (xnx_inj h3)
              · cases h3
            · cases h3
          · split at h3
            · split at h3
              · rename_i hq
                have hw := List.all_eq_true.mp xk_mth _ (xlook h1)
                simp only [xkm, Bool.and_eq_true] at hw
                have h8 := xcats (base := base) (ex := ex)
                refine va_mmin hx hb (by rw [hml, ha1]) hown (hts _ (xw_in hw.1)) (hts _ (xw_in hw.2)) (hts _ (xw_in xk_mat)) (hts _ xk_min) (by omega) (by rw [h8]; omega) (by omega) (by omega) hd ?_
                exact pure (xnx_inj h3)
              · cases h3
            · cases h3
          · cases h3
        · cases h2
      case invokevirtual j =>
        have hn : n = 3 := hn
        subst hn
        simp only [xex] at hs
        obtain ⟨⟨kind, jj, nn, p1, p2, p3⟩, h1, h2⟩ := xbp hs
        dsimp only at h2
        split at h2
        · rename_i hks
          have h3 := h2
          unfold xcall at h3
          split at h3
          · cases hks
          · cases hks
          · obtain ⟨w, h4, h5⟩ := xbp h3
            split at h5
            · split at h5 <;> cases h5
            · cases h5
          · cases hks
          · cases hks
          · cases hks
          · cases hks
          · split at h3
            · split at h3
              · rename_i hq
                obtain ⟨v, h4, h5⟩ := xbp h3
                exact hZ.2 _ _ _ _ _ _ _ _ _ _ _ _ _ _ _ _ _ _ _ _ _ _ _ _ _ _ _ F' hH hL ha1 hd h1 hq.1 hq.2.1 hq.2.2 h4 (by omega) (by omega) (pureS (xnx_inj h5) rfl rfl)
              · cases h3
            · cases h3
          · cases hks
          · cases hks
          · cases hks
          · cases hks
          · cases h3
        · cases h2
      case invokespecial j =>
        have hn : n = 3 := hn
        subst hn
        simp only [xex] at hs
        obtain ⟨⟨kind, jj, nn, p1, p2, p3⟩, h1, h2⟩ := xbp hs
        dsimp only at h2
        split at h2
        · rename_i hks
          have h3 := h2
          unfold xcall at h3
          split at h3
          · cases hks
          · cases hks
          · cases hks
          · obtain ⟨w, h4, h5⟩ := xbp h3
            split at h5
            · split at h5 <;> cases h5
            · cases h5
          · obtain ⟨w, h4, h5⟩ := xbp h3
            split at h5
            · split at h5 <;> cases h5
            · cases h5
          · split at h3
            · split at h3
              · rename_i hq
                have hw := List.all_eq_true.mp xk_mth _ (xlook h1)
                simp only [xkm, Bool.and_eq_true] at hw
                have h8 := xcats (base := base) (ex := ex)
                refine W.objInit hx hb hown (hts _ (xw_in hw.1)) (hts _ (xw_in hw.2)) (hts _ xk_obj) rfl (by rw [hml]; exact ha1) rfl hd (by omega) (by rw [h8]; show 2 * 0 + _ + 12 ≤ _; omega) ?_
                exact pure (xnx_inj h3)
              · cases h3
            · cases h3
          · cases hks
          · cases hks
          · cases hks
          · cases hks
          · cases hks
          · cases hks
          · cases h3
        · cases h2
      case ireturn =>
        simp only [xex, xrt] at hs
        repeat' split at hs
        all_goals cases hs
      case lreturn =>
        simp only [xex] at hs
        repeat' split at hs
        all_goals cases hs
      case areturn =>
        simp only [xex] at hs
        repeat' split at hs
        all_goals cases hs
      case return_ =>
        simp only [xex] at hs
        repeat' split at hs
        all_goals cases hs
      all_goals cases hs
    · cases hs
  · cases hs
end XT
