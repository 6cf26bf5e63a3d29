theorem xadd3 {a b c d : Nat} (h1 : b ≤ c) (h2 : c ≤ d) : a + (c - b) + (d - c) = a + (d - b) := by omega
def xPc (base : Nat) (ex : Nat → Nat) (D : va_G) (cA : Nat → ClassId) (H00 : Heap) (X : xX) (Z : State → Prop) (as : List Value) (S : xS) : Array Value → State → Prop := fun v U => v = (as.map (xtv base ex)).toArray ∧ xhp base ex D cA H00 S U.heap ∧ xkw base ex D cA H00 X Z U
def xQc (base : Nat) (ex : Nat → Nat) (D : va_G) (cA : Nat → ClassId) (H00 : Heap) (o : xO) : Array Value → State → Outcome → State → Prop := fun _ _ oc t => oc = .returned (o.1.map (xtv base ex)) ∧ xhp base ex D cA H00 o.2 t.heap
def xZok (Z : State → Prop) : Prop := (∀ (s U : State), s.WarmedH U.vm → Z s → Z U) ∧ ∀ (U : State) (g : JFrame) (mk : MethodId) (a : Array Value), Z U → Z (U.calling g mk a)
theorem xtN_nest {w : Cond} (h : w ∈ xtN) : xisN w = true := (List.mem_filter.mp h).2
theorem xkw_warm {base : Nat} {ex : Nat → Nat} {D : va_G} {cA : Nat → ClassId} {H00 : Heap} {X : xX} {Z : State → Prop} (hz : xZok Z) {s U : State} (hW : s.WarmedH U.vm) (h : xkw base ex D cA H00 X Z s) : xkw base ex D cA H00 X Z U := by
  obtain ⟨h1, h2, h3, h4, h5⟩ := h
  refine ⟨va_K.moved hW.alike h1, fun w hw => ?_, va_AO.moved hW.alike h3, ⟨va_X.moved hW.alike h4.1, h4.2⟩, hz.1 s U hW h5⟩
  have hn := xtN_nest hw
  have h6 := h2 w hw
  cases w
  case methodLinkNest a i y b => exact va_Nw.warmM hW h6
  case fieldLinkNest a i b n d y => exact va_Nw.warmF hW h6
  all_goals cases hn
theorem xkw_blind {base : Nat} {ex : Nat → Nat} {D : va_G} {cA : Nat → ClassId} {H00 : Heap} {X : xX} {Z : State → Prop} (hz : xZok Z) {U : State} {g : JFrame} {mk : MethodId} {a : Array Value} (h : xkw base ex D cA H00 X Z U) : xkw base ex D cA H00 X Z (U.calling g mk a) := by
  obtain ⟨h1, h2, h3, h4, h5⟩ := h
  refine ⟨va_K.moved (u := U) (U := U.calling g mk a) (Vm.Alike.refl U.vm) h1, fun w hw => ?_, va_AO.moved (u := U) (U := U.calling g mk a) (Vm.Alike.refl U.vm) h3, ⟨va_X.moved (u := U) (U := U.calling g mk a) (Vm.Alike.refl U.vm) h4.1, h4.2⟩, hz.2 U g mk a h5⟩
  have hn := xtN_nest hw
  have h6 := h2 w hw
  cases w
  case methodLinkNest a i y b => exact va_Nw.same rfl rfl h6
  case fieldLinkNest a i b n d y => exact va_Nw.same rfl rfl h6
  all_goals cases hn
theorem xtG_good {w : Cond} (h : w ∈ xtG) : (w.onTables && w.keeps) = true ∨ ∃ ty, w = .arrayClass ty := good_of_word (List.mem_filter.mp h).2
theorem xGI {j : Nat} (h1 : 1 ≤ j) (h2 : j < 188) : GoodIn xtG (Cond.code (xy j) (xbc j) (xml j) (xret j) :: xtG) := by
  intro w hw
  rcases List.mem_cons.mp hw with rfl | hw
  · exact ⟨xk_code h1 h2, xtG_good (xk_code h1 h2)⟩
  · exact ⟨hw, xtG_good hw⟩
theorem xsl_len {base : Nat} {ex : Nat → Nat} : ∀ as : List Value, (lg_sl (as.map (xtv base ex))).length = (xsl as).length
  | [] => rfl
  | v :: r => by
    have ih := xsl_len (base := base) (ex := ex) r
    unfold lg_sl at ih ⊢
    rw [List.map_cons, List.flatMap_cons, xsl]
    by_cases hc : v.category = 2
    · rw [if_pos (by rw [xtv_cat]; exact hc), if_pos hc]
      simp [ih]
    · rw [if_neg (by rw [xtv_cat]; exact hc), if_neg hc]
      simp [ih]
theorem xsl_at {base : Nat} {ex : Nat → Nat} : ∀ (as : List Value) (off i : Nat) (v : Value), (xsl as)[i]? = some v → xbad v = false → (off + i, xtv base ex v) ∈ lv_args off (as.map (xtv base ex))
  | [], off, i, v, h, _ => by simp [xsl] at h
  | w :: r, off, i, v, h, hb => by
    rw [List.map_cons, lv_args, xtv_cat]
    rw [xsl] at h
    by_cases hc : w.category = 2
    · rw [if_pos hc] at h ⊢
      match i, h with
      | 0, h => cases h; exact List.mem_cons_self
      | 1, h => cases h; cases hb
      | i + 2, h =>
        have := xsl_at (base := base) (ex := ex) r (off + 2) i v h hb
        rw [show off + (i + 2) = off + 2 + i by omega]
        exact List.mem_cons_of_mem _ this
    · rw [if_neg hc] at h ⊢
      match i, h with
      | 0, h => cases h; exact List.mem_cons_self
      | i + 1, h =>
        have := xsl_at (base := base) (ex := ex) r (off + 1) i v h hb
        rw [show off + (i + 1) = off + 1 + i by omega]
        exact List.mem_cons_of_mem _ this
theorem xlr_entry {base : Nat} {ex : Nat → Nat} {as : List Value} {n : Nat} (h : (xsl as).length ≤ n) : xlr base ex ((lg_sl (as.map (xtv base ex)) ++ List.replicate (n - (lg_sl (as.map (xtv base ex))).length) Slot.unset).toArray) n (xent n as) := by
  have hl := lv_entry (as.map (xtv base ex)) (n := n) (by rw [xsl_len]; exact h)
  refine ⟨hl.1, by simp [xent]; omega, hl.2.1, fun i v hi hb => ?_⟩
  unfold xent at hi
  by_cases hlt : i < (xsl as).length
  · rw [List.getElem?_append_left hlt] at hi
    have := xsl_at (base := base) (ex := ex) as 0 i v hi hb
    rw [Nat.zero_add] at this
    exact hl.2.2 _ this
  · rw [List.getElem?_append_right (by omega), List.getElem?_replicate] at hi
    split at hi
    · cases hi; cases hb
    · cases hi
theorem xrun_len {X : xX} : ∀ (n id : Nat) (fr : xF) (o : xO), xrun X n id fr = some o → fr.2.2.2.1.length ≤ o.2.1.length ∧ xsz fr.2.2.2.1 ≤ xsz o.2.1
  | 0, _, _, _, h => by cases h
  | n + 1, id, fr, o, h => by
    rw [xrun_succ] at h
    rcases hr : xstep X id fr with _ | (fr' | (o' | ⟨j, as, fr'⟩))
    · rw [hr] at h; cases h
    · rw [hr] at h
      have h1 := xstep_mono hr
      have h2 := xrun_len n id fr' o h
      omega
    · rw [hr] at h
      cases h
      obtain ⟨pc, ls, st, S⟩ := fr
      have := (xstep_ret hr).1
      rw [this]
      exact ⟨Nat.le_refl _, Nat.le_refl _⟩
    · rw [hr] at h
      simp only [xgo] at h
      obtain ⟨o1, h1, h2⟩ := xbp h
      obtain ⟨pc, ls, st, S⟩ := fr
      obtain ⟨_, _, _, _, _, _, r, -, rfl, -⟩ := xstep_call hr
      split at h1
      · have a1 := xrun_len n j _ o1 h1
        have a2 := xrun_len n id _ o h2
        dsimp only at a1 a2 ⊢
        omega
      · cases h1
def xWn (l : Launch) (base : Nat) (ex : Nat → Nat) (D : va_G) (cA : Nat → ClassId) (H00 : Heap) (X : xX) (Z : State → Prop) (n : Nat) : Prop :=
  ∀ (id : Nat) (fr : xF) (o : xO), xrun X n id fr = some o → ∀ (p : Program) (e : Env) (R : Room) (s : State) (m : MethodId) (args : Array Value) (below : List Frame) (meth : Method) (c : Code) (H : Heap) (locs : List Loc) (cells slots : Nat) (Q : State → Prop) (arr : Array Slot),
    xfx base ex D cA H00 X Z p R s m args meth c id → xhp base ex D cA H00 fr.2.2.2 H → (∀ q ∈ locs, base ≤ q.base) → xlr base ex arr (xml id) fr.2.1 → cells + (o.2.1.length - fr.2.2.2.1.length) ≤ R.cells → slots + (xsz o.2.1 - xsz fr.2.2.2.1) ≤ R.slots →
    (∀ (pc : Nat) (ls st : List Value) (H' : Heap) (locs' : List Loc) (arr' : Array Slot), xstep X id (pc, ls, st, o.2) = some (.inr (.inl o)) → xhp base ex D cA H00 o.2 H' → (∀ q ∈ locs', base ≤ q.base) → xlr base ex arr' (xml id) ls → W p l e R s m args below meth c H' locs' (cells + (o.2.1.length - fr.2.2.2.1.length)) (slots + (xsz o.2.1 - xsz fr.2.2.2.1)) Q (F0 m pc arr' (st.map (xtv base ex)))) →
    W p l e R s m args below meth c H locs cells slots Q (F0 m fr.1 arr (fr.2.2.1.map (xtv base ex)))
section XU
variable {p : Program} {l : Launch} {e : Env} {R : Room} {s : State} {m : MethodId} {args : Array Value} {below : List Frame} {meth : Method} {c : Code} {H : Heap} {locs : List Loc} {cells slots : Nat} {Q : State → Prop}
variable {base : Nat} {ex : Nat → Nat} {D : va_G} {cA : Nat → ClassId} {H00 : Heap} {X : xX} {Z : State → Prop} {id : Nat} {arr : Array Slot}
theorem xmet (hz : xZok Z) {n j : Nat} (hI : xWn l base ex D cA H00 X Z n) {as : List Value} {S : xS} {o1 : xO} (h1 : 1 ≤ j) (h2 : j < 188) (hl : (xsl as).length ≤ xml j) (h : xrun X n j (0, xent (xml j) as, [], S) = some o1) :
    Met l (xy j) (Cond.code (xy j) (xbc j) (xml j) (xret j) :: xtG) { frames := xrf j, cells := o1.2.1.length - S.1.length, slots := xsz o1.2.1 - xsz S.1, locals := xrl j } (xPc base ex D cA H00 X Z as S) (xQc base ex D cA H00 o1) (o1.2.1.length - S.1.length) (xsz o1.2.1 - xsz S.1) (fun q => base ≤ q) := by
  obtain ⟨hcls, hpl, hown14⟩ := xk_own h2
  refine Met.ofW (cc := xbc j) (maxL := xml j) (ret := xret j) hpl rfl ?_
  intro p e s m args below meth c s₁ B hml hv
  obtain ⟨rfl, hH, hk⟩ := hv
  have hx := B.exec
  have hb := B.bytes
  have hr := B.returns
  have hts := atoms_spec (ws := Cond.code (xy j) (xbc j) (xml j) (xret j) :: xtG) B.pre
  have hown : s.vm.findClass (xnm (xown j)) = some m.cls := by rw [← hcls]; exact findClass_of_methodNamed B.named
  have hlocks := B.notSynchronized
  have hin := (name_of_methodNamed B.named B.method).1
  rw [lg_entry_eq]
  have F : xfx base ex D cA H00 X Z p (headSpec (Cond.code (xy j) (xbc j) (xml j) (xret j) :: xtG) { frames := xrf j, cells := o1.2.1.length - S.1.length, slots := xsz o1.2.1 - xsz S.1, locals := xrl j }).room s m (as.map (xtv base ex)).toArray meth c j := ⟨hx, hb, hr, hml, hown, fun w hw => hts w (List.mem_cons_of_mem _ hw), hk, hlocks, hin, Nat.le_refl _, Nat.le_refl _⟩
  refine hI j (0, xent (xml j) as, [], S) o1 h _ _ _ _ _ _ _ _ _ _ _ _ _ _ _ F hH (fun q hq => by cases hq) (xlr_entry hl) (by show 0 + _ ≤ _; dsimp only; rw [Nat.zero_add]; exact Nat.le_refl _) (by show 0 + _ ≤ _; dsimp only; rw [Nat.zero_add]; exact Nat.le_refl _) ?_
  intro pc ls st H' locs' arr' hs hH' hL' hA'
  dsimp only
  rw [Nat.zero_add, Nat.zero_add]
  obtain ⟨eS, hcase⟩ := xstep_ret hs
  rcases hcase with ⟨x, hd, rfl, eo, hr2⟩ | ⟨x, hd, rfl, eo, hr2⟩ | ⟨a, C, hd, rfl, eo, hr2⟩ | ⟨hd, rfl, eo, hr2⟩
  · rcases hr2 with hr2 | ⟨hr2, h01⟩
    · exact W.iret (v := x) hx hb (by rw [hr, hr2]) (fun t ht _ => ⟨by rw [eo]; rfl, by rw [ht]; exact hH'⟩) hL' hd hlocks
    · exact W.zret (v := x) (ty := .boolean) hx hb (by rw [hr, hr2]) (xn01 h01).1 (fun t ht _ => ⟨by rw [eo]; rfl, by rw [ht]; exact hH'⟩) hL' hd hlocks
  · exact W.lret (v := x) hx hb (by rw [hr, hr2]) (fun t ht _ => ⟨by rw [eo]; rfl, by rw [ht]; exact hH'⟩) hL' hd hlocks
  · exact W.aret (v := .ref (base + a)) hx hb (by rw [hr, hr2]) (Or.inl ⟨C, rfl⟩) (Or.inr ⟨_, rfl⟩) (fun t ht _ => ⟨by rw [eo]; rfl, by rw [ht]; exact hH'⟩) hL' hd hlocks
  · exact W.vret hx hb (by rw [hr, hr2]) (fun t ht _ => ⟨by rw [eo]; rfl, by rw [ht]; exact hH'⟩) hL' hd hlocks
theorem xcont {pc mc ms : Nat} {rest st0 : List Value} {a : Array Value} {o1 : xO} (hr : va_Run p l e R s m args below meth c H locs cells slots mc ms (F0 m pc arr st0) rest (xQc base ex D cA H00 o1 a) (fun q => base ≤ q)) (hL : ∀ q ∈ locs, base ≤ q.base)
    (kk : ∀ (H1 : Heap) (locs1 : List Loc), xhp base ex D cA H00 o1.2 H1 → (∀ q ∈ locs1, base ≤ q.base) → W p l e R s m args below meth c H1 locs1 (cells + mc) (slots + ms) Q (F0 m (pc + 3) arr ((o1.1.map (xtv base ex)).toList ++ rest))) : W p l e R s m args below meth c H locs cells slots Q (F0 m pc arr st0) := by
  intro T hT Y
  obtain ⟨v, st₀, t, T', L, h0, Y', hL2, e1, e2, ⟨hv, hh⟩, st⟩ := hr T hT Y
  have hv2 : v = o1.1.map (xtv base ex) := Outcome.returned.inj hv
  subst hv2
  obtain ⟨t2, a1, b1⟩ := kk T'.heap (locs ++ L) (by rw [e1]; exact hh) (fun q hq => by
    rcases List.mem_append.mp hq with h | h
    · exact hL q h
    · exact hL2 q h) T' rfl Y'
  exact ⟨t2, st t2 a1, b1⟩
theorem xsound (hZ : xstrR l base ex D cA H00 X Z) (hz : xZok Z) : ∀ n, xWn l base ex D cA H00 X Z n
  | 0 => fun id fr o h => by cases h
  | n + 1 => by
    intro id fr o h p e R s m args below meth c H locs cells slots Q arr F hH hL hA hc hzz hret
    have IH := xsound hZ hz n
    rw [xrun_succ] at h
    rcases hr : xstep X id fr with _ | (fr' | (o' | ⟨j, as, fr'⟩))
    · rw [hr] at h; cases h
    · rw [hr] at h
      have h : xrun X n id fr' = some o := h
      have m1 := xstep_mono hr
      have m2 := xrun_len n id fr' o h
      refine xsim hZ F hr hH hL hA (by omega) (by omega) fun H' locs' arr' c' z' ec ez hH' hL' hA' => ?_
      have e1 : c' + (o.2.1.length - fr'.2.2.2.1.length) = cells + (o.2.1.length - fr.2.2.2.1.length) := by omega
      have e2 : z' + (xsz o.2.1 - xsz fr'.2.2.2.1) = slots + (xsz o.2.1 - xsz fr.2.2.2.1) := by omega
      exact IH id fr' o h p e R s m args below meth c H' locs' c' z' Q arr' F hH' hL' hA' (by omega) (by omega) (by rw [e1, e2]; exact hret)
    · rw [hr] at h
      cases h
      obtain ⟨pc, ls, st, S⟩ := fr
      have eS := (xstep_ret hr).1
      dsimp only at hH hA hret ⊢
      subst eS
      have := hret pc ls st H locs arr hr hH hL hA
      rwa [Nat.sub_self, Nat.sub_self, Nat.add_zero, Nat.add_zero] at this
    · rw [hr] at h
      simp only [xgo] at h
      obtain ⟨o1, h1, h2⟩ := xbp h
      obtain ⟨pc, ls, st, S⟩ := fr
      obtain ⟨idx, kind, nn, p1, p2, p3, r, hm, rfl, h8, hcase⟩ := xstep_call hr
      dsimp only at hH hA hc hzz hret h1 h2 ⊢
      split at h1
      · rename_i hroom
        obtain ⟨hrm, hsl⟩ := hroom
        have m1 := xrun_len n j _ o1 h1
        have m2 := xrun_len n id _ o h2
        dsimp only at m1 m2
        simp only [xrm, Bool.and_eq_true, decide_eq_true_eq] at hrm
        have F' := F
        obtain ⟨hx, hb, hr0, hml, hown, hts, hkw, hlk, hnm, hrf, hrl⟩ := F
        have hw := List.all_eq_true.mp xk_mth _ (xlook hm)
        have hpre : ∀ U : State, U.heap = H → s.WarmedH U.vm → xPc base ex D cA H00 X Z as S (as.map (xtv base ex)).toArray U := fun U hU hW => ⟨rfl, by rw [hU]; exact hH, xkw_warm hz hW hkw⟩
        have hbl : FrameBlind (xPc base ex D cA H00 X Z as S) := fun a U g mk q => ⟨q.1, q.2.1, xkw_blind hz q.2.2⟩
        have hroomR : xrf j + 1 ≤ R.frames ∧ 8 + (xml j + 11) + xrl j ≤ R.locals := ⟨by omega, by omega⟩
        have hfit : cells + (o1.2.1.length - S.1.length) ≤ R.cells ∧ slots + (xsz o1.2.1 - xsz S.1) ≤ R.slots := ⟨by omega, by omega⟩
        have hsz := hA.1
        have hgo : va_Run p l e R s m args below meth c H locs cells slots (o1.2.1.length - S.1.length) (xsz o1.2.1 - xsz S.1) (F0 m pc arr (st.map (xtv base ex))) (r.map (xtv base ex)) (xQc base ex D cA H00 o1 (as.map (xtv base ex)).toArray) (fun q => base ≤ q) := by
          rcases hcase with ⟨hk, hd, est, hlen⟩ | ⟨rfl, hd, k, as', rfl, est, hlen, hobj⟩ | ⟨hk, hd, k, as', rfl, est, hlen⟩
          · have hstk : (F0 m pc arr (st.map (xtv base ex))).stack = (as.map (xtv base ex)).reverse ++ r.map (xtv base ex) := by
              show st.map (xtv base ex) = _
              rw [est, List.map_append, List.map_reverse]
            rcases hk with rfl | rfl
            · simp only [xkm, Bool.and_eq_true, decide_eq_true_eq] at hw
              obtain ⟨⟨⟨⟨w1, w2⟩, w3⟩, w4⟩, w5⟩ := hw
              obtain ⟨hcls, hpl, h14⟩ := xk_own w5
              obtain ⟨i1, i2, i3⟩ := xk_init h14
              exact va_runS (n := nn) (As := as.map (xtv base ex)) ⟨hx, hb, hml, hown, hts⟩ (xmet hz IH w4 w5 hsl h1) ⟨callB_of nn hts (xGI w4 w5) rfl rfl rfl (by rw [hcls]; exact hts _ i1) (hts _ (xw_in w1)) ⟨by rw [hcls]; exact i2, by rw [hcls]; exact i3, w3⟩ hroomR, hts _ (xw_in w2)⟩ ⟨hbl, hpre⟩ rfl (by simp [hlen]) hsz hstk (lv_room (by rw [xcats]; exact h8)) hd hfit
            · simp only [xkm, Bool.and_eq_true, decide_eq_true_eq] at hw
              obtain ⟨⟨⟨⟨w1, w2⟩, w3⟩, w4⟩, w5⟩ := hw
              obtain ⟨hcls, hpl, h14⟩ := xk_own w5
              obtain ⟨i1, i2, i3⟩ := xk_init h14
              exact va_runSN (n := nn) (As := as.map (xtv base ex)) ⟨hx, hb, hml, hown, hts⟩ (xmet hz IH w4 w5 hsl h1) ⟨va_cnB nn hts (xGI w4 w5) rfl rfl rfl (hkw.2.1 _ (xwN_in w1)) (by rw [hcls]; exact hts _ i1) ⟨by rw [hcls]; exact i2, by rw [hcls]; exact i3, w3⟩ hroomR, hts _ (xw_in w2), trivial⟩ ⟨hbl, hpre⟩ rfl (by simp [hlen]) hsz hstk (lv_room (by rw [xcats]; exact h8)) hd hfit
          · have hstk : (F0 m pc arr (st.map (xtv base ex))).stack = (as'.map (xtv base ex)).reverse ++ .ref (base + k) :: r.map (xtv base ex) := by
              show st.map (xtv base ex) = _
              rw [est, List.map_append, List.map_reverse]
              rfl
            simp only [xkm, Bool.and_eq_true, decide_eq_true_eq] at hw
            obtain ⟨⟨⟨⟨⟨w1, w2⟩, w3⟩, w4⟩, w5⟩, w6⟩ := hw
            obtain ⟨hcls, hpl, h14⟩ := xk_own w6
            obtain ⟨i1, i2, i3⟩ := xk_init h14
            have hrecv : ∃ cellB : Cell, H[base + k]? = some cellB ∧ cellB.vm.isStatics = false ∧ s.vm.findClass (xnm (xown j)) = some cellB.cls := by
              cases hSk : S.1[k]? with
              | none => rw [hSk] at hobj; cases hobj
              | some q =>
                obtain ⟨t, n0, vs⟩ := q
                rw [hSk] at hobj
                have ht : t = xown j + 3 := Option.some.inj hobj
                obtain ⟨C, T, hC, -, cell, q1, q2, q3, -⟩ := (hH.2.1 k t n0 vs hSk).2.2.2 (xown j) ht
                refine ⟨cell, q1, by rw [q3]; rfl, ?_⟩
                rw [q2, ← (xk_clw hC).1]
                exact (hkw.1.1 _ _ hC).2.1
            exact va_runV (n := nn) (C := xnm (xown j)) (As := as'.map (xtv base ex)) ⟨hx, hb, hml, hown, hts⟩ (xmet hz IH w5 w6 hsl h1) ⟨callB_of nn hts (xGI w5 w6) rfl rfl rfl (by rw [hcls]; exact hts _ i1) (hts _ (xw_in w1)) ⟨by rw [hcls]; exact i2, by rw [hcls]; exact i3, w4⟩ hroomR, hts _ (xw_in w2), hts _ (xw_in w3)⟩ ⟨hbl, hrecv, hpre⟩ rfl (by simp [hlen]) hsz hstk (lv_room (by rw [xcats]; exact h8)) hd hfit
          · have hstk : (F0 m pc arr (st.map (xtv base ex))).stack = (as'.map (xtv base ex)).reverse ++ .ref (base + k) :: r.map (xtv base ex) := by
              show st.map (xtv base ex) = _
              rw [est, List.map_append, List.map_reverse]
              rfl
            rcases hk with rfl | rfl
            · simp only [xkm, Bool.and_eq_true, decide_eq_true_eq] at hw
              obtain ⟨⟨⟨⟨⟨⟨w1, w2⟩, w3⟩, w3b⟩, w4⟩, w5⟩, w6⟩ := hw
              obtain ⟨hcls, hpl, h14⟩ := xk_own w6
              obtain ⟨i1, i2, i3⟩ := xk_init h14
              exact va_runI (n := nn) (As := as'.map (xtv base ex)) ⟨hx, hb, hml, hown, hts⟩ (xmet hz IH w5 w6 hsl h1) ⟨callB_of nn hts (xGI w5 w6) (by rw [w3b]) rfl rfl (by rw [hcls]; exact hts _ i1) (hts _ (xw_in w1)) ⟨by rw [hcls]; exact i2, by rw [hcls]; exact i3, w4⟩ hroomR, w3, hts _ (xw_in w2)⟩ ⟨hbl, hpre⟩ rfl (by simp [hlen]) hsz hstk (lv_room (by rw [xcats]; exact h8)) hd hfit
            · simp only [xkm, Bool.and_eq_true, decide_eq_true_eq] at hw
              obtain ⟨⟨⟨⟨⟨⟨w1, w2⟩, w3⟩, w3b⟩, w4⟩, w5⟩, w6⟩ := hw
              obtain ⟨hcls, hpl, h14⟩ := xk_own w6
              obtain ⟨i1, i2, i3⟩ := xk_init h14
              exact va_runIN (n := nn) (As := as'.map (xtv base ex)) ⟨hx, hb, hml, hown, hts⟩ (xmet hz IH w5 w6 hsl h1) ⟨va_cnB nn hts (xGI w5 w6) (by rw [w3b]) rfl rfl (hkw.2.1 _ (xwN_in w1)) (by rw [hcls]; exact hts _ i1) ⟨by rw [hcls]; exact i2, by rw [hcls]; exact i3, w4⟩ hroomR, w3, hts _ (xw_in w2)⟩ ⟨hbl, hpre⟩ rfl (by simp [hlen]) hsz hstk (lv_room (by rw [xcats]; exact h8)) hd hfit
        refine xcont hgo hL fun H1 locs1 hH1 hL1 => ?_
        have e1 : cells + (o1.2.1.length - S.1.length) + (o.2.1.length - o1.2.1.length) = cells + (o.2.1.length - S.1.length) := xadd3 m1.1 m2.1
        have e2 : slots + (xsz o1.2.1 - xsz S.1) + (xsz o.2.1 - xsz o1.2.1) = slots + (xsz o.2.1 - xsz S.1) := xadd3 m1.2 m2.2
        have e3 : (o1.1.map (xtv base ex)).toList ++ r.map (xtv base ex) = (o1.1.toList ++ r).map (xtv base ex) := by cases o1.1 <;> rfl
        rw [e3]
        exact IH id (pc + 3, ls, o1.1.toList ++ r, o1.2) o h2 p e R s m args below meth c H1 locs1 _ _ Q arr F' hH1 hL1 hA (by dsimp only; omega) (by dsimp only; omega) (by dsimp only; rw [e1, e2]; exact hret)
      · cases h1
end XU
