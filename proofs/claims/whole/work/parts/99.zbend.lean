/-! THE CLAIM OUT OF ONE WALK OF THE LAW'S BODY. Your part is whole_start (and what it stands on); all else here is the same for every law, but numbers. -/
def R_law : String := "KineticCupLaw"
def lw_P (b : Addr) (xs : List Int32) (args : Array Value) (s : State) : Prop := args = #[.ref b] ∧ s.IntsAt b xs ∧ xs.length ≤ 2560 ∧ (Jvm.Cond.and given_1 narrow_1).before args s = true
def lw_Q (_ : Array Value) (s : State) (o : Outcome) (t : State) : Prop := o = .returned (some (.int 1)) ∧ Framed s o t [] 600000 7302250
def lw_Z (below : List Frame) (a : Array Value) (s : State) : State → Prop := fun t => ∃ o, t.status = .running ∧ Ended t below o ∧ lw_Q a s o t
/-- the law's own end, with 1 on the stack, nothing written that was there before, its room as the claim has it -/
theorem lw_ret {p : Program} {l : Launch} {e : Env} {s : State} {m : MethodId} {below : List Frame} {meth : Method} {c : Code} {b : Nat} (hx : p.tables.exec = Jvm.exec) (hb : c.code = code) (hr : meth.sig.returnType = ret) (hlocks : meth.locks = false) {pc : Nat} {H : Heap} {ls : Array Slot} (hdg : decode code pc = .ok (.ireturn, 1)) : W p l e room_1 s m #[Value.ref b] below meth c H [] 600000 7302250 (lw_Z below #[Value.ref b] s) (F0 m pc ls [.int 1]) := by
  intro T hT X
  obtain ⟨fs, hret, hrun, hended, hW, hframe⟩ := X.leave (v := some (.int 1)) (hlocks := hlocks) (fun h => by rw [hr] at h; cases h)
  have hmeth' : T.vm.method? m = some meth := X.method'
  refine ⟨T.setFrames fs, ?_, .returned (some (.int 1)), hrun, hended, rfl, ⟨_, rfl⟩, hW, hframe⟩
  jvm_step X.here [X.here.top, hx, hb, hdg, hmeth', hr, ret, narrow_b1]
  (try refine ⟨rfl, ?_⟩); (try refine ⟨rfl, ?_⟩)
  first | (intro acts; rw [hret _ acts rfl rfl rfl]) | rw [hret _ _ rfl rfl rfl]
  exact Steps.refl _
/-- what holds at the law's entry: the machine, the code, the tables' words (any of lw_tbl by 'hts w (by decide +kernel)'), the script of L ints xs at the cell b, what the Statement gives of the start (any of its parts by flat_of_before) -/
def lw_At (p : Program) (s : State) (m : MethodId) (meth : Method) (c : Code) (b L : Nat) (xs : Nat → Int32) : Prop :=
  p.tables.exec = Jvm.exec ∧ c.code = code ∧ meth.sig.returnType = ret ∧ c.maxLocals = 4 ∧ s.vm.findClass R_law = some m.cls ∧ (∀ w ∈ lw_tbl, w.before #[Value.ref b] s = true) ∧ va_X b L xs s s.heap ∧ b < s.heap.size ∧ meth.locks = false ∧ (Jvm.Cond.and given_1 narrow_1).before #[Value.ref b] s = true ∧ meth.name = (xy 0).name
theorem x_code0 : xbc 0 = code := rfl
theorem x_len : xshM.length = 86 := by decide +kernel
theorem x_siz : xsz xshM ≤ 7302250 := by decide +kernel
theorem jt_I : Cond.arrayClass .int ∈ lw_tbl := List.mem_of_getElem? (i := 106) (by decide +kernel)
theorem jt_Z : Cond.arrayClass .boolean ∈ lw_tbl := List.mem_of_getElem? (i := 107) (by decide +kernel)
theorem jt_O : Cond.arrayOver (.object "KineticCup$Image") ∈ lw_tbl := List.mem_of_getElem? (i := 289) (by decide +kernel)
theorem jt_R : Cond.stringRef "KineticCup$Rehearsal" 75 "+-!#%..." ∈ lw_tbl := List.mem_of_getElem? (i := 746) (by decide +kernel)
theorem jt_C : Cond.laysStatic "java/lang/String" "COMPACT_STRINGS" "Z" ∈ lw_tbl := List.mem_of_getElem? (i := 756) (by decide +kernel)
theorem jt_S : Cond.laysStatic "jdk/internal/util/Preconditions" "SIOOBE_FORMATTER" "Ljava/util/function/BiFunction;" ∈ lw_tbl := List.mem_of_getElem? (i := 764) (by decide +kernel)
/-- what the start says of the text -/
theorem sW_of {s : State} {A : Array Value} (hts : ∀ w ∈ lw_tbl, w.before A s = true) (hgv : (Jvm.Cond.and given_1 narrow_1).before A s = true) : ∃ a t fv, isRv fv ∧ vk_R "KineticCup$Rehearsal" 75 "+-!#%..." a s ∧ sW a t fv (fun q => s.heap.size ≤ q) s s.heap := by
  have hs := flat_of_before _ hgv
  have hA : ∀ a : Nat, a < s.heap.size → ¬ s.heap.size ≤ a := fun a h => Nat.not_le.mpr h
  have htG : ∀ w ∈ xtG, w.before A s = true := fun w hw => hts w (List.mem_filter.mp hw).1
  have z1 : va_Z "java/lang/String" "COMPACT_STRINGS" "Z" (.int 1) (fun q => s.heap.size ≤ q) s s.heap := va_Zof (hts _ jt_C) (htG _ jw_iS) (va_eqi (hs _ (by decide +kernel))) hA
  have hrf : (Cond.isRef (.static "jdk/internal/util/Preconditions" "SIOOBE_FORMATTER" "Ljava/util/function/BiFunction;")).before A s = true := hs _ (by decide +kernel)
  obtain ⟨fv, hv1, hv2⟩ := Cond.isRef_spec hrf
  have hfv : isRv fv := by
    cases fv with
    | null => exact Or.inl rfl
    | ref a => exact Or.inr ⟨a, rfl⟩
    | _ => cases hv2
  have z2 : va_Z "jdk/internal/util/Preconditions" "SIOOBE_FORMATTER" "Ljava/util/function/BiFunction;" fv (fun q => s.heap.size ≤ q) s s.heap := va_Zof (hts _ jt_S) (htG _ jw_iP) hv1 hA
  obtain ⟨adK, adV, h1, h2⟩ := vk_Sof (args := A) (s := s) (N := 1) (tm := fun _ => .string "KineticCup$Rehearsal" 75) (len := [8]) (byt := [[43, 45, 33, 35, 37, 46, 46, 46]]) (A := fun q => s.heap.size ≤ q)
    (fun i hi => by rw [show i = 0 by omega]; decide)
    (fun i hi => hs _ (by decide +kernel))
    (fun i hi => hs _ (by decide +kernel))
    (fun i hi => hs _ (by decide +kernel))
    (fun i hi => by rw [show i = 0 by omega]; exact hs _ (by decide +kernel))
    (fun i hi j hj => by
      rw [show i = 0 by omega] at hj ⊢
      have hj : j < 8 := hj
      rcases (show j = 0 ∨ j = 1 ∨ j = 2 ∨ j = 3 ∨ j = 4 ∨ j = 5 ∨ j = 6 ∨ j = 7 by omega) with rfl | rfl | rfl | rfl | rfl | rfl | rfl | rfl <;> exact hs _ (by decide +kernel))
    (fun i j hi hj hij => absurd (by omega) hij) hA
  refine ⟨adK 0, adV 0, fv, hfv, vk_R.of (hts _ jt_R) (h2 0 (by decide)), z1, z2, fun i hi => ?_, fun i j hi hj _ => by omega⟩
  have := h1.1 0 (by decide)
  rw [show i = 0 by omega]
  exact this
set_option maxHeartbeats 4000000 in
set_option maxRecDepth 100000 in
/-- THE LAW, from its entry: the machine keeps to the abstract one, and that one answers 1 -/
theorem whole_start {p : Program} {e : Env} {s : State} {m : MethodId} {below : List Frame} {meth : Method} {c : Code} (l : Launch) (hflags : l.flags = flags0) {b L : Nat} {xs : Nat → Int32} (hL : L ≤ 2560) (C0 : lw_At p s m meth c b L xs) : W p l e room_1 s m #[Value.ref b] below meth c s.heap [] 0 0 (lw_Z below #[Value.ref b] s) (entryFrame m ([Value.ref b] : List Value).toArray 4) := by
  obtain ⟨hx, hb, hr, hml, hown, hts, hX, hbl, hlocks, hgv, hname⟩ := id C0
  obtain ⟨a, t, fv, hfv, hR, hW⟩ := sW_of hts hgv
  obtain ⟨ex, hex0, hex1⟩ : ∃ ex : Nat → Nat, ex 0 = b ∧ ex 1 = a := ⟨fun n => if n = 0 then b else a, rfl, rfl⟩
  subst hex0
  subst hex1
  have htG : ∀ w ∈ xtG, w.before #[Value.ref (ex 0)] s = true := fun w hw => hts w (List.mem_filter.mp hw).1
  have h0 : ∀ k : Nat, ∃ q : ClassId × (Nat → Nat), ∀ r : vw_C, xcl[k]? = some r → u_Kn s r.1 r.2.1 r.2.2 q.1 q.2 := by
    intro k
    cases hk : xcl[k]? with
    | none => exact ⟨(0, fun _ => 0), fun r h => by cases h⟩
    | some r =>
      obtain ⟨C, T, N⟩ := r
      obtain ⟨-, w2, w3, -⟩ := xk_clw hk
      obtain ⟨cC, iS, hq⟩ := u_known (n := N) htG w3 (htG _ w2)
      exact ⟨(cC, iS), fun r h => by cases h; exact hq⟩
  obtain ⟨ad, had⟩ : ∃ ad : Nat → ClassId × (Nat → Nat), ∀ (k : Nat) (r : vw_C), xcl[k]? = some r → u_Kn s r.1 r.2.1 r.2.2 (ad k).1 (ad k).2 := ⟨fun k => Classical.choose (h0 k), fun k => Classical.choose_spec (h0 k)⟩
  obtain ⟨c0, k0, p0, a1, a2, a3⟩ := Cond.arrayClass_spec (hts _ jt_I)
  obtain ⟨c1, k1, p1, b1, b2, b3⟩ := Cond.arrayClass_spec (hts _ jt_Z)
  have hover := hts _ jt_O
  obtain ⟨p2, c2, k2, d1, d2, d3, d4, d5⟩ := Cond.arrayOver_spec hover
  obtain ⟨cA, eA0, eA1, eA2⟩ : ∃ cA : Nat → ClassId, cA 0 = c0 ∧ cA 1 = c1 ∧ cA 2 = c2 := ⟨fun n => if n = 0 then c0 else if n = 1 then c1 else c2, rfl, rfl, rfl⟩
  subst eA0
  subst eA1
  subst eA2
  have hK : va_K (fun k => (ad k).1, fun k => (ad k).2) xcl [(cA 0, .int), (cA 1, .boolean), (cA 2, .object "KineticCup$Image")] s := by
    refine ⟨fun k q h => had k q h, fun k q h => ?_⟩
    match k, h with
    | 0, h => cases h; exact ⟨fun n z => ⟨fun k h => (by cases h), k0, a2, p0, a3⟩, a1⟩
    | 1, h => cases h; exact ⟨fun n z => ⟨fun k h => (by cases h), k1, b2, p1, b3⟩, b1⟩
    | 2, h => cases h; exact ⟨fun n z => ⟨fun k h => (by cases h), k2, d3, p2, d4⟩, k2, p2, d3, d4, d1, d5⟩
    | k + 3, h => simp at h
  have hkw : xkw s.heap.size ex (fun k => (ad k).1, fun k => (ad k).2) cA s.heap (L, xs) (xZs s.heap.size ex s.heap) s := by
    refine ⟨hK, fun w hw => ?_, va_AO.of hover, ⟨hX, hbl⟩, hR, t, fv, hfv, hW⟩
    have hn := xtN_nest hw
    have h6 := hts w (List.mem_filter.mp hw).1
    cases w
    case methodLinkNest a i y b => exact va_Nw.of rfl h6
    case fieldLinkNest a i b n d y => exact va_Nw.of rfl h6
    all_goals cases hn
  have F : xfx s.heap.size ex (fun k => (ad k).1, fun k => (ad k).2) cA s.heap (L, xs) (xZs s.heap.size ex s.heap) p room_1 s m #[Value.ref (ex 0)] meth c 0 := ⟨hx, hb, hr, hml, hown, htG, hkw, hlocks, hname, Nat.le_of_ble_eq_true rfl, Nat.le_of_ble_eq_true rfl⟩
  obtain ⟨σ', hV⟩ := law1 (L, xs) hL (fun _ _ => 0)
  obtain ⟨n, hn⟩ := xV_some.mp hV
  have hA : xlr s.heap.size ex ((lg_sl ([Value.ref (ex 0)]) ++ List.replicate (4 - (lg_sl ([Value.ref (ex 0)])).length) Slot.unset).toArray) 4 (xent 4 [.retAddr 0]) := xlr_entry (base := s.heap.size) (ex := ex) (as := [.retAddr 0]) (n := 4) (Nat.le_of_ble_eq_true rfl)
  rw [lg_entry_eq]
  refine xsound (xstr_Z l s.heap.size ex (fun k => (ad k).1, fun k => (ad k).2) cA s.heap (L, xs)) (xZs_ok s.heap.size ex s.heap) n 0 (0, [.retAddr 0, .float 0, .float 0, .float 0], [], ([], fun _ _ => 0)) (some (.int 1), (xshM, σ')) hn p e room_1 s m #[Value.ref (ex 0)] below meth c s.heap [] 0 0 _ _ F ⟨rfl, fun k t n vs h => (by simp at h), fun q _ => rfl⟩ (fun q hq => (by cases hq)) hA ?_ ?_ ?_
  · show 0 + (xshM.length - 0) ≤ 600000
    rw [x_len]
    exact Nat.le_of_ble_eq_true rfl
  · show 0 + (xsz xshM - 0) ≤ 7302250
    rw [Nat.zero_add, Nat.sub_zero]
    exact x_siz
  · intro pc ls st H' locs' arr' hs hH' hL' hA'
    obtain ⟨eS, hcase⟩ := xstep_ret hs
    rcases hcase with ⟨x, hd, rfl, eo, -⟩ | ⟨x, hd, rfl, eo, -⟩ | ⟨a, C, hd, rfl, eo, -⟩ | ⟨hd, rfl, eo, -⟩
    · cases eo
      refine W.widen (k := 600000) (n := 7302250) ?_ ?_ ?_
      · show 0 + (xshM.length - 0) ≤ 600000
        rw [x_len]
        exact Nat.le_of_ble_eq_true rfl
      · show 0 + (xsz xshM - 0) ≤ 7302250
        rw [Nat.zero_add, Nat.sub_zero]
        exact x_siz
      · exact va_forget hL' (lw_ret hx hb hr hlocks (by rw [← x_code0]; exact hd))
    · cases eo
    · cases eo
    · cases eo
set_option maxHeartbeats 4000000 in
theorem lw_walk (l : Launch) (hflags : l.flags = flags0) (b : Addr) (xs : List Int32) : MetFree l x (headSpec (Jvm.Cond.code x code maxLocals ret :: tables_1) room_1) (lw_P b xs) (fun _ _ _ _ _ => True) lw_Q := by
  refine MetFree.of_bodyS (code := code) (maxLocals := maxLocals) (ret := ret) (by decide) ?_ ?_
  · intro args s m h hn
    obtain ⟨meth, c, h1, h2, h3, h4, h5, h6, -, -⟩ := Cond.code_spec hn (atoms_spec (ws := Jvm.Cond.code x code maxLocals ret :: tables_1) h _ List.mem_cons_self)
    exact ⟨meth, c, h1, h2, h3, h4, h5, h6⟩
  · intro p e s m args below meth c s₁ B hml0 hP _
    obtain ⟨rfl, hx, hbd, hgv⟩ := hP
    obtain ⟨scr, harrAt, hlist, hof, hsmall⟩ := hx
    obtain ⟨hcb, hkn, -, -⟩ := State.arrayAt?_spec harrAt
    have hown : s.vm.findClass R_law = some m.cls := findClass_of_methodNamed B.named
    have hts0 : ∀ c ∈ (Jvm.Cond.code x code maxLocals ret :: tables_1), c.before #[Value.ref b] s = true := atoms_spec (ws := Jvm.Cond.code x code maxLocals ret :: tables_1) B.pre
    have hts : ∀ w ∈ lw_tbl, w.before #[Value.ref b] s = true := k2_hts_sels lw_privs (fun w hw => hts0 w (List.mem_cons_of_mem _ hw)) lw_privs_ok
    have hml : c.maxLocals = 4 := B.maxLocals_eq (hts0 _ List.mem_cons_self)
    have X₀ : Stand p l e room_1 s m #[Value.ref b] below meth c s₁ [] 0 0 := Stand.of_body B
    have hh0 : s₁.heap = s.heap := by rw [B.state]; rfl
    have hsz : scr.slots.size = xs.length := by rw [← Array.length_toList, hlist, List.length_map]
    have hval : ∀ j : Nat, j < xs.length → scr.slots[j]? = some (.int (xs.getD j 0)) := fun j hj => by
      rw [← Array.getElem?_toList, hlist]
      simp [hj]
    have hbl : b < s.heap.size := (Array.getElem?_eq_some_iff.mp hcb).1
    have hX : va_X b xs.length (fun j => xs.getD j 0) s s.heap := ⟨scr, hcb, hof, hkn, hsz, hval⟩
    have K : W p l e room_1 s m #[Value.ref b] below meth c s₁.heap [] 0 0 (lw_Z below #[Value.ref b] s) (entryFrame m ([Value.ref b] : List Value).toArray 4) := by
      rw [hh0]
      exact whole_start l hflags hbd ⟨B.exec, B.bytes, B.returns, hml, hown, hts, hX, hbl, B.notSynchronized, hgv, (name_of_methodNamed B.named B.method).1⟩
    obtain ⟨t, a1, o, b1, b2, b3⟩ := K s₁ rfl X₀
    exact ⟨t, o, a1, b1, b2, b3⟩
theorem lw_pre_spec {args : Array Value} {s : State} (h : (Jvm.Cond.and given_1 narrow_1).before args s = true) (hr : rest_1_c.before args s = true) : ∃ (b : Addr) (xs : List Int32), lw_P b xs args s := by
  have hs := flat_of_before _ h
  have hq := flat_of_before _ hr
  have hc : (Cond.count 1).before args s = true := hs _ (by decide +kernel)
  have harr : (Cond.arrayOf (.arg 0) .int).before args s = true := hs _ (by decide +kernel)
  have hle : (Cond.le (.length (.arg 0)) (.int 2560)).before args s = true := hs _ (by decide +kernel)
  have hlen : (Cond.isInt (.length (.arg 0))).before args s = true := hq _ (by decide +kernel)
  have hall : (Cond.all (.arg 0) (.isInt (.elem (.arg 0) (.index 0)))).before args s = true := hq _ (by decide +kernel)
  obtain ⟨b, xs, hb, hx⟩ := State.ints_of_pre rfl harr hlen hall
  have hsm : xs.length < 2 ^ 31 := hx.choose_spec.2.2.2
  have hev : (Term.length (.arg 0)).eval args s none [] s = some (.int xs.length.toInt32) := hx.length_eval hb
  have hv := Cond.le_ints hev (show (Term.int 2560).eval args s none [] s = some (.int 2560) from rfl)
  have hd : xs.length.toInt32 ≤ 2560 := by
    simpa [Cond.before, Cond.holds, hv] using hle
  have hN : xs.length ≤ 2560 := (Int32.ofNat_le_ofNat hsm (by decide)).mp (show Int32.ofNat xs.length ≤ Int32.ofNat 2560 from hd)
  exact ⟨b, xs, Cond.one_arg hc (show args[0]? = some (.ref b) from hb), hx, hN, h⟩
theorem lw_comes (l : Launch) (hflags : l.flags = flags0) : Comes l x (Jvm.Cond.code x code maxLocals ret :: tables_1) room_1 (fun tb e args s => Calls_1 tb e args s ∧ rest_1 tb e args s ∧ Pre_1 tb e args s)
    (fun _ _ args s o t => lw_Q args s o t) := by
  intro p e ha hc hk s m args below hf hfit hheap happ hpre
  obtain ⟨b, xs, hP⟩ := lw_pre_spec hpre.2.2 hpre.2.1
  obtain ⟨k, o, h1, h2, h3, hQ⟩ := lw_walk l hflags b xs p e ha hc hk s m args below hf ((Spec.applies_iff_loose hf).mp happ).1 hP trivial
  exact ⟨k, o, h1, h2, h3, hQ⟩
theorem lw_frame {s t : State} {o : Outcome} {args : Array Value} (h : Framed s o t [] 600000 7302250) :
    Framed s o t (fieldLocs frame_1_writes args s ++ arrayLocs frame_1_arrays args s ++ staticLocs frame_1_statics s) 600000 7302250 := h
theorem lw_limb (L : Cond) (hL : ∀ (args : Array Value) (s t : State), L.after args s (.returned (some (.int 1))) t = true) :
    ArmFor flags0 classFile x code maxLocals ret World_1 tables_1 room_1 Calls_1 rest_1 Pre_1
      (fun tb e a s o t => postC L tb e a s o t ∧ Framed s o t (fieldLocs frame_1_writes a s ++ arrayLocs frame_1_arrays a s ++ staticLocs frame_1_statics s) 600000 7302250) := by
  intro l hflags _ _ p e ha hc hk s m args below hf hfit hheap happ hpre
  obtain ⟨k, o, h1, h2, h3, rfl, hF⟩ := lw_comes l hflags p e ha hc hk s m args below hf hfit hheap happ hpre
  exact ⟨k, _, h1, h2, h3, hL args s _, lw_frame hF⟩
theorem i_vc : Claimed_1_1 ∧ Claimed_1_2 := ⟨lw_limb limb_1_1 (fun args s t => by simp [limb_1_1, Cond.after, Cond.holds, Cond.value]), lw_limb limb_1_2 (fun args s t => Cond.after_iff.mpr (by
  first | (rw [show limb_1_2 = Cond.eq .result (.int 1) from rfl, Cond.eq_ints (x := 1) (y := 1) rfl rfl]; simp; done) | (simp [limb_1_2, Cond.value, Term.eval]; done)))⟩
