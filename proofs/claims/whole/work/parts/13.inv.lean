theorem xtt_inl {pc : Nat} {x : Int32} {ls st : List Value} {S : xS} {d : Int} {r : xR} {ps : List (Int × Int)} (h : xtt pc x ls st S d ps = some r) : ∃ fr : xF, r = .inl fr ∧ fr.2.2.2 = S := by
  induction ps with
  | nil =>
    unfold xtt xjp at h
    split at h
    · exact ⟨_, (Option.some.inj h).symm, rfl⟩
    · cases h
  | cons q t ih =>
    obtain ⟨a, o⟩ := q
    rw [xtt] at h
    split at h
    · unfold xjp at h
      split at h
      · exact ⟨_, (Option.some.inj h).symm, rfl⟩
      · cases h
    · exact ih h
theorem xpop_inv : ∀ (n : Nat) (acc st as r : List Value), xpop n acc st = some (as, r) → ∃ bs, as = bs ++ acc ∧ bs.length = n ∧ st = bs.reverse ++ r
  | 0, acc, st, as, r, h => by cases h; exact ⟨[], rfl, rfl, rfl⟩
  | n + 1, acc, [], as, r, h => by cases h
  | n + 1, acc, v :: st, as, r, h => by
    obtain ⟨bs, e1, e2, e3⟩ := xpop_inv n (v :: acc) st as r h
    refine ⟨bs ++ [v], by simp [e1], by simp [e2], by simp [e3]⟩
theorem xpf_len {S S' : xS} {k ci j : Nat} {x : Int32} (h : xpf S k ci j x = some S') : S'.1 = S.1 := by
  unfold xpf at h
  repeat' split at h
  all_goals first | cases h; done | (cases h; rfl)
theorem xas_len {S S' : xS} {k t : Nat} {i x : Int32} (h : xas S k t i x = some S') : S'.1 = S.1 := by
  unfold xas at h
  repeat' split at h
  all_goals first | cases h; done | (cases h; rfl)
theorem xacp_len {S S' : xS} {k0 k1 : Nat} {sp dp n : Int32} (h : xacp S k0 k1 sp dp n = some S') : S'.1 = S.1 := by
  unfold xacp at h
  repeat' split at h
  all_goals first | cases h; done | (cases h; rfl)
theorem xpr_len {S S' : xS} {k ci j a : Nat} (h : xpr S k ci j a = some S') : S'.1.length = S.1.length ∧ xsz S'.1 = xsz S.1 := by
  unfold xpr at h
  split at h
  · rename_i t0 n0 vs0 hS0
    split at h
    · split at h
      · cases h
        refine ⟨by simp, ?_⟩
        unfold xsz
        rw [List.map_set]
        congr 1
        exact xset_self (by rw [List.getElem?_map, hS0]; rfl)
      · cases h
    · cases h
  · cases h
theorem xaw_len {S S' : xS} {k a : Nat} {i : Int32} (h1 : xaw S k i a = some S') : S'.1.length = S.1.length ∧ xsz S'.1 = xsz S.1 := by
  unfold xaw at h1
  split at h1
  · rename_i t0 n0 vs0 hS0
    split at h1
    · split at h1
      · split at h1
        · cases h1
          refine ⟨by simp, ?_⟩
          unfold xsz
          rw [List.map_set]
          congr 1
          exact xset_self (by rw [List.getElem?_map, hS0]; rfl)
        · cases h1
      · cases h1
    · cases h1
  · cases h1
theorem xnwo_len {S S' : xS} {ci : Nat} (h : xnwo S ci = some S') : S.1.length ≤ S'.1.length ∧ xsz S.1 ≤ xsz S'.1 := by
  unfold xnwo at h
  split at h
  · cases h; exact ⟨by simp, by rw [xsz_app]; omega⟩
  · cases h
theorem xnwa_len {S S' : xS} {t : Nat} {n : Int32} (h : xnwa S t n = some S') : S.1.length ≤ S'.1.length ∧ xsz S.1 ≤ xsz S'.1 := by
  unfold xnwa at h
  split at h
  · cases h; exact ⟨by simp, by rw [xsz_app]; omega⟩
  · cases h
theorem xnwq_len {S S' : xS} {n : Int32} (h : xnwq S n = some S') : S.1.length ≤ S'.1.length ∧ xsz S.1 ≤ xsz S'.1 := by
  unfold xnwq at h
  split at h
  · cases h; exact ⟨by simp, by rw [xsz_app]; omega⟩
  · cases h
theorem xle2 {S S' : xS} (h : S'.1 = S.1) : S.1.length ≤ S'.1.length ∧ xsz S.1 ≤ xsz S'.1 := by rw [h]; exact ⟨Nat.le_refl _, Nat.le_refl _⟩
theorem xle3 {S S' : xS} (h : S'.1.length = S.1.length ∧ xsz S'.1 = xsz S.1) : S.1.length ≤ S'.1.length ∧ xsz S.1 ≤ xsz S'.1 := by rw [h.1, h.2]; exact ⟨Nat.le_refl _, Nat.le_refl _⟩
def xG (S : xS) (r : xR) : Prop := ∃ fr' : xF, r = .inl fr' ∧ S.1.length ≤ fr'.2.2.2.1.length ∧ xsz S.1 ≤ xsz fr'.2.2.2.1
theorem xG_nx {a : Nat} {b d : List Value} {S S' : xS} {r : xR} (h : xnx a b d S' = some r) (hs : S.1.length ≤ S'.1.length ∧ xsz S.1 ≤ xsz S'.1) : xG S r := ⟨_, (Option.some.inj h).symm, hs⟩
theorem xG_n {a : Nat} {b d : List Value} {S : xS} {r : xR} (h : xnx a b d S = some r) : xG S r := xG_nx h ⟨Nat.le_refl _, Nat.le_refl _⟩
theorem xG_jp {pc : Nat} {off : Int} {ls st : List Value} {S : xS} {r : xR} (h : xjp pc off ls st S = some r) : xG S r := by
  unfold xjp at h
  split at h
  · exact xG_n h
  · cases h
theorem xG_bi {f : Int32 → Int32 → Int32} {pc : Nat} {ls st : List Value} {S : xS} {r : xR} (h : xbi f pc ls st S = some r) : xG S r := by
  unfold xbi at h
  split at h
  · exact xG_n h
  · cases h
theorem xG_bl {f : Int64 → Int64 → Int64} {pc : Nat} {ls st : List Value} {S : xS} {r : xR} (h : xbl f pc ls st S = some r) : xG S r := by
  unfold xbl at h
  split at h
  · exact xG_n h
  · cases h
theorem xG_ld {ls : List Value} {i pc : Nat} {st : List Value} {S : xS} {ok : Value → Bool} {r : xR} (h : xld ls i pc st S ok = some r) : xG S r := by
  unfold xld at h
  split at h
  · split at h
    · exact xG_n h
    · cases h
  · cases h
theorem xG_sto {ls : List Value} {i pc : Nat} {st : List Value} {S : xS} {ok : Value → Bool} {r : xR} (h : xsto ls i pc st S ok = some r) : xG S r := by
  unfold xsto at h
  split at h
  · split at h
    · exact xG_n h
    · cases h
  · cases h
theorem xG_sto2 {ls : List Value} {i pc : Nat} {st : List Value} {S : xS} {r : xR} (h : xsto2 ls i pc st S = some r) : xG S r := by
  unfold xsto2 at h
  split at h
  · split at h
    · exact xG_n h
    · cases h
  · cases h
theorem xG_tt {pc : Nat} {x : Int32} {ls st : List Value} {S : xS} {d : Int} {r : xR} {ps : List (Int × Int)} (h : xtt pc x ls st S d ps = some r) : xG S r := by
  obtain ⟨fr, e, e2⟩ := xtt_inl h
  exact ⟨fr, e, by rw [e2]; exact ⟨Nat.le_refl _, Nat.le_refl _⟩⟩
def xplain (i : Instr) : Bool := match i with
  | .ireturn => false
  | .lreturn => false
  | .areturn => false
  | .return_ => false
  | .invokestatic _ => false
  | .invokevirtual _ => false
  | .invokespecial _ => false
  | _ => true
set_option maxHeartbeats 4000000 in
theorem xex_cls {X : xX} {id : Nat} {i : Instr} {pc : Nat} {ls st : List Value} {S : xS} {r : xR} (hi : xplain i = true) (h : xex X id i pc ls st S = some r) : xG S r := by
  cases i
  case ireturn => cases hi
  case lreturn => cases hi
  case areturn => cases hi
  case return_ => cases hi
  case invokestatic j => cases hi
  case invokevirtual j => cases hi
  case invokespecial j => cases hi
  case tableswitch d lo hi offs =>
    simp only [xex] at h
    split at h
    · split at h
      · exact xG_tt h
      · cases h
    · cases h
  case lookupswitch d ps =>
    simp only [xex] at h
    split at h
    · split at h
      · exact xG_tt h
      · cases h
    · cases h
  case putfield j =>
    simp only [xex] at h
    split at h
    · obtain ⟨f, h1, h2⟩ := xbp h
      split at h2
      · cases h2
      · obtain ⟨S', h3, h4⟩ := xbp h2
        exact xG_nx h4 (xle2 (xpf_len h3))
    · obtain ⟨f, h1, h2⟩ := xbp h
      split at h2
      · cases h2
      · obtain ⟨S', h3, h4⟩ := xbp h2
        exact xG_nx h4 (xle3 (xpr_len h3))
    · cases h
  case iastore =>
    simp only [xex] at h
    split at h
    · obtain ⟨S', h3, h4⟩ := xbp h
      exact xG_nx h4 (xle2 (xas_len h3))
    · cases h
  case bastore =>
    simp only [xex] at h
    split at h
    · split at h
      · obtain ⟨S', h3, h4⟩ := xbp h
        exact xG_nx h4 (xle2 (xas_len h3))
      · cases h
    · cases h
  case aastore =>
    simp only [xex] at h
    split at h
    · obtain ⟨S', h3, h4⟩ := xbp h
      exact xG_nx h4 (xle3 (xaw_len h3))
    · cases h
  case newarray t =>
    simp only [xex] at h
    split at h
    · split at h
      · obtain ⟨S', h3, h4⟩ := xbp h
        exact xG_nx h4 (xnwa_len h3)
      · obtain ⟨S', h3, h4⟩ := xbp h
        exact xG_nx h4 (xnwa_len h3)
      · cases h
    · cases h
  case anewarray j =>
    simp only [xex] at h
    split at h
    · obtain ⟨w, h1, h2⟩ := xbp h
      split at h2
      · obtain ⟨S', h3, h4⟩ := xbp h2
        exact xG_nx h4 (xnwq_len h3)
      · cases h2
    · cases h
  case new j =>
    simp only [xex] at h
    obtain ⟨w, h1, h2⟩ := xbp h
    obtain ⟨S', h3, h4⟩ := xbp h2
    exact xG_nx h4 (xnwo_len h3)
  case ldc j =>
    simp only [xex] at h
    obtain ⟨w, h1, h2⟩ := xbp h
    split at h2
    · exact xG_n h2
    · exact xG_n h2
    · cases h2
  case ldc2_w j =>
    simp only [xex] at h
    obtain ⟨w, h1, h2⟩ := xbp h
    split at h2
    · exact xG_n h2
    · cases h2
  case getfield j =>
    simp only [xex] at h
    split at h
    · obtain ⟨f, h1, h2⟩ := xbp h
      obtain ⟨v, h3, h4⟩ := xbp h2
      exact xG_n h4
    · cases h
  case iaload =>
    simp only [xex] at h
    split at h
    · obtain ⟨v, h3, h4⟩ := xbp h
      exact xG_n h4
    · split at h
      · exact xG_n h
      · cases h
    · cases h
  case baload =>
    simp only [xex] at h
    split at h
    · obtain ⟨v, h3, h4⟩ := xbp h
      exact xG_n h4
    · cases h
  case aaload =>
    simp only [xex] at h
    split at h
    · obtain ⟨v, h3, h4⟩ := xbp h
      exact xG_n h4
    · cases h
  case arraylength =>
    simp only [xex] at h
    split at h
    · obtain ⟨v, h3, h4⟩ := xbp h
      exact xG_n h4
    · exact xG_n h
    · cases h
  case iload j => exact xG_ld h
  case iload_n j => exact xG_ld h
  case lload j => exact xG_ld h
  case lload_n j => exact xG_ld h
  case aload j => exact xG_ld h
  case aload_n j => exact xG_ld h
  case istore j => exact xG_sto h
  case istore_n j => exact xG_sto h
  case astore j => exact xG_sto h
  case astore_n j => exact xG_sto h
  case lstore j => exact xG_sto2 h
  case lstore_n j => exact xG_sto2 h
  case goto off => exact xG_jp h
  case ifCond c off =>
    simp only [xex] at h
    split at h
    · split at h
      · split at h
        · exact xG_n h
        · exact xG_n h
      · cases h
    · cases h
  case if_icmp c off =>
    simp only [xex] at h
    split at h
    · split at h
      · split at h
        · exact xG_n h
        · exact xG_n h
      · cases h
    · cases h
  case iconst k => exact xG_n h
  case bipush k => exact xG_n h
  case sipush k => exact xG_n h
  case lconst k => exact xG_n h
  case iinc j k =>
    simp only [xex] at h
    split at h
    · exact xG_n h
    · cases h
  case iadd => exact xG_bi h
  case isub => exact xG_bi h
  case imul => exact xG_bi h
  case iand => exact xG_bi h
  case ior => exact xG_bi h
  case ishl => exact xG_bi h
  case ishr => exact xG_bi h
  case ladd => exact xG_bl h
  case lsub => exact xG_bl h
  case lmul => exact xG_bl h
  case land => exact xG_bl h
  case lor => exact xG_bl h
  case idiv =>
    simp only [xex] at h
    split at h
    · split at h
      · cases h
      · exact xG_n h
    · cases h
  case irem =>
    simp only [xex] at h
    split at h
    · split at h
      · cases h
      · exact xG_n h
    · cases h
  case ldiv =>
    simp only [xex] at h
    split at h
    · split at h
      · cases h
      · exact xG_n h
    · cases h
  case lrem =>
    simp only [xex] at h
    split at h
    · split at h
      · cases h
      · exact xG_n h
    · cases h
  case ineg =>
    simp only [xex] at h
    split at h
    · exact xG_n h
    · cases h
  case lneg =>
    simp only [xex] at h
    split at h
    · exact xG_n h
    · cases h
  case lshl =>
    simp only [xex] at h
    split at h
    · exact xG_n h
    · cases h
  case lshr =>
    simp only [xex] at h
    split at h
    · exact xG_n h
    · cases h
  case lcmp =>
    simp only [xex] at h
    split at h
    · exact xG_n h
    · cases h
  case i2l =>
    simp only [xex] at h
    split at h
    · exact xG_n h
    · cases h
  case l2i =>
    simp only [xex] at h
    split at h
    · exact xG_n h
    · cases h
  case dup =>
    simp only [xex] at h
    split at h
    · split at h
      · exact xG_n h
      · cases h
    · cases h
  case pop =>
    simp only [xex] at h
    split at h
    · split at h
      · exact xG_n h
      · cases h
    · cases h
  case dup2 =>
    simp only [xex] at h
    split at h
    · split at h
      · exact xG_n h
      · cases h
    · cases h
  all_goals cases h
theorem xcall_cls {id pc : Nat} {ls st : List Value} {S : xS} {kind j n : Nat} {r : xR} (h : xcall id pc ls st S kind j n = some r) : xG S r ∨ ∃ as r', r = .inr (.inr (j, as, (pc + 3, ls, r', S))) := by
  unfold xcall at h
  split at h
  · obtain ⟨w, h1, h2⟩ := xbp h
    split at h2
    · exact Or.inr ⟨_, _, (Option.some.inj h2).symm⟩
    · cases h2
  · obtain ⟨w, h1, h2⟩ := xbp h
    split at h2
    · exact Or.inr ⟨_, _, (Option.some.inj h2).symm⟩
    · cases h2
  · obtain ⟨w, h1, h2⟩ := xbp h
    split at h2
    · split at h2
      · exact Or.inr ⟨_, _, (Option.some.inj h2).symm⟩
      · cases h2
    · cases h2
  · obtain ⟨w, h1, h2⟩ := xbp h
    split at h2
    · split at h2
      · exact Or.inr ⟨_, _, (Option.some.inj h2).symm⟩
      · cases h2
    · cases h2
  · obtain ⟨w, h1, h2⟩ := xbp h
    split at h2
    · split at h2
      · exact Or.inr ⟨_, _, (Option.some.inj h2).symm⟩
      · cases h2
    · cases h2
  · split at h
    · split at h
      · exact Or.inl (xG_n h)
      · cases h
    · cases h
  · split at h
    · split at h
      · obtain ⟨S', h3, h4⟩ := xbp h
        exact Or.inl (xG_nx h4 (xle2 (xacp_len h3)))
      · cases h
    · cases h
  · split at h
    · split at h
      · obtain ⟨v, h3, h4⟩ := xbp h
        exact Or.inl (xG_n h4)
      · cases h
    · cases h
  · split at h
    · split at h
      · exact Or.inl (xG_n h)
      · cases h
    · cases h
  · split at h
    · split at h
      · exact Or.inl (xG_n h)
      · cases h
    · cases h
  · split at h
    · split at h
      · exact Or.inl (xG_n h)
      · cases h
    · cases h
  · split at h
    · split at h
      · exact Or.inl (xG_n h)
      · cases h
    · cases h
  · cases h
theorem xinv_cls {id pc : Nat} {ls st : List Value} {S : xS} {idx : Nat} {ks : List Nat} {r : xR} (h : xinv id pc ls st S idx ks = some r) : xG S r ∨ ∃ j as r', r = .inr (.inr (j, as, (pc + 3, ls, r', S))) := by
  obtain ⟨w, h1, h2⟩ := xbp h
  split at h2
  · rcases xcall_cls h2 with h | h
    · exact Or.inl h
    · exact Or.inr ⟨_, h⟩
  · cases h2
theorem xrt_cls {id : Nat} {st : List Value} {S : xS} {r : xR} (h : xrt id st S = some r) : ∃ x, st = [.int x] ∧ r = .inr (.inl (some (.int x), S)) ∧ (xret id = some .int ∨ (xret id = some .boolean ∧ (x = 0 ∨ x = 1))) := by
  unfold xrt at h
  split at h
  · split at h
    · rename_i hr
      exact ⟨_, rfl, (Option.some.inj h).symm, Or.inl hr⟩
    · rename_i hr
      split at h
      · rename_i h01
        exact ⟨_, rfl, (Option.some.inj h).symm, Or.inr ⟨hr, h01⟩⟩
      · cases h
    · cases h
  · cases h
theorem xstep_mono {X : xX} {id : Nat} {fr fr' : xF} (h : xstep X id fr = some (.inl fr')) : fr.2.2.2.1.length ≤ fr'.2.2.2.1.length ∧ xsz fr.2.2.2.1 ≤ xsz fr'.2.2.2.1 := by
  obtain ⟨pc, ls, st, S⟩ := fr
  have key : ∀ {r : xR}, xG S r → r = .inl fr' → S.1.length ≤ fr'.2.2.2.1.length ∧ xsz S.1 ≤ xsz fr'.2.2.2.1 := by
    rintro r ⟨fr2, rfl, h2⟩ e
    cases e
    exact h2
  rw [xstep_s] at h
  split at h
  · rename_i i n hd
    split at h
    · cases hp : xplain i with
      | true => exact key (xex_cls hp h) rfl
      | false =>
        cases i
        case invokestatic j =>
          rcases xinv_cls h with h2 | ⟨_, _, _, e⟩
          · exact key h2 rfl
          · cases e
        case invokevirtual j =>
          rcases xinv_cls h with h2 | ⟨_, _, _, e⟩
          · exact key h2 rfl
          · cases e
        case invokespecial j =>
          rcases xinv_cls h with h2 | ⟨_, _, _, e⟩
          · exact key h2 rfl
          · cases e
        case ireturn =>
          obtain ⟨_, _, e, _⟩ := xrt_cls h
          cases e
        case lreturn =>
          simp only [xex] at h
          split at h
          · split at h <;> cases h
          · cases h
        case areturn =>
          simp only [xex] at h
          split at h
          · split at h <;> cases h
          · cases h
        case return_ =>
          simp only [xex] at h
          split at h
          · split at h <;> cases h
          · cases h
        all_goals cases hp
    · cases h
  · cases h
theorem xstep_ret {X : xX} {id pc : Nat} {ls st : List Value} {S : xS} {o : xO} (h : xstep X id (pc, ls, st, S) = some (.inr (.inl o))) :
    o.2 = S ∧ ((∃ x, decode (xbc id) pc = .ok (.ireturn, 1) ∧ st = [.int x] ∧ o.1 = some (.int x) ∧ (xret id = some .int ∨ (xret id = some .boolean ∧ (x = 0 ∨ x = 1)))) ∨ (∃ x, decode (xbc id) pc = .ok (.lreturn, 1) ∧ st = [.long x] ∧ o.1 = some (.long x) ∧ xret id = some .long) ∨ (∃ a C, decode (xbc id) pc = .ok (.areturn, 1) ∧ st = [.ref a] ∧ o.1 = some (.ref a) ∧ xret id = some (.object C)) ∨ (decode (xbc id) pc = .ok (.return_, 1) ∧ st = [] ∧ o.1 = none ∧ xret id = none)) := by
  rw [xstep_s] at h
  split at h
  · rename_i i n hd
    split at h
    · rename_i hn
      cases hp : xplain i with
      | true => obtain ⟨_, e, _⟩ := xex_cls hp h; cases e
      | false =>
        cases i
        case invokestatic j =>
          rcases xinv_cls h with ⟨_, e, _⟩ | ⟨_, _, _, e⟩ <;> cases e
        case invokevirtual j =>
          rcases xinv_cls h with ⟨_, e, _⟩ | ⟨_, _, _, e⟩ <;> cases e
        case invokespecial j =>
          rcases xinv_cls h with ⟨_, e, _⟩ | ⟨_, _, _, e⟩ <;> cases e
        case ireturn =>
          have hn : n = 1 := hn
          subst hn
          obtain ⟨x, e1, e2, e3⟩ := xrt_cls h
          cases e2
          exact ⟨rfl, Or.inl ⟨x, hd, e1, rfl, e3⟩⟩
        case lreturn =>
          have hn : n = 1 := hn
          subst hn
          simp only [xex] at h
          split at h
          · split at h
            · rename_i hr
              cases h
              exact ⟨rfl, Or.inr (Or.inl ⟨_, hd, rfl, rfl, hr⟩)⟩
            · cases h
          · cases h
        case areturn =>
          have hn : n = 1 := hn
          subst hn
          simp only [xex] at h
          split at h
          · split at h
            · rename_i hr
              cases h
              exact ⟨rfl, Or.inr (Or.inr (Or.inl ⟨_, _, hd, rfl, rfl, hr⟩))⟩
            · cases h
          · cases h
        case return_ =>
          have hn : n = 1 := hn
          subst hn
          simp only [xex] at h
          split at h
          · split at h
            · rename_i hr
              cases h
              exact ⟨rfl, Or.inr (Or.inr (Or.inr ⟨hd, rfl, rfl, hr⟩))⟩
            · cases h
          · cases h
        all_goals cases hp
    · cases h
  · cases h
theorem xstep_call {X : xX} {id pc j : Nat} {ls st as : List Value} {S : xS} {fr' : xF} (h : xstep X id (pc, ls, st, S) = some (.inr (.inr (j, as, fr')))) :
    ∃ (idx kind nn p1 p2 p3 : Nat) (r : List Value), xmth (xown id) idx = some (kind, j, nn, p1, p2, p3) ∧ fr' = (pc + 3, ls, r, S) ∧ xcat r ≤ 8 ∧
      (((kind = 0 ∨ kind = 3) ∧ decode (xbc id) pc = .ok (.invokestatic idx, 3) ∧ st = as.reverse ++ r ∧ as.length = nn) ∨
       (kind = 1 ∧ decode (xbc id) pc = .ok (.invokevirtual idx, 3) ∧ ∃ k as', as = .ref k :: as' ∧ st = as'.reverse ++ .ref k :: r ∧ as'.length = nn ∧ (S.1[k]?).map (fun c => c.1) = some (xown j + 3)) ∨
       ((kind = 2 ∨ kind = 5) ∧ decode (xbc id) pc = .ok (.invokespecial idx, 3) ∧ ∃ k as', as = .ref k :: as' ∧ st = as'.reverse ++ .ref k :: r ∧ as'.length = nn)) := by
  have pk : ∀ {nn : Nat} {as' r : List Value}, xpop nn [] st = some (as', r) → st = as'.reverse ++ r ∧ as'.length = nn := by
    intro nn as' r h3
    obtain ⟨bs, e1, e2, e3⟩ := xpop_inv _ _ _ _ _ h3
    rw [List.append_nil] at e1
    subst e1
    exact ⟨e3, e2⟩
  have nG : ∀ {r : xR}, xG S r → r ≠ .inr (.inr (j, as, fr')) := by
    rintro r ⟨_, rfl, _⟩ e
    cases e
  rw [xstep_s] at h
  split at h
  · rename_i i n hd
    split at h
    · rename_i hn
      cases hp : xplain i with
      | true => exact absurd rfl (nG (xex_cls hp h))
      | false =>
        cases i
        case ireturn => obtain ⟨_, _, e, _⟩ := xrt_cls h; cases e
        case lreturn =>
          simp only [xex] at h
          split at h
          · split at h <;> cases h
          · cases h
        case areturn =>
          simp only [xex] at h
          split at h
          · split at h <;> cases h
          · cases h
        case return_ =>
          simp only [xex] at h
          split at h
          · split at h <;> cases h
          · cases h
        case invokestatic idx =>
          have hn : n = 3 := hn
          subst hn
          obtain ⟨⟨kind, jj, nn, p1, p2, p3⟩, h1, h2⟩ := xbp h
          dsimp only at h2
          split at h2
          · rename_i hks
            have hk : kind = 0 ∨ kind = 3 ∨ kind = 7 ∨ kind = 9 ∨ kind = 10 ∨ kind = 11 ∨ kind = 12 := by simpa using hks
            rcases hk with rfl | rfl | rfl | rfl | rfl | rfl | rfl
            · obtain ⟨⟨as', r⟩, h3, h4⟩ := xbp h2
              dsimp only at h4
              split at h4
              · rename_i h8
                cases h4
                obtain ⟨e3, e2⟩ := pk h3
                exact ⟨idx, _, nn, p1, p2, p3, r, h1, rfl, h8, Or.inl ⟨Or.inl rfl, hd, e3, e2⟩⟩
              · cases h4
            · obtain ⟨⟨as', r⟩, h3, h4⟩ := xbp h2
              dsimp only at h4
              split at h4
              · rename_i h8
                cases h4
                obtain ⟨e3, e2⟩ := pk h3
                exact ⟨idx, _, nn, p1, p2, p3, r, h1, rfl, h8, Or.inl ⟨Or.inr rfl, hd, e3, e2⟩⟩
              · cases h4
            · simp only [xcall] at h2
              split at h2
              · split at h2
                · obtain ⟨S', h3, h4⟩ := xbp h2
                  cases h4
                · cases h2
              · cases h2
            · simp only [xcall] at h2
              split at h2
              · split at h2 <;> cases h2
              · cases h2
            · simp only [xcall] at h2
              split at h2
              · split at h2 <;> cases h2
              · cases h2
            · simp only [xcall] at h2
              split at h2
              · split at h2 <;> cases h2
              · cases h2
            · simp only [xcall] at h2
              split at h2
              · split at h2 <;> cases h2
              · cases h2
          · cases h2
        case invokevirtual idx =>
          have hn : n = 3 := hn
          subst hn
          obtain ⟨⟨kind, jj, nn, p1, p2, p3⟩, h1, h2⟩ := xbp h
          dsimp only at h2
          split at h2
          · rename_i hks
            have hk : kind = 1 ∨ kind = 8 := by simpa using hks
            rcases hk with rfl | rfl
            · obtain ⟨⟨as', r⟩, h3, h4⟩ := xbp h2
              dsimp only at h4
              split at h4
              · rename_i k as2
                split at h4
                · rename_i h8
                  cases h4
                  obtain ⟨e3, e2⟩ := pk h3
                  exact ⟨idx, _, nn, p1, p2, p3, r, h1, rfl, h8.1, Or.inr (Or.inl ⟨rfl, hd, k, as2, rfl, by simpa using e3, by simpa using e2, h8.2⟩)⟩
                · cases h4
              · cases h4
            · simp only [xcall] at h2
              split at h2
              · split at h2
                · obtain ⟨v, h3, h4⟩ := xbp h2
                  cases h4
                · cases h2
              · cases h2
          · cases h2
        case invokespecial idx =>
          have hn : n = 3 := hn
          subst hn
          obtain ⟨⟨kind, jj, nn, p1, p2, p3⟩, h1, h2⟩ := xbp h
          dsimp only at h2
          split at h2
          · rename_i hks
            have hk : kind = 2 ∨ kind = 5 ∨ kind = 6 := by simpa using hks
            rcases hk with rfl | rfl | rfl
            · obtain ⟨⟨as', r⟩, h3, h4⟩ := xbp h2
              dsimp only at h4
              split at h4
              · rename_i k as2
                split at h4
                · rename_i h8
                  cases h4
                  obtain ⟨e3, e2⟩ := pk h3
                  exact ⟨idx, _, nn, p1, p2, p3, r, h1, rfl, h8, Or.inr (Or.inr ⟨Or.inl rfl, hd, k, as2, rfl, by simpa using e3, by simpa using e2⟩)⟩
                · cases h4
              · cases h4
            · obtain ⟨⟨as', r⟩, h3, h4⟩ := xbp h2
              dsimp only at h4
              split at h4
              · rename_i k as2
                split at h4
                · rename_i h8
                  cases h4
                  obtain ⟨e3, e2⟩ := pk h3
                  exact ⟨idx, _, nn, p1, p2, p3, r, h1, rfl, h8, Or.inr (Or.inr ⟨Or.inr rfl, hd, k, as2, rfl, by simpa using e3, by simpa using e2⟩)⟩
                · cases h4
              · cases h4
            · simp only [xcall] at h2
              split at h2
              · split at h2 <;> cases h2
              · cases h2
          · cases h2
        all_goals cases hp
    · cases h
  · cases h
