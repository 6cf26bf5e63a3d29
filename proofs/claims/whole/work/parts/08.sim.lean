theorem xnx_inj {a : Nat} {b d : List Value} {e : xS} {fr' : xF} (h : xnx a b d e = some (.inl fr')) : (a, b, d, e) = fr' := Sum.inl.inj (Option.some.inj h)
theorem xbi_inv {f : Int32 → Int32 → Int32} {pc : Nat} {ls st : List Value} {S : xS} {fr' : xF} (h : xbi f pc ls st S = some (.inl fr')) : ∃ y x r, st = .int y :: .int x :: r ∧ (pc + 1, ls, .int (f x y) :: r, S) = fr' := by
  unfold xbi at h
  split at h
  · exact ⟨_, _, _, rfl, xnx_inj h⟩
  · cases h
theorem xbl_inv {f : Int64 → Int64 → Int64} {pc : Nat} {ls st : List Value} {S : xS} {fr' : xF} (h : xbl f pc ls st S = some (.inl fr')) : ∃ y x r, st = .long y :: .long x :: r ∧ (pc + 1, ls, .long (f x y) :: r, S) = fr' := by
  unfold xbl at h
  split at h
  · exact ⟨_, _, _, rfl, xnx_inj h⟩
  · cases h
theorem xld_inv {ls : List Value} {i pc : Nat} {st : List Value} {S : xS} {ok : Value → Bool} {fr' : xF} (h : xld ls i pc st S ok = some (.inl fr')) : ∃ v, ls[i]? = some v ∧ ok v = true ∧ (pc, ls, v :: st, S) = fr' := by
  unfold xld at h
  split at h
  · rename_i v hv
    split at h
    · rename_i ho
      exact ⟨v, hv, ho, xnx_inj h⟩
    · cases h
  · cases h
theorem xsto_inv {ls : List Value} {i pc : Nat} {st : List Value} {S : xS} {ok : Value → Bool} {fr' : xF} (h : xsto ls i pc st S ok = some (.inl fr')) : ∃ v r, st = v :: r ∧ ok v = true ∧ i < ls.length ∧ (pc, xst1 ls i v, r, S) = fr' := by
  unfold xsto at h
  split at h
  · split at h
    · rename_i ho
      exact ⟨_, _, rfl, ho.1, ho.2, xnx_inj h⟩
    · cases h
  · cases h
theorem xsto2_inv {ls : List Value} {i pc : Nat} {st : List Value} {S : xS} {fr' : xF} (h : xsto2 ls i pc st S = some (.inl fr')) : ∃ x r, st = .long x :: r ∧ i + 1 < ls.length ∧ (pc, xst2 ls i (.long x), r, S) = fr' := by
  unfold xsto2 at h
  split at h
  · split at h
    · rename_i ho
      exact ⟨_, _, rfl, ho, xnx_inj h⟩
    · cases h
  · cases h
theorem xjp_inv {pc : Nat} {off : Int} {ls st : List Value} {S : xS} {fr' : xF} (h : xjp pc off ls st S = some (.inl fr')) : (pc : Int) + off = ((((pc : Int) + off).toNat : Nat) : Int) ∧ (((pc : Int) + off).toNat, ls, st, S) = fr' := by
  unfold xjp at h
  split at h
  · rename_i ho
    exact ⟨by omega, xnx_inj h⟩
  · cases h
section XP
variable {p : Program} {l : Launch} {e : Env} {R : Room} {s : State} {m : MethodId} {args : Array Value} {below : List Frame} {meth : Method} {c : Code} {H : Heap} {locs : List Loc} {cells slots : Nat} {Q : State → Prop}
variable {base : Nat} {ex : Nat → Nat} {D : va_G} {cA : Nat → ClassId} {H00 : Heap} {X : xX} {Z : State → Prop}
theorem xtt_sim {pc : Nat} {x : Int32} {ls st : List Value} {S : xS} {d : Int} {fr' : xF} {ps : List (Int × Int)} (h : xtt pc x ls st S d ps = some (.inl fr')) : (pc : Int) + Op.lookupswitch.offset ps d x.toInt = ((fr'.1 : Nat) : Int) ∧ fr'.2 = (ls, st, S) := by
  induction ps with
  | nil =>
    obtain ⟨a, rfl⟩ := xjp_inv h
    exact ⟨a, rfl⟩
  | cons q r ih =>
    obtain ⟨k, o⟩ := q
    rw [Op.lookupswitch.offset_cons]
    rw [xtt] at h
    by_cases hk : x.toInt = k
    · rw [if_pos hk] at h
      rw [if_pos hk.symm]
      obtain ⟨a, rfl⟩ := xjp_inv h
      exact ⟨a, rfl⟩
    · rw [if_neg hk] at h
      rw [if_neg (fun q => hk q.symm)]
      exact ih h
theorem xnum_off {x : Int} {d : Int} : ∀ (offs : List Int) (lo : Int), (x < lo ∨ lo + offs.length ≤ x → Op.lookupswitch.offset (xnum lo offs) d x = d) ∧ (lo ≤ x → x < lo + offs.length → offs[(x - lo).toNat]? = some (Op.lookupswitch.offset (xnum lo offs) d x))
  | [], lo => ⟨fun _ => rfl, fun h1 h2 => by simp at h2; omega⟩
  | o :: r, lo => by
    have ih := xnum_off (x := x) (d := d) r (lo + 1)
    rw [xnum, Op.lookupswitch.offset_cons]
    constructor
    · intro h
      rw [if_neg (by simp at h; omega)]
      exact ih.1 (by simp at h; omega)
    · intro h1 h2
      by_cases e : lo = x
      · rw [if_pos e]
        subst e
        simp
      · rw [if_neg e]
        have h3 := ih.2 (by omega) (by simp at h2; omega)
        rw [show (x - lo).toNat = (x - (lo + 1)).toNat + 1 by omega, List.getElem?_cons_succ]
        exact h3
end XP
