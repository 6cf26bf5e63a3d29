theorem xgo_mono {k k' : xF → Option xO} {c c' : Nat → List Value → xS → Option xO} (hk : ∀ fr o, k fr = some o → k' fr = some o) (hc : ∀ j as S o, c j as S = some o → c' j as S = some o) {r : Option xR} {o : xO} (h : xgo k c r = some o) : xgo k' c' r = some o := by
  rcases r with _ | (fr | (o' | ⟨j, as, fr⟩))
  · exact h
  · exact hk _ _ h
  · exact h
  · simp only [xgo] at h ⊢
    obtain ⟨o1, h1, h2⟩ := Option.bind_eq_some_iff.mp h
    rw [hc _ _ _ _ h1]
    exact hk _ _ h2
theorem xrun_succ (X : xX) (n id : Nat) (fr : xF) : xrun X (n + 1) id fr = xgo (xrun X n id) (fun j as S => if xrm id j = true ∧ (xsl as).length ≤ xml j then xrun X n j (0, xent (xml j) as, [], S) else none) (xstep X id fr) := rfl
theorem xrun_mono1 (X : xX) : ∀ (n id : Nat) (fr : xF) (o : xO), xrun X n id fr = some o → xrun X (n + 1) id fr = some o
  | 0, _, _, _, h => by cases h
  | n + 1, id, fr, o, h => by
    rw [xrun_succ] at h ⊢
    refine xgo_mono (fun fr o => xrun_mono1 X n id fr o) (fun j as S o h => ?_) h
    by_cases hc : xrm id j = true ∧ (xsl as).length ≤ xml j
    · rw [if_pos hc] at h ⊢
      exact xrun_mono1 X n j _ o h
    · rw [if_neg hc] at h
      cases h
theorem xrun_mono (X : xX) {n m id : Nat} {fr : xF} {o : xO} (hnm : n ≤ m) (h : xrun X n id fr = some o) : xrun X m id fr = some o := by
  induction hnm with
  | refl => exact h
  | step _ ih => exact xrun_mono1 X _ _ _ _ ih
noncomputable def xV (X : xX) (id : Nat) (fr : xF) : Option xO := @dite (Option xO) (∃ o n, xrun X n id fr = some o) (Classical.propDecidable _) (fun h => some h.choose) (fun _ => none)
theorem xV_some {X : xX} {id : Nat} {fr : xF} {o : xO} : xV X id fr = some o ↔ ∃ n, xrun X n id fr = some o := by
  unfold xV
  by_cases h : ∃ o n, xrun X n id fr = some o
  · rw [dif_pos h]
    obtain ⟨n, hn⟩ := h.choose_spec
    constructor
    · intro e
      cases e
      exact ⟨n, hn⟩
    · rintro ⟨m, hm⟩
      have h1 := xrun_mono X (Nat.le_max_left n m) hn
      have h2 := xrun_mono X (Nat.le_max_right n m) hm
      rw [h1] at h2
      exact h2
  · rw [dif_neg h]
    constructor
    · intro e; cases e
    · rintro ⟨n, hn⟩
      exact absurd ⟨o, n, hn⟩ h
noncomputable def xK (X : xX) (j : Nat) (as : List Value) (S : xS) : Option xO := xV X j (0, xent (xml j) as, [], S)
noncomputable def xC (X : xX) (id j : Nat) (as : List Value) (S : xS) : Option xO := if xrm id j = true ∧ (xsl as).length ≤ xml j then xK X j as S else none
theorem xV_eq (X : xX) (id : Nat) (fr : xF) : xV X id fr = xgo (xV X id) (xC X id) (xstep X id fr) := by
  have key : ∀ o, xV X id fr = some o ↔ xgo (xV X id) (xC X id) (xstep X id fr) = some o := by
    intro o
    constructor
    · intro h
      obtain ⟨n, hn⟩ := xV_some.mp h
      cases n with
      | zero => cases hn
      | succ n =>
        rw [xrun_succ] at hn
        refine xgo_mono (fun fr o h => xV_some.mpr ⟨n, h⟩) (fun j as S o h => ?_) hn
        unfold xC
        by_cases hc : xrm id j = true ∧ (xsl as).length ≤ xml j
        · rw [if_pos hc] at h ⊢
          exact xV_some.mpr ⟨n, h⟩
        · rw [if_neg hc] at h
          cases h
    · intro h
      refine xV_some.mpr ?_
      rcases hr : xstep X id fr with _ | (fr' | (o' | ⟨j, as, fr'⟩))
      · rw [hr] at h; cases h
      · rw [hr] at h
        obtain ⟨n, hn⟩ := xV_some.mp h
        exact ⟨n + 1, by rw [xrun_succ, hr]; exact hn⟩
      · rw [hr] at h
        exact ⟨1, by rw [xrun_succ, hr]; exact h⟩
      · rw [hr] at h
        simp only [xgo] at h
        obtain ⟨o1, h1, h2⟩ := Option.bind_eq_some_iff.mp h
        obtain ⟨n2, hn2⟩ := xV_some.mp h2
        unfold xC at h1
        by_cases hc : xrm id j = true ∧ (xsl as).length ≤ xml j
        · rw [if_pos hc] at h1
          obtain ⟨n1, hn1⟩ := xV_some.mp h1
          refine ⟨max n1 n2 + 1, ?_⟩
          rw [xrun_succ, hr]
          simp only [xgo]
          rw [if_pos hc, xrun_mono X (Nat.le_max_left n1 n2) hn1]
          exact xrun_mono X (Nat.le_max_right n1 n2) hn2
        · rw [if_neg hc] at h1
          cases h1
  cases h : xgo (xV X id) (xC X id) (xstep X id fr) with
  | some o => exact (key o).mpr h
  | none =>
    cases h2 : xV X id fr with
    | none => rfl
    | some o => rw [(key o).mp h2] at h; cases h
noncomputable def xr (X : xX) (id : Nat) (stops : List Nat) : Nat → xF → Option xO
  | 0, fr => xV X id fr
  | n + 1, fr => if stops.contains fr.1 = true then xV X id fr else xgo (xr X id stops n) (xC X id) (xstep X id fr)
theorem xr_eq (X : xX) (id : Nat) (stops : List Nat) : ∀ (n : Nat) (fr : xF), xr X id stops n fr = xV X id fr
  | 0, _ => rfl
  | n + 1, fr => by
    have e : xr X id stops n = xV X id := funext (xr_eq X id stops n)
    rw [xr, e]
    by_cases h : stops.contains fr.1 = true
    · rw [if_pos h]
    · rw [if_neg h, ← xV_eq]
theorem xgo_ite {k : xF → Option xO} {c : Nat → List Value → xS → Option xO} {p : Prop} [Decidable p] {a b : Option xR} : xgo k c (if p then a else b) = if p then xgo k c a else xgo k c b := apply_ite _ _ _ _
theorem xr_s (X : xX) (id : Nat) (stops : List Nat) (n pc : Nat) (ls st : List Value) (S : xS) : xr X id stops (n + 1) (pc, ls, st, S) = if stops.contains pc = true then xV X id (pc, ls, st, S) else xgo (xr X id stops n) (xC X id) (xstep X id (pc, ls, st, S)) := rfl
theorem xgo_nx {k : xF → Option xO} {c : Nat → List Value → xS → Option xO} {pc : Nat} {ls st : List Value} {S : xS} : xgo k c (xnx pc ls st S) = k (pc, ls, st, S) := rfl
theorem xgo_n {k : xF → Option xO} {c : Nat → List Value → xS → Option xO} : xgo k c none = none := rfl
theorem xgo_o {k : xF → Option xO} {c : Nat → List Value → xS → Option xO} {o : xO} : xgo k c (some (.inr (.inl o))) = some o := rfl
theorem xgo_c {k : xF → Option xO} {c : Nat → List Value → xS → Option xO} {j : Nat} {as : List Value} {pc : Nat} {ls st : List Value} {S : xS} : xgo k c (some (.inr (.inr (j, as, (pc, ls, st, S))))) = (c j as S).bind (fun o => k (pc, ls, o.1.toList ++ st, o.2)) := rfl
theorem xstep_s (X : xX) (id pc : Nat) (ls st : List Value) (S : xS) : xstep X id (pc, ls, st, S) = match decode (xbc id) pc with
  | .ok (i, n) => if n = xlen i n then xex X id i pc ls st S else none
  | .error _ => none := rfl
theorem xK_s (X : xX) (j : Nat) (as : List Value) (S : xS) (stops : List Nat) (n : Nat) : xK X j as S = xr X j stops n (0, xent (xml j) as, [], S) := (xr_eq X j stops n _).symm
theorem xC_s (X : xX) (id j : Nat) (as : List Value) (S : xS) : xC X id j as S = if xrm id j = true ∧ (xsl as).length ≤ xml j then xK X j as S else none := rfl
