/-- whether a place lies below a match, or is the place itself -/
def und (f p : Nat) : Bool := if f < 8 then rIs f p else decide (p = f - 8)
theorem und_s : ∀ m, m < 8 → ∀ p, p < 8 → 1 ≤ m → rIs m p = (und (2 * m) p || und (2 * m + 1) p) := by decide
theorem und_d : ∀ m, m < 8 → ∀ p, p < 8 → 1 ≤ m → (und (2 * m) p && und (2 * m + 1) p) = false := by decide
/-- v is who leads of those in that lie below f -/
def zLb (A : Nat → Nat → Int32) (s f : Nat) (v : Int32) : Prop := (v = -6 ∧ ∀ r p, r < 8 → p < 8 → A 2 r = nI p → A 5 r = 1 → und f p = false) ∨ ∃ w q, w < 8 ∧ q < 8 ∧ v = nI w ∧ A 5 w = 1 ∧ A 2 w = nI q ∧ und f q = true ∧ ∀ r p, r < 8 → p < 8 → A 2 r = nI p → A 5 r = 1 → und f p = true → ¬ r = w → zAh A s 1 w r
theorem who_r {A : Nat → Nat → Int32} {x : Nat} (hR : zR A) : ∀ d i, i + d = 8 → (uWhoF A (nI x) i d = -6 ∧ ∀ r, i ≤ r → r < 8 → A 5 r = 1 → ¬ A 2 r = nI x) ∨ ∃ w, w < 8 ∧ uWhoF A (nI x) i d = nI w ∧ A 5 w = 1 ∧ A 2 w = nI x
  | 0, i, h => Or.inl ⟨rfl, fun r h1 h2 => by omega⟩
  | d + 1, i, h => by
    rw [uWhoF]
    by_cases g : A 2 i = nI x
    · rw [if_pos g, uW]
      rcases (hR.1 i (by omega)).1 with z | z
      · rw [if_pos z]
        refine Or.inl ⟨rfl, fun r h1 h2 h3 h4 => ?_⟩
        have := hR.2 i r (by omega) h2 (by rw [g, h4])
        subst this
        rw [z] at h3
        exact absurd h3 (by decide)
      · rw [if_neg (by rw [z]; decide)]
        exact Or.inr ⟨i, by omega, rfl, z, g⟩
    · rw [if_neg g]
      rcases who_r hR d (i + 1) (by omega) with ⟨a1, a2⟩ | a
      · refine Or.inl ⟨a1, fun r h1 h2 h3 h4 => ?_⟩
        by_cases e : r = i
        · rw [e] at h4
          exact g h4
        · exact a2 r (by omega) h2 h3 h4
      · exact Or.inr a
theorem com_b {A : Nat → Nat → Int32} {s f : Nat} (hR : zR A) (h1 : 1 ≤ f) (h2 : f < 16) (hb : f < 8 → zLb A s f (A 6 f)) : zLb A s f (uCom A (nI f)) := by
  by_cases g : f < 8
  · rw [com_lo h1 g]
    exact hb g
  · rw [com_hi (by omega) h2]
    have eu : ∀ p, und f p = decide (p = f - 8) := fun p => by unfold und; rw [if_neg g]
    rcases who_r (x := f - 8) hR 8 0 (by omega) with ⟨a1, a2⟩ | ⟨w, w8, a1, a2, a3⟩
    · refine Or.inl ⟨a1, fun r p r8 p8 h3 h4 => ?_⟩
      rw [eu]
      exact decide_eq_false (fun c => a2 r (by omega) r8 h4 (by rw [h3, c]))
    · refine Or.inr ⟨w, f - 8, w8, by omega, a1, a2, a3, by rw [eu]; exact decide_eq_true rfl, fun r p r8 p8 h3 h4 h5 h6 => ?_⟩
      rw [eu, decide_eq_true_eq] at h5
      exact absurd (hR.2 r w r8 w8 (by rw [h3, a3, h5])) h6
/-- each match's winner leads all below it -/
theorem mat_b {A : Nat → Nat → Int32} {s n m : Nat} (hR : zR A) (hK : zKv A s n) (m1 : 1 ≤ m) (m8 : m < 8) (hb : ∀ f, m < f → f < 8 → zLb A s f (A 6 f)) : zLb A s m (A 6 m) := by
  have c0 := com_b (f := 2 * m) hR (by omega) (by omega) (fun h => hb _ (by omega) h)
  have c1 := com_b (f := 2 * m + 1) hR (by omega) (by omega) (fun h => hb _ (by omega) h)
  obtain ⟨w1, w2, w3⟩ := hK.2.2 m m1 m8 (fun c => c)
  have eu : ∀ p, p < 8 → und m p = (und (2 * m) p || und (2 * m + 1) p) := fun p hp => by
    rw [← und_s m m8 p hp m1]
    unfold und
    rw [if_pos m8]
  rcases c0 with ⟨a1, a2⟩ | ⟨i, qi, i8, qi8, a1, a2, a3, a4, a5⟩
  · rcases c1 with ⟨b1, b2⟩ | ⟨j, qj, j8, qj8, b1, b2, b3, b4, b5⟩
    · refine Or.inl ⟨?_, fun r p r8 p8 h1 h2 => ?_⟩
      · rcases w1 with w | w
        · rw [w, a1]
        · rw [w, b1]
      · rw [eu p p8, a2 r p r8 p8 h1 h2, b2 r p r8 p8 h1 h2]
        rfl
    · have e : A 6 m = nI j := by
        rcases w2 with w | w
        · rw [a1] at w
          exact absurd m6_l w
        · rw [w, b1]
      refine Or.inr ⟨j, qj, j8, qj8, e, b2, b3, by rw [eu qj qj8, b4, Bool.or_true], fun r p r8 p8 h1 h2 h3 h4 => ?_⟩
      rw [eu p p8, a2 r p r8 p8 h1 h2, Bool.false_or] at h3
      exact b5 r p r8 p8 h1 h2 h3 h4
  · rcases c1 with ⟨b1, b2⟩ | ⟨j, qj, j8, qj8, b1, b2, b3, b4, b5⟩
    · have e : A 6 m = nI i := by
        rcases w3 with w | w
        · rw [b1] at w
          exact absurd m6_l w
        · rw [w, a1]
      refine Or.inr ⟨i, qi, i8, qi8, e, a2, a3, by rw [eu qi qi8, a4, Bool.true_or], fun r p r8 p8 h1 h2 h3 h4 => ?_⟩
      rw [eu p p8, b2 r p r8 p8 h1 h2, Bool.or_false] at h3
      exact a5 r p r8 p8 h1 h2 h3 h4
    · have hij : ¬ i = j := by
        intro e
        subst e
        have eq : qi = qj := nI_inj (by omega) (by omega) (by rw [← a3, b3])
        subst eq
        have := und_d m m8 qi qi8 m1
        rw [a4, b4] at this
        exact absurd this (by decide)
      rcases w1 with w | w
      · have e : A 6 m = nI i := by rw [w, a1]
        have z := hK.1 m i j m1 m8 ⟨i8, j8, e, Or.inl ⟨a1, b1⟩⟩ hij
        refine Or.inr ⟨i, qi, i8, qi8, e, a2, a3, by rw [eu qi qi8, a4, Bool.true_or], fun r p r8 p8 h1 h2 h3 h4 => ?_⟩
        rw [eu p p8, Bool.or_eq_true] at h3
        rcases h3 with h3 | h3
        · exact a5 r p r8 p8 h1 h2 h3 h4
        · by_cases er : r = j
          · rw [er]; exact z
          · exact zAh_tr z (b5 r p r8 p8 h1 h2 h3 er)
      · have e : A 6 m = nI j := by rw [w, b1]
        have z := hK.1 m j i m1 m8 ⟨j8, i8, e, Or.inr ⟨a1, b1⟩⟩ (fun c => hij c.symm)
        refine Or.inr ⟨j, qj, j8, qj8, e, b2, b3, by rw [eu qj qj8, b4, Bool.or_true], fun r p r8 p8 h1 h2 h3 h4 => ?_⟩
        rw [eu p p8, Bool.or_eq_true] at h3
        rcases h3 with h3 | h3
        · by_cases er : r = i
          · rw [er]; exact z
          · exact zAh_tr z (a5 r p r8 p8 h1 h2 h3 er)
        · exact b5 r p r8 p8 h1 h2 h3 h4
theorem mat_a {A : Nat → Nat → Int32} {s n : Nat} (hR : zR A) (hK : zKv A s n) : ∀ d m, m + d = 8 → 1 ≤ m → ∀ f, m ≤ f → f < 8 → zLb A s f (A 6 f)
  | 0, m, h, _, f, h1, h2 => by omega
  | d + 1, m, h, hm, f, h1, h2 => by
    by_cases e : f = m
    · subst e
      exact mat_b hR hK hm h2 (fun f' h3 h4 => mat_a hR hK d (f + 1) (by omega) (by omega) f' (by omega) h4)
    · exact mat_a hR hK d (m + 1) (by omega) (by omega) f (by omega) h2
