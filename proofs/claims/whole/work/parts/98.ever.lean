theorem zAh_tr {A : Nat → Nat → Int32} {p q : Int} {i j k : Nat} (h1 : zAh A p q i j) (h2 : zAh A p q j k) : zAh A p q i k := by
  unfold zAh at *
  omega
theorem zAh_as {A : Nat → Nat → Int32} {p q : Int} {i j : Nat} (h1 : zAh A p q i j) (h2 : zAh A p q j i) : False := by
  unfold zAh at *
  omega
/-- who leads of those below k that are in -/
def zLd (A : Nat → Nat → Int32) (p q : Int) (k w : Nat) : Prop := w < k ∧ A 5 w = 1 ∧ ∀ j, j < k → A 5 j = 1 → ¬ j = w → zAh A p q w j
theorem zLd_u {A : Nat → Nat → Int32} {p q : Int} {k w w' : Nat} (h : zLd A p q k w) (h' : zLd A p q k w') : w = w' := by
  exact Classical.byContradiction fun c => zAh_as (h.2.2 w' h'.1 h'.2.1 (fun e => c e.symm)) (h'.2.2 w h.1 h.2.1 c)
theorem lead_c {A : Nat → Nat → Int32} {p q : Int32} (hR : zR A) (hS : zS A) (hL : zL A) (hp : -21800 ≤ p.toInt ∧ p.toInt ≤ 21800) (hq : 0 ≤ q.toInt ∧ q.toInt ≤ 100) : ∀ k, k ≤ 8 → (uLd A p q k = -6 ∧ ∀ j, j < k → A 5 j = 0) ∨ ∃ w, uLd A p q k = nI w ∧ zLd A p.toInt q.toInt k w
  | 0, _ => Or.inl ⟨rfl, fun j hj => by omega⟩
  | k + 1, hk => by
    obtain ⟨h01, -⟩ := hR.1 k (by omega)
    rw [uLd]
    rcases h01 with g | g
    · rw [if_pos g]
      rcases lead_c hR hS hL hp hq k (by omega) with ⟨a1, a2⟩ | ⟨w, a1, a2, a3, a4⟩
      · refine Or.inl ⟨a1, fun j hj => ?_⟩
        by_cases e : j = k
        · rw [e]; exact g
        · exact a2 j (by omega)
      · refine Or.inr ⟨w, a1, by omega, a3, fun j hj h1 hne => ?_⟩
        by_cases e : j = k
        · rw [e, g] at h1
          exact absurd h1 (by decide)
        · exact a4 j (by omega) h1 hne
    · rw [if_neg (by rw [g]; decide)]
      rcases lead_c hR hS hL hp hq k (by omega) with ⟨a1, a2⟩ | ⟨w, a1, a2, a3, a4⟩
      · refine Or.inr ⟨k, ?_, by omega, g, fun j hj h1 hne => ?_⟩
        · rw [a1]
          unfold uAhead
          rw [m6_8, if_neg (by decide), nI_i8 (by omega), if_pos rfl]
        · have := a2 j (by omega)
          rw [this] at h1
          exact absurd h1 (by decide)
      · have ai := ahead_i (A := A) (i := w) (j := k) (p := p) (q := q) (by omega) (by omega) hS hL hp hq (by omega)
        rw [a1]
        by_cases z : zAh A p.toInt q.toInt w k
        · refine Or.inr ⟨w, ai.1 z, by omega, a3, fun j hj h1 hne => ?_⟩
          by_cases e : j = k
          · rw [e]; exact z
          · exact a4 j (by omega) h1 hne
        · have z2 := zAh_tot z (show ¬ k = w by omega)
          refine Or.inr ⟨k, ai.2 z, by omega, g, fun j hj h1 hne => ?_⟩
          by_cases e : j = w
          · rw [e]; exact z2
          · exact zAh_tr z2 (a4 j (by omega) h1 e)
theorem int_sc {b c s t P Q P' Q' : Int} (h : P * Q' = P' * Q) : (b * Q + s * P - (c * Q + t * P)) * Q' = (b * Q' + s * P' - (c * Q' + t * P')) * Q := by
  have e1 : (b * Q + s * P - (c * Q + t * P)) * Q' = (b - c) * (Q * Q') + (s - t) * (P * Q') := by
    rw [Int.sub_mul, Int.add_mul, Int.add_mul, Int.sub_mul, Int.sub_mul, Int.mul_assoc, Int.mul_assoc, Int.mul_assoc, Int.mul_assoc]
    omega
  have e2 : (b * Q' + s * P' - (c * Q' + t * P')) * Q = (b - c) * (Q * Q') + (s - t) * (P' * Q) := by
    rw [Int.sub_mul, Int.add_mul, Int.add_mul, Int.sub_mul, Int.sub_mul, Int.mul_assoc, Int.mul_assoc, Int.mul_assoc, Int.mul_assoc, Int.mul_comm Q' Q]
    omega
  rw [e1, e2, h]
/-- who is ahead depends on the fraction alone -/
theorem zAh_fr {A : Nat → Nat → Int32} {P Q P' Q' : Int} {i j : Nat} (hQ : 0 < Q) (hQ' : 0 < Q') (h : P * Q' = P' * Q) (hz : zAh A P Q i j) : zAh A P' Q' i j := by
  have e := int_sc (b := (A 3 i).toInt) (c := (A 3 j).toInt) (s := (A 4 i).toInt) (t := (A 4 j).toInt) h
  unfold zAh zVal at *
  rcases hz with hz | ⟨h1, h2⟩
  · have := int_pos hQ hQ' (Int.le_of_eq e) (by omega)
    exact Or.inl (by omega)
  · refine Or.inr ⟨?_, h2⟩
    rw [show (A 3 i).toInt * Q + (A 4 i).toInt * P - ((A 3 j).toInt * Q + (A 4 j).toInt * P) = 0 by omega, Int.zero_mul] at e
    have := Int.mul_eq_zero.mp e.symm
    omega
theorem zLd_fr {A : Nat → Nat → Int32} {P Q P' Q' : Int} {k w : Nat} (hQ : 0 < Q) (hQ' : 0 < Q') (h : P * Q' = P' * Q) (hz : zLd A P Q k w) : zLd A P' Q' k w := ⟨hz.1, hz.2.1, fun j h1 h2 h3 => zAh_fr hQ hQ' h (hz.2.2 j h1 h2 h3)⟩
/-- a runner that passes w -/
def zPs (A : Nat → Nat → Int32) (w r : Nat) : Prop := A 5 r = 1 ∧ (A 4 w).toInt < (A 4 r).toInt
def zGp (A : Nat → Nat → Int32) (w r : Nat) : Int := (A 3 w).toInt - (A 3 r).toInt
def zGn (A : Nat → Nat → Int32) (w r : Nat) : Int := (A 4 r).toInt - (A 4 w).toInt
theorem gp_b {A : Nat → Nat → Int32} {w r : Nat} (hS : zS A) (hL : zL A) (hw : w < 8) (hr : r < 8) : (A 3 w - A 3 r).toInt = zGp A w r ∧ (A 4 r - A 4 w).toInt = zGn A w r ∧ -21800 ≤ zGp A w r ∧ zGp A w r ≤ 21800 ∧ -100 ≤ zGn A w r ∧ zGn A w r ≤ 100 := by
  have a := hS w hw
  have b := hS r hr
  have c := hL w hw
  have d := hL r hr
  unfold zGp zGn
  refine ⟨ti_sub (by omega) (by omega), ti_sub (by omega) (by omega), by omega, by omega, by omega, by omega⟩
/-- the class's search for who passes first -/
theorem suc_c {A : Nat → Nat → Int32} {w : Nat} {p q : Int32} (hR : zR A) (hS : zS A) (hL : zL A) (hw : w < 8) (hp : 0 ≤ p.toInt ∧ p.toInt ≤ 9999) (hq : 1 ≤ q.toInt ∧ q.toInt ≤ 100) : ∀ k, k ≤ 8 → (uSs A (nI w) p q k = (p, q, 0) ∧ ∀ r, r < k → zPs A w r → p.toInt * zGn A w r < zGp A w r * q.toInt) ∨ ∃ r, r < k ∧ zPs A w r ∧ (uSs A (nI w) p q k).1 = A 3 w - A 3 r ∧ (uSs A (nI w) p q k).2.1 = A 4 r - A 4 w ∧ (uSs A (nI w) p q k).2.2 = 1 ∧ zGp A w r * q.toInt ≤ p.toInt * zGn A w r ∧ ∀ r', r' < k → zPs A w r' → zGp A w r * zGn A w r' ≤ zGp A w r' * zGn A w r
  | 0, _ => Or.inl ⟨rfl, fun r hr => by omega⟩
  | k + 1, hk => by
    obtain ⟨h01, -⟩ := hR.1 k (by omega)
    obtain ⟨b1, b2, b3, b4, b5, b6⟩ := gp_b hS hL hw (r := k) (by omega)
    have ub : uBase A (nI w) = A 3 w := by unfold uBase; rw [if_pos (nI_i8 hw), nI_cl (by omega)]
    have us : uSlope A (nI w) = A 4 w := by unfold uSlope; rw [if_pos (nI_i8 hw), nI_cl (by omega)]
    have ubk : uBase A (nI k) = A 3 k := by unfold uBase; rw [if_pos (nI_i8 (by omega)), nI_cl (by omega)]
    have usk : uSlope A (nI k) = A 4 k := by unfold uSlope; rw [if_pos (nI_i8 (by omega)), nI_cl (by omega)]
    have hps : zPs A w k ↔ (¬ A 5 k = 0 ∧ 0 < A 4 k - A 4 w) := by
      unfold zPs
      rw [ti_lt, q_0, b2]
      unfold zGn
      rcases h01 with g | g
      · rw [g]
        exact ⟨fun c => absurd c.1 (by decide), fun c => absurd rfl c.1⟩
      · rw [g]
        exact ⟨fun c => ⟨by decide, by omega⟩, fun c => ⟨rfl, by omega⟩⟩
    rw [uSs, uS1, ub, us, ubk, usk]
    rcases suc_c hR hS hL hw hp hq k (by omega) with ⟨a1, a2⟩ | ⟨r, r1, r2, r3, r4, r5, r6, r7⟩
    · rw [a1]
      have m1 := int_bm (x := zGp A w k) (c := 21800) (y := q.toInt) (d := 100) (by omega) (by omega) (by omega) (by omega) (by omega) (by omega)
      have m2 := int_bm (x := p.toInt) (c := 9999) (y := zGn A w k) (d := 100) (by omega) (by omega) (by omega) (by omega) (by omega) (by omega)
      have el : ((A 3 w - A 3 k) * q ≤ p * (A 4 k - A 4 w)) ↔ zGp A w k * q.toInt ≤ p.toInt * zGn A w k := by
        rw [ti_le, ti_mul (by rw [b1]; omega) (by rw [b1]; omega), ti_mul (by rw [b2]; omega) (by rw [b2]; omega), b1, b2]
      by_cases g : zPs A w k ∧ zGp A w k * q.toInt ≤ p.toInt * zGn A w k
      · rw [if_pos ⟨(hps.mp g.1).1, (hps.mp g.1).2, el.mpr g.2⟩]
        refine Or.inr ⟨k, by omega, g.1, rfl, rfl, rfl, g.2, fun r' h1 h2 => ?_⟩
        by_cases e : r' = k
        · rw [e]; exact Int.le_refl _
        · have x := a2 r' (by omega) h2
          have y1 : 0 < zGn A w k := by unfold zGn; have := g.1.2; omega
          have y2 : 0 < zGn A w r' := by unfold zGn; have := h2.2; omega
          exact int_tr (b := zGn A w k) (d := q.toInt) (f := zGn A w r') y1 (by omega) y2 (by rw [Int.mul_comm p.toInt] at g; rw [Int.mul_comm (zGn A w k)] at g; exact g.2) (by omega)
      · rw [if_neg (fun c => g ⟨hps.mpr ⟨c.1, c.2.1⟩, el.mp c.2.2⟩)]
        refine Or.inl ⟨rfl, fun r h1 h2 => ?_⟩
        by_cases e : r = k
        · rw [e] at h2 ⊢
          exact Classical.byContradiction fun c => g ⟨h2, by omega⟩
        · exact a2 r (by omega) h2
    · have hr8 : r < 8 := by omega
      obtain ⟨c1, c2, c3, c4, c5, c6⟩ := gp_b hS hL hw hr8
      have m1 := int_bm (x := zGp A w k) (c := 21800) (y := zGn A w r) (d := 100) (by omega) (by omega) (by omega) (by omega) (by omega) (by omega)
      have m2 := int_bm (x := zGp A w r) (c := 21800) (y := zGn A w k) (d := 100) (by omega) (by omega) (by omega) (by omega) (by omega) (by omega)
      have yr : 0 < zGn A w r := by unfold zGn; have := r2.2; omega
      have el : ((A 3 w - A 3 k) * (A 4 r - A 4 w) ≤ (A 3 w - A 3 r) * (A 4 k - A 4 w)) ↔ zGp A w k * zGn A w r ≤ zGp A w r * zGn A w k := by
        rw [ti_le, ti_mul (by rw [b1, c2]; omega) (by rw [b1, c2]; omega), ti_mul (by rw [c1, b2]; omega) (by rw [c1, b2]; omega), b1, b2, c1, c2]
      rw [r3, r4]
      by_cases g : zPs A w k ∧ zGp A w k * zGn A w r ≤ zGp A w r * zGn A w k
      · rw [if_pos ⟨(hps.mp g.1).1, (hps.mp g.1).2, el.mpr g.2⟩]
        have yk : 0 < zGn A w k := by unfold zGn; have := g.1.2; omega
        refine Or.inr ⟨k, by omega, g.1, rfl, rfl, rfl, ?_, fun r' h1 h2 => ?_⟩
        · exact int_tr (b := zGn A w k) (d := zGn A w r) (f := q.toInt) yk yr (by omega) g.2 r6
        · by_cases e : r' = k
          · rw [e]; exact Int.le_refl _
          · have y2 : 0 < zGn A w r' := by unfold zGn; have := h2.2; omega
            exact int_tr yk yr y2 g.2 (r7 r' (by omega) h2)
      · rw [if_neg (fun c => g ⟨hps.mpr ⟨c.1, c.2.1⟩, el.mp c.2.2⟩)]
        refine Or.inr ⟨r, by omega, r2, r3, r4, r5, r6, fun r' h1 h2 => ?_⟩
        by_cases e : r' = k
        · rw [e] at h2 ⊢
          exact Classical.byContradiction fun c => g ⟨h2, by omega⟩
        · exact r7 r' (by omega) h2
