theorem gcd_fr {a b c d : Nat} (hb : 0 < b) (hd : 0 < d) (h : a * d = c * b) : a / Nat.gcd a b = c / Nat.gcd c d ∧ b / Nat.gcd a b = d / Nat.gcd c d := by
  have g1 : 0 < Nat.gcd a b := Nat.gcd_pos_of_pos_right _ hb
  have g2 : 0 < Nat.gcd c d := Nat.gcd_pos_of_pos_right _ hd
  have e1 : a * Nat.gcd c d = c * Nat.gcd a b := by
    rw [← Nat.gcd_mul_left, ← Nat.gcd_mul_left, h, Nat.mul_comm a c]
  have e2 : b * Nat.gcd c d = d * Nat.gcd a b := by
    rw [← Nat.gcd_mul_left, ← Nat.gcd_mul_left, Nat.mul_comm b c, ← h, Nat.mul_comm a d, Nat.mul_comm b d]
  have x1 := Nat.mul_div_cancel' (Nat.gcd_dvd_left a b)
  have x2 := Nat.mul_div_cancel' (Nat.gcd_dvd_left c d)
  have x3 := Nat.mul_div_cancel' (Nat.gcd_dvd_right a b)
  have x4 := Nat.mul_div_cancel' (Nat.gcd_dvd_right c d)
  generalize Nat.gcd a b = g at *
  generalize Nat.gcd c d = k at *
  refine ⟨Nat.eq_of_mul_eq_mul_left (Nat.mul_pos g1 g2) ?_, Nat.eq_of_mul_eq_mul_left (Nat.mul_pos g1 g2) ?_⟩
  · rw [Nat.mul_comm g k, Nat.mul_assoc, x1, Nat.mul_comm k g, Nat.mul_assoc, x2, Nat.mul_comm k a, Nat.mul_comm g c]
    exact e1
  · rw [Nat.mul_comm g k, Nat.mul_assoc, x3, Nat.mul_comm k g, Nat.mul_assoc, x4, Nat.mul_comm k b, Nat.mul_comm g d]
    exact e2
/-- lowest terms depend on the fraction alone -/
theorem low_fr {u l u' l' p : Int32} (hu : u.toInt ≠ -2147483648) (hl : 0 < l.toInt) (hu' : u'.toInt ≠ -2147483648) (hl' : 0 < l'.toInt) (h : u.toInt * l'.toInt = u'.toInt * l.toInt) : uLt u l p = uLt u' l' p := by
  have a := Int32.toInt_lt u
  have b := Int32.le_toInt u
  have c := Int32.toInt_lt l
  have a' := Int32.toInt_lt u'
  have b' := Int32.le_toInt u'
  have c' := Int32.toInt_lt l'
  have hn : u.toInt.natAbs * l'.toInt.toNat = u'.toInt.natAbs * l.toInt.toNat := by
    have e := congrArg Int.natAbs h
    rw [Int.natAbs_mul, Int.natAbs_mul] at e
    rw [show l'.toInt.toNat = l'.toInt.natAbs by omega, show l.toInt.toNat = l.toInt.natAbs by omega]
    exact e
  obtain ⟨r1, r2⟩ := gcd_fr (a := u.toInt.natAbs) (b := l.toInt.toNat) (c := u'.toInt.natAbs) (d := l'.toInt.toNat) (by omega) (by omega) hn
  have g1 : Nat.gcd u.toInt.natAbs l.toInt.toNat ≤ l.toInt.toNat := Nat.gcd_le_right _ (by omega)
  have g2 : Nat.gcd u'.toInt.natAbs l'.toInt.toNat ≤ l'.toInt.toNat := Nat.gcd_le_right _ (by omega)
  rw [low_e hu hl, low_e hu' hl']
  have e1 : u.toInt64 / jN (Nat.gcd u.toInt.natAbs l.toInt.toNat) = u'.toInt64 / jN (Nat.gcd u'.toInt.natAbs l'.toInt.toNat) := by
    apply li_eq
    rw [li_div (by rw [li_32]; omega), li_div (by rw [li_32]; omega), li_32, li_32, jN_i (by omega), jN_i (by omega)]
    by_cases s : 0 ≤ u.toInt
    · have s' : 0 ≤ u'.toInt := Classical.byContradiction fun x => by
        have y1 : 0 ≤ u.toInt * l'.toInt := Int.mul_nonneg s (by omega)
        have y2 : u'.toInt * l.toInt < 0 * l.toInt := Int.mul_lt_mul_of_pos_right (by omega) hl
        omega
      rw [show u.toInt = ((u.toInt.natAbs : Nat) : Int) by omega, show u'.toInt = ((u'.toInt.natAbs : Nat) : Int) by omega, Int.tdiv_eq_ediv_of_nonneg (by omega), Int.tdiv_eq_ediv_of_nonneg (by omega), ← Int.natCast_ediv, ← Int.natCast_ediv, Int.natAbs_natCast, Int.natAbs_natCast, r1]
    · have s' : ¬ 0 ≤ u'.toInt := fun x => by
        have y1 : 0 ≤ u'.toInt * l.toInt := Int.mul_nonneg x (by omega)
        have y2 : u.toInt * l'.toInt < 0 * l'.toInt := Int.mul_lt_mul_of_pos_right (by omega) hl'
        omega
      have n1 : u.toInt = -((u.toInt.natAbs : Nat) : Int) := by omega
      have n2 : u'.toInt = -((u'.toInt.natAbs : Nat) : Int) := by omega
      have t1 : ∀ g : Nat, u.toInt.tdiv g = -(((u.toInt.natAbs / g : Nat)) : Int) := fun g => by
        rw [show u.toInt.tdiv g = (-((u.toInt.natAbs : Nat) : Int)).tdiv g by rw [← n1], Int.neg_tdiv, Int.tdiv_eq_ediv_of_nonneg (by omega), ← Int.natCast_ediv]
      have t2 : ∀ g : Nat, u'.toInt.tdiv g = -(((u'.toInt.natAbs / g : Nat)) : Int) := fun g => by
        rw [show u'.toInt.tdiv g = (-((u'.toInt.natAbs : Nat) : Int)).tdiv g by rw [← n2], Int.neg_tdiv, Int.tdiv_eq_ediv_of_nonneg (by omega), ← Int.natCast_ediv]
      rw [t1, t2, r1]
  have e2 : l.toInt64 / jN (Nat.gcd u.toInt.natAbs l.toInt.toNat) = l'.toInt64 / jN (Nat.gcd u'.toInt.natAbs l'.toInt.toNat) := by
    apply li_eq
    have m1 : l.toInt = ((l.toInt.toNat : Nat) : Int) := by omega
    have m2 : l'.toInt = ((l'.toInt.toNat : Nat) : Int) := by omega
    rw [li_div (by rw [li_32]; omega), li_div (by rw [li_32]; omega), li_32, li_32, jN_i (by omega), jN_i (by omega), Int.tdiv_eq_ediv_of_nonneg (by omega), Int.tdiv_eq_ediv_of_nonneg (by omega)]
    have k1 : l.toInt / ((Nat.gcd u.toInt.natAbs l.toInt.toNat : Nat) : Int) = ((l.toInt.toNat / Nat.gcd u.toInt.natAbs l.toInt.toNat : Nat) : Int) := by
      rw [Int.natCast_ediv, ← m1]
    have k2 : l'.toInt / ((Nat.gcd u'.toInt.natAbs l'.toInt.toNat : Nat) : Int) = ((l'.toInt.toNat / Nat.gcd u'.toInt.natAbs l'.toInt.toNat : Nat) : Int) := by
      rw [Int.natCast_ediv, ← m2]
    rw [k1, k2, r2]
  rw [e1, e2]
