/-- the value of a runner at p by q, times q -/
def zVal (A : Nat → Nat → Int32) (i : Nat) (p q : Int) : Int := (A 3 i).toInt * q + (A 4 i).toInt * p
def zAh (A : Nat → Nat → Int32) (p q : Int) (i j : Nat) : Prop := zVal A j p q < zVal A i p q ∨ (zVal A j p q = zVal A i p q ∧ ((A 4 j).toInt < (A 4 i).toInt ∨ ((A 4 j).toInt = (A 4 i).toInt ∧ i < j)))
theorem int_bm {x c y d : Int} (h1 : -c ≤ x) (h2 : x ≤ c) (h3 : -d ≤ y) (h4 : y ≤ d) (hc : 0 ≤ c) (hd : 0 ≤ d) : -(c * d) ≤ x * y ∧ x * y ≤ c * d := by
  have a : x.natAbs ≤ c.natAbs := by omega
  have b : y.natAbs ≤ d.natAbs := by omega
  have e : (x * y).natAbs ≤ (c * d).natAbs := by
    rw [Int.natAbs_mul, Int.natAbs_mul]
    exact Nat.mul_le_mul a b
  have f : 0 ≤ c * d := Int.mul_nonneg hc hd
  omega
/-- who is ahead, by whole numbers -/
theorem ahead_i {A : Nat → Nat → Int32} {i j : Nat} {p q : Int32} (hi : i < 8) (hj : j < 8) (hS : zS A) (hL : zL A) (hp : -21800 ≤ p.toInt ∧ p.toInt ≤ 21800) (hq : 0 ≤ q.toInt ∧ q.toInt ≤ 100) (hij : ¬ i = j) : (zAh A p.toInt q.toInt i j → uAhead A (nI i) (nI j) p q = nI i) ∧ (¬ zAh A p.toInt q.toInt i j → uAhead A (nI i) (nI j) p q = nI j) := by
  have ci : (nI i).toNatClampNeg = i := nI_cl (by omega)
  have cj : (nI j).toNatClampNeg = j := nI_cl (by omega)
  have si := hS i hi
  have sj := hS j hj
  have li := hL i hi
  have lj := hL j hj
  have e4 := ti_s50 si sj
  have e3 : (A 3 i - A 3 j).toInt = (A 3 i).toInt - (A 3 j).toInt := ti_sub (by omega) (by omega)
  have b1 := int_bm (x := (A 3 i).toInt - (A 3 j).toInt) (c := 21800) (y := q.toInt) (d := 100) (by omega) (by omega) (by omega) (by omega) (by omega) (by omega)
  have b2 := int_bm (x := (A 4 i).toInt - (A 4 j).toInt) (c := 100) (y := p.toInt) (d := 21800) (by omega) (by omega) (by omega) (by omega) (by omega) (by omega)
  have m1 : ((A 3 i - A 3 j) * q).toInt = ((A 3 i).toInt - (A 3 j).toInt) * q.toInt := by
    rw [ti_mul (by rw [e3]; omega) (by rw [e3]; omega), e3]
  have m2 : ((A 4 i - A 4 j) * p).toInt = ((A 4 i).toInt - (A 4 j).toInt) * p.toInt := by
    rw [ti_mul (by rw [e4]; omega) (by rw [e4]; omega), e4]
  have m3 : ((A 3 i - A 3 j) * q + (A 4 i - A 4 j) * p).toInt = zVal A i p.toInt q.toInt - zVal A j p.toInt q.toInt := by
    rw [ti_add (by rw [m1, m2]; omega) (by rw [m1, m2]; omega), m1, m2]
    unfold zVal
    rw [Int.sub_mul, Int.sub_mul]
    omega
  have e0 : (nI j - nI i).toInt = (j : Int) - i := by
    have t1 := ti_nI (n := i) (by omega)
    have t2 := ti_nI (n := j) (by omega)
    rw [ti_sub (by omega) (by omega), t1, t2]
  have hu : uAhead A (nI i) (nI j) p q = (if (A 3 i - A 3 j) * q + (A 4 i - A 4 j) * p = 0 then (if A 4 i - A 4 j = 0 then (if nI j - nI i ≤ 0 then nI j else nI i) else if A 4 i - A 4 j ≤ 0 then nI j else nI i) else if (A 3 i - A 3 j) * q + (A 4 i - A 4 j) * p ≤ 0 then nI j else nI i) := by
    unfold uAhead
    rw [nI_i8 hi, nI_i8 hj, if_pos rfl, if_pos rfl, ci, cj]
  rw [hu]
  simp only [ti_e, ti_le, m3, e4, e0, q_0]
  unfold zAh
  constructor
  · intro h
    split
    · split
      · rw [if_neg (by omega)]
      · rw [if_neg (by omega)]
    · rw [if_neg (by omega)]
  · intro h
    split
    · split
      · rw [if_pos (by omega)]
      · rw [if_pos (by omega)]
    · rw [if_pos (by omega)]
/-- i wins a match against j -/
def zPr (A : Nat → Nat → Int32) (m i j : Nat) : Prop := i < 8 ∧ j < 8 ∧ A 6 m = nI i ∧ ((uCom A (nI (2 * m)) = nI i ∧ uCom A (nI (2 * m + 1)) = nI j) ∨ (uCom A (nI (2 * m)) = nI j ∧ uCom A (nI (2 * m + 1)) = nI i))
theorem zPr_O {A : Nat → Nat → Int32} {m i j : Nat} (h : zPr A m i j) (hs : (A 4 i).toInt < (A 4 j).toInt) : zO A m i j := ⟨h.1, h.2.1, h.2.2.1, h.2.2.2, hs⟩
theorem zPr_c {A B : Nat → Nat → Int32} {m i j : Nat} (h6 : B 6 m = A 6 m) (hc : uCom B (nI (2 * m)) = uCom A (nI (2 * m))) (hd : uCom B (nI (2 * m + 1)) = uCom A (nI (2 * m + 1))) : zPr B m i j ↔ zPr A m i j := by
  unfold zPr
  rw [h6, hc, hd]
def kW (A : Nat → Nat → Int32) (p q : Int) (E : Nat → Prop) : Prop := ∀ m, 1 ≤ m → m < 8 → ¬ E m → ∀ i j, zPr A m i j → ¬ i = j → zVal A j p q ≤ zVal A i p q ∧ ((A 4 j).toInt ≤ (A 4 i).toInt → zAh A p q i j)
/-- who wins comes to the match -/
def zWk (A : Nat → Nat → Int32) (E : Nat → Prop) : Prop := ∀ m, 1 ≤ m → m < 8 → ¬ E m → (A 6 m = uCom A (nI (2 * m)) ∨ A 6 m = uCom A (nI (2 * m + 1))) ∧ (¬ uCom A (nI (2 * m)) < 0 ∨ A 6 m = uCom A (nI (2 * m + 1))) ∧ (¬ uCom A (nI (2 * m + 1)) < 0 ∨ A 6 m = uCom A (nI (2 * m)))
theorem zWk_c {A B : Nat → Nat → Int32} {E : Nat → Prop} (h2 : ∀ i, B 2 i = A 2 i) (h5 : ∀ i, B 5 i = A 5 i) (h6 : ∀ i, B 6 i = A 6 i) (h : zWk A E) : zWk B E := by
  intro m m1 m8 hE
  rw [h6, com_c h2 h5 (fun _ => h6 _) (by omega) (by omega), com_c h2 h5 (fun _ => h6 _) (by omega) (by omega)]
  exact h m m1 m8 hE
def kT (A : Nat → Nat → Int32) (n : Nat) (p q : Int) : Prop := ∀ k, k < n → p * (A 10 k).toInt ≤ (A 9 k).toInt * q
theorem zVal_c {A B : Nat → Nat → Int32} {p q : Int} (h3 : ∀ i, B 3 i = A 3 i) (h4 : ∀ i, B 4 i = A 4 i) (i : Nat) : zVal B i p q = zVal A i p q := by
  unfold zVal
  rw [h3, h4]
theorem zAh_c {A B : Nat → Nat → Int32} {p q : Int} (h3 : ∀ i, B 3 i = A 3 i) (h4 : ∀ i, B 4 i = A 4 i) (i j : Nat) : zAh B p q i j ↔ zAh A p q i j := by
  unfold zAh
  rw [zVal_c h3 h4, zVal_c h3 h4, h4, h4]
theorem int_lin {b c s t p q u l : Int} (hq : 0 < q) (hl : 0 < l) (hs : t ≤ s) (ht : p * l ≤ u * q) : (b * q + s * p - (c * q + t * p)) * l ≤ (b * l + s * u - (c * l + t * u)) * q := by
  have a : (s - t) * (p * l) ≤ (s - t) * (u * q) := Int.mul_le_mul_of_nonneg_left ht (by omega)
  have e1 : (b * q + s * p - (c * q + t * p)) * l = (b - c) * (q * l) + (s - t) * (p * l) := by
    rw [Int.sub_mul, Int.add_mul, Int.add_mul, Int.sub_mul, Int.sub_mul, Int.mul_assoc, Int.mul_assoc, Int.mul_assoc, Int.mul_assoc]
    omega
  have e2 : (b * l + s * u - (c * l + t * u)) * q = (b - c) * (q * l) + (s - t) * (u * q) := by
    rw [Int.sub_mul, Int.add_mul, Int.add_mul, Int.sub_mul, Int.sub_mul, Int.mul_assoc, Int.mul_assoc, Int.mul_assoc, Int.mul_assoc, Int.mul_comm l q]
    omega
  rw [e1, e2]
  omega
theorem int_pos {x y q l : Int} (hq : 0 < q) (hl : 0 < l) (h : x * l ≤ y * q) (hx : 0 < x) : 0 < y := by
  have a : 0 < x * l := Int.mul_pos hx hl
  exact Classical.byContradiction fun c => by
    have b : y * q ≤ 0 * q := Int.mul_le_mul_of_nonneg_right (by omega) (by omega)
    omega
theorem int_nn {x y q l : Int} (hq : 0 < q) (hl : 0 < l) (h : x * l ≤ y * q) (hx : 0 ≤ x) : 0 ≤ y := by
  have a : 0 ≤ x * l := Int.mul_nonneg hx (by omega)
  exact Classical.byContradiction fun c => by
    have b : y * q < 0 * q := Int.mul_lt_mul_of_pos_right (by omega) hq
    omega
/-- who is ahead and no less steep stays ahead -/
theorem zAh_adv {A : Nat → Nat → Int32} {i j : Nat} {p q u l : Int} (hq : 0 < q) (hl : 0 < l) (ht : p * l ≤ u * q) (hs : (A 4 j).toInt ≤ (A 4 i).toInt) (h : zAh A p q i j) : zAh A u l i j := by
  have a := int_lin (b := (A 3 i).toInt) (c := (A 3 j).toInt) (s := (A 4 i).toInt) (t := (A 4 j).toInt) hq hl hs ht
  unfold zAh zVal at *
  rcases h with h | ⟨h1, h2⟩
  · have := int_pos hq hl a (by omega)
    exact Or.inl (by omega)
  · have := int_nn hq hl a (by omega)
    omega
/-- time goes on up to the first certificate -/
theorem kW_adv {A : Nat → Nat → Int32} {n mk : Nat} {p q u l : Int} (hQ : zQa A n mk) (hS : zS A) (hL : zL A) (hB : zQb A n (fun _ => False)) (hq : 0 < q) (hl : 0 < l) (ht : p * l ≤ u * q) (hW : kW A p q (fun _ => False)) (hT : kT A n u l) : kW A u l (fun _ => False) := by
  intro m h1 h2 _ i j hp hij
  obtain ⟨w1, w2⟩ := hW m h1 h2 (fun c => c) i j hp hij
  have si := hS i hp.1
  have sj := hS j hp.2.1
  have li := hL i hp.1
  have lj := hL j hp.2.1
  by_cases g : (A 4 j).toInt ≤ (A 4 i).toInt
  · have z := zAh_adv hq hl ht g (w2 g)
    refine ⟨?_, fun _ => z⟩
    rcases z with z | z
    · omega
    · omega
  · have hO := zPr_O hp (by omega)
    obtain ⟨b1, b2, b3⟩ := hB m h1 h2 (fun c => c)
    obtain ⟨k, k1, k2, k3⟩ := b2 (b3 i j hO)
    obtain ⟨i', j', o1, o2, o3⟩ := b1 k k1 k2 k3
    have ei : i' = i := by
      have := o1.2.2.1
      rw [hp.2.2.1] at this
      exact (nI_inj (by have := hp.1; omega) (by have := o1.1; omega) this).symm
    subst ei
    have i8 := o1.1
    have j8 := o1.2.1
    have jj8 := hp.2.1
    have ej : j' = j := by
      rcases o1.2.2.2.1 with ⟨c1, c2⟩ | ⟨c1, c2⟩
      · rcases hp.2.2.2 with ⟨d1, d2⟩ | ⟨d1, d2⟩
        · rw [c2] at d2
          exact nI_inj (by omega) (by omega) d2
        · rw [c1] at d1
          exact absurd (nI_inj (by omega) (by omega) d1) hij
      · rcases hp.2.2.2 with ⟨d1, d2⟩ | ⟨d1, d2⟩
        · rw [c2] at d2
          exact absurd (nI_inj (by omega) (by omega) d2) hij
        · rw [c1] at d1
          exact nI_inj (by omega) (by omega) d1
    subst ej
    have t := hT k k1
    have e9 : (A 9 k).toInt = (A 3 i').toInt - (A 3 j').toInt := by rw [o2, ti_sub (by omega) (by omega)]
    have e10 : (A 10 k).toInt = (A 4 j').toInt - (A 4 i').toInt := by rw [o3, ti_sub (by omega) (by omega)]
    rw [e9, e10] at t
    refine ⟨?_, fun c => absurd c g⟩
    unfold zVal
    rw [Int.mul_sub, Int.sub_mul] at t
    rw [Int.mul_comm u, Int.mul_comm u] at t
    omega
