def gL : Nat → Nat → Nat → Nat
  | 0, d, _ => d
  | f + 1, d, r => if r = 0 then d else gL f r (d % r)
theorem gL_0 : ∀ f d, gL f d 0 = d
  | 0, _ => rfl
  | f + 1, d => by rw [gL, if_pos rfl]
theorem mod_half {r s : Nat} (h0 : 0 < s) (h : s < r) : 2 * (r % s) < r := by
  by_cases g : 2 * s ≤ r
  · have := Nat.mod_lt r h0
    omega
  · have e : r % s = r - s := by
      rw [Nat.mod_eq_sub_mod (by omega), Nat.mod_eq_of_lt (by omega)]
    omega
theorem gL_g : ∀ k f d r, r < 2 ^ k → 2 * k ≤ f → gL f d r = Nat.gcd r d
  | 0, f, d, r, h, _ => by
    have e : r = 0 := by omega
    subst e
    rw [gL_0, Nat.gcd_zero_left]
  | k + 1, f, d, r, h, hf => by
    obtain ⟨f', rfl⟩ : ∃ f', f = f' + 2 := ⟨f - 2, by omega⟩
    rw [gL]
    by_cases h0 : r = 0
    · subst h0
      rw [if_pos rfl, Nat.gcd_zero_left]
    · rw [if_neg h0, gL]
      have m1 := Nat.mod_lt d (show 0 < r by omega)
      by_cases h1 : d % r = 0
      · rw [if_pos h1, Nat.gcd_rec, h1, Nat.gcd_zero_left]
      · rw [if_neg h1]
        have m2 := mod_half (r := r) (s := d % r) (by omega) m1
        rw [gL_g k f' (d % r) (r % (d % r)) (by rw [Nat.pow_succ] at h; omega) (by omega), ← Nat.gcd_rec, ← Nat.gcd_rec]
theorem uGl_n : ∀ f d r, d < 2147483648 → r < 2147483648 → uGl f (nI d) (nI r) = nI (gL f d r)
  | 0, d, r, _, _ => rfl
  | f + 1, d, r, hd, hr => by
    rw [uGl, gL]
    by_cases h0 : r = 0
    · rw [if_pos h0, if_pos (by rw [h0, nI_0])]
    · have m1 := Nat.mod_lt d (show 0 < r by omega)
      rw [if_neg h0, if_neg (by
        intro c
        have := ti_nI (n := r) hr
        rw [c, q_0] at this
        omega), nI_md hd hr (by omega), uGl_n f r (d % r) hr (by omega)]
theorem abs_n {u : Int32} (h : u.toInt ≠ -2147483648) : (if 0 ≤ u then u else 0 - u) = nI u.toInt.natAbs := by
  have a := Int32.toInt_lt u
  have b := Int32.le_toInt u
  apply ti_eq
  rw [ti_nI (by omega)]
  by_cases g : 0 ≤ u
  · rw [if_pos g]
    rw [ti_le, q_0] at g
    omega
  · rw [if_neg g]
    rw [ti_le, q_0] at g
    rw [ti_sub (by rw [q_0]; omega) (by rw [q_0]; omega), q_0]
    omega
theorem dv_64 {u : Int32} {g : Nat} (hu : u.toInt ≠ -2147483648) (hg : g < 2147483648) : (u / nI g).toInt64 = u.toInt64 / jN g := by
  have a := Int32.toInt_lt u
  have b := Int32.le_toInt u
  apply li_eq
  rw [li_32, ti_div hu, ti_nI hg, li_div (by rw [li_32]; omega), li_32, jN_i (by omega)]
/-- lowest terms: the same -/
theorem low_e {u l p : Int32} (hu : u.toInt ≠ -2147483648) (hl : 0 < l.toInt) : uLt u l p = (if p = 0 then u.toInt64 / jN (Nat.gcd u.toInt.natAbs l.toInt.toNat) else l.toInt64 / jN (Nat.gcd u.toInt.natAbs l.toInt.toNat)) := by
  have a := Int32.toInt_lt u
  have b := Int32.le_toInt u
  have c := Int32.toInt_lt l
  have el : l = nI l.toInt.toNat := ti_eq (by rw [ti_nI (by omega)]; omega)
  have eg : uGl 64 l (if 0 ≤ u then u else 0 - u) = nI (Nat.gcd u.toInt.natAbs l.toInt.toNat) := by
    rw [abs_n hu]
    have e := uGl_n 64 l.toInt.toNat u.toInt.natAbs (by omega) (by omega)
    rw [← el] at e
    rw [e, gL_g 32 64 _ _ (by omega) (by omega)]
  have g1 : 0 < Nat.gcd u.toInt.natAbs l.toInt.toNat := Nat.gcd_pos_of_pos_right _ (by omega)
  have g2 : Nat.gcd u.toInt.natAbs l.toInt.toNat ≤ l.toInt.toNat := Nat.gcd_le_right _ (by omega)
  unfold uLt
  rw [eg, if_neg (by
    intro x
    have := ti_nI (n := Nat.gcd u.toInt.natAbs l.toInt.toNat) (by omega)
    rw [x, q_0] at this
    omega), dv_64 hu (by omega), dv_64 (by omega) (by omega)]
theorem low_k (X : xX) (S : xS) {u l p : Int32} (hu : u.toInt ≠ -2147483648) (hl : 0 < l.toInt) : xK X 158 [.long u.toInt64, .long l.toInt64, .int p] S = some (some (.long (uLt u l p)), S) := by
  have a := Int32.toInt_lt u
  have b := Int32.le_toInt u
  have c := Int32.toInt_lt l
  rw [low_e hu hl]
  refine k158 X S u.toInt64 l.toInt64 p u.toInt.natAbs l.toInt.toNat ?_ ?_ (by omega) (by omega) (by omega)
  · apply li_eq
    rw [jN_i (by omega)]
    by_cases g : u.toInt64 < 0
    · rw [if_pos g]
      rw [li_lt, li_32, show (0 : Int64).toInt = 0 by decide] at g
      rw [li_neg (by rw [li_32]; omega), li_32]
      omega
    · rw [if_neg g]
      rw [li_lt, li_32, show (0 : Int64).toInt = 0 by decide] at g
      rw [li_32]
      omega
  · apply li_eq
    rw [jN_i (by omega), li_32]
    omega
theorem bT_i {p q : Int32} (h : bT p q = true) : (0 ≤ p.toInt ∧ p.toInt ≤ 9999) ∧ 1 ≤ q.toInt ∧ q.toInt ≤ 100 := by
  unfold bT at h
  rw [Bool.and_eq_true, Bool.and_eq_true, Bool.and_eq_true, decide_eq_true_eq, decide_eq_true_eq, decide_eq_true_eq, decide_eq_true_eq, ti_le, ti_le, ti_le, ti_le, q_0, q_1, q_100, show (9999 : Int32).toInt = 9999 by decide] at h
  omega
theorem bP_e {w : Int32} : bP w = (decide (0 ≤ w) && decide (w ≤ 1)) := by
  unfold bP
  rw [Bool.eq_iff_iff, Bool.or_eq_true, Bool.and_eq_true, decide_eq_true_eq, decide_eq_true_eq, decide_eq_true_eq, decide_eq_true_eq, ti_le, ti_le, q_0, q_1, ti_e, ti_e, q_0, q_1]
  omega
/-- a key, in ints and in longs -/
theorem key_64 {x y p q : Int32} (hx : -10900 ≤ x.toInt ∧ x.toInt ≤ 10900) (hy : -50 ≤ y.toInt ∧ y.toInt ≤ 50) (hp : 0 ≤ p.toInt ∧ p.toInt ≤ 9999) (hq : 1 ≤ q.toInt ∧ q.toInt ≤ 100) : (x * q + y * p).toInt = x.toInt * q.toInt + y.toInt * p.toInt ∧ x.toInt64 * q.toInt64 + y.toInt64 * p.toInt64 = (x * q + y * p).toInt64 ∧ -1589950 ≤ x.toInt * q.toInt + y.toInt * p.toInt ∧ x.toInt * q.toInt + y.toInt * p.toInt ≤ 1589950 := by
  have b1 := int_bm (x := x.toInt) (c := 10900) (y := q.toInt) (d := 100) (by omega) (by omega) (by omega) (by omega) (by omega) (by omega)
  have b2 := int_bm (x := y.toInt) (c := 50) (y := p.toInt) (d := 9999) (by omega) (by omega) (by omega) (by omega) (by omega) (by omega)
  have m1 : (x * q).toInt = x.toInt * q.toInt := ti_mul (by omega) (by omega)
  have m2 : (y * p).toInt = y.toInt * p.toInt := ti_mul (by omega) (by omega)
  have m3 : (x * q + y * p).toInt = x.toInt * q.toInt + y.toInt * p.toInt := by rw [ti_add (by rw [m1, m2]; omega) (by rw [m1, m2]; omega), m1, m2]
  refine ⟨m3, ?_, by omega, by omega⟩
  have l1 : (x.toInt64 * q.toInt64).toInt = x.toInt * q.toInt := by rw [li_mul (by rw [li_32, li_32]; omega) (by rw [li_32, li_32]; omega), li_32, li_32]
  have l2 : (y.toInt64 * p.toInt64).toInt = y.toInt * p.toInt := by rw [li_mul (by rw [li_32, li_32]; omega) (by rw [li_32, li_32]; omega), li_32, li_32]
  apply li_eq
  rw [li_add (by rw [l1, l2]; omega) (by rw [l1, l2]; omega), l1, l2, li_32, m3]
theorem zK_b {A : Nat → Nat → Int32} {N : Nat → Int32} {i : Nat} (h : zK A N) (hi : i < 8) : (-10900 ≤ (A 3 i).toInt ∧ (A 3 i).toInt ≤ 10900) ∧ -50 ≤ (A 4 i).toInt ∧ (A 4 i).toInt ≤ 50 := by
  obtain ⟨n, mk, s, hI, -, hV⟩ := h
  exact ⟨hI.2.2.2.1 i hi, hI.1.2.1 i hi⟩
/-- value -/
theorem c_13 (X : xX) (σ : Nat → Nat → Int32) (r p q w : Int32) (h : Rel σ) : zCl X 106 161 [.int r, .int p, .int q, .int w] σ := by
  have k1 := k106 X xshM σ xkin_M r p q w
  by_cases g : xin r 8 = true
  · obtain ⟨i, hi, rfl⟩ := xin_of g (by omega)
    have ci : (nI i).toNatClampNeg = i := nI_cl (by omega)
    obtain ⟨z1, z2, z3, z4, z5, -⟩ := zK_N h.1 hi
    obtain ⟨b1, b2⟩ := zK_b h.1 hi
    have ub : uBase (xget σ 1) (nI i) = xget σ 1 3 i := by unfold uBase; rw [if_pos g, ci]
    have us : uSlope (xget σ 1) (nI i) = xget σ 1 4 i := by unfold uSlope; rw [if_pos g, ci]
    rw [if_pos g, ub, us] at k1
    have q2 := k161 X xshM σ (xget σ 78) xmod_M 0 p q w i hi (bT p q) (bP w) _ _ _ _ _ (uLt (xget σ 1 3 i * q + xget σ 1 4 i * p) q w) (k152 X p q _) (by rw [bP_e]; exact k130 X w 0 1 _) rfl rfl rfl rfl rfl (fun hb => by
      obtain ⟨bp, bq⟩ := bT_i hb
      obtain ⟨m1, m2, m3, m4⟩ := key_64 (p := p) (q := q) b1 b2 bp bq
      have e3 : xget σ 78 1 (24 + i) = xget σ 1 3 i := z3.symm
      have e4 : xget σ 78 1 (32 + i) = xget σ 1 4 i := z4.symm
      rw [e3, e4, m2]
      exact low_k X _ (by rw [m1]; omega) (by omega))
    rw [mget] at q2
    exact ⟨_, _, _, k1, q2, h⟩
  · rw [if_neg g] at k1
    have q2 := x161 X xshM σ (xget σ 78) xmod_M r p q w (by simpa using g)
    rw [mget] at q2
    exact ⟨_, _, _, k1, q2, h⟩
/-- cross -/
theorem c_20 (X : xX) (σ : Nat → Nat → Int32) (a b w : Int32) (h : Rel σ) : zCl X 113 176 [.int a, .int b, .int w] σ := by
  have k1 := k113 X xshM σ xkin_M a b w
  by_cases ga : xin a 8 = true
  · by_cases gb : xin b 8 = true
    · obtain ⟨i, hi, rfl⟩ := xin_of ga (by omega)
      obtain ⟨j, hj, rfl⟩ := xin_of gb (by omega)
      have ci : (nI i).toNatClampNeg = i := nI_cl (by omega)
      have cj : (nI j).toNatClampNeg = j := nI_cl (by omega)
      obtain ⟨-, -, y3, y4, -⟩ := zK_N h.1 hi
      obtain ⟨-, -, z3, z4, -⟩ := zK_N h.1 hj
      obtain ⟨b1, b2⟩ := zK_b h.1 hi
      obtain ⟨b3, b4⟩ := zK_b h.1 hj
      have ub : uBase (xget σ 1) (nI i) = xget σ 1 3 i := by unfold uBase; rw [if_pos ga, ci]
      have us : uSlope (xget σ 1) (nI i) = xget σ 1 4 i := by unfold uSlope; rw [if_pos ga, ci]
      have ubj : uBase (xget σ 1) (nI j) = xget σ 1 3 j := by unfold uBase; rw [if_pos gb, cj]
      have usj : uSlope (xget σ 1) (nI j) = xget σ 1 4 j := by unfold uSlope; rw [if_pos gb, cj]
      have e1 : (xget σ 1 4 i - xget σ 1 4 j).toInt = (xget σ 1 4 i).toInt - (xget σ 1 4 j).toInt := ti_sub (by omega) (by omega)
      have e2 : (xget σ 1 3 j - xget σ 1 3 i).toInt = (xget σ 1 3 j).toInt - (xget σ 1 3 i).toInt := ti_sub (by omega) (by omega)
      have e3 : (-(xget σ 1 4 i - xget σ 1 4 j)).toInt = -((xget σ 1 4 i).toInt - (xget σ 1 4 j).toInt) := by rw [ti_neg (by rw [e1]; omega), e1]
      have e4 : (-(xget σ 1 3 j - xget σ 1 3 i)).toInt = -((xget σ 1 3 j).toInt - (xget σ 1 3 i).toInt) := by rw [ti_neg (by rw [e2]; omega), e2]
      have q2 := k176 X xshM σ (xget σ 78) xmod_M w (xget σ 1 4 i - xget σ 1 4 j) (xget σ 1 3 j - xget σ 1 3 i) _ _ i j hi hj (bP w) _ _ _ _ (uLt (xget σ 1 3 j - xget σ 1 3 i) (xget σ 1 4 i - xget σ 1 4 j) w) (uLt (-(xget σ 1 3 j - xget σ 1 3 i)) (-(xget σ 1 4 i - xget σ 1 4 j)) w) (by rw [bP_e]; exact k130 X w 0 1 _) (by rw [y4, z4]; rfl) (by rw [y3, z3]; rfl) rfl rfl rfl rfl rfl rfl (fun hg => low_k X _ (by rw [e2]; omega) (by rw [ti_lt, q_0] at hg; exact hg)) (fun hg hz => low_k X _ (by rw [e4]; omega) (by
        rw [ti_lt, q_0, e1] at hg
        rw [ti_e, q_0, e1] at hz
        rw [e3]
        omega))
      rw [mget] at q2
      have ea : aCro (xget σ 1) (nI i) (nI j) w = (if i = j then (-1000000000000000002 : Int64) else if bP w = true then (if xget σ 1 4 i - xget σ 1 4 j = 0 then (-1000000000000000003 : Int64) else if 0 < xget σ 1 4 i - xget σ 1 4 j then uLt (xget σ 1 3 j - xget σ 1 3 i) (xget σ 1 4 i - xget σ 1 4 j) w else uLt (-(xget σ 1 3 j - xget σ 1 3 i)) (-(xget σ 1 4 i - xget σ 1 4 j)) w) else (-1000000000000000002 : Int64)) := by
        unfold aCro
        rw [if_pos ga, if_pos gb, ub, us, ubj, usj]
        by_cases e : i = j
        · rw [if_pos e, if_pos (by rw [e])]
        · rw [if_neg e, if_neg (nI_ne (by omega) (by omega) e)]
          by_cases gw : bP w = true
          · rw [if_pos gw, if_pos gw]
            by_cases gz : xget σ 1 4 i - xget σ 1 4 j = 0
            · rw [if_pos gz, if_pos gz]
            · rw [if_neg gz, if_neg gz]
              by_cases gl : 0 < xget σ 1 4 i - xget σ 1 4 j
              · rw [if_neg (Int32.not_le.mpr gl), if_pos gl]
              · rw [if_pos (Int32.not_lt.mp gl), if_neg gl]
          · rw [if_neg gw, if_neg gw]
      rw [← ea] at q2
      exact ⟨_, _, _, k1, q2, h⟩
    · have ea : aCro (xget σ 1) a b w = (-1000000000000000001 : Int64) := by unfold aCro; rw [if_pos ga, if_neg gb]
      rw [ea] at k1
      have q2 := x176 X xshM σ (xget σ 78) xmod_M a b w (Or.inr (by simpa using gb))
      rw [mget] at q2
      exact ⟨_, _, _, k1, q2, h⟩
  · have ea : aCro (xget σ 1) a b w = (-1000000000000000001 : Int64) := by unfold aCro; rw [if_neg ga]
    rw [ea] at k1
    have q2 := x176 X xshM σ (xget σ 78) xmod_M a b w (Or.inl (by simpa using ga))
    rw [mget] at q2
    exact ⟨_, _, _, k1, q2, h⟩
