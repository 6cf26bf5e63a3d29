theorem nS_52 {a l : Nat} (ha : 1 ≤ a) (hl : l ≤ 100) : nS a (l * 2 ^ 52) 62 0 ≤ 62 ∧ l * 2 ^ 52 ≤ a * 2 ^ nS a (l * 2 ^ 52) 62 0 ∧ (nS a (l * 2 ^ 52) 62 0 = 0 ∨ a * 2 ^ nS a (l * 2 ^ 52) 62 0 < 2 * (l * 2 ^ 52)) := by
  have := nS_c (a := a) (B := l * 2 ^ 52) 62 0 (show l * 2 ^ 52 ≤ a * 2 ^ 62 by omega) (Or.inl rfl)
  exact ⟨by omega, this.2.1, this.2.2⟩
theorem db_nat {A l : Nat} (hl : 0 < l) : 2 * A / l = 2 * (A / l) + A % l * 2 / l ∧ 2 * A % l = A % l * 2 % l := by
  have h := Nat.div_add_mod A l
  have e : 2 * A = l * (2 * (A / l)) + A % l * 2 := by
    rw [Nat.mul_left_comm]
    omega
  rw [e, Nat.mul_add_div hl, Nat.mul_add_mod]
  exact ⟨rfl, rfl⟩
theorem dl_j {a l : Nat} (hl : 1 ≤ l) (hl2 : l ≤ 100) : ∀ d i, i + d ≤ 62 → a * 2 ^ i < 4611686018427387904 → rDl (jN l) d (jN (a * 2 ^ i / l)) (jN (a * 2 ^ i % l)) (-(nI i)) = (jN (a * 2 ^ nS a (l * 2 ^ 52) d i / l), jN (a * 2 ^ nS a (l * 2 ^ 52) d i % l), -(nI (nS a (l * 2 ^ 52) d i)))
  | 0, i, _, _ => rfl
  | d + 1, i, h, ha => by
    have dl := Nat.div_le_self (a * 2 ^ i) l
    have ml := Nat.mod_lt (a * 2 ^ i) hl
    have c1 : jN (a * 2 ^ i / l) < rT52 ↔ a * 2 ^ i < l * 2 ^ 52 := by
      rw [show rT52 = jN 4503599627370496 from rfl, jN_lt (by omega) (by omega), Nat.div_lt_iff_lt_mul hl]
      omega
    rw [rDl, nS]
    by_cases g : a * 2 ^ i < l * 2 ^ 52
    · rw [if_pos g, if_pos (c1.mpr g)]
      have e2 : jN (a * 2 ^ i % l) * 2 = jN (a * 2 ^ i % l * 2) := jN_mul (b := 2) (by omega) (by omega) (by omega)
      have dd := Nat.div_le_self (a * 2 ^ i % l * 2) l
      have e3 : jN (a * 2 ^ i % l * 2) / jN l = jN (a * 2 ^ i % l * 2 / l) := jN_div (by omega) (by omega)
      have e4 : jN (a * 2 ^ i % l * 2) - jN (a * 2 ^ i % l * 2) / jN l * jN l = jN (a * 2 ^ i % l * 2 % l) := jN_mod (by omega) (by omega) hl
      have e5 : 2 * jN (a * 2 ^ i / l) = jN (2 * (a * 2 ^ i / l)) := jN_mul (a := 2) (by omega) (by omega) (by omega)
      obtain ⟨f1, f2⟩ := db_nat (A := a * 2 ^ i) hl
      rw [e2, e4, e3, e5, jN_add (by omega), ← f1, ← f2, ← p2_s, (ex_d i (by omega)).2.2]
      exact dl_j hl hl2 d (i + 1) (by omega) (by rw [p2_s]; omega)
    · rw [if_neg g, if_neg (fun c => g (c1.mp c))]
theorem dr_j {A l : Nat} (hl : 1 ≤ l) (hl2 : l ≤ 100) (hA : A < 4611686018427387904) : rDr (jN (A / l)) (2 * jN (A % l)) (jN l) = jN (nR A l) := by
  have dl := Nat.div_le_self A l
  have ml := Nat.mod_lt A hl
  have q1 : 2 * jN (A % l) = jN (2 * (A % l)) := jN_mul (a := 2) (by omega) (by omega) (by omega)
  have q3 : jN (A / l) + 1 = jN (A / l + 1) := jN_add (b := 1) (by omega)
  have l3 : (jN (A / l) &&& 1 = 1) ↔ A / l % 2 = 1 := odd_n (by omega)
  unfold rDr nR
  rw [q1, q3]
  by_cases g1 : l < 2 * (A % l)
  · rw [if_pos g1, if_pos ((jN_lt (by omega) (by omega)).mpr g1)]
  · rw [if_neg g1, if_neg (fun c => g1 ((jN_lt (by omega) (by omega)).mp c))]
    by_cases g2 : 2 * (A % l) = l
    · rw [if_pos g2, if_pos ((jN_inj (by omega) (by omega)).mpr g2)]
      by_cases g3 : A / l % 2 = 1
      · rw [if_pos g3, if_pos (l3.mpr g3)]
      · rw [if_neg g3, if_neg (fun c => g3 (l3.mp c))]
    · rw [if_neg g2, if_neg (fun c => g2 ((jN_inj (by omega) (by omega)).mp c))]
theorem df_j {s m : Nat} {u : Int64} (hs : s ≤ 62) (h1 : 4503599627370496 ≤ m) (h2 : m ≤ 9007199254740992) : rDf u (jN m) (-(nI s)) = if u < 0 then jN ((1075 - s) * 2 ^ 52 + m - 2 ^ 52) ||| -9223372036854775808 else jN ((1075 - s) * 2 ^ 52 + m - 2 ^ 52) := by
  have eM : rMin = -9223372036854775808 := rfl
  have e53 : rT53 = jN 9007199254740992 := rfl
  have e52 : rT52 = jN 4503599627370496 := rfl
  obtain ⟨d1, d2, -⟩ := ex_d s (by omega)
  unfold rDf rDv
  by_cases g : m = 9007199254740992
  · have e2 : jN m / 2 = jN (m / 2) := jN_div (b := 2) (by omega) (by omega)
    rw [if_pos (by rw [g, e53]), d2, e2, eM, e52, jN_sub (by omega) (by omega), e_52, sl_n (by omega), or_n (k := 52) (by omega) (by omega), show (1076 - s) * 2 ^ 52 + (m / 2 - 4503599627370496) = (1075 - s) * 2 ^ 52 + m - 2 ^ 52 by omega]
  · rw [if_neg (fun c => g ((jN_inj (by omega) (by omega)).mp (by rw [← e53]; exact c))), d1, eM, e52, jN_sub (by omega) (by omega), e_52, sl_n (by omega), or_n (k := 52) (by omega) (by omega), show (1075 - s) * 2 ^ 52 + (m - 4503599627370496) = (1075 - s) * 2 ^ 52 + m - 2 ^ 52 by omega]
/-- a value's bits as a double number -/
theorem ref_163 (X : xX) (S : xS) {u : Int64} {l : Nat} (h1 : -4611686018427387904 ≤ u.toInt) (hl : 1 ≤ l) (hl2 : l ≤ 100) (hb : u.toInt.natAbs < 1048576 * l) : xK X 163 [.long u, .long (jN l)] S = some (some (.long (nDb u (jN l))), S) := by
  obtain ⟨e1, e2⟩ := ab_n h1
  by_cases g : u = 0
  · subst g
    rw [n163]
    unfold nDb nBi
    rw [if_neg (by decide), if_pos rfl]
  · have n0 : ¬ u.toInt = 0 := fun c => g (i64_0.mp c)
    have ha : 1 ≤ u.toInt.natAbs := by omega
    generalize u.toInt.natAbs = a at *
    obtain ⟨s1, s2, s3⟩ := nS_52 ha hl2
    have q : nSh (nAb u) (jN l) 53 62 0 = nS a (l * 2 ^ 52) 62 0 := by
      rw [e1]
      exact nSh_n w_53 (by omega) (by omega) 62 0 (by omega) (by rw [Nat.pow_zero]; omega)
    have D := dl_j (a := a) hl hl2 62 0 (by omega) (by rw [Nat.pow_zero]; omega)
    rw [Nat.pow_zero, Nat.mul_one, show -(nI 0) = (0 : Int32) by decide] at D
    have e0 : (0 : Int64) < jN l := (jN_lt (a := 0) (by omega) (by omega)).mpr hl
    have eC : nDb u (jN l) = rDf u (rDr (jN (a * 2 ^ nS a (l * 2 ^ 52) 62 0 / l)) (2 * jN (a * 2 ^ nS a (l * 2 ^ 52) 62 0 % l)) (jN l)) (-(nI (nS a (l * 2 ^ 52) 62 0))) := by
      unfold nDb nBi nMa
      rw [if_neg g, if_pos e0, q, e1, sl_n (by omega)]
      generalize nS a (l * 2 ^ 52) 62 0 = s at *
      have s4 : a * 2 ^ s < 9007199254740992 * l := by
        rcases s3 with e | e
        · rw [e, Nat.pow_zero]; omega
        · omega
      have l1 := (nR_b (x := a * 2 ^ s) (d := l) (B := 4503599627370496) hl).1 (by omega)
      have l2 := (nR_b (x := a * 2 ^ s) (d := l) (B := 9007199254740992) hl).2 s4
      rw [wh_n (by omega) (by omega) hl, dr_j hl hl2 (by omega), df_j s1 l1 l2]
      have x1 : (1 : Int64) <<< ((nI 52).toInt64 &&& 63) = jN (2 ^ 52) := sl_n (a := 1) (i := 52) (by omega)
      rw [(ex_s s (by omega)).2, w_53, sl_n (by omega), x1, jN_add (by omega), jN_sub (by omega) (by omega)]
    rw [eC]
    have dl := Nat.div_le_self a l
    have ep : jN a / jN l = jN (a / l) := jN_div (by omega) (by omega)
    have er : jN a - jN (a / l) * jN l = jN (a % l) := by
      rw [← ep]
      exact jN_mod (by omega) (by omega) hl
    refine h163 X S u (jN l) _ _ _ _ g (jN_ne (by omega) hl) e2 ep er (fun u11 u12 => ?_)
    have L := l163 X S u (jN l) (jN a) (jN_ne (by omega) hl) 62 (jN (a / l)) (jN (a % l)) 0 u11 u12 (by
      rw [D]
      show ¬ jN (a * 2 ^ nS a (l * 2 ^ 52) 62 0 / l) < rT52
      have := Nat.div_le_self (a * 2 ^ nS a (l * 2 ^ 52) 62 0) l
      have s4 : a * 2 ^ nS a (l * 2 ^ 52) 62 0 < 9223372036854775808 := by
        rcases s3 with e | e
        · rw [e, Nat.pow_zero]; omega
        · omega
      rw [show rT52 = jN 4503599627370496 from rfl, jN_lt (by omega) (by omega), Nat.div_lt_iff_lt_mul hl]
      omega)
    rw [D] at L
    exact L
theorem key_b {x y p q : Int} (hx : -10900 ≤ x ∧ x ≤ 10900) (hy : -50 ≤ y ∧ y ≤ 50) (hp : 0 ≤ p ∧ p ≤ 9999) (hq : 1 ≤ q ∧ q ≤ 100) : -(510850 * q) ≤ x * q + y * p ∧ x * q + y * p ≤ 510850 * q := by
  have b2 := int_bm (x := y) (c := 50) (y := p) (d := 9999) (by omega) (by omega) (by omega) (by omega) (by omega) (by omega)
  have b1 : x * q ≤ 10900 * q := Int.mul_le_mul_of_nonneg_right hx.2 (by omega)
  have b3 : -10900 * q ≤ x * q := Int.mul_le_mul_of_nonneg_right hx.1 (by omega)
  omega
theorem key_j {A : Nat → Nat → Int32} {N : Nat → Int32} {i : Nat} {p q : Int32} (hK : zK A N) (hi : i < 8) (hT : bT p q = true) : q.toInt64 = jN q.toInt.toNat ∧ 1 ≤ q.toInt.toNat ∧ q.toInt.toNat ≤ 100 ∧ (A 3 i).toInt64 * q.toInt64 + (A 4 i).toInt64 * p.toInt64 = (A 3 i * q + A 4 i * p).toInt64 ∧ (A 3 i * q + A 4 i * p).toInt64.toInt.natAbs < 510851 * q.toInt.toNat ∧ -4611686018427387904 ≤ (A 3 i * q + A 4 i * p).toInt64.toInt := by
  obtain ⟨b1, b2⟩ := zK_b hK hi
  obtain ⟨bp, bq⟩ := bT_i hT
  obtain ⟨m1, m2, m3, m4⟩ := key_64 (p := p) (q := q) b1 b2 bp bq
  have kb := key_b b1 b2 bp bq
  have e : q.toInt64 = jN q.toInt.toNat := by
    have := jN_of (x := q.toInt64) (by rw [li_32]; omega)
    rw [li_32] at this
    exact this
  refine ⟨e, by omega, by omega, m2, ?_, ?_⟩
  · rw [li_32, m1]; omega
  · rw [li_32, m1]; omega
/-- number -/
theorem c_14 (X : xX) (σ : Nat → Nat → Int32) (r p q w : Int32) (h : Rel σ) : zCl X 107 162 [.int r, .int p, .int q, .int w] σ := by
  have k1 := k107 X xshM σ xkin_M r p q w
  by_cases g : xin r 8 = true
  · obtain ⟨i, hi, rfl⟩ := xin_of g (by omega)
    have ci : (nI i).toNatClampNeg = i := nI_cl (by omega)
    obtain ⟨z1, z2, z3, z4, z5, -⟩ := zK_N h.1 hi
    have ub : uBase (xget σ 1) (nI i) = xget σ 1 3 i := by unfold uBase; rw [if_pos g, ci]
    have us : uSlope (xget σ 1) (nI i) = xget σ 1 4 i := by unfold uSlope; rw [if_pos g, ci]
    have e3 : xget σ 78 1 (24 + i) = xget σ 1 3 i := z3.symm
    have e4 : xget σ 78 1 (32 + i) = xget σ 1 4 i := z4.symm
    have q2 := k162 X xshM σ (xget σ 78) xmod_M p q w i hi (bT p q) (decide (0 ≤ w) && decide (w ≤ 2)) _ _ _ _ _ (nDb (xget σ 1 3 i * q + xget σ 1 4 i * p).toInt64 q.toInt64) (wSi (xget σ 1 3 i * q + xget σ 1 4 i * p).toInt64 q.toInt.toNat) (nSb (xget σ 1 3 i * q + xget σ 1 4 i * p).toInt64 q.toInt64) _ (k152 X p q _) (k130 X w 0 2 _) rfl rfl rfl rfl rfl (fun hb => by
      obtain ⟨f1, f2, f3, f4, f5, f6⟩ := key_j (i := i) h.1 hi hb
      rw [e3, e4, f4, f1]
      exact ref_163 X _ f6 f2 f3 (by omega)) (fun hb => by
      obtain ⟨f1, f2, f3, f4, f5, f6⟩ := key_j (i := i) h.1 hi hb
      rw [e3, e4, f4, f1]
      exact ref_164 X _ f6 f2 f3 (by omega)) (fun hb => by
      obtain ⟨f1, f2, f3, f4, f5, f6⟩ := key_j (i := i) h.1 hi hb
      rw [f1]
      exact num_b X _ f6 f2 f3 (by omega)) (fun hb => k168 X _ _)
    rw [mget] at q2
    have ea : aNum (xget σ 1) (nI i) p q w = (if bT p q = true then (if (decide (0 ≤ w) && decide (w ≤ 2)) = true then (if w = 1 then nDb (xget σ 1 3 i * q + xget σ 1 4 i * p).toInt64 q.toInt64 else if w = 0 then nSb (xget σ 1 3 i * q + xget σ 1 4 i * p).toInt64 q.toInt64 else rWl (wSi (xget σ 1 3 i * q + xget σ 1 4 i * p).toInt64 q.toInt.toNat)) else (-1000000000000000002 : Int64)) else (-1000000000000000002 : Int64)) := by
      unfold aNum
      rw [if_pos g, ub, us]
      by_cases hb : bT p q = true
      · rw [if_pos hb, if_pos hb]
        obtain ⟨f1, f2, f3, f4, f5, f6⟩ := key_j (i := i) h.1 hi hb
        by_cases g1 : w.toInt < 0
        · rw [if_pos (by rw [ti_lt, q_0]; exact g1), decide_eq_false (by rw [ti_le, q_0]; omega), Bool.false_and, if_neg (by decide)]
        · rw [if_neg (by rw [ti_lt, q_0]; exact g1), decide_eq_true (by rw [ti_le, q_0]; omega), Bool.true_and]
          by_cases g2 : 2 < w.toInt
          · rw [if_pos (by rw [ti_lt, q_2]; exact g2), decide_eq_false (by rw [ti_le, q_2]; omega), if_neg (show ¬ false = true by decide)]
          · rw [if_neg (by rw [ti_lt, q_2]; exact g2), decide_eq_true (by rw [ti_le, q_2]; omega), if_pos (show true = true from rfl)]
            by_cases c0 : w.toInt = 0
            · rw [if_pos c0, if_neg (by rw [ti_e, q_1]; omega), if_pos (by rw [ti_e, q_0]; omega)]
            · rw [if_neg c0]
              by_cases c1 : w.toInt = 1
              · rw [if_pos c1, if_pos (by rw [ti_e, q_1]; omega)]
              · rw [if_neg c1, if_neg (by rw [ti_e, q_1]; omega), if_neg (by rw [ti_e, q_0]; omega), f1, si_w f6 f2 (by omega) (by omega)]
                by_cases u0 : (xget σ 1 3 i * q + xget σ 1 4 i * p).toInt64 = 0
                · rw [u0, wSi_0]
                  decide
                · have n0 : ¬ (xget σ 1 3 i * q + xget σ 1 4 i * p).toInt64.toInt = 0 := fun c => u0 (i64_0.mp c)
                  have h8 : 8388608 ≤ (xget σ 1 3 i * q + xget σ 1 4 i * p).toInt64.toInt.natAbs * 2 ^ 30 / q.toInt.toNat := by
                    rw [Nat.le_div_iff_mul_le f2]
                    omega
                  obtain ⟨y1, y2, y3⟩ := nY_b (B := 510851) (by omega) f2 (by omega) (by omega) f5 (Or.inl h8)
                  obtain ⟨-, -, -, -, w5⟩ := wSi_s y2 (by omega)
                  exact wl_j w5
      · rw [if_neg hb, if_neg hb]
    rw [← ea] at q2
    exact ⟨_, _, _, k1, q2, h⟩
  · have ea : aNum (xget σ 1) r p q w = (-1000000000000000001 : Int64) := by unfold aNum; rw [if_neg g]
    rw [ea] at k1
    have q2 := x162 X xshM σ (xget σ 78) xmod_M r p q w (by simpa using g)
    rw [mget] at q2
    exact ⟨_, _, _, k1, q2, h⟩
theorem wSi_n {u : Int64} {l : Nat} (hb : nY u.toInt.natAbs l < 4611686018427387904) : (wSi u l).toInt.natAbs = nY u.toInt.natAbs l := by
  have ej := jN_i (n := nY u.toInt.natAbs l) (by omega)
  unfold wSi
  split
  · rw [li_neg (by omega), ej]; omega
  · rw [ej]; omega
theorem sum_n {x i : Nat} (h : x < i * 548524232015872 + 548524232015872) (hi : i < 8) : x < (i * 510853 + 510853) * 1073741824 ∧ x < 16777216 * 1073741824 := by omega
theorem sum_m {y i : Nat} (h : y ≤ (i * 510853 + 510853) * 1073741824) : y ≤ i * 548524232015872 + 548524232015872 := by
  rw [Nat.add_mul, Nat.mul_assoc, show 510853 * 1073741824 = 548524232015872 from rfl] at h
  exact h
/-- one of the numbers is added -/
theorem sum_s {s U : Int64} {l i : Nat} (hl : 1 ≤ l) (hl2 : l ≤ 100) (hi : i < 8) (hs : s.toInt.natAbs ≤ i * 548524232015872) (hU : U.toInt.natAbs < 510851 * l) (hU2 : -4611686018427387904 ≤ U.toInt) : nSi U (jN l) = wSi U l ∧ -4611686018427387904 ≤ (s + wSi U l).toInt ∧ (s + wSi U l).toInt.natAbs < 18014398509481984 ∧ nSi (s + wSi U l) nOne = wSi (s + wSi U l) 1073741824 ∧ nRep (wSi (s + wSi U l) 1073741824).toInt.natAbs ∧ (wSi (s + wSi U l) 1073741824).toInt.natAbs ≤ i * 548524232015872 + 548524232015872 := by
  have e1 := si_w hU2 hl (by omega) (by omega)
  have hY : nY U.toInt.natAbs l ≤ 510851 * 2 ^ 30 := by
    by_cases z : U.toInt.natAbs = 0
    · rw [z, nY_0]; omega
    · have h8 : 8388608 ≤ U.toInt.natAbs * 2 ^ 30 / l := by
        rw [Nat.le_div_iff_mul_le hl]
        omega
      exact (nY_b (B := 510851) (by omega) hl (by omega) (by omega) hU (Or.inl h8)).2.2
  have hw := wSi_n (u := U) (l := l) (by omega)
  have hsum : (s + wSi U l).toInt = s.toInt + (wSi U l).toInt := li_add (by omega) (by omega)
  have hb : (s + wSi U l).toInt.natAbs < i * 548524232015872 + 548524232015872 := by omega
  obtain ⟨hb2, hb3⟩ := sum_n hb hi
  have lo : -4611686018427387904 ≤ (s + wSi U l).toInt := by omega
  refine ⟨e1, lo, by omega, si_w (u := s + wSi U l) (l := 1073741824) lo (by decide) (by decide) hb3, ?_⟩
  have hz : nRep (nY (s + wSi U l).toInt.natAbs 1073741824) ∧ nY (s + wSi U l).toInt.natAbs 1073741824 ≤ i * 548524232015872 + 548524232015872 := by
    by_cases z : (s + wSi U l).toInt.natAbs = 0
    · rw [z, nY_0]
      exact ⟨⟨0, 0, by omega, rfl⟩, by omega⟩
    · obtain ⟨y1, y2, y3⟩ := nY_b (a := (s + wSi U l).toInt.natAbs) (l := 1073741824) (B := i * 510853 + 510853) (Nat.pos_of_ne_zero z) (by decide) (by decide) hb3 hb2 (Or.inr rfl)
      exact ⟨y1, sum_m y3⟩
  rw [wSi_n (by omega)]
  exact hz
theorem heap_l (X : xX) (σ : Nat → Nat → Int32) (p q w : Int32) (hK : zK (xget σ 1) (σ 79)) (hT : bT p q = true) : ∀ d i s u7 u8, i + d = 8 → -4611686018427387904 ≤ s.toInt → nRep s.toInt.natAbs → s.toInt.natAbs ≤ i * 548524232015872 → xV X 169 (27, [.ref 78, .int p, .int q, .int w, .long s, .float 0, .int (nI i), u7, u8], [], (xshM, xput 8 σ 78 (xget σ 78))) = some (some (.long (if w = 0 then nSb (aHs (xget σ 1) p q d i s) nOne else aHs (xget σ 1) p q d i s / nOne)), (xshM, xput 8 σ 78 (xget σ 78)))
  | 0, i, s, u7, u8, h, h1, h2, h3 => by
    have e : i = 8 := by omega
    subst e
    rw [aHs, wl_j h1]
    exact x169 X xshM σ (xget σ 78) xmod_M p q w s _ _ u7 u8 (heap_b X _ h1 rfl h2 (by omega)) (k168 X _ _)
  | d + 1, i, s, u7, u8, h, h1, h2, h3 => by
    obtain ⟨z1, z2, z3, z4, z5, z6, -⟩ := zK_N hK (show i < 8 by omega)
    obtain ⟨f1, f2, f3, f4, f5, f6⟩ := key_j (i := i) hK (by omega) hT
    have e3 : xget σ 78 1 (24 + i) = xget σ 1 3 i := z3.symm
    have e4 : xget σ 78 1 (32 + i) = xget σ 1 4 i := z4.symm
    have e5 : xget σ 78 1 i = xget σ 1 5 i := z5.symm
    have xi8 : xin (nI i) 8 = true := nI_i8 (by omega)
    have ci : (nI i).toNatClampNeg = i := nI_cl (by omega)
    have ub : uBase (xget σ 1) (nI i) = xget σ 1 3 i := by unfold uBase; rw [if_pos xi8, ci]
    have us : uSlope (xget σ 1) (nI i) = xget σ 1 4 i := by unfold uSlope; rw [if_pos xi8, ci]
    have ui : uIn (xget σ 1) (nI i) = xget σ 1 5 i := by
      unfold uIn
      rw [if_pos xi8, ci]
      rcases z6 with z | z
      · rw [z, if_pos rfl]
      · rw [z, if_neg (by decide)]
    obtain ⟨t1, t2, t3, t4, t5, t6⟩ := sum_s (s := s) (i := i) f2 f3 (by omega) h3 f5 f6
    obtain ⟨-, ab⟩ := ab_n t2
    obtain ⟨v7, v8, it⟩ := i169 X xshM σ (xget σ 78) xmod_M p q w (xget σ 1 5 i) s (wSi (xget σ 1 3 i * q + xget σ 1 4 i * p).toInt64 q.toInt.toNat) _ _ _ _ _ _ _ _ i (by omega) u7 u8 e5 rfl rfl rfl rfl rfl (by
      rw [e3, e4, f4, f1]
      exact ref_164 X _ f6 f2 f3 (by omega)) rfl ab (ref_165 X _ t3)
    rw [it, aHs, ui, ub, us, f1, t1, t4]
    have ew : (if s + wSi (xget σ 1 3 i * q + xget σ 1 4 i * p).toInt64 q.toInt.toNat < 0 then -(jN (nY (s + wSi (xget σ 1 3 i * q + xget σ 1 4 i * p).toInt64 q.toInt.toNat).toInt.natAbs 1073741824)) else jN (nY (s + wSi (xget σ 1 3 i * q + xget σ 1 4 i * p).toInt64 q.toInt.toNat).toInt.natAbs 1073741824)) = wSi (s + wSi (xget σ 1 3 i * q + xget σ 1 4 i * p).toInt64 q.toInt.toNat) 1073741824 := rfl
    rw [ew]
    by_cases gi : xget σ 1 5 i = 1
    · rw [if_pos gi]
      exact heap_l X σ p q w hK hT d (i + 1) _ v7 v8 (by omega) (by omega) t5 (by rw [Nat.add_one_mul]; exact t6)
    · rw [if_neg gi]
      exact heap_l X σ p q w hK hT d (i + 1) s v7 v8 (by omega) h1 h2 (Nat.le_trans h3 (Nat.mul_le_mul_right _ (by omega)))
/-- heap -/
theorem c_15 (X : xX) (σ : Nat → Nat → Int32) (p q w : Int32) (h : Rel σ) : zCl X 108 169 [.int p, .int q, .int w] σ := by
  have k1 := k108 X xshM σ xkin_M p q w
  suffices hs : xK X 169 [.ref 78, .int p, .int q, .int w] (xshM, σ) = some (some (.long (aHp (xget σ 1) p q w)), (xshM, σ)) from ⟨_, _, _, k1, hs, h⟩
  unfold aHp
  have q3 : xK X 130 [.int w, .int 0, .int 1] (xshM, xput 8 σ 78 (xget σ 78)) = some (some (.int (xi (bP w))), (xshM, xput 8 σ 78 (xget σ 78))) := by rw [bP_e]; exact k130 X w 0 1 _
  have q2 := k152 X p q (xshM, xput 8 σ 78 (xget σ 78))
  by_cases hT : bT p q = true
  · rw [if_pos hT]
    by_cases hP : bP w = true
    · rw [hT, xi_t] at q2
      rw [hP, xi_t] at q3
      have qq := h169 X xshM σ (xget σ 78) xmod_M p q w _ q2 q3 (fun u7 u8 => heap_l X σ p q w h.1 hT 8 0 0 u7 u8 (by omega) (by rw [j0_i]; omega) (by rw [j0_i]; exact ⟨0, 0, by omega, rfl⟩) (by rw [j0_i]; omega))
      rw [mget] at qq
      rw [qq]
      by_cases w0 : w = 0
      · rw [if_pos w0, if_pos w0]
      · have w1 : w = 1 := by
          unfold bP at hP
          rw [Bool.or_eq_true, decide_eq_true_eq, decide_eq_true_eq] at hP
          rcases hP with c | c
          · exact absurd c w0
          · exact c
        rw [if_neg w0, if_neg w0, if_pos w1]
    · have hPf : bP w = false := by simpa using hP
      have qq := y169 X xshM σ (xget σ 78) xmod_M p q w (bT p q) (bP w) q2 q3 (fun _ => hPf)
      rw [mget] at qq
      rw [qq]
      unfold bP at hPf
      rw [Bool.or_eq_false_iff, decide_eq_false_iff_not, decide_eq_false_iff_not] at hPf
      rw [if_neg hPf.1, if_neg hPf.2]
  · have qq := y169 X xshM σ (xget σ 78) xmod_M p q w (bT p q) (bP w) q2 q3 (fun c => absurd c hT)
    rw [mget] at qq
    rw [qq, if_neg hT]
