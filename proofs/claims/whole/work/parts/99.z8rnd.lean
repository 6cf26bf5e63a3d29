set_option maxRecDepth 100000 in
theorem sh_k : ∀ i, i < 64 → (((nI i).toInt64 &&& 63).toBitVec.smod 64).toNat = i := by decide
theorem jN_t {x : Nat} (h : x < 18446744073709551616) : (jN x).toBitVec.toNat = x := Nat.mod_eq_of_lt h
theorem jN_lt {a b : Nat} (ha : a < 9223372036854775808) (hb : b < 9223372036854775808) : jN a < jN b ↔ a < b := by
  rw [li_lt, jN_i ha, jN_i hb]
  omega
theorem jN_inj {a b : Nat} (ha : a < 9223372036854775808) (hb : b < 9223372036854775808) : jN a = jN b ↔ a = b := by
  refine ⟨fun h => ?_, fun h => by rw [h]⟩
  have x := jN_i ha
  rw [h, jN_i hb] at x
  omega
theorem jN_add {a b : Nat} (h : a + b < 9223372036854775808) : jN a + jN b = jN (a + b) := by
  have x := jN_i (n := a) (by omega)
  have y := jN_i (n := b) (by omega)
  apply li_eq
  rw [li_add (by rw [x, y]; omega) (by rw [x, y]; omega), x, y, jN_i h]
  omega
theorem jN_sub {a b : Nat} (h : b ≤ a) (ha : a < 9223372036854775808) : jN a - jN b = jN (a - b) := by
  have x := jN_i (n := a) (by omega)
  have y := jN_i (n := b) (by omega)
  apply li_eq
  rw [li_sub (by rw [x, y]; omega) (by rw [x, y]; omega), x, y, jN_i (by omega)]
  omega
theorem jN_mul {a b : Nat} (ha : a < 9223372036854775808) (hb : b < 9223372036854775808) (h : a * b < 9223372036854775808) : jN a * jN b = jN (a * b) := by
  have x := jN_i ha
  have y := jN_i hb
  apply li_eq
  rw [li_mul (by rw [x, y, ← Int.natCast_mul]; omega) (by rw [x, y, ← Int.natCast_mul]; omega), x, y, jN_i h, ← Int.natCast_mul]
theorem jN_div {a b : Nat} (ha : a < 9223372036854775808) (hb : b < 9223372036854775808) : jN a / jN b = jN (a / b) := by
  have x := jN_i ha
  have y := jN_i hb
  have z := Nat.div_le_self a b
  apply li_eq
  rw [li_div (by omega), x, y, Int.tdiv_eq_ediv_of_nonneg (by omega), jN_i (by omega)]
  exact (Int.natCast_ediv a b).symm
theorem sl_n {a i : Nat} (hi : i < 64) : jN a <<< ((nI i).toInt64 &&& 63) = jN (a * 2 ^ i) := by
  apply Int64.toBitVec_inj.1
  show (jN a).toBitVec <<< (((nI i).toInt64 &&& 63).toBitVec.smod 64).toNat = _
  rw [sh_k i hi]
  apply BitVec.eq_of_toNat_eq
  rw [BitVec.toNat_shiftLeft, Nat.shiftLeft_eq]
  exact Nat.mod_mul_mod a (2 ^ i) (2 ^ 64)
theorem sr_n {a i : Nat} (ha : a < 9223372036854775808) (hi : i < 64) : jN a >>> ((nI i).toInt64 &&& 63) = jN (a / 2 ^ i) := by
  apply Int64.toBitVec_inj.1
  show BitVec.sshiftRight (jN a).toBitVec (((nI i).toInt64 &&& 63).toBitVec.smod 64).toNat = _
  rw [sh_k i hi]
  have ea : (jN a).toBitVec.toNat = a := jN_t (by omega)
  rw [BitVec.sshiftRight_eq_of_msb_false (BitVec.msb_eq_false_iff_two_mul_lt.mpr (by rw [ea]; omega))]
  apply BitVec.eq_of_toNat_eq
  have := Nat.div_le_self a (2 ^ i)
  rw [BitVec.toNat_ushiftRight, ea, Nat.shiftRight_eq_div_pow, jN_t (by omega)]
theorem p2_le {a b : Nat} (h : a ≤ b) : 2 ^ a ≤ 2 ^ b := Nat.pow_le_pow_right (by omega) h
theorem p2_lt {a b : Nat} (h : 2 ^ a < 2 ^ b) : a < b := by
  by_cases g : a < b
  · exact g
  · have := p2_le (a := b) (b := a) (by omega)
    omega
theorem p2_pos (a : Nat) : 0 < 2 ^ a := Nat.pow_pos (by omega)
theorem and_n {a c : Nat} (ha : a < 9223372036854775808) (hc : c ≤ 62) : jN a &&& jN (2 ^ c - 1) = jN (a % 2 ^ c) := by
  have h1 := p2_le hc
  have h2 := Nat.mod_le a (2 ^ c)
  apply Int64.toBitVec_inj.1
  rw [Int64.toBitVec_and]
  apply BitVec.eq_of_toNat_eq
  rw [BitVec.toNat_and, jN_t (by omega), jN_t (by omega), jN_t (by omega), Nat.and_two_pow_sub_one_eq_mod]
theorem and_1 {a : Nat} (ha : a < 9223372036854775808) : jN a &&& 1 = jN (a % 2) := and_n (c := 1) ha (by omega)
theorem odd_n {a : Nat} (ha : a < 9223372036854775808) : (jN a &&& 1 = 1) ↔ a % 2 = 1 := by
  rw [and_1 ha]
  exact jN_inj (b := 1) (by omega) (by omega)
theorem or_n {e k m : Nat} (hm : m < 2 ^ k) (hb : e * 2 ^ k + m < 9223372036854775808) : jN (e * 2 ^ k) ||| jN m = jN (e * 2 ^ k + m) := by
  apply Int64.toBitVec_inj.1
  rw [Int64.toBitVec_or]
  apply BitVec.eq_of_toNat_eq
  rw [BitVec.toNat_or, jN_t (by omega), jN_t (by omega), jN_t (by omega), Nat.mul_comm e, ← Nat.two_pow_add_eq_or_of_lt hm]
/-- rounded to the nearest, to the even one of two -/
def nR (x d : Nat) : Nat := if d < 2 * (x % d) then x / d + 1 else if 2 * (x % d) = d then (if x / d % 2 = 1 then x / d + 1 else x / d) else x / d
theorem nR_k {x d k : Nat} (hk : 0 < k) : nR (x * k) (d * k) = nR x d := by
  unfold nR
  rw [Nat.mul_mod_mul_right, Nat.mul_div_mul_right _ _ hk, ← Nat.mul_assoc]
  have c1 : d * k < 2 * (x % d) * k ↔ d < 2 * (x % d) := Nat.mul_lt_mul_right hk
  have c2 : 2 * (x % d) * k = d * k ↔ 2 * (x % d) = d := Nat.mul_left_inj (by omega)
  by_cases g1 : d < 2 * (x % d)
  · rw [if_pos g1, if_pos (c1.mpr g1)]
  · rw [if_neg g1, if_neg (fun c => g1 (c1.mp c))]
    by_cases g2 : 2 * (x % d) = d
    · rw [if_pos g2, if_pos (c2.mpr g2)]
    · rw [if_neg g2, if_neg (fun c => g2 (c2.mp c))]
theorem nR_x {x d : Nat} (hd : 0 < d) : nR (x * d) d = x := by
  unfold nR
  rw [Nat.mul_mod_left, Nat.mul_div_cancel _ hd, if_neg (by omega), if_neg (by omega)]
theorem nR_b {x d B : Nat} (hd : 0 < d) : (B * d ≤ x → B ≤ nR x d) ∧ (x < B * d → nR x d ≤ B) := by
  have h1 : B ≤ x / d ↔ B * d ≤ x := Nat.le_div_iff_mul_le hd
  have h2 : x / d < B ↔ x < B * d := Nat.div_lt_iff_lt_mul hd
  unfold nR
  refine ⟨fun h => ?_, fun h => ?_⟩
  · have := h1.mpr h
    split
    · omega
    · split
      · split <;> omega
      · omega
  · have := h2.mpr h
    split
    · omega
    · split
      · split <;> omega
      · omega
theorem wh_n {x d : Nat} (hx : x < 4611686018427387904) (hd : d < 4611686018427387904) (h0 : 0 < d) : nWh (jN x) (jN d) = jN (nR x d) := by
  have e0 : (0 : Int64) < jN d := (jN_lt (a := 0) (by omega) (by omega)).mpr h0
  have m2 := Nat.mod_lt x h0
  have f2 := Nat.div_le_self x d
  have q1 : 2 * jN (x % d) = jN (2 * (x % d)) := jN_mul (a := 2) (by omega) (by omega) (by omega)
  have q2 : jN (x / d) - jN (x / d) / 2 * 2 = jN (x / d % 2) := jN_mod (y := 2) (by omega) (by omega) (by omega)
  have q3 : jN (x / d) + 1 = jN (x / d + 1) := jN_add (b := 1) (by omega)
  unfold nWh nR
  rw [if_pos e0, jN_mod (by omega) (by omega) h0, jN_div (by omega) (by omega), q1, q2, q3]
  by_cases g1 : d < 2 * (x % d)
  · rw [if_pos g1, if_pos ((jN_lt (by omega) (by omega)).mpr g1)]
  · rw [if_neg g1, if_neg (fun c => g1 ((jN_lt (by omega) (by omega)).mp c))]
    by_cases g2 : 2 * (x % d) = d
    · rw [if_pos g2, if_pos ((jN_inj (by omega) (by omega)).mpr g2)]
      by_cases g3 : x / d % 2 = 1
      · rw [if_pos g3, if_pos (by rw [g3]; rfl)]
      · rw [if_neg g3, if_neg (show ¬ jN (x / d % 2) = 1 from fun c => g3 ((jN_inj (b := 1) (by omega) (by omega)).mp c))]
    · rw [if_neg g2, if_neg (fun c => g2 ((jN_inj (by omega) (by omega)).mp c))]
def nS (a B : Nat) : Nat → Nat → Nat
  | 0, i => i
  | d + 1, i => if a * 2 ^ i < B then nS a B d (i + 1) else i
theorem p2_s {a i : Nat} : a * 2 ^ (i + 1) = 2 * (a * 2 ^ i) := by
  rw [Nat.pow_succ, ← Nat.mul_assoc, Nat.mul_comm]
theorem nSh_n {a l k : Nat} {w : Int32} (hw : w - 1 = nI k) (hk : k < 64) (hB : l * 2 ^ k < 4611686018427387904) : ∀ d i, i + d ≤ 62 → a * 2 ^ i < 9223372036854775808 → nSh (jN a) (jN l) w d i = nS a (l * 2 ^ k) d i
  | 0, i, _, _ => rfl
  | d + 1, i, h, ha => by
    rw [nSh, nS, hw, sl_n (by omega), sl_n hk]
    by_cases g : a * 2 ^ i < l * 2 ^ k
    · rw [if_pos ((jN_lt ha (by omega)).mpr g), if_pos g]
      exact nSh_n hw hk hB d (i + 1) (by omega) (by rw [p2_s]; omega)
    · rw [if_neg (fun c => g ((jN_lt ha (by omega)).mp c)), if_neg g]
theorem nS_c {a B : Nat} : ∀ d i, B ≤ a * 2 ^ (i + d) → (i = 0 ∨ a * 2 ^ i < 2 * B) → nS a B d i ≤ i + d ∧ B ≤ a * 2 ^ nS a B d i ∧ (nS a B d i = 0 ∨ a * 2 ^ nS a B d i < 2 * B)
  | 0, i, h1, h2 => ⟨Nat.le_refl i, h1, h2⟩
  | d + 1, i, h1, h2 => by
    rw [nS]
    by_cases g : a * 2 ^ i < B
    · rw [if_pos g]
      have := nS_c (a := a) (B := B) d (i + 1) (by rw [show i + 1 + d = i + (d + 1) by omega]; exact h1) (Or.inr (by rw [p2_s]; omega))
      exact ⟨by omega, this.2.1, this.2.2⟩
    · rw [if_neg g]
      exact ⟨by omega, by omega, h2⟩
theorem nS_m {a s t : Nat} (h : s < t) : 2 * (a * 2 ^ s) ≤ a * 2 ^ t := by
  rw [← p2_s]
  exact Nat.mul_le_mul_left a (p2_le (by omega))
theorem nS_u {a B s t : Nat} (hB : 0 < B) (h1 : B ≤ a * 2 ^ s) (h2 : s = 0 ∨ a * 2 ^ s < 2 * B) (h3 : B ≤ a * 2 ^ t) (h4 : a * 2 ^ t < 2 * B) : s = t := by
  by_cases g : s < t
  · have := nS_m (a := a) g
    omega
  · by_cases g2 : t < s
    · have := nS_m (a := a) g2
      omega
    · omega
def nL (x : Nat) : Nat → Nat → Nat
  | 0, i => i
  | d + 1, i => if 0 < x / 2 ^ i then nL x d (i + 1) else i
theorem le_n {x : Nat} (hx : x < 9223372036854775808) : ∀ d i, i + d ≤ 63 → rLe (jN x) d i = nL x d i
  | 0, i, _ => rfl
  | d + 1, i, h => by
    have := Nat.div_le_self x (2 ^ i)
    have c : (0 : Int64) < jN (x / 2 ^ i) ↔ 0 < x / 2 ^ i := jN_lt (a := 0) (by omega) (by omega)
    rw [rLe, nL, rSr, sr_n hx (by omega)]
    by_cases g : 0 < x / 2 ^ i
    · rw [if_pos g, if_pos (c.mpr g)]
      exact le_n hx d (i + 1) (by omega)
    · rw [if_neg g, if_neg (fun q => g (c.mp q))]
theorem nL_c {x : Nat} : ∀ d i, x < 2 ^ (i + d) → (i = 0 ∨ 2 ^ (i - 1) ≤ x) → x < 2 ^ nL x d i ∧ (nL x d i = 0 ∨ 2 ^ (nL x d i - 1) ≤ x)
  | 0, i, h1, h2 => ⟨h1, h2⟩
  | d + 1, i, h1, h2 => by
    rw [nL]
    by_cases g : x < 2 ^ i
    · rw [if_neg (by rw [Nat.div_eq_of_lt g]; omega)]
      exact ⟨g, h2⟩
    · rw [if_pos (Nat.div_pos (by omega) (p2_pos i))]
      exact nL_c d (i + 1) (by rw [show i + 1 + d = i + (d + 1) by omega]; exact h1) (Or.inr (by rw [show i + 1 - 1 = i by omega]; omega))
theorem nL_u {x n : Nat} (h1 : 2 ^ n ≤ x) (h2 : x < 2 ^ (n + 1)) (hx : x < 9223372036854775808) : nL x 63 0 = n + 1 := by
  obtain ⟨a, b⟩ := nL_c (x := x) 63 0 (show x < 2 ^ 63 by omega) (Or.inl rfl)
  have := p2_pos n
  rcases b with b | b
  · rw [b] at a
    omega
  · have y1 := p2_lt (a := n) (b := nL x 63 0) (by omega)
    have y2 := p2_lt (a := nL x 63 0 - 1) (b := n + 1) (by omega)
    omega
/-- rounded twice is rounded once, where it is told whether something was cut away -/
theorem rt_n {X l c : Nat} (hl : 0 < l) (hc : 1 ≤ c) : X / l / 2 ^ c + (if 2 ^ (c - 1) < X / l % 2 ^ c ∨ (X / l % 2 ^ c = 2 ^ (c - 1) ∧ (0 < X % l ∨ X / l / 2 ^ c % 2 = 1)) then 1 else 0) = nR X (l * 2 ^ c) := by
  have hr := Nat.mod_lt X hl
  have e2 : 2 ^ c = 2 * 2 ^ (c - 1) := by
    rw [show c = (c - 1) + 1 by omega, Nat.pow_succ, Nat.mul_comm]
    rw [show c - 1 + 1 - 1 = c - 1 by omega]
  unfold nR
  rw [Nat.mod_mul (a := l) (b := 2 ^ c), ← Nat.div_div_eq_div_mul]
  generalize X / l = P at *
  generalize X % l = r at *
  have eD : l * 2 ^ c = 2 * (l * 2 ^ (c - 1)) := by rw [e2, Nat.mul_left_comm]
  rw [eD]
  generalize P / 2 ^ c = hi at *
  generalize P % 2 ^ c = lo at *
  generalize 2 ^ (c - 1) = M at *
  by_cases g1 : M < lo
  · have := Nat.mul_le_mul_left l (show M + 1 ≤ lo by omega)
    rw [Nat.mul_succ] at this
    rw [if_pos (Or.inl g1), if_pos (by omega)]
  · by_cases g2 : lo < M
    · have := Nat.mul_le_mul_left l (show lo + 1 ≤ M by omega)
      rw [Nat.mul_succ] at this
      rw [if_neg (by omega), if_neg (by omega), if_neg (by omega)]
      rfl
    · have g3 : lo = M := by omega
      subst g3
      by_cases g4 : 0 < r
      · rw [if_pos (Or.inr ⟨rfl, Or.inl g4⟩), if_pos (by omega)]
      · rw [if_neg (show ¬ 2 * (l * lo) < 2 * (r + l * lo) by omega), if_pos (show 2 * (r + l * lo) = 2 * (l * lo) by omega)]
        by_cases g5 : hi % 2 = 1
        · rw [if_pos (Or.inr ⟨rfl, Or.inr g5⟩), if_pos g5]
        · rw [if_neg (by omega), if_neg g5]
          rfl
theorem cu_p : ∀ n, n < 64 → 24 < n → nI n - 24 = nI (n - 24) ∧ nI (n - 24) - 1 = nI (n - 24 - 1) ∧ 0 < nI (n - 24) := by decide
theorem cu_n : ∀ n, n < 25 → ¬ 0 < nI n - 24 := by decide
/-- the reference's rounding -/
theorem rt_j {P n : Nat} {more half over : Bool} (hP : P < 4611686018427387904) (hn : n < 63) : rRt (jN P) (nI n - 24) more half over = jN (if 24 < n then (P / 2 ^ (n - 24) + (if 2 ^ (n - 24 - 1) < P % 2 ^ (n - 24) ∨ (P % 2 ^ (n - 24) = 2 ^ (n - 24 - 1) ∧ (more = true ∨ P / 2 ^ (n - 24) % 2 = 1)) then 1 else 0)) * 2 ^ (n - 24) else P + (if over = true then 1 else if half = true then (if P % 2 = 1 then 1 else 0) else 0)) := by
  unfold rRt
  by_cases g : 24 < n
  · obtain ⟨c1, c2, c3⟩ := cu_p n (by omega) g
    generalize hc : n - 24 = c at *
    have hc62 : c ≤ 62 := by omega
    have p1 := p2_le hc62
    have p2 := p2_le (a := c - 1) (b := 62) (by omega)
    have p3 := p2_pos c
    have d1 := Nat.div_le_self P (2 ^ c)
    have d2 := Nat.mod_le P (2 ^ c)
    have s1 : (1 : Int64) <<< ((nI c).toInt64 &&& 63) = jN (2 ^ c) := by
      have := sl_n (a := 1) (i := c) (by omega)
      rw [Nat.one_mul] at this
      exact this
    have s2 : (1 : Int64) <<< ((nI (c - 1)).toInt64 &&& 63) = jN (2 ^ (c - 1)) := by
      have := sl_n (a := 1) (i := c - 1) (by omega)
      rw [Nat.one_mul] at this
      exact this
    have s3 : jN (2 ^ c) - 1 = jN (2 ^ c - 1) := jN_sub (b := 1) (by omega) (by omega)
    rw [if_pos g, c1, c2, if_pos c3, s1, s2, s3, and_n (by omega) hc62, sr_n (by omega) (by omega)]
    unfold rRu
    have l1 : jN (2 ^ (c - 1)) < jN (P % 2 ^ c) ↔ 2 ^ (c - 1) < P % 2 ^ c := jN_lt (by omega) (by omega)
    have l2 : jN (P % 2 ^ c) = jN (2 ^ (c - 1)) ↔ P % 2 ^ c = 2 ^ (c - 1) := jN_inj (by omega) (by omega)
    have l3 : (jN (P / 2 ^ c) &&& 1 = 1) ↔ P / 2 ^ c % 2 = 1 := odd_n (by omega)
    have one : jN (P / 2 ^ c) + 1 = jN (P / 2 ^ c + 1) := jN_add (b := 1) (by omega)
    have zero : jN (P / 2 ^ c) + 0 = jN (P / 2 ^ c + 0) := jN_add (b := 0) (by omega)
    by_cases g1 : 2 ^ (c - 1) < P % 2 ^ c
    · rw [if_pos (l1.mpr g1), if_pos rfl, if_pos (Or.inl g1), one, sl_n (by omega)]
    · rw [if_neg (fun q => g1 (l1.mp q))]
      by_cases g2 : P % 2 ^ c = 2 ^ (c - 1)
      · rw [if_pos (l2.mpr g2)]
        cases more with
        | true => rw [if_pos rfl, if_pos rfl, if_pos (Or.inr ⟨g2, Or.inl rfl⟩), one, sl_n (by omega)]
        | false =>
          rw [if_neg (show ¬ false = true by decide)]
          by_cases g3 : P / 2 ^ c % 2 = 1
          · rw [decide_eq_true (l3.mpr g3), if_pos rfl, if_pos (Or.inr ⟨g2, Or.inr g3⟩), one, sl_n (by omega)]
          · rw [decide_eq_false (fun q => g3 (l3.mp q)), if_neg (show ¬ false = true by decide), if_neg (by
              rintro (q | ⟨-, q | q⟩)
              · exact g1 q
              · exact absurd q (by decide)
              · exact g3 q), zero, sl_n (by omega)]
      · rw [if_neg (fun q => g2 (l2.mp q)), if_neg (show ¬ false = true by decide), if_neg (by
          rintro (q | ⟨q, -⟩)
          · exact g1 q
          · exact g2 q), zero, sl_n (by omega)]
  · rw [if_neg g, if_neg (cu_n n (by omega))]
    unfold rRi
    have l3 : (jN P &&& 1 = 1) ↔ P % 2 = 1 := odd_n (by omega)
    have one : jN P + 1 = jN (P + 1) := jN_add (b := 1) (by omega)
    have zero : jN P + 0 = jN (P + 0) := jN_add (b := 0) (by omega)
    cases over with
    | true => rw [if_pos rfl, if_pos rfl, one]
    | false =>
      rw [if_neg (show ¬ false = true by decide), if_neg (show ¬ false = true by decide)]
      cases half with
      | true =>
        rw [if_pos rfl, if_pos rfl]
        by_cases g3 : P % 2 = 1
        · rw [if_pos (l3.mpr g3), if_pos g3, one]
        · rw [if_neg (fun q => g3 (l3.mp q)), if_neg g3, zero]
      | false => rw [if_neg (show ¬ false = true by decide), if_neg (show ¬ false = true by decide), zero]
/-- a single number, in units -/
def nY (a l : Nat) : Nat := if nS a (l * 2 ^ 23) 62 0 ≤ 30 then nR (a * 2 ^ nS a (l * 2 ^ 23) 62 0) l * 2 ^ (30 - nS a (l * 2 ^ 23) 62 0) else nR (a * 2 ^ nS a (l * 2 ^ 23) 62 0) l / 2 ^ (nS a (l * 2 ^ 23) 62 0 - 30)
theorem nS_23 {a l : Nat} (ha : 1 ≤ a) (hl : l ≤ 1073741824) : nS a (l * 2 ^ 23) 62 0 ≤ 62 ∧ l * 2 ^ 23 ≤ a * 2 ^ nS a (l * 2 ^ 23) 62 0 ∧ (nS a (l * 2 ^ 23) 62 0 = 0 ∨ a * 2 ^ nS a (l * 2 ^ 23) 62 0 < 2 * (l * 2 ^ 23)) := by
  have := nS_c (a := a) (B := l * 2 ^ 23) 62 0 (show l * 2 ^ 23 ≤ a * 2 ^ 62 by omega) (Or.inl rfl)
  exact ⟨by omega, this.2.1, this.2.2⟩
theorem y_ref {a l P n : Nat} (ha : 1 ≤ a) (hl : 1 ≤ l) (hl2 : l ≤ 1073741824) (hb : a < 16777216 * l) (hP : a * 2 ^ 30 / l = P) (h8 : 8388608 ≤ P ∨ l = 1073741824) (hn : nL P 63 0 = n) : n < 63 ∧ (if 24 < n then (P / 2 ^ (n - 24) + (if 2 ^ (n - 24 - 1) < P % 2 ^ (n - 24) ∨ (P % 2 ^ (n - 24) = 2 ^ (n - 24 - 1) ∧ (decide (0 < a * 2 ^ 30 % l) = true ∨ P / 2 ^ (n - 24) % 2 = 1)) then 1 else 0)) * 2 ^ (n - 24) else P + (if decide (l < 2 * (a * 2 ^ 30 % l)) = true then 1 else if decide (2 * (a * 2 ^ 30 % l) = l) = true then (if P % 2 = 1 then 1 else 0) else 0)) = nY a l := by
  have hPb : P < 2 ^ 54 := by
    rw [← hP, Nat.div_lt_iff_lt_mul hl]
    omega
  obtain ⟨n1, n2⟩ := nL_c (x := P) 63 0 (show P < 2 ^ 63 by omega) (Or.inl rfl)
  rw [hn] at n1 n2
  obtain ⟨s1, s2, s3⟩ := nS_23 ha hl2
  have n54 : n ≤ 54 := by
    rcases n2 with n2 | n2
    · omega
    · have := p2_lt (a := n - 1) (b := 54) (by omega)
      omega
  refine ⟨by omega, ?_⟩
  simp only [decide_eq_true_eq]
  by_cases g : 24 ≤ n
  · obtain ⟨c, rfl⟩ : ∃ c, n = 24 + c := ⟨n - 24, by omega⟩
    obtain ⟨t, ht⟩ : ∃ t, 30 = t + c := ⟨30 - c, by omega⟩
    have n2' : 2 ^ 23 * 2 ^ c ≤ P := by
      rcases n2 with n2 | n2
      · omega
      · rw [← Nat.pow_add, show 23 + c = 24 + c - 1 by omega]
        exact n2
    have n1' : P < 2 ^ 24 * 2 ^ c := by rw [← Nat.pow_add]; exact n1
    have eX : a * 2 ^ 30 = a * 2 ^ t * 2 ^ c := by rw [ht, Nat.pow_add, Nat.mul_assoc]
    rw [← hP, Nat.le_div_iff_mul_le hl, eX, Nat.mul_right_comm (2 ^ 23) (2 ^ c) l] at n2'
    rw [← hP, Nat.div_lt_iff_lt_mul hl, eX, Nat.mul_right_comm (2 ^ 24) (2 ^ c) l] at n1'
    have t1 := Nat.le_of_mul_le_mul_right n2' (p2_pos c)
    have t2 := Nat.lt_of_mul_lt_mul_right n1'
    have est : nS a (l * 2 ^ 23) 62 0 = t := nS_u (B := l * 2 ^ 23) (by omega) s2 s3 (by omega) (by omega)
    unfold nY
    rw [est, if_pos (show t ≤ 30 by omega), show 30 - t = c by omega, show 24 + c - 24 = c by omega]
    by_cases gc : 24 < 24 + c
    · rw [if_pos gc]
      have := rt_n (X := a * 2 ^ 30) (l := l) (c := c) hl (by omega)
      rw [hP] at this
      rw [this, eX, nR_k (p2_pos c)]
    · have c0 : c = 0 := by omega
      subst c0
      have et : t = 30 := by omega
      subst et
      rw [if_neg gc, Nat.pow_zero, Nat.mul_one]
      unfold nR
      rw [hP]
      by_cases g1 : l < 2 * (a * 2 ^ 30 % l)
      · rw [if_pos g1, if_pos g1]
      · rw [if_neg g1, if_neg g1]
        by_cases g2 : 2 * (a * 2 ^ 30 % l) = l
        · rw [if_pos g2, if_pos g2]
          by_cases g3 : P % 2 = 1
          · rw [if_pos g3, if_pos g3]
          · rw [if_neg g3, if_neg g3]
            rfl
        · rw [if_neg g2, if_neg g2]
          rfl
  · have := p2_le (a := n) (b := 23) (by omega)
    have el : l = 1073741824 := by omega
    subst el
    have eP : P = a := by
      rw [← hP]
      exact Nat.mul_div_cancel a (by omega)
    have e0 : a * 2 ^ 30 % 1073741824 = 0 := Nat.mul_mod_left a 1073741824
    rw [if_neg (by omega), e0, if_neg (by omega), if_neg (by omega), eP]
    unfold nY
    generalize nS a (1073741824 * 2 ^ 23) 62 0 = s at *
    have s30 : ¬ s ≤ 30 := by
      intro c
      have := Nat.mul_le_mul (show a ≤ 8388607 by omega) (p2_le c)
      omega
    obtain ⟨j, rfl⟩ : ∃ j, s = j + 30 := ⟨s - 30, by omega⟩
    rw [if_neg s30, Nat.pow_add, ← Nat.mul_assoc]
    have := nR_x (x := a * 2 ^ j) (d := 2 ^ 30) (by omega)
    rw [show (1073741824 : Nat) = 2 ^ 30 by omega, this, show j + 30 - 30 = j by omega, Nat.mul_div_cancel _ (p2_pos j)]
    rfl
