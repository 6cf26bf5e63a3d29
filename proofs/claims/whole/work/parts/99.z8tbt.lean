theorem tb_j {x : Nat} (hx : x < 2147483648) : (jN x).toInt32.toInt64 = jN x ∧ ((jN x).toInt32 ||| -2147483648).toInt64 = jN x - 2147483648 := by
  have e : (jN x).toInt32 = Int32.ofNat x := Int64.toInt32_ofNat'
  have ex : (Int32.ofNat x).toInt = (x : Int) := Int32.toInt_ofNat_of_lt hx
  have ej := jN_i (n := x) (by omega)
  have ec : (2147483648 : Int64).toInt = 2147483648 := by decide
  rw [e]
  refine ⟨li_eq (by rw [li_32, ex, ej]), li_eq ?_⟩
  rw [li_32, li_sub (by rw [ej, ec]; omega) (by rw [ej, ec]; omega), ej, ec]
  show ((Int32.ofNat x).toBitVec ||| (-2147483648 : Int32).toBitVec).toInt = _
  have t1 : (Int32.ofNat x).toBitVec.toNat = x := Nat.mod_eq_of_lt (by omega)
  have t2 : (-2147483648 : Int32).toBitVec.toNat = 2147483648 := by decide
  have t3 : ((Int32.ofNat x).toBitVec ||| (-2147483648 : Int32).toBitVec).toNat = 2147483648 + x := by
    rw [BitVec.toNat_or, t1, t2, Nat.or_comm]
    exact (Nat.two_pow_add_eq_or_of_lt (i := 31) (by omega) 1).symm
  rw [BitVec.toInt_eq_toNat_cond, t3, if_neg (by omega)]
  omega
/-- the reference's bits of a single number -/
def nBt (Y n : Nat) : Nat := if 24 < n then Y / 2 ^ (n - 24) else Y * 2 ^ (24 - n)
theorem bo_j {Y n : Nat} (hn : n < 63) (h1 : 2 ^ n ≤ 2 * Y) (h2 : Y < 2 ^ n) : rBo (jN Y) (nI n) = jN ((n + 96) * 2 ^ 23 + (nBt Y n - 2 ^ 23)) ∧ 8388608 ≤ nBt Y n ∧ nBt Y n < 16777216 := by
  have pn := p2_le (a := n) (b := 62) (by omega)
  obtain ⟨c1, c2, c3⟩ := ex_b n (by omega)
  have eb : (if 24 < nI n then jN Y >>> ((nI n - 24).toInt64 &&& 63) else jN Y <<< ((24 - nI n).toInt64 &&& 63)) = jN (nBt Y n) := by
    unfold nBt
    by_cases g : 24 < n
    · rw [if_pos g, if_pos (c1.mpr g), c2 g, sr_n (by omega) (by omega)]
    · rw [if_neg g, if_neg (fun c => g (c1.mp c)), c3 g, sl_n (by omega)]
  have bb : 8388608 ≤ nBt Y n ∧ nBt Y n < 16777216 := by
    unfold nBt
    by_cases g : 24 < n
    · rw [if_pos g]
      obtain ⟨c, rfl⟩ : ∃ c, n = 24 + c := ⟨n - 24, by omega⟩
      rw [Nat.pow_add] at h1 h2
      rw [show 24 + c - 24 = c by omega, Nat.le_div_iff_mul_le (p2_pos c), Nat.div_lt_iff_lt_mul (p2_pos c)]
      omega
    · rw [if_neg g]
      have hh : 2 ^ n * 2 ^ (24 - n) = 16777216 := by
        rw [← Nat.pow_add, show n + (24 - n) = 24 by omega]
      have k1 := Nat.mul_le_mul_right (2 ^ (24 - n)) h1
      have k2 := (Nat.mul_lt_mul_right (p2_pos (24 - n))).mpr h2
      rw [hh, Nat.mul_assoc] at k1
      rw [hh] at k2
      omega
  refine ⟨?_, bb⟩
  unfold rBo
  have e8 : jN (nBt Y n) - 8388608 = jN (nBt Y n - 8388608) := jN_sub (b := 8388608) (by omega) (by omega)
  rw [eb, e8, ex_n n (by omega), e_23, sl_n (by omega)]
  exact or_n (k := 23) (by omega) (by omega)
theorem ref_167 (X : xX) (S : xS) {u : Int64} {Y : Nat} (hu : (if u < 0 then -u else u) = jN Y) (h0 : ¬ u = 0) (hY : 1 ≤ Y) (hb : Y < 4611686018427387904) : xK X 167 [.long u] S = some (some (.long (if u < 0 then jN ((nL Y 63 0 + 96) * 2 ^ 23 + (nBt Y (nL Y 63 0) - 2 ^ 23)) - 2147483648 else jN ((nL Y 63 0 + 96) * 2 ^ 23 + (nBt Y (nL Y 63 0) - 2 ^ 23)))), S) ∧ nL Y 63 0 < 63 ∧ 2 ^ nL Y 63 0 ≤ 2 * Y ∧ Y < 2 ^ nL Y 63 0 := by
  obtain ⟨n1, n2⟩ := nL_c (x := Y) 63 0 (show Y < 2 ^ 63 by omega) (Or.inl rfl)
  have qL := le_k X S (x := Y) (by omega)
  generalize nL Y 63 0 = n at *
  have h2 : 2 ^ n ≤ 2 * Y := by
    rcases n2 with e | e
    · rw [e, Nat.pow_zero]; omega
    · by_cases z : n = 0
      · rw [z, Nat.pow_zero]; omega
      · rw [show n = n - 1 + 1 by omega, Nat.pow_succ]; omega
  have h63 : n < 63 := by
    rcases n2 with e | e
    · omega
    · have := p2_lt (a := n - 1) (b := 62) (by omega)
      omega
  obtain ⟨b1, b2, b3⟩ := bo_j h63 h2 n1
  refine ⟨?_, h63, h2, n1⟩
  have q := g167 X S u (jN Y) _ _ (nI n) h0 hu qL rfl rfl
  rw [q]
  unfold rBo at b1
  rw [b1]
theorem bits_A {m k : Nat} (h1 : 8388608 ≤ m) (h2 : m ≤ 16777216) (hk : k ≤ 30) : (nL (m * 2 ^ k) 63 0 + 96) * 2 ^ 23 + (nBt (m * 2 ^ k) (nL (m * 2 ^ k) 63 0) - 2 ^ 23) = (k + 120) * 2 ^ 23 + m - 2 ^ 23 := by
  have pk := p2_pos k
  have pk2 := p2_le hk
  have hb := Nat.mul_le_mul h2 pk2
  by_cases g : m = 16777216
  · have en : nL (m * 2 ^ k) 63 0 = 24 + k + 1 := nL_u (by rw [g, Nat.pow_add]; omega) (by rw [g, Nat.pow_succ, Nat.pow_add]; omega) (by omega)
    rw [en]
    unfold nBt
    rw [if_pos (by omega), show 24 + k + 1 - 24 = k + 1 by omega]
    have : m * 2 ^ k / 2 ^ (k + 1) = 8388608 := by
      rw [g, Nat.pow_succ, Nat.mul_comm (2 ^ k) 2, Nat.mul_div_mul_right _ _ pk]
    rw [this, g]
    omega
  · have en : nL (m * 2 ^ k) 63 0 = 23 + k + 1 := nL_u (by
      rw [Nat.pow_add]
      exact Nat.mul_le_mul_right (2 ^ k) h1) (by
      rw [show 23 + k + 1 = 24 + k by omega, Nat.pow_add]
      exact (Nat.mul_lt_mul_right pk).mpr (by omega)) (by omega)
    rw [en]
    unfold nBt
    by_cases k0 : k = 0
    · subst k0
      rw [if_neg (by omega), show 24 - (23 + 0 + 1) = 0 by omega, Nat.pow_zero, Nat.mul_one, Nat.mul_one]
      omega
    · rw [if_pos (by omega), show 23 + k + 1 - 24 = k by omega, Nat.mul_div_cancel _ pk]
      omega
theorem bits_B {Y : Nat} (hr : nRep Y) (h1 : 1 ≤ Y) (hb : Y < 18014398509481984) : nL Y 63 0 + nS Y (1073741824 * 2 ^ 23) 62 0 = 54 ∧ nR (Y * 2 ^ nS Y (1073741824 * 2 ^ 23) 62 0) 1073741824 = nBt Y (nL Y 63 0) := by
  obtain ⟨n1, n2⟩ := nL_c (x := Y) 63 0 (show Y < 2 ^ 63 by omega) (Or.inl rfl)
  obtain ⟨s1, s2, s3⟩ := nS_23 (a := Y) (l := 1073741824) h1 (by omega)
  have hR : 24 < nL Y 63 0 → ∃ z, Y = z * 2 ^ (nL Y 63 0 - 24) := by
    intro g
    obtain ⟨m, c, hm, e⟩ := hr
    rcases n2 with n2 | n2
    · omega
    · by_cases gm : m = 16777216
      · have e2 : Y = 2 ^ (24 + c) := by rw [e, gm, Nat.pow_add]
        have y1 := p2_lt (a := nL Y 63 0 - 1) (b := 24 + c + 1) (by
          have : 2 ^ (24 + c) < 2 ^ (24 + c + 1) := by
            rw [Nat.pow_succ]
            have := p2_pos (24 + c)
            omega
          omega)
        refine ⟨2 ^ (24 + c - (nL Y 63 0 - 24)), ?_⟩
        rw [← Nat.pow_add, show 24 + c - (nL Y 63 0 - 24) + (nL Y 63 0 - 24) = 24 + c by omega]
        exact e2
      · have y0 : Y < 2 ^ (24 + c) := by
          rw [e, Nat.pow_add]
          exact (Nat.mul_lt_mul_right (p2_pos c)).mpr (by omega)
        have y1 := p2_lt (a := nL Y 63 0 - 1) (b := 24 + c) (by omega)
        refine ⟨m * 2 ^ (c - (nL Y 63 0 - 24)), ?_⟩
        rw [Nat.mul_assoc, ← Nat.pow_add, show c - (nL Y 63 0 - 24) + (nL Y 63 0 - 24) = c by omega]
        exact e
  generalize nL Y 63 0 = n at *
  have hn1 : 1 ≤ n := by
    by_cases z : n = 0
    · rw [z, Nat.pow_zero] at n1
      omega
    · omega
  have n2' : 2 ^ (n - 1) ≤ Y := by
    rcases n2 with e | e
    · omega
    · exact e
  have n54 : n ≤ 54 := by
    have := p2_lt (a := n - 1) (b := 54) (by omega)
    omega
  obtain ⟨t, ht⟩ : ∃ t, n + t = 54 := ⟨54 - n, by omega⟩
  have e53 : 2 ^ (n - 1) * 2 ^ t = 9007199254740992 := by rw [← Nat.pow_add, show n - 1 + t = 53 by omega]
  have e54 : 2 ^ n * 2 ^ t = 18014398509481984 := by rw [← Nat.pow_add, ht]
  have k1 := Nat.mul_le_mul_right (2 ^ t) n2'
  have k2 := (Nat.mul_lt_mul_right (p2_pos t)).mpr n1
  have est : nS Y (1073741824 * 2 ^ 23) 62 0 = t := nS_u (B := 1073741824 * 2 ^ 23) (by omega) s2 s3 (by omega) (by omega)
  rw [est]
  refine ⟨ht, ?_⟩
  unfold nBt
  by_cases g : 24 < n
  · obtain ⟨z, ez⟩ := hR g
    have e1 : Y * 2 ^ t = z * 1073741824 := by
      rw [ez, Nat.mul_assoc, ← Nat.pow_add, show n - 24 + t = 30 by omega]
    rw [if_pos g, e1, nR_x (by omega)]
    have : Y / 2 ^ (n - 24) = z := by
      rw [ez]
      exact Nat.mul_div_cancel _ (p2_pos _)
    exact this.symm
  · obtain ⟨j, rfl⟩ : ∃ j, t = j + 30 := ⟨t - 30, by omega⟩
    rw [if_neg g, show 24 - n = j by omega, Nat.pow_add, ← Nat.mul_assoc]
    exact nR_x (by omega)
theorem bi_24 {a l : Nat} {u : Int64} (hu : nAb u = jN a) (ha : 1 ≤ a) (h0 : ¬ u = 0) (hl : 1 ≤ l) (hl2 : l ≤ 1073741824) (hb : a < 16777216 * l) : nBi u (jN l) 24 127 = jN ((150 - nS a (l * 2 ^ 23) 62 0) * 2 ^ 23 + nR (a * 2 ^ nS a (l * 2 ^ 23) 62 0) l - 2 ^ 23) ∧ (150 - nS a (l * 2 ^ 23) 62 0) * 2 ^ 23 + nR (a * 2 ^ nS a (l * 2 ^ 23) 62 0) l - 2 ^ 23 < 2147483648 := by
  obtain ⟨s1, s2, s3⟩ := nS_23 ha hl2
  have q := sh_23 hu hl hl2 hb
  obtain ⟨m1, m2, m3⟩ := ma_23 hu ha hl hl2 hb
  have e0 : (0 : Int64) < jN l := (jN_lt (a := 0) (by omega) (by omega)).mpr hl
  unfold nBi
  rw [if_neg h0, if_pos e0, q, m1]
  generalize nS a (l * 2 ^ 23) 62 0 = s at *
  generalize nR (a * 2 ^ s) l = m at *
  have e1 : (1 : Int64) <<< ((nI 23).toInt64 &&& 63) = jN (2 ^ 23) := sl_n (a := 1) (i := 23) (by omega)
  rw [(ex_s s (by omega)).1, w_24, sl_n (by omega), e1, jN_add (by omega), jN_sub (by omega) (by omega)]
  exact ⟨rfl, by omega⟩
theorem sb_j {a l : Nat} {u : Int64} (hu : nAb u = jN a) (ha : 1 ≤ a) (h0 : ¬ u = 0) (hl : 1 ≤ l) (hl2 : l ≤ 1073741824) (hb : a < 16777216 * l) : nSb u (jN l) = if u < 0 then jN ((150 - nS a (l * 2 ^ 23) 62 0) * 2 ^ 23 + nR (a * 2 ^ nS a (l * 2 ^ 23) 62 0) l - 2 ^ 23) - 2147483648 else jN ((150 - nS a (l * 2 ^ 23) 62 0) * 2 ^ 23 + nR (a * 2 ^ nS a (l * 2 ^ 23) 62 0) l - 2 ^ 23) := by
  obtain ⟨b1, b2⟩ := bi_24 hu ha h0 hl hl2 hb
  obtain ⟨t1, t2⟩ := tb_j b2
  unfold nSb
  rw [b1, t1, t2]
/-- the sum's bits -/
theorem heap_b (X : xX) (S : xS) {s : Int64} {Y : Nat} (h1 : -4611686018427387904 ≤ s.toInt) (hY : s.toInt.natAbs = Y) (hr : nRep Y) (hb : Y < 18014398509481984) : xK X 167 [.long s] S = some (some (.long (nSb s nOne)), S) := by
  obtain ⟨e1, e2⟩ := ab_n h1
  rw [hY] at e1 e2
  by_cases g : s = 0
  · subst g
    rw [x167]
    unfold nSb nBi
    rw [if_neg (by decide), if_pos rfl]
    rfl
  · have n0 : ¬ s.toInt = 0 := fun c => g (i64_0.mp c)
    obtain ⟨q1, q2, q3, q4⟩ := ref_167 X S e2 g (by omega) (by omega)
    obtain ⟨b1, b2⟩ := bits_B hr (by omega) hb
    obtain ⟨-, b3, -⟩ := bo_j q2 q3 q4
    have c1 := sb_j (l := 1073741824) e1 (by omega) g (by omega) (by omega) (by omega)
    rw [b2, show 150 - nS Y (1073741824 * 2 ^ 23) 62 0 = nL Y 63 0 + 96 by omega] at c1
    rw [q1, show nOne = jN 1073741824 from rfl, c1, show (nL Y 63 0 + 96) * 2 ^ 23 + nBt Y (nL Y 63 0) - 2 ^ 23 = (nL Y 63 0 + 96) * 2 ^ 23 + (nBt Y (nL Y 63 0) - 2 ^ 23) by omega]
theorem wSi_s {u : Int64} {l : Nat} (hY : 1 ≤ nY u.toInt.natAbs l) (hb : nY u.toInt.natAbs l < 4611686018427387904) : (wSi u l < 0 ↔ u < 0) ∧ (wSi u l).toInt.natAbs = nY u.toInt.natAbs l ∧ (if wSi u l < 0 then -(wSi u l) else wSi u l) = jN (nY u.toInt.natAbs l) ∧ ¬ wSi u l = 0 ∧ -4611686018427387904 ≤ (wSi u l).toInt := by
  have ej := jN_i (n := nY u.toInt.natAbs l) (by omega)
  have key : (u < 0 → (wSi u l).toInt = -(nY u.toInt.natAbs l : Int)) ∧ (¬ u < 0 → (wSi u l).toInt = (nY u.toInt.natAbs l : Int)) := by
    unfold wSi
    refine ⟨fun g => ?_, fun g => ?_⟩
    · rw [if_pos g, li_neg (by omega), ej]
    · rw [if_neg g, ej]
  have lo : -4611686018427387904 ≤ (wSi u l).toInt := by
    by_cases g : u < 0
    · rw [key.1 g]; omega
    · rw [key.2 g]; omega
  have na : (wSi u l).toInt.natAbs = nY u.toInt.natAbs l := by
    by_cases g : u < 0
    · rw [key.1 g]; omega
    · rw [key.2 g]; omega
  obtain ⟨-, e2⟩ := ab_n lo
  rw [na] at e2
  refine ⟨?_, na, e2, ?_, lo⟩
  · rw [li_lt, j0_i]
    by_cases g : u < 0
    · rw [key.1 g]
      exact ⟨fun _ => g, fun _ => by omega⟩
    · rw [key.2 g]
      exact ⟨fun c => by omega, fun c => absurd c g⟩
  · intro c
    rw [c, j0_i] at na
    omega
/-- a value's bits as a single number -/
theorem num_b (X : xX) (S : xS) {u : Int64} {l : Nat} (h1 : -4611686018427387904 ≤ u.toInt) (hl : 1 ≤ l) (hl2 : l ≤ 100) (hb : u.toInt.natAbs < 1048576 * l) : xK X 167 [.long (wSi u l)] S = some (some (.long (nSb u (jN l))), S) := by
  obtain ⟨e1, e2⟩ := ab_n h1
  by_cases g : u = 0
  · subst g
    rw [wSi_0, x167]
    unfold nSb nBi
    rw [if_neg (by decide), if_pos rfl]
    rfl
  · have n0 : ¬ u.toInt = 0 := fun c => g (i64_0.mp c)
    have h8 : 8388608 ≤ u.toInt.natAbs * 2 ^ 30 / l := by
      rw [Nat.le_div_iff_mul_le hl]
      omega
    obtain ⟨y1, y2, y3⟩ := nY_b (B := 1048576) (show 1 ≤ u.toInt.natAbs by omega) hl (by omega) (by omega) hb (Or.inl h8)
    obtain ⟨w1, w2, w3, w4, w5⟩ := wSi_s (u := u) (l := l) y2 (by omega)
    obtain ⟨q1, q2, q3, q4⟩ := ref_167 X S w3 w4 y2 (by omega)
    have c1 := sb_j e1 (by omega) g hl (by omega) (by omega)
    have s30 := nY_s (show 1 ≤ u.toInt.natAbs by omega) hl (by omega) h8
    obtain ⟨-, m2, m3⟩ := ma_23 e1 (by omega) hl (by omega) (by omega)
    have bA := bits_A (k := 30 - nS u.toInt.natAbs (l * 2 ^ 23) 62 0) m2 m3 (by omega)
    have eY : nY u.toInt.natAbs l = nR (u.toInt.natAbs * 2 ^ nS u.toInt.natAbs (l * 2 ^ 23) 62 0) l * 2 ^ (30 - nS u.toInt.natAbs (l * 2 ^ 23) 62 0) := by
      unfold nY
      rw [if_pos s30]
    rw [← eY, show 30 - nS u.toInt.natAbs (l * 2 ^ 23) 62 0 + 120 = 150 - nS u.toInt.natAbs (l * 2 ^ 23) 62 0 by omega] at bA
    rw [q1, c1, bA]
    by_cases gu : u < 0
    · rw [if_pos gu, if_pos (w1.mpr gu)]
    · rw [if_neg gu, if_neg (fun c => gu (w1.mp c))]
