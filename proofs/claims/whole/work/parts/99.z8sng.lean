theorem un_k : ∀ s, s < 64 → (nI s ≤ 30 ↔ s ≤ 30) ∧ (s ≤ 30 → 30 - nI s = nI (30 - s)) ∧ (¬ s ≤ 30 → nI s - 30 = nI (s - 30)) := by decide
theorem ex_s : ∀ s, s < 64 → (24 - 1 - nI s + 127).toInt64 = jN (150 - s) ∧ (53 - 1 - nI s + 1023).toInt64 = jN (1075 - s) := by decide
theorem ex_n : ∀ n, n < 64 → (nI n - 31 + 127).toInt64 = jN (n + 96) := by decide
theorem ex_d : ∀ s, s < 64 → (-(nI s) + 52 + 1023).toInt64 = jN (1075 - s) ∧ (-(nI s) + 1 + 52 + 1023).toInt64 = jN (1076 - s) ∧ -(nI s) + -1 = -(nI (s + 1)) := by decide
theorem ex_b : ∀ n, n < 64 → (24 < nI n ↔ 24 < n) ∧ (24 < n → nI n - 24 = nI (n - 24)) ∧ (¬ 24 < n → 24 - nI n = nI (24 - n)) := by decide
theorem e_30 : (30 : Int64) = (nI 30).toInt64 := by decide
theorem e_23 : (23 : Int64) = (nI 23).toInt64 := by decide
theorem e_52 : (52 : Int64) = (nI 52).toInt64 := by decide
theorem w_24 : (24 : Int32) - 1 = nI 23 := by decide
theorem w_53 : (53 : Int32) - 1 = nI 52 := by decide
theorem j0_i : (0 : Int64).toInt = 0 := by decide
theorem ab_n {u : Int64} (h1 : -4611686018427387904 ≤ u.toInt) : nAb u = jN u.toInt.natAbs ∧ (if u < 0 then -u else u) = jN u.toInt.natAbs := by
  have n1 : (-u).toInt = -u.toInt := li_neg (by omega)
  have b := Int64.toInt_lt u
  unfold nAb
  by_cases g : 0 < u.toInt
  · rw [if_pos (by rw [li_lt, j0_i]; exact g), if_neg (by rw [li_lt, j0_i]; omega)]
    have : u = jN u.toInt.natAbs := li_eq (by rw [jN_i (by omega)]; omega)
    exact ⟨this, this⟩
  · rw [if_neg (by rw [li_lt, j0_i]; exact g)]
    have : -u = jN u.toInt.natAbs := li_eq (by rw [jN_i (by omega), n1]; omega)
    refine ⟨this, ?_⟩
    by_cases g2 : u.toInt < 0
    · rw [if_pos (by rw [li_lt, j0_i]; exact g2)]
      exact this
    · rw [if_neg (by rw [li_lt, j0_i]; exact g2)]
      exact li_eq (by rw [jN_i (by omega)]; omega)
theorem sh_23 {a l : Nat} {u : Int64} (hu : nAb u = jN a) (hl : 1 ≤ l) (hl2 : l ≤ 1073741824) (hb : a < 16777216 * l) : nSh (nAb u) (jN l) 24 62 0 = nS a (l * 2 ^ 23) 62 0 := by
  rw [hu]
  exact nSh_n w_24 (by omega) (by omega) 62 0 (by omega) (by rw [Nat.pow_zero]; omega)
theorem ma_23 {a l : Nat} {u : Int64} (hu : nAb u = jN a) (ha : 1 ≤ a) (hl : 1 ≤ l) (hl2 : l ≤ 1073741824) (hb : a < 16777216 * l) : nMa u (jN l) 24 = jN (nR (a * 2 ^ nS a (l * 2 ^ 23) 62 0) l) ∧ 8388608 ≤ nR (a * 2 ^ nS a (l * 2 ^ 23) 62 0) l ∧ nR (a * 2 ^ nS a (l * 2 ^ 23) 62 0) l ≤ 16777216 := by
  obtain ⟨s1, s2, s3⟩ := nS_23 ha hl2
  have q := sh_23 hu hl hl2 hb
  unfold nMa
  rw [q, hu, sl_n (by omega)]
  generalize nS a (l * 2 ^ 23) 62 0 = s at *
  have s4 : a * 2 ^ s < 16777216 * l := by
    rcases s3 with e | e
    · rw [e, Nat.pow_zero]; omega
    · omega
  refine ⟨wh_n (by omega) (by omega) hl, (nR_b hl).1 (by omega), (nR_b hl).2 s4⟩
theorem si_j {a l : Nat} {u : Int64} (hu : nAb u = jN a) (ha : 1 ≤ a) (h0 : ¬ u = 0) (hl : 1 ≤ l) (hl2 : l ≤ 1073741824) (hb : a < 16777216 * l) : nSi u (jN l) = if u < 0 then -(jN (nY a l)) else jN (nY a l) := by
  obtain ⟨s1, s2, s3⟩ := nS_23 ha hl2
  have q := sh_23 hu hl hl2 hb
  obtain ⟨m1, m2, m3⟩ := ma_23 hu ha hl hl2 hb
  have e0 : (0 : Int64) < jN l := (jN_lt (a := 0) (by omega) (by omega)).mpr hl
  unfold nSi nY
  rw [if_neg h0, if_pos e0, q, m1]
  generalize nS a (l * 2 ^ 23) 62 0 = s at *
  generalize nR (a * 2 ^ s) l = m at *
  obtain ⟨c1, c2, c3⟩ := un_k s (by omega)
  have eU : nUn (nI s) (jN m) = jN (if s ≤ 30 then m * 2 ^ (30 - s) else m / 2 ^ (s - 30)) := by
    unfold nUn
    by_cases g : s ≤ 30
    · rw [if_pos g, if_pos (c1.mpr g), c2 g, sl_n (by omega)]
    · rw [if_neg g, if_neg (fun c => g (c1.mp c)), c3 g, sr_n (by omega) (by omega)]
  rw [eU]
theorem nY_0 {l : Nat} : nY 0 l = 0 := by
  have z : ∀ k, nR (0 * 2 ^ k) l = 0 := by
    intro k
    unfold nR
    rw [Nat.zero_mul, Nat.zero_mod, Nat.zero_div]
    split
    · omega
    · split
      · rfl
      · rfl
  unfold nY
  rw [z]
  split
  · exact Nat.zero_mul _
  · exact Nat.zero_div _
/-- what is a single number, by its sign -/
def wSi (u : Int64) (l : Nat) : Int64 := if u < 0 then -(jN (nY u.toInt.natAbs l)) else jN (nY u.toInt.natAbs l)
theorem wSi_0 {l : Nat} : wSi 0 l = 0 := by
  unfold wSi
  rw [if_neg (by decide), j0_i]
  exact congrArg jN nY_0
theorem i64_0 {u : Int64} : u.toInt = 0 ↔ u = 0 := ⟨fun h => li_eq (by rw [h, j0_i]), fun h => by rw [h, j0_i]⟩
theorem si_w {u : Int64} {l : Nat} (h1 : -4611686018427387904 ≤ u.toInt) (hl : 1 ≤ l) (hl2 : l ≤ 1073741824) (hb : u.toInt.natAbs < 16777216 * l) : nSi u (jN l) = wSi u l := by
  by_cases g : u = 0
  · subst g
    rw [wSi_0]
    unfold nSi
    rw [if_pos rfl]
  · have : ¬ u.toInt = 0 := fun c => g (i64_0.mp c)
    exact si_j (ab_n h1).1 (by omega) g hl hl2 hb
theorem le_k (X : xX) (S : xS) {x : Nat} (hx : x < 9223372036854775808) : xK X 166 [.long (jN x)] S = some (some (.int (nI (nL x 63 0))), S) := by
  have q := k166 X S (jN x) 63 (by
    unfold rSr
    rw [sr_n hx (by omega), Nat.div_eq_of_lt (show x < 2 ^ 63 by omega)]
    decide)
  rw [le_n hx 63 0 (by omega)] at q
  exact q
theorem nL_0 : nL 0 63 0 = 0 := by
  rw [nL, if_neg (by rw [Nat.zero_div]; omega)]
theorem xi_dec {p q : Prop} [Decidable p] [Decidable q] (h : p ↔ q) : decide p = decide q := decide_eq_decide.mpr h
theorem ref_164 (X : xX) (S : xS) {u : Int64} {l : Nat} (h1 : -4611686018427387904 ≤ u.toInt) (hl : 1 ≤ l) (hl2 : l ≤ 100) (hb : u.toInt.natAbs < 1048576 * l) : xK X 164 [.long u, .long (jN l)] S = some (some (.long (wSi u l)), S) := by
  obtain ⟨-, e1⟩ := ab_n h1
  unfold wSi
  generalize u.toInt.natAbs = a at *
  have dl := Nat.div_le_self (a * 2 ^ 30) l
  have ml := Nat.mod_lt (a * 2 ^ 30) hl
  have e30 : jN a <<< (30 &&& 63) = jN (a * 2 ^ 30) := by rw [e_30]; exact sl_n (by omega)
  have ep : jN (a * 2 ^ 30) / jN l = jN (a * 2 ^ 30 / l) := jN_div (by omega) (by omega)
  have er : jN (a * 2 ^ 30) - jN (a * 2 ^ 30 / l) * jN l = jN (a * 2 ^ 30 % l) := by
    rw [← ep]
    exact jN_mod (by omega) (by omega) hl
  have et : 2 * jN (a * 2 ^ 30 % l) = jN (2 * (a * 2 ^ 30 % l)) := jN_mul (a := 2) (by omega) (by omega) (by omega)
  refine g164 X S u (jN l) _ _ _ _ _ _ e1 e30 (jN_ne (by omega) hl) ep er et ?_
  have qL := le_k X S (x := a * 2 ^ 30 / l) (by omega)
  have x1 : decide ((0 : Int64) < jN (a * 2 ^ 30 % l)) = decide (0 < a * 2 ^ 30 % l) := xi_dec (jN_lt (a := 0) (by omega) (by omega))
  have x2 : decide (jN (2 * (a * 2 ^ 30 % l)) = jN l) = decide (2 * (a * 2 ^ 30 % l) = l) := xi_dec (jN_inj (by omega) (by omega))
  have x3 : decide (jN l < jN (2 * (a * 2 ^ 30 % l))) = decide (l < 2 * (a * 2 ^ 30 % l)) := xi_dec (jN_lt (by omega) (by omega))
  rw [x1, x2, x3]
  have q := k165 X S (jN (a * 2 ^ 30 / l)) _ _ (decide (0 < a * 2 ^ 30 % l)) (decide (2 * (a * 2 ^ 30 % l) = l)) (decide (l < 2 * (a * 2 ^ 30 % l))) qL rfl
  rw [q]
  by_cases g : a = 0
  · subst g
    rw [Nat.zero_mul, Nat.zero_div, Nat.zero_mod, nL_0, nY_0, rt_j (by omega) (by omega), if_neg (by omega), decide_eq_false (show ¬ l < 2 * 0 by omega), decide_eq_false (show ¬ 2 * 0 = l by omega), if_neg (by decide), if_neg (by decide)]
  · have hP : 8388608 ≤ a * 2 ^ 30 / l := by
      rw [Nat.le_div_iff_mul_le hl]
      omega
    obtain ⟨y1, y2⟩ := y_ref (a := a) (l := l) (by omega) hl (by omega) (by omega) rfl (Or.inl hP) rfl
    rw [rt_j (by omega) y1, y2]
theorem ref_165 (X : xX) (S : xS) {a : Nat} (ha : a < 18014398509481984) : xK X 165 [.long (jN a), .int 0, .int 0, .int 0] S = some (some (.long (jN (nY a 1073741824))), S) := by
  have q := k165 X S (jN a) _ _ false false false (le_k X S (x := a) (by omega)) rfl
  rw [xi_f] at q
  rw [q]
  by_cases g : a = 0
  · subst g
    rw [nL_0, nY_0, rt_j (by omega) (by omega), if_neg (by omega), if_neg (by decide), if_neg (by decide)]
  · have e1 : a * 2 ^ 30 / 1073741824 = a := Nat.mul_div_cancel a (by omega)
    have e0 : a * 2 ^ 30 % 1073741824 = 0 := Nat.mul_mod_left a 1073741824
    obtain ⟨y1, y2⟩ := y_ref (a := a) (l := 1073741824) (by omega) (by omega) (by omega) (by omega) e1 (Or.inr rfl) rfl
    rw [e0, decide_eq_false (show ¬ 0 < 0 by omega), decide_eq_false (show ¬ 1073741824 < 2 * 0 by omega), decide_eq_false (show ¬ 2 * 0 = 1073741824 by omega)] at y2
    rw [rt_j (by omega) y1, y2]
/-- at most 24 bits -/
def nRep (Y : Nat) : Prop := ∃ m c, m ≤ 16777216 ∧ Y = m * 2 ^ c
theorem nY_s {a l : Nat} (ha : 1 ≤ a) (hl : 1 ≤ l) (hl2 : l ≤ 1073741824) (h8 : 8388608 ≤ a * 2 ^ 30 / l) : nS a (l * 2 ^ 23) 62 0 ≤ 30 := by
  obtain ⟨s1, s2, s3⟩ := nS_23 ha hl2
  rw [Nat.le_div_iff_mul_le hl] at h8
  by_cases g : nS a (l * 2 ^ 23) 62 0 ≤ 30
  · exact g
  · have := nS_m (a := a) (s := 30) (t := nS a (l * 2 ^ 23) 62 0) (by omega)
    omega
theorem nY_b {a l B : Nat} (ha : 1 ≤ a) (hl : 1 ≤ l) (hl2 : l ≤ 1073741824) (hb : a < 16777216 * l) (hB : a < B * l) (h8 : 8388608 ≤ a * 2 ^ 30 / l ∨ l = 1073741824) : nRep (nY a l) ∧ 1 ≤ nY a l ∧ nY a l ≤ B * 2 ^ 30 := by
  obtain ⟨s1, s2, s3⟩ := nS_23 ha hl2
  by_cases g : nS a (l * 2 ^ 23) 62 0 ≤ 30
  · unfold nY
    rw [if_pos g]
    generalize nS a (l * 2 ^ 23) 62 0 = s at *
    have s4 : a * 2 ^ s < 16777216 * l := by
      rcases s3 with e | e
      · rw [e, Nat.pow_zero]; omega
      · omega
    have l1 := (nR_b (x := a * 2 ^ s) (d := l) (B := 8388608) hl).1 (by omega)
    have l2 := (nR_b (x := a * 2 ^ s) (d := l) (B := 16777216) hl).2 s4
    have l3 := (nR_b (x := a * 2 ^ s) (d := l) (B := B * 2 ^ s) hl).2 (by
      rw [Nat.mul_right_comm]
      exact (Nat.mul_lt_mul_right (p2_pos s)).mpr hB)
    refine ⟨⟨_, _, l2, rfl⟩, Nat.le_trans (show 1 ≤ 1 * 1 by omega) (Nat.mul_le_mul (by omega) (p2_pos _)), ?_⟩
    have := Nat.mul_le_mul_right (2 ^ (30 - s)) l3
    rw [Nat.mul_assoc, ← Nat.pow_add, show s + (30 - s) = 30 by omega] at this
    exact this
  · have el : l = 1073741824 := by
      rcases h8 with h8 | h8
      · exact absurd (nY_s ha hl hl2 h8) g
      · exact h8
    subst el
    have ea : nY a 1073741824 = a := by
      unfold nY
      rw [if_neg g]
      generalize nS a (1073741824 * 2 ^ 23) 62 0 = s at *
      obtain ⟨j, rfl⟩ : ∃ j, s = j + 30 := ⟨s - 30, by omega⟩
      rw [Nat.pow_add, ← Nat.mul_assoc]
      have := nR_x (x := a * 2 ^ j) (d := 2 ^ 30) (by omega)
      rw [show (1073741824 : Nat) = 2 ^ 30 by omega, this, show j + 30 - 30 = j by omega, Nat.mul_div_cancel _ (p2_pos j)]
    rw [ea]
    have a24 : a ≤ 16777216 := by
      by_cases ga : a ≤ 16777216
      · exact ga
      · rcases s3 with e | e
        · omega
        · have := Nat.mul_le_mul (show 16777217 ≤ a by omega) (p2_le (a := 30) (b := nS a (1073741824 * 2 ^ 23) 62 0) (by omega))
          omega
    exact ⟨⟨a, 0, a24, (Nat.mul_one a).symm⟩, ha, by omega⟩
theorem wl_j {v : Int64} (h1 : -4611686018427387904 ≤ v.toInt) : v / nOne = rWl v := by
  obtain ⟨-, e1⟩ := ab_n h1
  have b := Int64.toInt_lt v
  unfold rWl
  have eO : nOne = jN 1073741824 := rfl
  generalize ha : v.toInt.natAbs = a at *
  have dl := Nat.div_le_self a (2 ^ 30)
  have es : jN a >>> (30 &&& 63) = jN (a / 2 ^ 30) := by rw [e_30]; exact sr_n (by omega) (by omega)
  by_cases g : v < 0
  · rw [if_pos g] at e1
    rw [if_pos g, e1, es, eO]
    rw [li_lt, j0_i] at g
    apply li_eq
    rw [li_div (by omega), jN_i (by omega), li_neg (by rw [jN_i (by omega)]; omega), jN_i (by omega), show v.toInt = -(a : Int) by omega, Int.neg_tdiv, Int.tdiv_eq_ediv_of_nonneg (by omega)]
    rfl
  · rw [if_neg g] at e1
    rw [if_neg g, e1, es, eO, jN_div (by omega) (by omega)]
