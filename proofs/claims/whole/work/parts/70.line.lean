def okR (x : Int32) : Prop := x = -6 ∨ ∃ r, r < 8 ∧ x = nI r
theorem okR_6 : okR (-6) := Or.inl rfl
theorem okR_n {r : Nat} (h : r < 8) : okR (nI r) := Or.inr ⟨r, h, rfl⟩
theorem nI_i8 {r : Nat} (h : r < 8) : xin (nI r) 8 = true := by
  rw [xin_nI (by omega)]
  simp only [decide_eq_true_eq]
  exact h
theorem m6_8 : xin (-6) 8 = false := by decide
theorem m6_l : (-6 : Int32) < 0 := by decide
theorem okR_v {x : Int32} (h : okR x) : rV x := by
  rcases h with h | ⟨r, hr, h⟩
  · rw [h]; exact rV_6
  · rw [h]; exact rV_n hr
/-- who is who: kinds, places, in or out -/
def zR (A : Nat → Nat → Int32) : Prop := (∀ i, i < 8 → (A 5 i = 0 ∨ A 5 i = 1) ∧ (A 1 i = 0 ∨ A 1 i = 1) ∧ ∃ p, p < 8 ∧ A 2 i = nI p) ∧ ∀ i j, i < 8 → j < 8 → A 2 i = A 2 j → i = j
/-- slopes are small -/
def zS (A : Nat → Nat → Int32) : Prop := ∀ i, i < 8 → -50 ≤ (A 4 i).toInt ∧ (A 4 i).toInt ≤ 50
/-- class and reference have the same lines -/
def zN (A : Nat → Nat → Int32) (N : Nat → Int32) : Prop := (∀ i, i < 8 → A 1 i = N (8 + i) ∧ A 2 i = N (16 + i) ∧ A 3 i = N (24 + i) ∧ A 4 i = N (32 + i) ∧ A 5 i = N i) ∧ A 0 8 = N 40
theorem who_f {A : Nat → Nat → Int32} {N : Nat → Int32} {pl : Int32} (hn : zN A N) : ∀ d i, i + d = 8 → (∀ j, i ≤ j → j < 8 → ¬ A 2 j = pl) → rOn N pl d i = -6
  | 0, _, _, _ => rfl
  | d + 1, i, h, hj => by
    have e := hn.1 i (by omega)
    rw [rOn, ← e.2.1, if_neg (hj i (by omega) (by omega))]
    exact who_f hn d (i + 1) (by omega) (fun j h1 h2 => hj j (by omega) h2)
theorem who_e {A : Nat → Nat → Int32} {N : Nat → Int32} {pl : Int32} (hr : zR A) (hn : zN A N) : ∀ d i, i + d = 8 → uWhoF A pl i d = rOn N pl d i
  | 0, _, _ => rfl
  | d + 1, i, h => by
    have e := hn.1 i (by omega)
    rw [rOn, uWhoF, ← e.2.1, ← e.2.2.2.2]
    by_cases h1 : A 2 i = pl
    · rw [if_pos h1, if_pos h1, uW]
      rcases (hr.1 i (by omega)).1 with h2 | h2
      · rw [h2, if_pos rfl, if_neg (by decide), who_f hn d (i + 1) (by omega) (fun j h3 h4 h5 => by
          have := hr.2 i j (by omega) h4 (by rw [h1, h5])
          omega)]
      · rw [h2, if_neg (by decide), if_pos rfl]
    · rw [if_neg h1, if_neg h1]
      exact who_e hr hn d (i + 1) (by omega)
theorem who_ok {A : Nat → Nat → Int32} {pl : Int32} : ∀ d i, i + d = 8 → okR (uWhoF A pl i d)
  | 0, _, _ => okR_6
  | d + 1, i, h => by
    rw [uWhoF]
    split
    · unfold uW
      split
      · exact okR_6
      · exact okR_n (by omega)
    · exact who_ok d (i + 1) (by omega)
theorem uM_n {m : Nat} (h1 : 1 ≤ m) (h2 : m < 8) : uM (nI m) = true := by
  unfold uM
  rw [Bool.and_eq_true, decide_eq_true_eq, decide_eq_true_eq]
  exact ⟨nI_le' (a := 1) (b := m) h1 (by omega), nI_le' (a := m) (b := 7) (by omega) (by omega)⟩
theorem com_hi {A : Nat → Nat → Int32} {f : Nat} (h : 8 ≤ f) (h2 : f < 16) : uCom A (nI f) = uWhoF A (nI (f - 8)) 0 8 := by
  unfold uCom uWho
  have g : 7 < nI f := by
    have := nI_lt' (a := 7) (b := f) (by omega) (by omega)
    exact Int32.not_le.mp this
  rw [if_pos g, show (7 : Int32) = nI 7 from rfl, show (1 : Int32) = nI 1 from rfl, nI_sb (by omega), nI_sb (by omega), show f - 7 - 1 = f - 8 by omega]
theorem com_lo {A : Nat → Nat → Int32} {f : Nat} (h : 1 ≤ f) (h2 : f < 8) : uCom A (nI f) = A 6 f := by
  unfold uCom uBest
  have g : ¬ 7 < nI f := Int32.not_lt.mpr (nI_le' (a := f) (b := 7) (by omega) (by omega))
  rw [if_neg g, if_pos (uM_n h h2), nI_cl (by omega)]
/-- who comes to a match: the same -/
theorem com_e {A : Nat → Nat → Int32} {N : Nat → Int32} (hr : zR A) (hn : zN A N) {m t : Nat} (h1 : 1 ≤ m) (h2 : m < 8) (ht : t ≤ 1) (h6 : m ≤ 3 → A 6 (2 * m + t) = N (41 + (2 * m + t))) : uCom A (nI (2 * m + t)) = rCo N m t := by
  unfold rCo
  by_cases h : 3 < m
  · rw [if_pos h, com_hi (by omega) (by omega), who_e hr hn 8 0 (by omega), show 2 * m + t - 8 = 2 * (m - 4) + t by omega]
  · rw [if_neg h, com_lo (by omega) (by omega), h6 (by omega), show 41 + (2 * m + t) = 41 + 2 * m + t by omega]
theorem com_ok {A : Nat → Nat → Int32} {m t : Nat} (h1 : 1 ≤ m) (h2 : m < 8) (ht : t ≤ 1) (h6 : m ≤ 3 → okR (A 6 (2 * m + t))) : okR (uCom A (nI (2 * m + t))) := by
  by_cases h : 3 < m
  · rw [com_hi (by omega) (by omega)]
    exact who_ok 8 0 (by omega)
  · rw [com_lo (by omega) (by omega)]
    exact h6 (by omega)
theorem i32_ring (a b c d p q : Int32) : (a - b) * q + (c - d) * p = a * q + c * p - b * q - d * p := by
  rw [Int32.sub_mul, Int32.sub_mul, Int32.sub_eq_add_neg, Int32.sub_eq_add_neg, Int32.sub_eq_add_neg, Int32.sub_eq_add_neg]
  ac_rfl
theorem ti_s50 {x y : Int32} (hx : -50 ≤ x.toInt ∧ x.toInt ≤ 50) (hy : -50 ≤ y.toInt ∧ y.toInt ≤ 50) : (x - y).toInt = x.toInt - y.toInt := ti_sub (by omega) (by omega)
theorem ti_e {x y : Int32} : x = y ↔ x.toInt = y.toInt := ⟨fun h => by rw [h], ti_eq⟩
/-- who is ahead: the same -/
theorem ahead_e {A : Nat → Nat → Int32} {N : Nat → Int32} {a b p q : Int32} (hs : zS A) (hn : zN A N) (ha : okR a) (hb : okR b) : uAhead A a b p q = rBet N a b p q := by
  unfold uAhead rBet
  rcases ha with ha | ⟨i, hi, ha⟩
  · rw [ha, m6_8, if_neg (by decide), if_pos m6_l]
    rcases hb with hb | ⟨j, hj, hb⟩
    · rw [hb, m6_8, if_neg (by decide)]
    · rw [hb, nI_i8 hj, if_pos rfl]
  · rw [ha, nI_i8 hi, if_pos rfl, if_neg (nI_nn (by omega))]
    rcases hb with hb | ⟨j, hj, hb⟩
    · rw [hb, m6_8, if_neg (by decide), if_pos m6_l]
    · rw [hb, nI_i8 hj, if_pos rfl, if_neg (nI_nn (by omega)), nI_cl (by omega), nI_cl (by omega)]
      have ei := hn.1 i hi
      have ej := hn.1 j hj
      have si := hs i hi
      have sj := hs j hj
      have es := ti_s50 si sj
      rw [i32_ring, ei.2.2.1, ej.2.2.1]
      unfold rAh rOff
      rw [ei.2.2.2.1, ej.2.2.2.1] at es ⊢
      rw [ei.2.2.2.1] at si
      rw [ej.2.2.2.1] at sj
      generalize N (24 + i) * q + N (32 + i) * p - N (24 + j) * q - N (32 + j) * p = off
      have ni := ti_nI (n := i) (by omega)
      have nj := ti_nI (n := j) (by omega)
      have e0 : (nI j - nI i).toInt = (j : Int) - i := by rw [ti_sub (by omega) (by omega), ni, nj]
      by_cases z : off = 0
      · rw [if_pos z, if_pos z]
        by_cases z2 : N (32 + i) = N (32 + j)
        · rw [if_pos z2, if_pos (by rw [z2, Int32.sub_self])]
          by_cases g : nI i < nI j
          · rw [if_neg (by rw [ti_le, e0, q_0]; rw [ti_lt, ni, nj] at g; omega), if_pos (decide_eq_true g)]
          · rw [if_pos (by rw [ti_le, e0, q_0]; rw [ti_lt, ni, nj] at g; omega), if_neg (by rw [decide_eq_true_eq]; exact g)]
        · rw [if_neg z2, if_neg (by
            intro e
            apply z2
            rw [ti_e, es, q_0] at e
            exact ti_eq (by omega))]
          by_cases g : N (32 + j) < N (32 + i)
          · rw [if_neg (by rw [ti_le, es, q_0]; rw [ti_lt] at g; omega), if_pos (decide_eq_true g)]
          · rw [if_pos (by rw [ti_le, es, q_0]; rw [ti_lt] at g; omega), if_neg (by rw [decide_eq_true_eq]; exact g)]
      · rw [if_neg z, if_neg z]
        by_cases g : 0 < off
        · rw [if_neg (Int32.not_le.mpr g), if_pos (decide_eq_true g)]
        · rw [if_pos (Int32.not_lt.mp g), if_neg (by rw [decide_eq_true_eq]; exact g)]
theorem ahead_ok {A : Nat → Nat → Int32} {a b p q : Int32} (ha : okR a) (hb : okR b) : okR (uAhead A a b p q) := by
  unfold uAhead
  repeat' split
  all_goals first | exact ha | exact hb | exact okR_6
