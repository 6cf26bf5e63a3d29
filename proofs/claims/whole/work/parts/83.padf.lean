/-- pads alike -/
def zPd (σ : Nat → Nat → Int32) (P : Nat → Int32) (n : Nat) : Prop := n ≤ 60 ∧ σ 15 1 = nI n ∧ ∀ k, k < n → σ 16 k = P k
theorem let_of {s : Int32} (h : rL s = true) : ∃ i, i < 8 ∧ s - 97 = nI i := by
  unfold rL at h
  rw [Bool.and_eq_true, decide_eq_true_eq, decide_eq_true_eq, ti_le, ti_le, q_97, show (104 : Int32).toInt = 104 by decide] at h
  refine ⟨(s.toInt - 97).toNat, by omega, ti_eq ?_⟩
  rw [ti_sub (by rw [q_97]; omega) (by rw [q_97]; omega), q_97, ti_nI (by omega)]
  omega
theorem let_to {s : Int32} {i : Nat} (hi : i < 8) (h : s - 97 = nI i) : rL s = true := by
  have e : s = nI (i + 97) := by
    rw [← nI_ad, ← h, show nI 97 = (97 : Int32) from rfl, Int32.sub_add_cancel]
  unfold rL
  rw [e, Bool.and_eq_true, decide_eq_true_eq, decide_eq_true_eq, ti_le, ti_le, q_97, show (104 : Int32).toInt = 104 by decide, ti_nI (by omega)]
  omega
theorem let_e (s : Int32) : xin (s - 97) 8 = rL s := by
  rw [Bool.eq_iff_iff]
  constructor
  · intro h
    obtain ⟨i, hi, e⟩ := xin_of h (by omega)
    exact let_to hi e
  · intro h
    obtain ⟨i, hi, e⟩ := let_of h
    rw [e]
    exact nI_i8 hi
theorem sign_lo {σ : Nat → Nat → Int32} {P : Nat → Int32} {n k : Nat} (h : zPd σ P n) (hk : k < n) : vSign σ (nI k) = P k := by
  have n60 := h.1
  unfold vSign vIn
  rw [h.2.1, if_pos, nI_cl (by omega), h.2.2 k hk]
  rw [Bool.and_eq_true, Bool.and_eq_true, decide_eq_true_eq, decide_eq_true_eq, decide_eq_true_eq]
  exact ⟨⟨nI_le' (a := 0) (b := k) (by omega) (by omega), Int32.not_le.mp (nI_lt' hk (by omega))⟩, Int32.not_le.mp (nI_lt' (a := k) (b := 60) (by omega) (by omega))⟩
theorem sign_hi {σ : Nat → Nat → Int32} {P : Nat → Int32} {n k : Nat} (h : zPd σ P n) (hk : n ≤ k) (hk2 : k < 1000) : vSign σ (nI k) = -6 := by
  unfold vSign vIn
  rw [h.2.1, if_neg]
  rw [Bool.and_eq_true, Bool.and_eq_true, decide_eq_true_eq, decide_eq_true_eq, decide_eq_true_eq]
  intro c
  exact absurd (nI_le' (a := n) (b := k) hk (by omega)) (Int32.not_le.mpr c.1.2)
theorem nI_lts {n k : Nat} (h : k < n) (hn : n < 1000) : nI k < nI n := Int32.not_le.mp (nI_lt' h (by omega))
theorem nI_ngt {n k : Nat} (h : n ≤ k) (hn : k < 1000) : ¬ nI k < nI n := Int32.not_lt.mpr (nI_le' h (by omega))
theorem st_0 (s : Int32) : rStep 0 s = (if rL s = true then 1 else if s = 46 then 0 else -6) := by
  unfold rStep
  rw [if_pos q_0]
theorem st_1 (s : Int32) : rStep 1 s = (if s = 43 then 0 else if s = 45 then 0 else if s = 33 then 0 else if s = 35 then 0 else if s = 37 then 2 else -6) := by
  unfold rStep
  rw [if_neg (by decide), if_pos q_1]
theorem st_2 (s : Int32) : rStep 2 s = (if rL s = true then 0 else -6) := by
  unfold rStep
  rw [if_neg (by decide), if_neg (by decide)]
theorem let_46 {s : Int32} (h : rL s = true) : ¬ s = 46 := by
  intro e
  rw [e] at h
  exact absurd h (by decide)
/-- what the reference finds from a place on, act by act -/
theorem fo_act {P : Nat → Int32} {n k : Nat} (hn : n ≤ 60) (hk : k < n) :
    (P k = 46 ∧ rFo P n (n - k) k 0 = rFo P n (n - (k + 1)) (k + 1) 0) ∨ (rL (P k) = false ∧ ¬ P k = 46 ∧ rFo P n (n - k) k 0 = nI k) ∨ (rL (P k) = true ∧ k + 1 = n ∧ rFo P n (n - k) k 0 = nI (k + 1)) ∨ (rL (P k) = true ∧ k + 1 < n ∧
      (((P (k + 1) = 43 ∨ P (k + 1) = 45 ∨ P (k + 1) = 33 ∨ P (k + 1) = 35) ∧ rFo P n (n - k) k 0 = rFo P n (n - (k + 2)) (k + 2) 0) ∨ (P (k + 1) = 37 ∧ k + 2 = n ∧ rFo P n (n - k) k 0 = nI (k + 2)) ∨ (P (k + 1) = 37 ∧ k + 2 < n ∧ rL (P (k + 2)) = true ∧ rFo P n (n - k) k 0 = rFo P n (n - (k + 3)) (k + 3) 0) ∨ (P (k + 1) = 37 ∧ k + 2 < n ∧ rL (P (k + 2)) = false ∧ rFo P n (n - k) k 0 = nI (k + 2)) ∨ ((¬ P (k + 1) = 43 ∧ ¬ P (k + 1) = 45 ∧ ¬ P (k + 1) = 33 ∧ ¬ P (k + 1) = 35 ∧ ¬ P (k + 1) = 37) ∧ rFo P n (n - k) k 0 = nI (k + 1)))) := by
  have e1 : n - k = n - (k + 1) + 1 := by omega
  rw [e1, rFo, st_0]
  by_cases l : rL (P k) = true
  · rw [if_pos l, if_neg (by decide)]
    by_cases k1 : k + 1 = n
    · refine Or.inr (Or.inr (Or.inl ⟨l, k1, ?_⟩))
      rw [show n - (k + 1) = 0 by omega, rFo, if_neg (by decide), k1]
    · refine Or.inr (Or.inr (Or.inr ⟨l, by omega, ?_⟩))
      have e2 : n - (k + 1) = n - (k + 2) + 1 := by omega
      rw [e2, rFo, st_1]
      by_cases g1 : P (k + 1) = 43
      · exact Or.inl ⟨Or.inl g1, by rw [if_pos g1, if_neg (by decide)]⟩
      · by_cases g2 : P (k + 1) = 45
        · exact Or.inl ⟨Or.inr (Or.inl g2), by rw [if_neg g1, if_pos g2, if_neg (by decide)]⟩
        · by_cases g3 : P (k + 1) = 33
          · exact Or.inl ⟨Or.inr (Or.inr (Or.inl g3)), by rw [if_neg g1, if_neg g2, if_pos g3, if_neg (by decide)]⟩
          · by_cases g4 : P (k + 1) = 35
            · exact Or.inl ⟨Or.inr (Or.inr (Or.inr g4)), by rw [if_neg g1, if_neg g2, if_neg g3, if_pos g4, if_neg (by decide)]⟩
            · rw [if_neg g1, if_neg g2, if_neg g3, if_neg g4]
              refine Or.inr ?_
              by_cases g5 : P (k + 1) = 37
              · rw [if_pos g5, if_neg (by decide)]
                by_cases k2 : k + 2 = n
                · refine Or.inl ⟨g5, k2, ?_⟩
                  rw [show n - (k + 2) = 0 by omega, rFo, if_neg (by decide), k2]
                · refine Or.inr ?_
                  have e3 : n - (k + 2) = n - (k + 3) + 1 := by omega
                  rw [e3, rFo, st_2]
                  by_cases g6 : rL (P (k + 2)) = true
                  · exact Or.inl ⟨g5, by omega, g6, by rw [if_pos g6, if_neg (by decide)]⟩
                  · refine Or.inr (Or.inl ⟨g5, by omega, by simpa using g6, ?_⟩)
                    rw [if_neg g6, if_pos m6_l]
              · rw [if_neg g5, if_pos m6_l]
                exact Or.inr (Or.inr (Or.inr ⟨⟨g1, g2, g3, g4, g5⟩, rfl⟩))
  · rw [if_neg l]
    by_cases z : P k = 46
    · exact Or.inl ⟨z, by rw [if_pos z, if_neg (by decide)]⟩
    · refine Or.inr (Or.inl ⟨by simpa using l, z, ?_⟩)
      rw [if_neg z, if_pos m6_l]
theorem nI_n6 {k : Nat} (h : k < 1000) : ¬ nI k = -6 := by
  intro c
  have := ti_nI (n := k) (by omega)
  rw [c, q_m6] at this
  omega
theorem ti_ne {x : Int32} {v : Int} (w : Int32) (hw : w.toInt = v) (h : ¬ x = w) : ¬ x.toInt = v := fun e => h (ti_eq (by rw [e, hw]))
/-- faults: the same -/
theorem ff_e {σ : Nat → Nat → Int32} {P : Nat → Int32} {n : Nat} (h : zPd σ P n) : ∀ f k, k ≤ n → n - k ≤ f → vFF σ f (nI k) = rFo P n (n - k) k 0
  | 0, k, hk, hf => by
    rw [show n - k = 0 by omega]
    rfl
  | f + 1, k, hk, hf => by
    have n60 := h.1
    rw [vFF, h.2.1]
    by_cases hkn : k = n
    · subst hkn
      rw [if_neg (nI_ngt (by omega) (by omega)), show k - k = 0 by omega]
      rfl
    · rw [if_pos (nI_lts (by omega) (by omega))]
      have s0 := sign_lo h (k := k) (by omega)
      have eL0 : vLet σ (nI k) = rL (P k) := by unfold vLet; rw [s0, let_e]
      rcases fo_act (P := P) n60 (show k < n by omega) with ⟨a1, a2⟩ | ⟨a1, a2, a3⟩ | ⟨a1, a2, a3⟩ | ⟨a1, a2, a3⟩
      · have eF : vFA σ (nI k) = -6 := by unfold vFA; rw [s0, if_pos a1]
        have eN : vLen σ (nI k) = 1 := by unfold vLen vDeed; rw [s0, if_pos a1, if_neg (by decide), if_pos (by decide)]
        rw [eF, if_pos rfl, eN, nI_1, ff_e h f (k + 1) (by omega) (by omega), a2]
      · have eF : vFA σ (nI k) = nI k := by unfold vFA; rw [s0, if_neg a2, eL0, a1, if_neg (by decide)]
        rw [eF, if_neg (nI_n6 (by omega)), a3]
      · have s1 := sign_hi h (k := k + 1) (by omega) (by omega)
        have eF : vFA σ (nI k) = nI (k + 1) := by
          unfold vFA
          rw [s0, if_neg (let_46 a1), eL0, a1, if_pos rfl, nI_1, s1, if_neg (by decide), if_neg (by decide)]
        rw [eF, if_neg (nI_n6 (by omega)), a3]
      · have s1 := sign_lo h (k := k + 1) a2
        have dd : vDeed σ (nI k) = P (k + 1) := by unfold vDeed; rw [s0, if_neg (let_46 a1), nI_1, s1]
        rcases a3 with ⟨b1, b2⟩ | ⟨b1, b2, b3⟩ | ⟨b1, b2, b3, b4⟩ | ⟨b1, b2, b3, b4⟩ | ⟨b1, b2⟩
        · have ht : (P (k + 1)).toInt = 33 ∨ (P (k + 1)).toInt = 35 ∨ (P (k + 1)).toInt = 43 ∨ (P (k + 1)).toInt = 45 := by
            rcases b1 with b | b | b | b
            · rw [b]; exact Or.inr (Or.inr (Or.inl q_43))
            · rw [b]; exact Or.inr (Or.inr (Or.inr q_45))
            · rw [b]; exact Or.inl q_33
            · rw [b]; exact Or.inr (Or.inl q_35)
          have eF : vFA σ (nI k) = -6 := by
            unfold vFA
            rw [s0, if_neg (let_46 a1), eL0, a1, if_pos rfl, nI_1, s1, if_pos ht]
          have eN : vLen σ (nI k) = 2 := by
            unfold vLen
            rw [dd, if_neg (by omega), if_neg (by omega)]
          rw [eF, if_pos rfl, eN, nI_2, ff_e h f (k + 2) (by omega) (by omega), b2]
        · have s2 := sign_hi h (k := k + 2) (by omega) (by omega)
          have eF : vFA σ (nI k) = nI (k + 2) := by
            unfold vFA
            rw [s0, if_neg (let_46 a1), eL0, a1, if_pos rfl, nI_1, s1, b1, if_neg (by decide), if_pos q_37, nI_2]
            unfold vLet
            rw [s2, if_neg (by decide)]
          rw [eF, if_neg (nI_n6 (by omega)), b3]
        · have s2 := sign_lo h (k := k + 2) b2
          have eF : vFA σ (nI k) = -6 := by
            unfold vFA
            rw [s0, if_neg (let_46 a1), eL0, a1, if_pos rfl, nI_1, s1, b1, if_neg (by decide), if_pos q_37, nI_2]
            unfold vLet
            rw [s2, let_e, b3, if_pos rfl]
          have eN : vLen σ (nI k) = 3 := by
            unfold vLen
            rw [dd, b1, if_pos q_37]
          rw [eF, if_pos rfl, eN, nI_3, ff_e h f (k + 3) (by omega) (by omega), b4]
        · have s2 := sign_lo h (k := k + 2) b2
          have eF : vFA σ (nI k) = nI (k + 2) := by
            unfold vFA
            rw [s0, if_neg (let_46 a1), eL0, a1, if_pos rfl, nI_1, s1, b1, if_neg (by decide), if_pos q_37, nI_2]
            unfold vLet
            rw [s2, let_e, b3, if_neg (by decide)]
          rw [eF, if_neg (nI_n6 (by omega)), b4]
        · have eF : vFA σ (nI k) = nI (k + 1) := by
            unfold vFA
            have t1 := ti_ne 43 q_43 b1.1
            have t2 := ti_ne 45 q_45 b1.2.1
            have t3 := ti_ne 33 q_33 b1.2.2.1
            have t4 := ti_ne 35 q_35 b1.2.2.2.1
            have t5 := ti_ne 37 q_37 b1.2.2.2.2
            rw [s0, if_neg (let_46 a1), eL0, a1, if_pos rfl, nI_1, s1, if_neg (by omega), if_neg t5]
          rw [eF, if_neg (nI_n6 (by omega)), b2]
