def cN (P : Nat → Bool) : Nat → Nat
  | 0 => 0
  | k + 1 => cN P k + (if P k = true then 1 else 0)
theorem cN_le (P : Nat → Bool) : ∀ k, cN P k ≤ k
  | 0 => Nat.le_refl 0
  | k + 1 => by
    have := cN_le P k
    rw [cN]
    split <;> omega
theorem cN_c {P Q : Nat → Bool} : ∀ k, (∀ b, b < k → P b = Q b) → cN P k = cN Q k
  | 0, _ => rfl
  | k + 1, h => by rw [cN, cN, cN_c k (fun b hb => h b (by omega)), h k (by omega)]
theorem cN_t {P : Nat → Bool} : ∀ k, (∀ b, b < k → P b = true) → cN P k = k
  | 0, _ => rfl
  | k + 1, h => by rw [cN, cN_t k (fun b hb => h b (by omega)), h k (by omega), if_pos rfl]
theorem cN_a {f : Nat → Nat} {i : Nat} : ∀ k, cN (fun b => decide (i ≤ f b)) k = cN (fun b => decide (f b = i)) k + cN (fun b => decide (i + 1 ≤ f b)) k
  | 0 => rfl
  | k + 1 => by
    rw [cN, cN, cN, cN_a k]
    simp only [decide_eq_true_eq]
    repeat' split
    all_goals omega
theorem rYs_e {F : Nat → Int32} {t v : Int32} : ∀ d i y, rYs F t v d i (nI y) = nI (y + (cN (fun b => rLst (F b) t v) (i + d) - cN (fun b => rLst (F b) t v) i))
  | 0, i, y => by
    rw [rYs, Nat.add_zero, Nat.sub_self, Nat.add_zero]
  | d + 1, i, y => by
    have m : ∀ e, cN (fun b => rLst (F b) t v) (i + 1) ≤ cN (fun b => rLst (F b) t v) (i + 1 + e) := by
      intro e
      induction e with
      | zero => exact Nat.le_refl _
      | succ e ih =>
        have e2 : cN (fun b => rLst (F b) t v) (i + 1 + e + 1) = cN (fun b => rLst (F b) t v) (i + 1 + e) + (if rLst (F (i + 1 + e)) t v = true then 1 else 0) := rfl
        rw [show i + 1 + (e + 1) = i + 1 + e + 1 by omega, e2]
        omega
    have hm := m d
    have e1 : cN (fun b => rLst (F b) t v) (i + 1) = cN (fun b => rLst (F b) t v) i + (if rLst (F i) t v = true then 1 else 0) := rfl
    rw [rYs]
    by_cases g : rLst (F i) t v = true
    · rw [g, xi_t, nI_1, rYs_e d (i + 1) (y + 1), show i + (d + 1) = i + 1 + d by omega]
      rw [if_pos g] at e1
      congr 1
      omega
    · have g2 : rLst (F i) t v = false := by simpa using g
      rw [g2, xi_f, Int32.add_zero, rYs_e d (i + 1) y, show i + (d + 1) = i + 1 + d by omega]
      rw [if_neg g] at e1
      congr 1
      omega
theorem rYs_c {F : Nat → Int32} {t v : Int32} {n : Nat} : rYs F t v n 0 0 = nI (cN (fun b => rLst (F b) t v) n) := by
  have e := rYs_e (F := F) (t := t) (v := v) n 0 0
  rw [nI_0, Nat.zero_add, Nat.zero_add] at e
  rw [e]
  rfl
def kIx (F : Nat → Int32) (t : Int32) (b : Nat) : Nat := (vKy (vKx (F b) t)).toNatClampNeg
theorem vKy_t {x : Int32} : (vKy x).toInt = (if 99 < x.toInt then 198 else if x.toInt < -99 then 0 else x.toInt + 99) := by
  unfold vKy
  have em : (vKm x).toInt = (if 99 < x.toInt then 99 else x.toInt) := by
    unfold vKm
    by_cases g : 99 < x
    · rw [if_pos g]
      rw [ti_lt, q_99] at g
      rw [if_pos g, q_99]
    · rw [if_neg g]
      rw [ti_lt, q_99] at g
      rw [if_neg g]
  by_cases g1 : 99 < x.toInt
  · rw [if_pos g1] at em ⊢
    rw [if_neg (by rw [ti_lt, em, q_m99]; omega), ti_add (by rw [em, q_99]; omega) (by rw [em, q_99]; omega), em, q_99]
    omega
  · rw [if_neg g1] at em ⊢
    by_cases g2 : x.toInt < -99
    · rw [if_pos g2, if_pos (by rw [ti_lt, em, q_m99]; omega)]
      decide
    · rw [if_neg g2, if_neg (by rw [ti_lt, em, q_m99]; omega), ti_add (by rw [em, q_99]; omega) (by rw [em, q_99]; omega), em, q_99]
theorem kIx_e {F : Nat → Int32} {t : Int32} {b k : Nat} (hk : k < 199) (hx : -99 ≤ (rLv (F b) t).toInt) : rLst (F b) t (mI k) = decide (k ≤ kIx F t b) := by
  have ey := vKy_t (x := rLv (F b) t)
  have hin := vKy_i (rLv (F b) t)
  rw [ti_in] at hin
  have ec : (kIx F t b : Int) = (vKy (rLv (F b) t)).toInt := by
    have e : vKy (rLv (F b) t) = nI (vKy (rLv (F b) t)).toInt.toNat := ti_eq (by rw [ti_nI (by omega)]; omega)
    have e2 : (vKy (rLv (F b) t)).toNatClampNeg = (vKy (rLv (F b) t)).toInt.toNat := by
      have := nI_cl (n := (vKy (rLv (F b) t)).toInt.toNat) (by omega)
      rw [← e] at this
      exact this
    show (((vKy (rLv (F b) t)).toNatClampNeg : Nat) : Int) = _
    rw [e2]
    omega
  unfold rLst
  rw [Bool.eq_iff_iff, decide_eq_true_eq, decide_eq_true_eq, ti_le, mI_t (by omega)]
  revert ey
  repeat' split
  all_goals omega
theorem rGa_f {S : Nat → Int32} {n : Nat} {F : Nat → Int32} : ∀ c, c ≤ 3100 → ∀ b, b < (rGa S n c 0 0 F).1 → ∃ x, x < 3100 ∧ 41 ≤ x % 100 ∧ x % 100 ≤ 59 ∧ (rGa S n c 0 0 F).2 b = nI x
  | 0, _, b, hb => absurd hb (Nat.not_lt_zero b)
  | c + 1, h, b, hb => by
    have ih := rGa_f (S := S) (n := n) (F := F) c (by omega)
    rw [rGa_s, Nat.zero_add] at hb ⊢
    by_cases g : rFit S n (nI c) = true
    · rw [if_pos g] at hb ⊢
      have hf := rFit_b (by omega) g
      have hb' : b < (rGa S n c 0 0 F).1 + 1 := hb
      by_cases e : b = (rGa S n c 0 0 F).1
      · refine ⟨c, by omega, hf.1, hf.2, ?_⟩
        show (if b = (rGa S n c 0 0 F).1 then nI c else (rGa S n c 0 0 F).2 b) = nI c
        rw [if_pos e]
      · obtain ⟨x, x1, x2, x3, x4⟩ := ih b (by omega)
        refine ⟨x, x1, x2, x3, ?_⟩
        show (if b = (rGa S n c 0 0 F).1 then nI c else (rGa S n c 0 0 F).2 b) = nI x
        rw [if_neg e, x4]
    · rw [if_neg g] at hb ⊢
      exact ih b hb
theorem rLv_b {x t : Nat} (hx : x < 3100) (h1 : 41 ≤ x % 100) (h2 : x % 100 ≤ 59) (ht : t < 10) : -99 ≤ (rLv (nI x) (nI t)).toInt := by
  have e1 : (nI x / 100).toInt = ((x / 100 : Nat) : Int) := by
    have := nI_dv (a := x) (d := 100) (by omega) (by omega) (by omega)
    rw [show nI 100 = (100 : Int32) from rfl] at this
    rw [this, ti_nI (by omega)]
  have e2 : (nI x - nI x / 100 * 100 - 50).toInt = ((x % 100 : Nat) : Int) - 50 := by
    rw [nI_r100 hx, ti_sub (by rw [ti_nI (by omega), q_50]; omega) (by rw [ti_nI (by omega), q_50]; omega), ti_nI (by omega), q_50]
  have tt := ti_nI (n := t) (by omega)
  have b := int_bm (x := ((x % 100 : Nat) : Int) - 50) (c := 9) (y := (t : Int)) (d := 9) (by omega) (by omega) (by omega) (by omega) (by omega) (by omega)
  have e3 : ((nI x - nI x / 100 * 100 - 50) * nI t).toInt = (((x % 100 : Nat) : Int) - 50) * t := by
    rw [ti_mul (by rw [e2, tt]; omega) (by rw [e2, tt]; omega), e2, tt]
  unfold rLv
  rw [ti_add (by rw [e1, e3]; omega) (by rw [e1, e3]; omega), e1, e3]
  omega
/-- the histogram -/
theorem vCn_e {t : Int32} {K : Nat} (hK : K ≤ 589) : ∀ d i G, i + d = 589 → G 0 2 = nI K → (∀ x, x < 199 → G 2 x = nI (cN (fun b => decide (kIx (G 1) t b = x)) (min i K))) → vCn t d i G 0 2 = nI K ∧ (∀ b, vCn t d i G 1 b = G 1 b) ∧ (∀ b, ¬ b = 2 → vCn t d i G 0 b = G 0 b) ∧ ∀ x, x < 199 → vCn t d i G 2 x = nI (cN (fun b => decide (kIx (G 1) t b = x)) K)
  | 0, i, G, hi, h2, hH => by
    refine ⟨h2, fun b => rfl, fun b _ => rfl, fun x hx => ?_⟩
    have := hH x hx
    rw [Nat.min_eq_right (by omega)] at this
    exact this
  | d + 1, i, G, hi, h2, hH => by
    rw [vCn, h2]
    have ti := ti_nI (n := i) (by omega)
    have tK := ti_nI (n := K) (by omega)
    by_cases g : i < K
    · rw [if_pos (by rw [ti_lt, ti, tK]; omega)]
      have hin := vKy_i (vKx (G 1 i) t)
      rw [ti_in] at hin
      have e2 : kIx (G 1) t i < 199 := by
        unfold kIx
        have e : vKy (vKx (G 1 i) t) = nI (vKy (vKx (G 1 i) t)).toInt.toNat := ti_eq (by rw [ti_nI (by omega)]; omega)
        rw [e, nI_cl (by omega)]
        omega
      have ek : (vKy (vKx (G 1 i) t)).toNatClampNeg = kIx (G 1) t i := rfl
      rw [ek]
      have q1 : ∀ b, xup G 2 (kIx (G 1) t i) (G 2 (kIx (G 1) t i) + 1) 1 b = G 1 b := fun b => xup_q (by omega)
      have f1 : xup G 2 (kIx (G 1) t i) (G 2 (kIx (G 1) t i) + 1) 1 = G 1 := funext q1
      obtain ⟨a1, a2, a3, a4⟩ := vCn_e hK d (i + 1) (xup G 2 (kIx (G 1) t i) (G 2 (kIx (G 1) t i) + 1)) (by omega) (by rw [xup_q (by omega), h2]) (fun x hx => by
        rw [f1, Nat.min_eq_left (by omega), cN]
        have hx2 := hH x hx
        rw [Nat.min_eq_left (by omega)] at hx2
        by_cases e : kIx (G 1) t i = x
        · rw [e, xup_same, hx2, decide_eq_true rfl, if_pos rfl, nI_1]
        · rw [xup_q (by omega), hx2, decide_eq_false e, if_neg (by decide), Nat.add_zero])
      rw [f1] at a4
      refine ⟨a1, fun b => by rw [a2 b, q1], fun b hb => by rw [a3 b hb, xup_q (by omega)], a4⟩
    · rw [if_neg (by rw [ti_lt, ti, tK]; omega)]
      refine ⟨h2, fun b => rfl, fun b _ => rfl, fun x hx => ?_⟩
      have := hH x hx
      rw [Nat.min_eq_right (by omega)] at this
      exact this
theorem vCt_e {G : Nat → Nat → Int32} {t : Int32} {K : Nat} (hK : K ≤ 589) (h2 : G 0 2 = nI K) : vCt t G 0 2 = nI K ∧ (∀ b, vCt t G 1 b = G 1 b) ∧ (∀ b, ¬ b = 2 → vCt t G 0 b = G 0 b) ∧ ∀ x, x < 199 → vCt t G 2 x = nI (cN (fun b => decide (kIx (G 1) t b = x)) K) := by
  unfold vCt
  have q1 : xfil G 2 199 0 1 = G 1 := by
    funext b
    unfold xfil
    rw [if_neg (by omega)]
  have q0 : ∀ b, xfil G 2 199 0 0 b = G 0 b := fun b => by
    unfold xfil
    rw [if_neg (by omega)]
  obtain ⟨a1, a2, a3, a4⟩ := vCn_e (t := t) hK 589 0 (xfil G 2 199 0) (by omega) (by rw [q0, h2]) (fun x hx => by
    rw [Nat.min_eq_left (by omega), cN, nI_0]
    unfold xfil
    rw [if_pos ⟨rfl, hx⟩])
  rw [q1] at a4
  exact ⟨a1, fun b => by rw [a2 b, q1], fun b hb => by rw [a3 b hb, q0], a4⟩
/-- what is found up to now: the same -/
def zAs (G : Nat → Nat → Int32) (s : Int32 × Int32) : Prop := (G 0 4 = -6 ∧ G 0 3 = -6 ∧ s = (-6, 1000000)) ∨ (G 0 4 = s.2 ∧ G 0 3 = s.1 ∧ 0 ≤ s.1.toInt ∧ 0 ≤ s.2.toInt)
theorem wo_e {y K : Nat} (hy : y ≤ K) (hK : K ≤ 589) : vWw (nI y) (nI K) = rWo (nI y) (nI K) ∧ 0 ≤ (rWo (nI y) (nI K)).toInt ∧ (rWo (nI y) (nI K)).toInt ≤ 589 := by
  have e : nI K - nI y = nI (K - y) := nI_sb hy
  have t1 := ti_nI (n := y) (by omega)
  have t2 := ti_nI (n := K - y) (by omega)
  unfold vWw rWo
  rw [e]
  by_cases g : nI y < nI (K - y)
  · have g' := g
    rw [ti_lt, t1, t2] at g'
    rw [if_pos g, if_neg (by rw [ti_lt, t1, t2]; omega), t2]
    exact ⟨rfl, by omega, by omega⟩
  · have g' := g
    rw [ti_lt, t1, t2] at g'
    rw [if_neg g]
    by_cases g2 : nI (K - y) < nI y
    · rw [if_pos g2, t1]
      exact ⟨rfl, by omega, by omega⟩
    · rw [ti_lt, t1, t2] at g2
      rw [if_neg (by rw [ti_lt, t1, t2]; omega), t2, show K - y = y by omega]
      exact ⟨rfl, by omega, by omega⟩
theorem vW1_e {F : Nat → Int32} {t K : Nat} (ht : t < 10) (hK : K ≤ 589) (h0 : 0 < K) (hF : ∀ b, b < K → -99 ≤ (rLv (F b) (nI t)).toInt) : ∀ d i G s, i + d = 199 → G 0 2 = nI K → (∀ b, b < K → G 1 b = F b) → (∀ x, x < 199 → G 2 x = nI (cN (fun b => decide (kIx F (nI t) b = x)) K)) → zAs G s → zAs (vW1 (nI t) d i (nI (cN (fun b => decide (i ≤ kIx F (nI t) b)) K)) G) (rVl F K (nI t) d i s) ∧ vW1 (nI t) d i (nI (cN (fun b => decide (i ≤ kIx F (nI t) b)) K)) G 0 2 = nI K ∧ ∀ b, b < K → vW1 (nI t) d i (nI (cN (fun b => decide (i ≤ kIx F (nI t) b)) K)) G 1 b = F b
  | 0, i, G, s, hi, h2, h1, hH, hA => ⟨hA, h2, h1⟩
  | d + 1, i, G, s, hi, h2, h1, hH, hA => by
    have hcl := cN_le (fun b => decide (i ≤ kIx F (nI t) b)) K
    have ec : rYs F (nI t) (mI i) K 0 0 = nI (cN (fun b => decide (i ≤ kIx F (nI t) b)) K) := by
      rw [rYs_c, cN_c K (fun b hb => kIx_e (by omega) (hF b hb))]
    obtain ⟨w1, w2, w3⟩ := wo_e hcl hK
    have eal : nI (cN (fun b => decide (i ≤ kIx F (nI t) b)) K) - G 2 i = nI (cN (fun b => decide (i + 1 ≤ kIx F (nI t) b)) K) := by
      rw [hH i (by omega), cN_a, nI_sb (by omega), Nat.add_sub_cancel_left]
    rw [vW1, eal, h2, rVl]
    have qs : ∀ a b, ¬ a = 0 → vWs (nI t) i (vWw (nI (cN (fun b => decide (i ≤ kIx F (nI t) b)) K)) (nI K)) G a b = G a b := by
      intro a b ha
      unfold vWs
      split
      · rw [xup_q (by omega), xup_q (by omega)]
      · rfl
    have q02 : vWs (nI t) i (vWw (nI (cN (fun b => decide (i ≤ kIx F (nI t) b)) K)) (nI K)) G 0 2 = nI K := by
      unfold vWs
      split
      · rw [xup_q (by omega), xup_q (by omega), h2]
      · exact h2
    refine vW1_e ht hK h0 hF d (i + 1) _ _ (by omega) q02 (fun b hb => by rw [qs 1 b (by omega)]; exact h1 b hb) (fun x hx => by rw [qs 2 x (by omega)]; exact hH x hx) ?_
    unfold rV1 vWs
    rw [ec, w1]
    generalize rWo (nI (cN (fun b => decide (i ≤ kIx F (nI t) b)) K)) (nI K) = W at *
    have el : 1000 * nI t + nI i - 99 + 500 = 1000 * nI t + mI i + 500 := by
      unfold mI
      rw [Int32.sub_eq_add_neg, Int32.add_assoc (1000 * nI t) (nI i), Int32.add_comm (nI i)]
    have et : (1000 * nI t + mI i + 500).toInt = 1000 * (t : Int) + i + 401 := by
      have t1 := ti_nI (n := t) (by omega)
      have t2 : (1000 * nI t).toInt = 1000 * (t : Int) := by rw [ti_mul (by rw [q_1000, t1]; omega) (by rw [q_1000, t1]; omega), q_1000, t1]
      have t3 := mI_t (k := i) (by omega)
      have t4 : (1000 * nI t + mI i).toInt = 1000 * (t : Int) + i - 99 := by rw [ti_add (by rw [t2, t3]; omega) (by rw [t2, t3]; omega), t2, t3]; omega
      rw [ti_add (by rw [t4, q_500]; omega) (by rw [t4, q_500]; omega), t4, q_500]
      omega
    rw [el]
    rcases hA with ⟨a1, a2, a3⟩ | ⟨a1, a2, a3, a4⟩
    · rw [if_pos (Or.inl a1), a3, if_pos (by rw [ti_lt, q_1000000]; omega)]
      refine Or.inr ⟨?_, xup_same, by rw [et]; omega, w2⟩
      rw [xup_q (by omega), xup_same]
    · have hne : ¬ G 0 4 = -6 := by
        intro c
        rw [a1, ti_e, q_m6] at c
        omega
      by_cases g : W < s.2
      · rw [if_pos (Or.inr (by rw [a1]; exact g)), if_pos g]
        refine Or.inr ⟨?_, xup_same, by rw [et]; omega, w2⟩
        rw [xup_q (by omega), xup_same]
      · rw [if_neg (by
          intro c
          rcases c with c | c
          · exact hne c
          · rw [a1] at c
            exact g c), if_neg g]
        exact Or.inr ⟨a1, a2, a3, a4⟩
theorem vW2_e {F : Nat → Int32} {K : Nat} (hK : K ≤ 589) (hF : ∀ t b, t < 10 → b < K → -99 ≤ (rLv (F b) (nI t)).toInt) : ∀ d t G s, t + d = 10 → G 0 2 = nI K → (∀ b, b < K → G 1 b = F b) → zAs G s → zAs (vW2 d t G) (rTl F K d t s)
  | 0, t, G, s, ht, h2, h1, hA => hA
  | d + 1, t, G, s, ht, h2, h1, hA => by
    have tK := ti_nI (n := K) (by omega)
    rw [vW2, rTl, h2]
    by_cases h0 : K = 0
    · rw [if_pos h0, if_neg (by rw [ti_lt, q_0, tK]; omega)]
      exact hA
    · rw [if_neg h0, if_pos (by rw [ti_lt, q_0, tK]; omega)]
      obtain ⟨a1, a2, a3, a4⟩ := vCt_e (t := nI t) hK h2
      have e0 : cN (fun b => decide (0 ≤ kIx F (nI t) b)) K = K := cN_t K (fun b _ => decide_eq_true (Nat.zero_le _))
      have hA' : zAs (vCt (nI t) G) s := by
        unfold zAs
        rw [a3 4 (by omega), a3 3 (by omega)]
        exact hA
      have hH : ∀ x, x < 199 → vCt (nI t) G 2 x = nI (cN (fun b => decide (kIx F (nI t) b = x)) K) := by
        intro x hx
        have e := cN_c (P := fun b => decide (kIx (G 1) (nI t) b = x)) (Q := fun b => decide (kIx F (nI t) b = x)) K (fun b hb => by
          unfold kIx
          rw [h1 b hb])
        rw [a4 x hx, e]
      obtain ⟨b1, b2, b3⟩ := vW1_e (t := t) (by omega) hK (by omega) (fun b hb => hF t b (by omega) hb) 199 0 (vCt (nI t) G) s (by omega) a1 (fun b hb => by rw [a2 b]; exact h1 b hb) hH hA'
      rw [e0] at b1 b2 b3
      rw [a1]
      exact vW2_e hK hF d (t + 1) _ _ (by omega) b2 b3 b1
/-- ask -/
theorem c_19 (X : xX) (σ : Nat → Nat → Int32) (w : Int32) (h : Rel σ) : zCi X 112 175 [.int w] σ := by
  obtain ⟨r1, r2, ⟨n2, s1, s2⟩, r5, r6⟩ := id h
  have k1 := k112 X xshM σ xkin_M w
  by_cases g : w = 0 ∨ w = 1
  · rw [if_pos g, if_pos g] at k1
    have hE : zEq σ (sAsk σ) := by
      intro a b hab
      unfold sAsk xput
      rw [if_neg (by omega)]
    have e3 : xget (sAsk σ) 78 3 = σ 81 := by
      funext b
      show sAsk σ (78 + 3) b = σ 81 b
      exact hE 81 b (by omega)
    have gb : (decide (0 ≤ w) && decide (w ≤ 1)) = true := by
      rw [← bP_e]
      unfold bP
      rw [Bool.or_eq_true, decide_eq_true_eq, decide_eq_true_eq]
      exact g
    obtain ⟨FF, q⟩ := k175 X xshM (sAsk σ) (xget (sAsk σ) 78) xmod_M w n2 (by
      show sAsk σ (78 + 0) 2 = nI n2
      rw [hE (78 + 0) 2 (by omega)]
      exact s2) s1.1 gb
    rw [mget, e3] at q
    generalize hF5 : xget (sAsk σ) 78 5 = F5 at q
    obtain ⟨g1, g2⟩ := vGa_e (G := xget σ 36) (F := F5) s1
    have bk := rGa_l (T := σ 81) (n := n2) 3100 0 0 F5 (by omega) (Nat.zero_le _)
    have hz := vW2_e (F := (rGa (σ 81) n2 3100 0 0 F5).2) (K := (rGa (σ 81) n2 3100 0 0 F5).1) bk (fun t b ht hb => by
      obtain ⟨x, x1, x2, x3, x4⟩ := rGa_f (S := σ 81) (n := n2) (F := F5) 3100 (by omega) b hb
      rw [x4]
      exact rLv_b x1 x2 x3 ht) 10 0 (xup (xup (vGa (xget σ 17) (xget σ 36)) 0 3 (-6)) 0 4 (-6)) (-6, 1000000) (by omega) (by rw [xup_q (by omega), xup_q (by omega), g1]) (fun b hb => by rw [xup_q (by omega), xup_q (by omega)]; exact g2 b hb) (Or.inl ⟨xup_same, by rw [xup_q (by omega), xup_same], rfl⟩)
    have eAk : rTl (rGa (σ 81) n2 3100 0 0 F5).2 (rGa (σ 81) n2 3100 0 0 F5).1 10 0 (-6, 1000000) = rAk (σ 81) F5 n2 := rfl
    rw [eAk] at hz
    have eWe : vW2 10 0 (xup (xup (vGa (xget σ 17) (xget σ 36)) 0 3 (-6)) 0 4 (-6)) = vWe (vGa (xget σ 17) (xget σ 36)) := rfl
    rw [eWe] at hz
    have ea : (if w = 0 then vWe (vGa (xget σ 17) (xget σ 36)) 0 3 else vWe (vGa (xget σ 17) (xget σ 36)) 0 4) = (if (rAk (σ 81) F5 n2).1 < 0 then (rAk (σ 81) F5 n2).1 else if w = 0 then (rAk (σ 81) F5 n2).1 else (rAk (σ 81) F5 n2).2) := by
      rcases hz with ⟨a1, a2, a3⟩ | ⟨a1, a2, a3, a4⟩
      · rw [a1, a2, a3, if_pos m6_l]
        split <;> rfl
      · rw [a1, a2, if_neg (show ¬ (rAk (σ 81) F5 n2).1 < 0 by rw [ti_lt, q_0]; omega)]
    rw [ea] at k1
    refine ⟨_, _, _, k1, q, Rel_eq (zEq_t hE (zEq_M (fun a b hab => rR5_q (by omega)))) h⟩
  · rw [if_neg g, if_neg g] at k1
    have q := y175 X xshM σ (xget σ 78) xmod_M w (by
      have := k130 X w 0 1 (xshM, xput 8 σ 78 (xget σ 78))
      rw [← bP_e] at this
      have e : bP w = false := by
        unfold bP
        rw [Bool.or_eq_false_iff, decide_eq_false_iff_not, decide_eq_false_iff_not]
        exact ⟨fun c => g (Or.inl c), fun c => g (Or.inr c)⟩
      rw [e, xi_f] at this
      exact this)
    rw [mget] at q
    exact ⟨_, _, _, k1, q, h⟩
