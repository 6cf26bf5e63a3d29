theorem ite_chain6 {a b c d e f : Prop} [Decidable a] [Decidable b] [Decidable c] [Decidable d] [Decidable e] [Decidable f] {x v : Int32} (h : a ∨ b ∨ c ∨ d ∨ e ∨ f) : (if a then x else if b then x else if c then x else if d then x else if e then x else if f then x else v) = x := by
  repeat' split
  all_goals first | rfl | (exfalso; simp_all)
/-- run -/
theorem c_21 (X : xX) (σ : Nat → Nat → Int32) (x m w : Int32) (h : Rel σ) : zCi X 114 177 [.int x, .int m, .int w] σ := by
  have k1 := k114 X xshM σ xkin_M x m w (uWF_K h.1)
  have q1 := k130 X x 0 9999 (xshM, xput 8 (sRn σ x m w) 78 (xget (sRn σ x m w) 78))
  have q2 := k130 X m 1 99 (xshM, xput 8 (sRn σ x m w) 78 (xget (sRn σ x m w) 78))
  have q3 := k130 X w 0 2 (xshM, xput 8 (sRn σ x m w) 78 (xget (sRn σ x m w) 78))
  by_cases g : (0 ≤ x.toInt ∧ x.toInt ≤ 9999) ∧ (1 ≤ m.toInt ∧ m.toInt ≤ 99) ∧ (0 ≤ w.toInt ∧ w.toInt ≤ 2)
  · obtain ⟨⟨g1, g2⟩, ⟨g3, g4⟩, ⟨g5, g6⟩⟩ := g
    have t9 : (9999 : Int32).toInt = 9999 := q_9999
    rw [show (decide (0 ≤ x) && decide (x ≤ 9999)) = true by rw [Bool.and_eq_true, decide_eq_true_eq, decide_eq_true_eq, ti_le, ti_le, q_0, t9]; omega, xi_t] at q1
    rw [show (decide (1 ≤ m) && decide (m ≤ 99)) = true by rw [Bool.and_eq_true, decide_eq_true_eq, decide_eq_true_eq, ti_le, ti_le, q_1, q_99]; omega, xi_t] at q2
    rw [show (decide (0 ≤ w) && decide (w ≤ 2)) = true by rw [Bool.and_eq_true, decide_eq_true_eq, decide_eq_true_eq, ti_le, ti_le, q_0, q_2]; omega, xi_t] at q3
    have ex : x = nI x.toInt.toNat := ti_eq (by rw [ti_nI (by omega)]; omega)
    have em : m = nI m.toInt.toNat := ti_eq (by rw [ti_nI (by omega)]; omega)
    have cm : m.toNatClampNeg = m.toInt.toNat := by
      have := nI_cl (n := m.toInt.toNat) (by omega)
      rw [← em] at this
      exact this
    have es : sRn σ x m w = sDrw σ x m.toNatClampNeg := by
      unfold sRn
      rw [if_neg (by rw [ti_lt, q_0]; omega), if_neg (by rw [ti_lt, t9]; omega), if_neg (by rw [ti_lt, q_1]; omega), if_neg (by rw [ti_lt, q_99]; omega), if_neg (by rw [ti_lt, q_0]; omega), if_neg (by rw [ti_lt, q_2]; omega)]
    have ea : aRn σ x m w = (if w.toInt = 0 then uBest (xget (sDrw σ x m.toNatClampNeg) 22) 1 else if w.toInt = 1 then sDrw σ x m.toNatClampNeg 35 2 else sDrw σ x m.toNatClampNeg 35 1) := by
      unfold aRn
      rw [if_neg (by rw [ti_lt, q_0]; omega), if_neg (by rw [ti_lt, t9]; omega), if_neg (by rw [ti_lt, q_1]; omega), if_neg (by rw [ti_lt, q_99]; omega), if_neg (by rw [ti_lt, q_0]; omega), if_neg (by rw [ti_lt, q_2]; omega)]
    rw [es] at k1 q1 q2 q3
    have h78 : ∀ a b, 78 ≤ a → sDrw σ x m.toNatClampNeg a b = σ a b := by
      intro a b hab
      unfold sDrw xput uRh
      rw [if_neg (by omega), xup_q (by omega), xup_q (by omega), xup_q (by omega)]
    have hE : zEq σ (sDrw σ x m.toNatClampNeg) := by
      intro a b hab
      unfold sDrw xput uRh
      rw [if_neg (by omega), xup_q (by omega), xup_q (by omega), xup_q (by omega)]
    have e22 : ∀ a b, a < 14 → xget (sDrw σ x m.toNatClampNeg) 22 a b = uDw m.toNatClampNeg 0 x (uBeg (xget σ 22) (xget σ 1)) a b := by
      intro a b ha
      unfold sDrw
      rw [xget_put ha]
    generalize hσ1 : sDrw σ x m.toNatClampNeg = σ1 at *
    have hK : zK (xget σ 1) (xget σ1 78 1) := zK_cb (fun _ _ _ => rfl) (fun k _ => h78 79 k (by omega)) h.1
    obtain ⟨s, hA⟩ := beg_A (A := xget σ 22) (M := xget σ1 78) hK
    obtain ⟨M', s', e', d1, d2, d3⟩ := drw_all X xshM σ1 xmod_M x w m.toInt.toNat (by omega) (by omega) x.toInt.toNat (uBeg (xget σ 22) (xget σ 1)) (rNow (xget σ1 78)) s (by omega) hA
    have q := h177 X xshM σ1 (xget σ1 78) xmod_M (rNow (xget σ1 78)) x m w q1 q2 q3 (k131 X xshM σ1 (xget σ1 78) xmod_M) _ _ (fun u6 => by
      have dd := d1 u6
      rw [nI_0, ← em, ← ex] at dd
      exact dd)
    rw [mget] at q
    have ev : aRn σ x m w = (if w = 0 then M' 2 42 else if w = 1 then M' 0 8 else M' 0 7) := by
      rw [ea]
      rw [← ex] at d2
      rw [cm] at e22
      obtain ⟨⟨n, mk, hI, -⟩, -, t1, t2, t3, -⟩ := d2
      have u1 : uBest (xget σ1 22) 1 = M' 2 42 := by
        unfold uBest
        rw [if_pos (by decide), show (1 : Int32).toNatClampNeg = 1 by decide, e22 6 1 (by omega)]
        exact (hI.1.2.2.2.1.2.2.2.2 1 (by omega) (by omega) trivial).2.1
      have u2 : σ1 35 2 = M' 0 8 := by
        have := e22 13 2 (by omega)
        rw [t3] at this
        exact this
      have u3 : σ1 35 1 = M' 0 7 := by
        have := e22 13 1 (by omega)
        rw [t2] at this
        exact this
      rw [u1, u2, u3]
      simp only [ti_e, q_0, q_1]
    rw [ev] at k1
    exact ⟨_, _, _, k1, q, Rel_eq (zEq_t hE (zEq_M (zMf_t zMf_now (zMf_fr d3)))) h⟩
  · have t9 : (9999 : Int32).toInt = 9999 := q_9999
    have es : sRn σ x m w = σ := by
      unfold sRn
      simp only [ti_lt, q_0, q_1, q_2, q_99, t9]
      repeat' split
      all_goals first | rfl | (exfalso; omega)
    have ea : aRn σ x m w = -2 := by
      unfold aRn
      simp only [ti_lt, q_0, q_1, q_2, q_99, t9]
      exact ite_chain6 (by omega)
    rw [es] at k1 q1 q2 q3
    rw [ea] at k1
    have q := y177 X xshM σ (xget σ 78) xmod_M x m w _ _ _ q1 q2 q3 (by
      rw [Bool.and_eq_false_iff, Bool.and_eq_false_iff, Bool.and_eq_false_iff, Bool.and_eq_false_iff, Bool.and_eq_false_iff, decide_eq_false_iff_not, decide_eq_false_iff_not, decide_eq_false_iff_not, decide_eq_false_iff_not, decide_eq_false_iff_not, decide_eq_false_iff_not, ti_le, ti_le, ti_le, ti_le, ti_le, ti_le, q_0, q_1, q_2, q_99, t9]
      omega)
    rw [mget] at q
    exact ⟨_, _, _, k1, q, h⟩
