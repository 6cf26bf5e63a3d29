theorem rBs_s {N : Nat → Int32} {m : Nat} {p q : Int32} : ∀ d i f, rBs N m p q (d + 1) i f = (if rTo N m (i + d) = true then rBet N (rBs N m p q d i f) (nI (i + d)) p q else rBs N m p q d i f)
  | 0, i, f => rfl
  | d + 1, i, f => by
    rw [rBs, rBs_s d (i + 1), show i + 1 + d = i + (d + 1) by omega]
    rfl
theorem rIs_1 : ∀ p, p < 8 → rIs 1 p = true := by decide
theorem uLd_ok {A : Nat → Nat → Int32} {p q : Int32} : ∀ k, k ≤ 8 → okR (uLd A p q k)
  | 0, _ => okR_6
  | k + 1, h => by
    rw [uLd]
    split
    · exact uLd_ok k (by omega)
    · exact ahead_ok (uLd_ok k (by omega)) (okR_n (by omega))
/-- who leads: the same -/
theorem lead_e {A : Nat → Nat → Int32} {N : Nat → Int32} {p q : Int32} (hR : zR A) (hS : zS A) (hN : zN A N) : ∀ k, k ≤ 8 → uLd A p q k = rBs N 1 p q k 0 (-6)
  | 0, _ => rfl
  | k + 1, h => by
    obtain ⟨h01, -, pl, p8, ep⟩ := hR.1 k (by omega)
    have nk := hN.1 k (by omega)
    have et : rTo N 1 k = decide (N k = 1) := by
      rw [rTo_e (p := pl) (by rw [← nk.2.1, ep]) p8, rIs_1 pl p8, Bool.and_true]
    rw [uLd, rBs_s, Nat.zero_add, et, ← nk.2.2.2.2, ← lead_e hR hS hN k (by omega)]
    rcases h01 with g | g
    · rw [g, if_pos rfl, if_neg (by decide)]
    · rw [g, if_neg (by decide), if_pos (by decide), ahead_e hS hN (uLd_ok k (by omega)) (okR_n (by omega))]
theorem zN_now {A M : Nat → Nat → Int32} (h : zN A (M 1)) : zN A (rNow M 2) := by
  refine ⟨fun i hi => ?_, ?_⟩
  · rw [now_2 (by omega), now_2 (by omega), now_2 (by omega), now_2 (by omega), now_2 (by omega)]
    exact h.1 i hi
  · rw [now_2 (by omega)]
    exact h.2
theorem rHP_of {A : Nat → Nat → Int32} {N : Nat → Int32} (hR : zR A) (hN : zN A N) : rHP N := by
  intro i hi
  obtain ⟨-, -, p, p8, ep⟩ := hR.1 i hi
  exact ⟨p, p8, by rw [← (hN.1 i hi).2.1, ep]⟩
/-- leads -/
theorem c_9 (X : xX) (σ : Nat → Nat → Int32) (p q : Int32) (h : Rel σ) : zCi X 99 151 [.int p, .int q] σ := by
  obtain ⟨n, mk, s, hI, -, hV⟩ := h.1
  have hN := zN_now (M := xget σ 78) hI.1.2.2.1
  have k1 := k99 X xshM σ xkin_M p q
  have q2 := k153 X xshM σ (rNow (xget σ 78)) xmod_M 1 p q (by omega) (by omega) (rHP_of hI.1.1 hN)
  have qq := k151 X xshM σ (xget σ 78) xmod_M p q (rNow (xget σ 78)) _ (bT p q) (k152 X p q _) (k131 X xshM σ (xget σ 78) xmod_M) q2
  rw [mget] at qq
  have e : rBst (rNow (xget σ 78) 2) 1 p q = uLd (xget σ 1) p q 8 := (lead_e hI.1.1 hI.1.2.1 hN 8 (by omega)).symm
  rw [e] at qq
  refine ⟨_, _, _, k1, qq, Rel_eq ?_ h⟩
  split
  · exact zEq_M zMf_now
  · exact zEq_M zMf_r
/-- told -/
theorem c_24 (X : xX) (σ : Nat → Nat → Int32) (w : Int32) (h : Rel σ) : zCi X 117 180 [.int w] σ := by
  obtain ⟨r1, ⟨n, ⟨p1, p2, p3⟩, p4⟩, ⟨n2, s1, s2⟩, r5, r6⟩ := id h
  have k1 := k117 X xshM σ xkin_M w
  suffices hs : xK X 180 [.ref 78, .int w] (xshM, σ) = some (some (.int (aTol σ w)), (xshM, σ)) from ⟨_, _, _, k1, hs, h⟩
  obtain ⟨nn, mk, s, hI, -, hV⟩ := id r1
  have hP := hI.1.2.2.2.1
  by_cases g0 : w.toInt < 0
  · have ea : aTol σ w = -2 := by unfold aTol; rw [if_pos (by rw [ti_lt, q_0]; exact g0)]
    have q := d180 X xshM σ (xget σ 78) xmod_M w (by rw [ti_lt, q_10]; omega) (by omega) (by omega) (by omega) (by omega) (by omega)
    rw [mget] at q
    rw [ea, q]
  · by_cases g1 : w.toInt < 10
    · have ea : aTol σ w = aTa σ w := by unfold aTol; rw [if_neg (by rw [ti_lt, q_0]; omega), if_pos (by rw [ti_lt, q_10]; omega)]
      rw [ea]
      unfold aTa
      by_cases c0 : w.toInt = 0
      · have e : w = 0 := ti_eq (by rw [c0, q_0])
        subst e
        have q := c180_0 X xshM σ (xget σ 78) xmod_M
        rw [mget] at q
        rw [q, if_pos q_0, p2]
        show some (some (Value.int (σ (78 + 0) 4)), _) = _
        rw [show (78 + 0) = 78 from rfl, p4]
      · by_cases c1 : w.toInt = 1
        · have e : w = 1 := ti_eq (by rw [c1, q_1])
          subst e
          have q := c180_1 X xshM σ (xget σ 78) xmod_M
          rw [mget] at q
          rw [q, if_neg c0, if_pos q_1, hI.1.2.2.1.2]
          rfl
        · by_cases c2 : w.toInt = 2
          · have e : w = 2 := ti_eq (by rw [c2, q_2])
            subst e
            have q := c180_2 X xshM σ (xget σ 78) xmod_M
            rw [mget] at q
            have u1 : uBest (xget σ 1) 1 = σ 79 42 := by
              unfold uBest
              rw [if_pos (by decide), show (1 : Int32).toNatClampNeg = 1 by decide]
              exact (hP.2.2.2.2 1 (by omega) (by omega) trivial).2.1
            rw [q, if_neg c0, if_neg c1, if_pos q_2, u1]
            rfl
          · by_cases c3 : w.toInt = 3
            · have e : w = 3 := ti_eq (by rw [c3, q_3])
              subst e
              have q := c180_3 X xshM σ (xget σ 78) xmod_M
              rw [mget] at q
              have u1 : xget σ 1 7 5 = σ 79 73 := by
                rw [hP.1]
                exact hP.2.1.symm
              rw [q, if_neg c0, if_neg c1, if_neg c2, if_pos q_3, u1]
              rfl
            · by_cases c4 : w.toInt = 4
              · have e : w = 4 := ti_eq (by rw [c4, q_4])
                subst e
                have q := c180_4 X xshM σ (xget σ 78) xmod_M
                rw [mget] at q
                rw [q, if_neg c0, if_neg c1, if_neg c2, if_neg c3, if_pos q_4, s1.2.1]
                show some (some (Value.int (σ (78 + 0) 2)), _) = _
                rw [show (78 + 0) = 78 from rfl, s2]
              · have q := d180 X xshM σ (xget σ 78) xmod_M w (by rw [ti_lt, q_10]; omega) c0 c1 c2 c3 c4
                rw [mget] at q
                rw [q, if_neg c0, if_neg c1, if_neg c2, if_neg c3, if_neg c4]
    · -- ten or more
      have ea : aTol σ w = aTo (xget σ 1) (w / 10) (w - w / 10 * 10) := by unfold aTol; rw [if_neg (by rw [ti_lt, q_0]; omega), if_neg (by rw [ti_lt, q_10]; omega)]
      have ew : w = nI w.toInt.toNat := ti_eq (by
        have := Int32.toInt_lt w
        rw [ti_nI (by omega)]; omega)
      have hb := Int32.toInt_lt w
      generalize hk : w.toInt.toNat = k at *
      have k10 : 10 ≤ k := by omega
      have kb : k < 2147483648 := by omega
      have ed : w / 10 = nI (k / 10) := by rw [ew]; exact nI_dv (d := 10) kb (by omega) (by omega)
      have em : w - w / 10 * 10 = nI (k % 10) := by rw [ew]; exact nI_md (d := 10) kb (by omega) (by omega)
      have m10 : k % 10 < 10 := Nat.mod_lt _ (by omega)
      rw [ea, em, ed]
      have t5 : nI (k / 10) = 5 ↔ k / 10 = 5 := by rw [ti_e, ti_nI (by omega), q_5]; omega
      by_cases g5 : 50 ≤ k
      · have nw : ¬ w < 50 := by rw [ti_lt, q_50]; omega
        have eb : (decide (51 ≤ w) && decide (w ≤ 57)) = true ↔ 51 ≤ k ∧ k ≤ 57 := by
          rw [Bool.and_eq_true, decide_eq_true_eq, decide_eq_true_eq, ti_le, ti_le, show (51 : Int32).toInt = 51 by decide, show (57 : Int32).toInt = 57 by decide]
          omega
        by_cases g6 : 51 ≤ k ∧ k ≤ 57
        · have q := a180 X xshM σ (xget σ 78) xmod_M w (k - 50) (by omega) nw _ (k130 X w 51 57 _) (fun _ => by
            rw [ew, show (9 : Int32) = nI 9 from rfl, nI_sb (by omega), show k - 9 = 41 + (k - 50) by omega])
          rw [mget, if_pos (eb.mpr g6)] at q
          rw [q]
          unfold aTo uBest
          rw [if_pos (t5.mpr (by omega)), if_pos (uM_n (by omega) (by omega)), if_pos (uM_n (by omega) (by omega)), nI_cl (by omega), show k % 10 = k - 50 by omega, (hP.2.2.2.2 (k - 50) (by omega) (by omega) trivial).2.1]
          rfl
        · have q := a180 X xshM σ (xget σ 78) xmod_M w 0 (by omega) nw _ (k130 X w 51 57 _) (fun c => absurd (eb.mp c) g6)
          rw [mget, if_neg (fun c => g6 (eb.mp c))] at q
          rw [q]
          unfold aTo
          by_cases g7 : k / 10 = 5
          · rw [if_pos (t5.mpr g7), if_neg (by
              unfold uM
              rw [Bool.and_eq_true, decide_eq_true_eq, decide_eq_true_eq, ti_le, ti_le, q_1, q_7, ti_nI (by omega)]
              omega)]
          · rw [if_neg (fun c => g7 (t5.mp c))]
            split
            · rw [ti_nI (by omega), if_neg (by omega), if_neg (by omega), if_neg (by omega), if_neg (by omega)]
            · rfl
      · have lw : w < 50 := by rw [ti_lt, q_50]; omega
        have lw2 : ¬ w < 10 := by rw [ti_lt, q_10]; omega
        unfold aTo
        rw [if_neg (fun c => by have := t5.mp c; omega)]
        have x8 : xin (nI (k % 10)) 8 = true ↔ k % 10 < 8 := by rw [xin_nI (by omega), decide_eq_true_eq]
        have tk := ti_nI (n := k / 10) (by omega)
        rcases (show k / 10 = 1 ∨ k / 10 = 2 ∨ k / 10 = 3 ∨ k / 10 = 4 by omega) with c | c | c | c
        · have q := b180_1 X xshM σ (xget σ 78) xmod_M w (k % 10) m10 lw lw2 em (by rw [ed, c]; rfl)
          rw [mget] at q
          rw [q, tk, c]
          by_cases g8 : k % 10 < 8
          · obtain ⟨z1, z2, z3, z4, z5, z6, -⟩ := zK_N r1 g8
            rw [if_pos g8, if_pos (x8.mpr g8), if_pos (by omega)]
            unfold uIn
            rw [if_pos (x8.mpr g8), nI_cl (by omega)]
            have e : xget σ 78 1 (k % 10) = xget σ 1 5 (k % 10) := z5.symm
            rw [e]
            rcases z6 with z | z
            · rw [z, if_pos rfl]
            · rw [z, if_neg (by decide)]
          · rw [if_neg g8, if_neg (fun c => g8 (x8.mp c))]
        · have q := b180_2 X xshM σ (xget σ 78) xmod_M w (k % 10) m10 lw lw2 em (by rw [ed, c]; rfl)
          rw [mget] at q
          rw [q, tk, c]
          by_cases g8 : k % 10 < 8
          · obtain ⟨z1, z2, z3, z4, z5, z6, -⟩ := zK_N r1 g8
            rw [if_pos g8, if_pos (x8.mpr g8), if_neg (by omega), if_pos (by omega)]
            unfold uKind
            rw [if_pos (x8.mpr g8), nI_cl (by omega), z1]
            rfl
          · rw [if_neg g8, if_neg (fun c => g8 (x8.mp c))]
        · have q := b180_3 X xshM σ (xget σ 78) xmod_M w (k % 10) m10 lw lw2 em (by rw [ed, c]; rfl)
          rw [mget] at q
          rw [q, tk, c]
          by_cases g8 : k % 10 < 8
          · obtain ⟨z1, z2, z3, z4, z5, z6, -⟩ := zK_N r1 g8
            rw [if_pos g8, if_pos (x8.mpr g8), if_neg (by omega), if_neg (by omega), if_pos (by omega)]
            unfold uPlace
            rw [if_pos (x8.mpr g8), nI_cl (by omega), z2]
            rfl
          · rw [if_neg g8, if_neg (fun c => g8 (x8.mp c))]
        · have q := b180_4 X xshM σ (xget σ 78) xmod_M w (k % 10) m10 lw lw2 em (by rw [ed, c]; rfl)
          rw [mget] at q
          rw [q, tk, c]
          by_cases g8 : k % 10 < 8
          · obtain ⟨z1, z2, z3, z4, z5, z6, -⟩ := zK_N r1 g8
            rw [if_pos g8, if_pos (x8.mpr g8), if_neg (by omega), if_neg (by omega), if_neg (by omega), if_pos (by omega)]
            unfold uSlope
            rw [if_pos (x8.mpr g8), nI_cl (by omega), z4]
            rfl
          · rw [if_neg g8, if_neg (fun c => g8 (x8.mp c))]
