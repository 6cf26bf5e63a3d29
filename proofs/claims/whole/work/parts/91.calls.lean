theorem and5 {a b c d e : Bool} (h : (a && (b && (c && (d && e)))) = true) : a = true ∧ b = true ∧ c = true ∧ d = true ∧ e = true := by
  cases a <;> cases b <;> cases c <;> cases d <;> cases e <;> simp_all
theorem zK_N {A : Nat → Nat → Int32} {N : Nat → Int32} {i : Nat} (h : zK A N) (hi : i < 8) : A 1 i = N (8 + i) ∧ A 2 i = N (16 + i) ∧ A 3 i = N (24 + i) ∧ A 4 i = N (32 + i) ∧ A 5 i = N i ∧ (A 5 i = 0 ∨ A 5 i = 1) ∧ (A 1 i = 0 ∨ A 1 i = 1) ∧ ∃ p, p < 8 ∧ A 2 i = nI p := by
  obtain ⟨n, mk, s, hI, -, -⟩ := h
  have a := hI.1.2.2.1.1 i hi
  have b := hI.1.1.1 i hi
  exact ⟨a.1, a.2.1, a.2.2.1, a.2.2.2.1, a.2.2.2.2, b.1, b.2.1, b.2.2⟩
/-- runner -/
theorem c_0 (X : xX) (σ : Nat → Nat → Int32) (r k a b : Int32) (h : Rel σ) : zCi X 89 128 [.int r, .int k, .int a, .int b] σ := by
  have k1 := k89 X xshM σ xkin_M r k a b
  have h78 : ∀ c d, 78 ≤ c → sRun σ r k a b c d = σ c d := by
    intro c d hcd
    unfold sRun
    split
    · unfold xput
      rw [if_neg (by omega)]
    · rfl
  have q := k128 X xshM (sRun σ r k a b) (xget (sRun σ r k a b) 78) xmod_M r k a b
  rw [mget] at q
  have eM : ∀ c d, xget (sRun σ r k a b) 78 c d = σ (78 + c) d := fun c d => h78 (78 + c) d (by omega)
  have ekk : (decide (0 ≤ k) && decide (k ≤ 1)) = true ↔ (k = 0 ∨ k = 1) := by
    rw [Bool.and_eq_true, decide_eq_true_eq, decide_eq_true_eq, ti_le, ti_le, q_0, q_1, ti_e, ti_e, q_0, q_1]
    omega
  by_cases g : xin r 8 = true
  · obtain ⟨i, hi, rfl⟩ := xin_of g (by omega)
    have ci : (nI i).toNatClampNeg = i := nI_cl (by omega)
    obtain ⟨z1, z2, z3, z4, z5, z6, z7, p, p8, zp⟩ := zK_N h.1 hi
    have n16 : rNow (xget (sRun σ (nI i) k a b) 78) 2 (16 + i) = nI p := by rw [now_2 (by omega), eM, ← zp, z2]
    have n8 : rNow (xget (sRun σ (nI i) k a b) 78) 2 (8 + i) = xget σ 1 1 i := by rw [now_2 (by omega), eM, z1]
    have n0 : rNow (xget (sRun σ (nI i) k a b) 78) 2 i = xget σ 1 5 i := by rw [now_2 (by omega), eM, z5]
    have uk : uKind (xget σ 1) (nI i) = xget σ 1 1 i := by unfold uKind; rw [if_pos g, ci]
    have up : uPlace (xget σ 1) (nI i) = nI p := by unfold uPlace; rw [if_pos g, ci, zp]
    have ui : uIn (xget σ 1) (nI i) = xget σ 1 5 i := by
      unfold uIn
      rw [if_pos g, ci]
      rcases z6 with z | z
      · rw [z, if_pos rfl]
      · rw [z, if_neg (by decide)]
    by_cases gk : k = 0 ∨ k = 1
    · by_cases ga : (decide (-1000 ≤ a) && decide (a ≤ 1000)) = true
      · by_cases gb : (decide (-50 ≤ b) && decide (b ≤ 50)) = true
        · have hl := lane_e p8 gk
          by_cases gl : uLane (nI p) k = true
          · -- it is done
            have hnl := hl.mp gl
            have ea : aRun (xget σ 1) (nI i) k a b = 10 * xget σ 1 1 i + xget σ 1 5 i := by
              unfold aRun
              rw [if_pos g, if_pos gk, if_pos ga, if_pos gb, up, if_pos gl, uk, ui]
            have ed : dRun (xget (sRun σ (nI i) k a b) 78) (nI i) k a b = 10 * xget σ 1 1 i + xget σ 1 5 i := by
              unfold dRun
              rw [ci, n16, n8, n0, if_pos g, if_pos (ekk.mpr gk), if_pos ga, if_pos gb, if_neg (fun c => hnl ⟨c.2, c.1⟩)]
            have et : tRun (xget (sRun σ (nI i) k a b) 78) (nI i) k a b = rKeep (rAnew (rSet (rNow (xget (sRun σ (nI i) k a b) 78)) i k a b)) := by
              unfold tRun
              rw [ci, n16, if_pos g, if_pos (ekk.mpr gk), if_pos ga, if_pos gb, if_neg (fun c => hnl ⟨c.2, c.1⟩)]
            have bR : bRun (xget σ 1) (nI i) k a b = true := by
              unfold bRun
              rw [g, ga, gb, up, gl, decide_eq_true gk]
              rfl
            have es : sRun σ (nI i) k a b = xput 14 σ 1 (uAnew (xup (xup (xup (xup (xget σ 1) 1 i k) 3 i a) 4 i b) 5 i 1)) := by
              unfold sRun uEnr
              rw [if_pos bR, if_pos g, ci]
            rw [ea] at k1
            rw [ed, et] at q
            refine ⟨_, _, _, k1, q, ?_⟩
            -- the new cup
            have hk1 : zK (uAnew (xup (xup (xup (xup (xget σ 1) 1 i k) 3 i a) 4 i b) 5 i 1)) (rAnew (rSet (rNow (xget (sRun σ (nI i) k a b) 78)) i k a b) 2) := by
              obtain ⟨n, mk, s, hI, -, hV⟩ := h.1
              rw [Bool.and_eq_true, decide_eq_true_eq, decide_eq_true_eq, ti_le, ti_le, q_1000, q_m1000] at ga
              rw [Bool.and_eq_true, decide_eq_true_eq, decide_eq_true_eq, ti_le, ti_le, q_50, q_m50] at gb
              have hS := hI.1.2.1
              have hR := hI.1.1
              have hN := hI.1.2.2.1
              have qa : ∀ c d, ¬ (c = 1 ∧ d = i) → ¬ (c = 3 ∧ d = i) → ¬ (c = 4 ∧ d = i) → ¬ (c = 5 ∧ d = i) → xup (xup (xup (xup (xget σ 1) 1 i k) 3 i a) 4 i b) 5 i 1 c d = xget σ 1 c d := fun c d h1 h2 h3 h4 => by
                rw [xup_q h4, xup_q h3, xup_q h2, xup_q h1]
              have w1 : xup (xup (xup (xup (xget σ 1) 1 i k) 3 i a) 4 i b) 5 i 1 1 i = k := by rw [xup_q (by omega), xup_q (by omega), xup_q (by omega), xup_same]
              have w3 : xup (xup (xup (xup (xget σ 1) 1 i k) 3 i a) 4 i b) 5 i 1 3 i = a := by rw [xup_q (by omega), xup_q (by omega), xup_same]
              have w4 : xup (xup (xup (xup (xget σ 1) 1 i k) 3 i a) 4 i b) 5 i 1 4 i = b := by rw [xup_q (by omega), xup_same]
              have w5 : xup (xup (xup (xup (xget σ 1) 1 i k) 3 i a) 4 i b) 5 i 1 5 i = 1 := xup_same
              generalize xup (xup (xup (xup (xget σ 1) 1 i k) 3 i a) 4 i b) 5 i 1 = A1 at *
              have hms := int_ms (x := b.toInt) (s := s) (by omega) (by omega) (by have := hV.1; omega)
              refine anew_zK (s := s) ⟨fun j hj => ?_, fun j l hj hl hjl => ?_⟩ (fun j hj => ?_) ⟨hV.1, by rw [qa 0 8 (by omega) (by omega) (by omega) (by omega), hV.2.1], fun j hj => ?_⟩ ⟨fun j hj => ?_, ?_⟩
              · rw [qa 2 j (by omega) (by omega) (by omega) (by omega)]
                by_cases e : j = i
                · subst e
                  rw [w5, w1]
                  exact ⟨Or.inr rfl, gk, (hR.1 j hj).2.2⟩
                · rw [qa 5 j (by omega) (by omega) (by omega) (by omega), qa 1 j (by omega) (by omega) (by omega) (by omega)]
                  exact hR.1 j hj
              · rw [qa 2 j (by omega) (by omega) (by omega) (by omega), qa 2 l (by omega) (by omega) (by omega) (by omega)] at hjl
                exact hR.2 j l hj hl hjl
              · by_cases e : j = i
                · subst e
                  rw [w4]
                  omega
                · rw [qa 4 j (by omega) (by omega) (by omega) (by omega)]
                  exact hS j hj
              · by_cases e : j = i
                · subst e
                  rw [w3, w4]
                  omega
                · rw [qa 3 j (by omega) (by omega) (by omega) (by omega), qa 4 j (by omega) (by omega) (by omega) (by omega)]
                  exact hV.2.2 j hj
              · have nj := hN.1 j hj
                have qm : ∀ l, l < 331 → ¬ l = i → ¬ l = 8 + i → ¬ l = 24 + i → ¬ l = 32 + i → rSet (rNow (xget (sRun σ (nI i) k a b) 78)) i k a b 2 l = σ 79 l := fun l h0 h1 h2 h3 h4 => by
                  unfold rSet
                  rw [xup_q (by omega), xup_q (by omega), xup_q (by omega), xup_q (by omega), now_2 h0]
                  exact eM 1 l
                rw [qa 2 j (by omega) (by omega) (by omega) (by omega), qm (16 + j) (by omega) (by omega) (by omega) (by omega) (by omega)]
                by_cases e : j = i
                · subst e
                  rw [w1, w3, w4, w5]
                  unfold rSet
                  refine ⟨?_, nj.2.1, ?_, ?_, ?_⟩
                  · rw [xup_q (by omega), xup_q (by omega), xup_same]
                  · rw [xup_q (by omega), xup_same]
                  · rw [xup_same]
                  · rw [xup_q (by omega), xup_q (by omega), xup_q (by omega), xup_same]
                · rw [qa 1 j (by omega) (by omega) (by omega) (by omega), qa 3 j (by omega) (by omega) (by omega) (by omega), qa 4 j (by omega) (by omega) (by omega) (by omega), qa 5 j (by omega) (by omega) (by omega) (by omega), qm (8 + j) (by omega) (by omega) (by omega) (by omega) (by omega), qm (24 + j) (by omega) (by omega) (by omega) (by omega) (by omega), qm (32 + j) (by omega) (by omega) (by omega) (by omega) (by omega), qm j (by omega) (by omega) (by omega) (by omega) (by omega)]
                  exact nj
              · rw [qa 0 8 (by omega) (by omega) (by omega) (by omega)]
                unfold rSet
                rw [xup_q (by omega), xup_q (by omega), xup_q (by omega), xup_q (by omega), now_2 (by omega), eM]
                exact hN.2
            have hq : ∀ c d, (15 ≤ c ∧ c < 21 ∨ (40 ≤ c ∧ c < 78) ∨ c = 81 ∨ c = 82 ∨ c = 84 ∨ c = 85 ∨ (c = 78 ∧ (d = 2 ∨ d = 4))) → xput 8 (sRun σ (nI i) k a b) 78 (rKeep (rAnew (rSet (rNow (xget (sRun σ (nI i) k a b) 78)) i k a b))) c d = σ c d := by
              intro c d hcd
              unfold xput
              by_cases gg : 78 ≤ c ∧ c < 78 + 8
              · rw [if_pos gg, keep_q (by omega), rAnew_rw (by omega)]
                unfold rSet
                rw [xup_q (by omega), xup_q (by omega), xup_q (by omega), xup_q (by omega), now_q (by omega) (by omega), eM, show 78 + (c - 78) = c by omega]
              · rw [if_neg gg, es]
                unfold xput
                rw [if_neg (by omega)]
            obtain ⟨r1, ⟨n, ⟨p1, p2, p3⟩, p4⟩, ⟨n2, s1, s2⟩, r5, r6⟩ := id h
            refine ⟨zK_cb (fun c d hr => ?_) (fun l hl2 => ?_) hk1, ⟨n, ⟨p1, by rw [hq 15 1 (by omega), p2], fun l hl2 => by rw [hq 16 l (by omega), hq 82 l (by omega)]; exact p3 l hl2⟩, by rw [hq 78 4 (by omega), p4]⟩, ⟨n2, zSg_c ?_ (fun c l h1 h2 _ => ?_) (fun l _ => hq 81 l (by omega)) s1, by rw [hq 78 2 (by omega), s2]⟩, zIm_c (fun c d h1 h2 => hq c d (by omega)) (fun d => hq 84 d (by omega)) (fun d => hq 85 d (by omega)) r5, zIm_c (fun c d h1 h2 => hq c d (by omega)) (fun d => hq 84 d (by omega)) (fun d => hq 85 d (by omega)) r6⟩
            · have hc : c < 14 := by unfold rlv at hr; omega
              show xput 8 (sRun σ (nI i) k a b) 78 (rKeep (rAnew (rSet (rNow (xget (sRun σ (nI i) k a b) 78)) i k a b))) (1 + c) d = _
              unfold xput
              rw [if_neg (by omega), es]
              unfold xput
              rw [if_pos (by omega), show 1 + c - 1 = c by omega]
            · unfold xput
              rw [if_pos (by omega)]
              exact keep_1 hl2
            · unfold xget
              exact hq _ _ (by omega)
            · unfold xget
              exact hq _ _ (by omega)
          · have hnl : nI p < 4 ∧ k = 1 := Classical.byContradiction fun c => gl (hl.mpr c)
            have ea : aRun (xget σ 1) (nI i) k a b = -3 := by
              unfold aRun
              rw [if_pos g, if_pos gk, if_pos ga, if_pos gb, up, if_neg gl]
            have ed : dRun (xget (sRun σ (nI i) k a b) 78) (nI i) k a b = -3 := by
              unfold dRun
              rw [ci, n16, n8, n0, if_pos g, if_pos (ekk.mpr gk), if_pos ga, if_pos gb, if_pos ⟨hnl.2, hnl.1⟩]
            have et : tRun (xget (sRun σ (nI i) k a b) 78) (nI i) k a b = rNow (xget (sRun σ (nI i) k a b) 78) := by
              unfold tRun
              rw [ci, n16, if_pos g, if_pos (ekk.mpr gk), if_pos ga, if_pos gb, if_pos ⟨hnl.2, hnl.1⟩]
            have es : sRun σ (nI i) k a b = σ := by
              unfold sRun bRun
              rw [up, if_neg (by
                intro c
                exact gl (and5 c).2.2.2.2)]
            rw [ea] at k1
            rw [ed, et] at q
            rw [es] at k1 q
            exact ⟨_, _, _, k1, q, Rel_eq (zEq_M zMf_now) h⟩
        · have ea : aRun (xget σ 1) (nI i) k a b = -2 := by
            unfold aRun
            rw [if_pos g, if_pos gk, if_pos ga, if_neg gb]
          have es : sRun σ (nI i) k a b = σ := by
            unfold sRun bRun
            rw [if_neg (by
              intro c
              exact gb (and5 c).2.2.2.1)]
          have ed : dRun (xget (sRun σ (nI i) k a b) 78) (nI i) k a b = -2 := by
            unfold dRun
            rw [if_pos g, if_pos (ekk.mpr gk), if_pos ga, if_neg gb]
          have et : tRun (xget (sRun σ (nI i) k a b) 78) (nI i) k a b = xget (sRun σ (nI i) k a b) 78 := by
            unfold tRun
            rw [if_pos g, if_pos (ekk.mpr gk), if_pos ga, if_neg gb]
          rw [ea] at k1
          rw [ed, et, mget] at q
          rw [es] at k1 q
          exact ⟨_, _, _, k1, q, h⟩
      · have ea : aRun (xget σ 1) (nI i) k a b = -2 := by
          unfold aRun
          rw [if_pos g, if_pos gk, if_neg ga]
        have es : sRun σ (nI i) k a b = σ := by
          unfold sRun bRun
          rw [if_neg (by
            intro c
            exact ga (and5 c).2.2.1)]
        have ed : dRun (xget (sRun σ (nI i) k a b) 78) (nI i) k a b = -2 := by
          unfold dRun
          rw [if_pos g, if_pos (ekk.mpr gk), if_neg ga]
        have et : tRun (xget (sRun σ (nI i) k a b) 78) (nI i) k a b = xget (sRun σ (nI i) k a b) 78 := by
          unfold tRun
          rw [if_pos g, if_pos (ekk.mpr gk), if_neg ga]
        rw [ea] at k1
        rw [ed, et, mget] at q
        rw [es] at k1 q
        exact ⟨_, _, _, k1, q, h⟩
    · have ea : aRun (xget σ 1) (nI i) k a b = -2 := by
        unfold aRun
        rw [if_pos g, if_neg gk]
      have es : sRun σ (nI i) k a b = σ := by
        unfold sRun bRun
        rw [if_neg (by
          intro c
          exact gk (of_decide_eq_true (and5 c).2.1))]
      have ed : dRun (xget (sRun σ (nI i) k a b) 78) (nI i) k a b = -2 := by
        unfold dRun
        rw [if_pos g, if_neg (fun c => gk (ekk.mp c))]
      have et : tRun (xget (sRun σ (nI i) k a b) 78) (nI i) k a b = xget (sRun σ (nI i) k a b) 78 := by
        unfold tRun
        rw [if_pos g, if_neg (fun c => gk (ekk.mp c))]
      rw [ea] at k1
      rw [ed, et, mget] at q
      rw [es] at k1 q
      exact ⟨_, _, _, k1, q, h⟩
  · have ea : aRun (xget σ 1) r k a b = -1 := by
      unfold aRun
      rw [if_neg g]
    have es : sRun σ r k a b = σ := by
      unfold sRun bRun
      rw [if_neg (by
        intro c
        exact g (and5 c).1)]
    have ed : dRun (xget (sRun σ r k a b) 78) r k a b = -1 := by
      unfold dRun
      rw [if_neg g]
    have et : tRun (xget (sRun σ r k a b) 78) r k a b = xget (sRun σ r k a b) 78 := by
      unfold tRun
      rw [if_neg g]
    rw [ea] at k1
    rw [ed, et, mget] at q
    rw [es] at k1 q
    exact ⟨_, _, _, k1, q, h⟩
