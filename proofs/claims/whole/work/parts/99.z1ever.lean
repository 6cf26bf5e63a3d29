theorem uLUf_n {A : Nat → Nat → Int32} {p q : Int32} {s : Int32} : ∀ f, uLUf A p q f (-6) s = s
  | 0 => rfl
  | f + 1 => by rw [uLUf, m6_8, if_neg (by decide)]
/-- who ever leads: the loop -/
theorem ever_l (X : xX) (σ : Nat → Nat → Int32) {A : Nat → Nat → Int32} {p q : Int32} (hR : zR A) (hS : zS A) (hL : zL A) (hp : 0 ≤ p.toInt ∧ p.toInt ≤ 9999) (hq : 1 ≤ q.toInt ∧ q.toInt ≤ 100) : ∀ f w st M (P Q : Int), zN A (M 2) → 0 < Q → zLd A P Q 8 w → cSt A w < f → ∃ M', (∀ u5, xV X 160 (45, [.ref 78, .int p, .int q, .int (nI w), .int st, u5], [], (xshM, xput 8 σ 78 M)) = some (some (.int (uLUf A p q f (nI w) st)), (xshM, xput 8 σ 78 M'))) ∧ zMf M M'
  | 0, w, st, M, P, Q, hN, hQ, hw, hc => by omega
  | f + 1, w, st, M, P, Q, hN, hQ, hw, hc => by
    have w8 := hw.1
    have hP := rHP_of hR hN
    have q1 := k157 X xshM σ M xmod_M 1 w (by omega) (by omega) w8 hP
    have hmf : ∀ a b, zMf M (rL2 M a b) := fun a b c d hcd => rL2_q (by omega)
    rw [uLUf, if_pos (nI_i8 w8)]
    generalize hst : st ||| 1 <<< (nI w &&& 31) = st'
    have hN1 : ∀ a b, zN A (rL2 M a b 2) := fun a b => by rw [rL2_2]; exact hN
    have q2 := fun a b x y => k153 X xshM σ (rL2 M a b) xmod_M 1 x y (by omega) (by omega) (rHP_of hR (hN1 a b))
    rcases lay_c (m := 1) (a0 := M 0 13) (b0 := M 0 14) hS hL hN w8 8 (Nat.le_refl 8) with ⟨a1, a2⟩ | ⟨r, r1, r2, r3, r4⟩
    · have eLN : rLN M 1 w = (false, M 0 13, M 0 14) := a1
      rw [eLN] at q1
      have hs : uSuc A (nI w) p q = -6 := by
        unfold uSuc
        rcases suc_c hR hS hL w8 hp hq 8 (Nat.le_refl 8) with ⟨b1, -⟩ | ⟨x, x1, x2, -⟩
        · rw [b1, if_pos rfl]
        · exact absurd ⟨(rTo_1 hR hN x1).mpr x2.1, x2.2⟩ (a2 x x1)
      rw [hs, uLUf_n]
      refine ⟨_, fun u5 => ?_, hmf (M 0 13) (M 0 14)⟩
      rw [i160 X xshM σ M xmod_M (rL2 M (M 0 13) (M 0 14)) p q st _ (M 0 13) (M 0 14) w w8 false u5 q1 rL2_13 rL2_14 (q2 _ _ _ _), if_neg (show ¬ false = true by decide), if_neg (show ¬ false = true by decide), hst]
      exact x160 X xshM σ _ xmod_M p q (-6) st' _ m6_l
    · have hr8 : r < 8 := r1
      have hps : zPs A w r := ⟨(rTo_1 hR hN hr8).mp r2.1, r2.2⟩
      obtain ⟨c1, c2, c3, c4, c5, c6⟩ := gp_b hS hL w8 hr8
      have yr : 0 < zGn A w r := by unfold zGn; have := hps.2; omega
      have eLN : rLN M 1 w = (true, A 3 w - A 3 r, A 4 r - A 4 w) := r3
      rw [eLN] at q1
      have m1 := int_bm (x := zGp A w r) (c := 21800) (y := q.toInt) (d := 100) (by omega) (by omega) (by omega) (by omega) (by omega) (by omega)
      have m2 := int_bm (x := p.toInt) (c := 9999) (y := zGn A w r) (d := 100) (by omega) (by omega) (by omega) (by omega) (by omega) (by omega)
      have el : ((A 3 w - A 3 r) * q ≤ p * (A 4 r - A 4 w)) ↔ zGp A w r * q.toInt ≤ p.toInt * zGn A w r := by
        rw [ti_le, ti_mul (by rw [c1]; omega) (by rw [c1]; omega), ti_mul (by rw [c2]; omega) (by rw [c2]; omega), c1, c2]
      have e2 : rBst (rL2 M (A 3 w - A 3 r) (A 4 r - A 4 w) 2) 1 (A 3 w - A 3 r) (A 4 r - A 4 w) = uLd A (A 3 w - A 3 r) (A 4 r - A 4 w) 8 := (lead_e hR hS (hN1 _ _) 8 (Nat.le_refl 8)).symm
      have q2' := q2 (A 3 w - A 3 r) (A 4 r - A 4 w) (A 3 w - A 3 r) (A 4 r - A 4 w)
      rw [e2] at q2'
      by_cases g : zGp A w r * q.toInt ≤ p.toInt * zGn A w r
      · -- it passes in time
        rcases lead_c (p := A 3 w - A 3 r) (q := A 4 r - A 4 w) hR hS hL (by rw [c1]; omega) (by rw [c2]; omega) 8 (Nat.le_refl 8) with ⟨l1, l2⟩ | ⟨b, l1, l2⟩
        · have := l2 w w8
          rw [hw.2.1] at this
          exact absurd this (by decide)
        · rw [c1, c2] at l2
          have hst2 := lead_st hQ hw hr8 hps l2
          have hs : uSuc A (nI w) p q = nI b := by
            unfold uSuc
            rcases suc_c hR hS hL w8 hp hq 8 (Nat.le_refl 8) with ⟨-, b2⟩ | ⟨x, x1, x2, x3, x4, x5, x6, x7⟩
            · have := b2 r hr8 hps
              omega
            · rw [x5, if_neg (by decide), x3, x4]
              obtain ⟨d1, d2, d3, d4, d5, d6⟩ := gp_b hS hL w8 (r := x) x1
              have yx : 0 < zGn A w x := by unfold zGn; have := x2.2; omega
              rcases lead_c (p := A 3 w - A 3 x) (q := A 4 x - A 4 w) hR hS hL (by rw [d1]; omega) (by rw [d2]; omega) 8 (Nat.le_refl 8) with ⟨l3, l4⟩ | ⟨b', l3, l4⟩
              · have := l4 w w8
                rw [hw.2.1] at this
                exact absurd this (by decide)
              · rw [d1, d2] at l4
                have f1 := x7 r hr8 hps
                have f2 := r4 x x1 ⟨(rTo_1 hR hN x1).mpr x2.1, x2.2⟩
                have hfr := zLd_fr yx yr (show zGp A w x * zGn A w r = zGp A w r * zGn A w x by omega) l4
                rw [l3, zLd_u hfr l2]
          rw [hs]
          obtain ⟨M', e1, e3⟩ := ever_l X σ hR hS hL hp hq f b st' (rL2 M (A 3 w - A 3 r) (A 4 r - A 4 w)) _ _ (hN1 _ _) yr l2 (by have := cSt_lt l2.1 hst2; omega)
          refine ⟨M', fun u5 => ?_, zMf_t (hmf _ _) e3⟩
          rw [i160 X xshM σ M xmod_M (rL2 M (A 3 w - A 3 r) (A 4 r - A 4 w)) p q st _ _ _ w w8 true u5 q1 rL2_13 rL2_14 q2', if_pos rfl, if_pos (decide_eq_true (el.mpr g)), hst, l1]
          exact e1 _
      · have hs : uSuc A (nI w) p q = -6 := by
          unfold uSuc
          rcases suc_c hR hS hL w8 hp hq 8 (Nat.le_refl 8) with ⟨b1, -⟩ | ⟨x, x1, x2, x3, x4, x5, x6, x7⟩
          · rw [b1, if_pos rfl]
          · exfalso
            have f2 := r4 x x1 ⟨(rTo_1 hR hN x1).mpr x2.1, x2.2⟩
            have yx : 0 < zGn A w x := by unfold zGn; have := x2.2; omega
            exact g (int_tr (b := zGn A w r) (d := zGn A w x) (f := q.toInt) yr yx (by omega) f2 x6)
        rw [hs, uLUf_n]
        refine ⟨_, fun u5 => ?_, hmf (A 3 w - A 3 r) (A 4 r - A 4 w)⟩
        rw [i160 X xshM σ M xmod_M (rL2 M (A 3 w - A 3 r) (A 4 r - A 4 w)) p q st _ _ _ w w8 true u5 q1 rL2_13 rL2_14 q2', if_pos rfl, if_neg (by rw [decide_eq_true_eq]; exact fun c => g (el.mp c)), hst]
        exact x160 X xshM σ _ xmod_M p q (-6) st' _ m6_l
/-- ever -/
theorem c_12 (X : xX) (σ : Nat → Nat → Int32) (p q : Int32) (h : Rel σ) : zCi X 105 160 [.int p, .int q] σ := by
  obtain ⟨n, mk, s, hI, -, hV⟩ := h.1
  have hR := hI.1.1
  have hS := hI.1.2.1
  have hL := hI.2.2.2.1
  have hN := zN_now (M := xget σ 78) hI.1.2.2.1
  have k1 := k105 X xshM σ xkin_M p q
  have e40 : rNow (xget σ 78) 2 40 = nI s := by rw [← hN.2]; exact hV.2.1
  have e08 : xget σ 1 0 8 = nI s := hV.2.1
  have s99 := hV.1
  have ts := ti_nI (n := s) (by omega)
  have qn := k131 X xshM σ (xget σ 78) xmod_M
  rw [e08] at k1
  by_cases g : bT p q = true
  · rw [if_pos g] at k1
    obtain ⟨bp, bq⟩ := bT_i g
    by_cases g2 : p < nI s * q
    · rw [if_pos g2] at k1
      have qq := y160 X xshM σ (xget σ 78) xmod_M (rNow (xget σ 78)) p q (nI s) (bT p q) qn (k152 X p q _) e40 (fun _ => g2)
      rw [mget] at qq
      exact ⟨_, _, _, k1, qq, Rel_eq (zEq_M zMf_now) h⟩
    · rw [if_neg g2] at k1
      have q3 := k153 X xshM σ (rNow (xget σ 78)) xmod_M 1 (nI s) 1 (by omega) (by omega) (rHP_of hR hN)
      have e2 : rBst (rNow (xget σ 78) 2) 1 (nI s) 1 = uLd (xget σ 1) (nI s) 1 8 := (lead_e hR hS hN 8 (Nat.le_refl 8)).symm
      rw [e2] at q3
      have q152 := k152 X p q (xshM, xput 8 σ 78 (rNow (xget σ 78)))
      rw [g, xi_t] at q152
      unfold uLU at k1
      rw [e08] at k1
      rcases lead_c (A := xget σ 1) (p := nI s) (q := 1) hR hS hL (by rw [ts]; omega) (by rw [q_1]; omega) 8 (Nat.le_refl 8) with ⟨l1, l2⟩ | ⟨w, l1, l2⟩
      · rw [l1] at k1 q3
        rw [uLUf_n] at k1
        have qq := h160 X xshM σ (xget σ 78) xmod_M (rNow (xget σ 78)) p q (nI s) (-6) qn q152 e40 g2 q3 _ _ (fun u5 => x160 X xshM σ _ xmod_M p q (-6) 0 u5 m6_l)
        rw [mget] at qq
        exact ⟨_, _, _, k1, qq, Rel_eq (zEq_M zMf_now) h⟩
      · rw [l1] at k1 q3
        obtain ⟨M', m1, m2⟩ := ever_l X σ hR hS hL bp bq 8 w 0 (rNow (xget σ 78)) _ _ hN (by rw [q_1]; omega) l2 (cSt_8 l2.1)
        have qq := h160 X xshM σ (xget σ 78) xmod_M (rNow (xget σ 78)) p q (nI s) (nI w) qn q152 e40 g2 q3 _ _ m1
        rw [mget] at qq
        exact ⟨_, _, _, k1, qq, Rel_eq (zEq_M (zMf_t zMf_now m2)) h⟩
  · rw [if_neg g] at k1
    have qq := y160 X xshM σ (xget σ 78) xmod_M (rNow (xget σ 78)) p q (nI s) (bT p q) qn (k152 X p q _) e40 (fun c => absurd c g)
    rw [mget] at qq
    exact ⟨_, _, _, k1, qq, Rel_eq (zEq_M zMf_now) h⟩
