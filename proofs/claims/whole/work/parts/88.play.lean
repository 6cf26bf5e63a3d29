theorem fo_v {P : Nat → Int32} {n : Nat} : ∀ d k st, k + d = n → rFo P n d k st = -6 ∨ ∃ j, j ≤ n ∧ rFo P n d k st = nI j
  | 0, k, st, h => by
    rw [rFo]
    split
    · exact Or.inl rfl
    · exact Or.inr ⟨n, by omega, rfl⟩
  | d + 1, k, st, h => by
    rw [rFo]
    split
    · exact Or.inr ⟨k, by omega, rfl⟩
    · exact fo_v d (k + 1) _ (by omega)
theorem play_eq (σ : Nat → Nat → Int32) : zEq σ (sPlay σ) := by
  intro a b hab
  unfold sPlay xput uRh
  rw [if_neg (by omega), xup_q (by omega), xup_q (by omega), xup_q (by omega)]
theorem play_22 (σ : Nat → Nat → Int32) {a b : Nat} (ha : a < 14) : xget (sPlay σ) 22 a b = (uP σ).2.2.2.2 a b := by
  unfold sPlay
  rw [xget_put ha]
  rfl
theorem play_78 (σ : Nat → Nat → Int32) {a b : Nat} (h : 36 ≤ a) : sPlay σ a b = σ a b := by
  unfold sPlay xput uRh
  rw [if_neg (by omega), xup_q (by omega), xup_q (by omega), xup_q (by omega)]
/-- what the text comes to: class and reference -/
theorem dsim (X : xX) (σ σ1 : Nat → Nat → Int32) (hR : Rel σ) (h78 : ∀ a b, 78 ≤ a → σ1 a b = σ a b) {n : Nat} (hp : zPd σ (σ 82) n) (h4 : σ 78 4 = nI n) (hff : vFF σ 60 0 = -6) : ∃ M' a, xK X 138 [.ref 78] (xshM, σ1) = some (some (.int a), (xshM, xput 8 σ1 78 M')) ∧ zMf (xget σ1 78) M' ∧ (((uP σ).1 = 1 ∧ (uP σ).2.2.1 = -6 ∧ (uP σ).2.2.2.1 = -6 ∧ a = -6 ∧ M' 0 12 = nI (uP σ).2.1 ∧ ∃ s e, zA (uP σ).2.2.2.2 M' s e) ∨ ((uP σ).1 = 0 ∧ (uP σ).2.1 < 1000 ∧ (uP σ).2.2.1 = nI (uP σ).2.1 ∧ a = nI (uP σ).2.1 ∧ M' 0 11 = (uP σ).2.2.2.1)) := by
  have n60 := hp.1
  have eP : uP σ = uPl σ 60 0 0 (uBeg (xget σ 22) (xget σ 1)) := by
    unfold uP uPlay
    rw [if_pos hff]
  have hK : zK (xget σ 1) (xget σ1 78 1) := zK_cb (fun _ _ _ => rfl) (fun k _ => h78 79 k (by omega)) hR.1
  obtain ⟨s, hA⟩ := beg_A (A := xget σ 22) (M := xget σ1 78) hK
  have hA2 := zA_r (M' := xup (rNow (xget σ1 78)) 0 12 0) (fun k => xup_q (by omega)) (fun b h1 h2 => xup_q (by omega)) hA
  have e4 : xup (rNow (xget σ1 78)) 0 12 0 4 = σ 82 := by
    funext b
    rw [xup_q (by omega), now_q (by omega) (by omega)]
    exact h78 82 b (by omega)
  have e04 : xup (rNow (xget σ1 78)) 0 12 0 0 4 = nI n := by
    rw [xup_q (by omega), now_q (by omega) (by omega)]
    show σ1 78 4 = nI n
    rw [h78 78 4 (by omega), h4]
  have fe := ff_e hp 60 0 (by omega) (by omega)
  rw [nI_0, Nat.sub_zero, hff] at fe
  obtain ⟨M', f1, f2⟩ := days_sim X xshM σ1 σ xmod_M 60 (uBeg (xget σ 22) (xget σ 1)) (xup (rNow (xget σ1 78)) 0 12 0) 0 s 0 0 (by rw [e4]; exact hp) e04 (by omega) (by omega) (by omega) (by rw [xup_same, nI_0]) (by omega) hA2 (by rw [e4, Nat.sub_zero]; exact fe.symm)
  have q1 := k131 X xshM σ1 (xget σ1 78) xmod_M
  rw [nI_0, ← eP] at f2
  have hmf : zMf (xget σ1 78) M' := zMf_t zMf_now (zMf_t (fun a b hab => xup_q (by omega)) (zMf_fr f1))
  rcases f2 with ⟨g1, g2, g3, g4, g5, g6⟩ | ⟨g1, g2, g3, g4, g5⟩
  · have q := h138 X xshM σ1 (xget σ1 78) xmod_M _ _ q1 rfl _ _ g4
    rw [mget] at q
    exact ⟨M', -6, q, hmf, Or.inl ⟨g1, g2, g3, rfl, g5, g6⟩⟩
  · have q := h138 X xshM σ1 (xget σ1 78) xmod_M _ _ q1 rfl _ _ g4
    rw [mget] at q
    exact ⟨M', _, q, hmf, Or.inr ⟨g1, g2, g3, rfl, g5⟩⟩
theorem flt_q (X : xX) (σ σ1 : Nat → Nat → Int32) (h78 : ∀ a b, 78 ≤ a → σ1 a b = σ a b) {n : Nat} (hp : zPd σ (σ 82) n) (h4 : σ 78 4 = nI n) : xK X 135 [.ref 78] (xshM, σ1) = some (some (.int (vFF σ 60 0)), (xshM, σ1)) ∧ (vFF σ 60 0 = -6 ∨ ¬ vFF σ 60 0 < 0) := by
  have n60 := hp.1
  have e4 : xget σ1 78 4 = σ 82 := by
    funext b
    exact h78 82 b (by omega)
  have q := k135 X xshM σ1 (xget σ1 78) xmod_M n (by
    show σ1 78 4 = nI n
    rw [h78 78 4 (by omega), h4]) n60
  have fe := ff_e hp 60 0 (by omega) (by omega)
  rw [nI_0, Nat.sub_zero] at fe
  rw [mget, e4, ← fe] at q
  refine ⟨q, ?_⟩
  rw [fe]
  rcases fo_v (P := σ 82) (n := n) n 0 0 (by omega) with c | ⟨j, c1, c2⟩
  · exact Or.inl c
  · exact Or.inr (by rw [c2]; exact nI_nn (by omega))
theorem bsim (X : xX) (σ σ1 : Nat → Nat → Int32) (hR : Rel σ) (h78 : ∀ a b, 78 ≤ a → σ1 a b = σ a b) : ∃ b M', xK X 147 [.ref 78] (xshM, σ1) = some (some (.int b), (xshM, xput 8 σ1 78 M')) ∧ zMf (xget σ1 78) M' ∧ (((uP σ).1 = 0 ∧ b = -5) ∨ ((uP σ).1 = 1 ∧ b = 0 ∧ M' 0 12 = nI (uP σ).2.1 ∧ ∃ s e, zA (uP σ).2.2.2.2 M' s e)) := by
  obtain ⟨r1, ⟨n, hp, p4⟩, r3, r5, r6⟩ := id hR
  obtain ⟨q1, hv⟩ := flt_q X σ σ1 h78 hp p4
  have eM : (xshM, σ1) = (xshM, xput 8 σ1 78 (xget σ1 78)) := by rw [mget]
  rcases hv with hv | hv
  · obtain ⟨M', a, q2, hmf, hc⟩ := dsim X σ σ1 hR h78 hp p4 hv
    have q := k147 X xshM σ1 (xget σ1 78) xmod_M M' (vFF σ 60 0) a (by rw [mget]; exact q1) (fun _ => by rw [mget]; exact q2)
    rw [mget, hv, if_pos m6_l, if_pos m6_l] at q
    rcases hc with ⟨c1, c2, c3, c4, c5, c6⟩ | ⟨c1, c2, c3, c4, c5⟩
    · rw [c4, if_pos m6_l] at q
      exact ⟨0, M', q, hmf, Or.inr ⟨c1, rfl, c5, c6⟩⟩
    · rw [c4, if_neg (nI_nn c2)] at q
      exact ⟨-5, M', q, hmf, Or.inl ⟨c1, rfl⟩⟩
  · have q := k147 X xshM σ1 (xget σ1 78) xmod_M (xget σ1 78) (vFF σ 60 0) 0 (by rw [mget]; exact q1) (fun c => absurd c hv)
    rw [if_neg hv, if_neg hv] at q
    refine ⟨-5, xget σ1 78, by rw [← q, mget], zMf_r, Or.inl ⟨?_, rfl⟩⟩
    unfold uP uPlay
    rw [if_neg (fun c => hv (by rw [c]; exact m6_l))]
/-- judge -/
theorem c_4 (X : xX) (σ : Nat → Nat → Int32) (w : Int32) (h : Rel σ) : zCi X 94 137 [.int w] σ := by
  obtain ⟨r1, ⟨n, hp, p4⟩, r3, r5, r6⟩ := id h
  have k1 := k94 X xshM σ xkin_M w (uWF_K r1)
  have ebb : (decide (0 ≤ w) && decide (w ≤ 1)) = true ↔ (w = 0 ∨ w = 1) := by
    rw [Bool.and_eq_true, decide_eq_true_eq, decide_eq_true_eq, ti_le, ti_le, q_0, q_1, ti_e, ti_e, q_0, q_1]
    omega
  have h78 : ∀ a b, 78 ≤ a → sJud σ w a b = σ a b := by
    intro a b hab
    unfold sJud
    split
    · exact play_78 σ (by omega)
    · rfl
  have hE : zEq σ (sJud σ w) := by
    unfold sJud
    split
    · exact play_eq σ
    · exact fun _ _ _ => rfl
  obtain ⟨q1, hv⟩ := flt_q X σ (sJud σ w) h78 hp p4
  have qb := k130 X w 0 1 (xshM, xput 8 (sJud σ w) 78 (xget (sJud σ w) 78))
  rcases hv with hv | hv
  · obtain ⟨M', a, q2, hmf, hc⟩ := dsim X σ (sJud σ w) h h78 hp p4 hv
    have q := k137 X xshM (sJud σ w) (xget (sJud σ w) 78) xmod_M w _ qb M' (vFF σ 60 0) a (by rw [mget]; exact q1) (fun _ => by rw [mget]; exact q2)
    rw [mget, hv, if_pos m6_l, if_pos m6_l] at q
    have ea : aJud σ w = (if (decide (0 ≤ w) && decide (w ≤ 1)) = true then (if a < 0 then a else if w = 0 then a else M' 0 11) else -2) := by
      unfold aJud
      by_cases g : w = 0 ∨ w = 1
      · rw [if_pos g, if_pos hv, if_pos (ebb.mpr g)]
        rcases hc with ⟨c1, c2, c3, c4, c5, c6⟩ | ⟨c1, c2, c3, c4, c5⟩
        · rw [c2, c3, c4, if_pos m6_l]
          split <;> rfl
        · rw [c4, if_neg (nI_nn c2), c3, c5]
      · rw [if_neg g, if_neg (fun c => g (ebb.mp c))]
    rw [← ea] at q
    refine ⟨_, _, _, k1, q, Rel_eq (zEq_t hE ?_) h⟩
    by_cases g : (decide (0 ≤ w) && decide (w ≤ 1)) = true
    · rw [if_pos g]
      exact zEq_M hmf
    · rw [if_neg g]
      exact zEq_M zMf_r
  · have q := k137 X xshM (sJud σ w) (xget (sJud σ w) 78) xmod_M w _ qb (xget (sJud σ w) 78) (vFF σ 60 0) 0 (by rw [mget]; exact q1) (fun c => absurd c hv)
    rw [mget, if_neg hv, if_neg hv] at q
    have ea : aJud σ w = (if (decide (0 ≤ w) && decide (w ≤ 1)) = true then -5 else -2) := by
      unfold aJud
      by_cases g : w = 0 ∨ w = 1
      · rw [if_pos g, if_neg (fun c => hv (by rw [c]; exact m6_l)), if_pos (ebb.mpr g)]
      · rw [if_neg g, if_neg (fun c => g (ebb.mp c))]
    rw [← ea] at q
    refine ⟨_, _, _, k1, q, Rel_eq (zEq_t hE ?_) h⟩
    split <;> exact zEq_M zMf_r
/-- winner -/
theorem c_7 (X : xX) (σ : Nat → Nat → Int32) (m : Int32) (h : Rel σ) : zCi X 97 149 [.int m] σ := by
  have k1 := k97 X xshM σ xkin_M m (uWF_K h.1)
  by_cases g : uM m = true
  · have hm : ∃ k, 1 ≤ k ∧ k < 8 ∧ m = nI k := by
      unfold uM at g
      rw [Bool.and_eq_true, decide_eq_true_eq, decide_eq_true_eq, ti_le, ti_le, q_1, q_7] at g
      refine ⟨m.toInt.toNat, by omega, by omega, ti_eq ?_⟩
      rw [ti_nI (by omega)]
      omega
    obtain ⟨k, k8, k9, rfl⟩ := hm
    have es : sWin σ (nI k) = sPlay σ := by unfold sWin; rw [if_pos g]
    rw [es] at k1
    obtain ⟨b, M', q2, hmf, hc⟩ := bsim X σ (sPlay σ) h (fun a b hab => play_78 σ (by omega))
    have q := k149 X xshM (sPlay σ) (xget (sPlay σ) 78) xmod_M M' b (by rw [mget]; exact q2) k k8 k9
    rw [mget] at q
    have ea : aWin σ (nI k) = (if b < 0 then -5 else M' 2 (41 + k)) := by
      unfold aWin
      rw [if_pos g]
      rcases hc with ⟨c1, c2⟩ | ⟨c1, c2, c3, s, e, c4⟩
      · rw [c1, c2, if_pos rfl, if_pos (by decide)]
      · rw [c1, c2, if_neg (by decide), if_neg (by decide)]
        unfold uBest
        rw [if_pos g, nI_cl (by omega), play_22 σ (by omega)]
        obtain ⟨⟨n, mk, hI, -⟩, -⟩ := c4
        exact (hI.1.2.2.2.1.2.2.2.2 k k8 k9 trivial).2.1
    rw [← ea] at q
    exact ⟨_, _, _, k1, q, Rel_eq (zEq_t (play_eq σ) (zEq_M hmf)) h⟩
  · have q := x149 X xshM (sWin σ m) (xget (sWin σ m) 78) xmod_M m (by unfold uM at g; simpa using g)
    rw [mget] at q
    have es : sWin σ m = σ := by unfold sWin; rw [if_neg g]
    have ea : aWin σ m = -1 := by unfold aWin; rw [if_neg g]
    rw [ea] at k1
    rw [es] at k1 q
    exact ⟨_, _, _, k1, q, h⟩
