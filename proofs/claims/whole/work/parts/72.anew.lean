theorem cCert_q {A : Nat → Nat → Int32} {m n a b : Nat} {w l : Int32} (h : a < 7 ∨ 12 < a) : cCert A m n w l a b = A a b := by
  unfold cCert
  split
  · rw [cPut_q (by omega), xup_q (by omega)]
  · rw [xup_q (by omega)]
theorem who_c {A B : Nat → Nat → Int32} {pl : Int32} (h2 : ∀ i, B 2 i = A 2 i) (h5 : ∀ i, B 5 i = A 5 i) : ∀ d i, uWhoF B pl i d = uWhoF A pl i d
  | 0, _ => rfl
  | d + 1, i => by
    rw [uWhoF, uWhoF, h2, uW, uW, h5, who_c h2 h5 d (i + 1)]
theorem com_c {A B : Nat → Nat → Int32} {f : Nat} (h2 : ∀ i, B 2 i = A 2 i) (h5 : ∀ i, B 5 i = A 5 i) (h6 : f < 8 → B 6 f = A 6 f) (h1 : 1 ≤ f) (hf : f < 16) : uCom B (nI f) = uCom A (nI f) := by
  by_cases h : f < 8
  · rw [com_lo h1 h, com_lo h1 h, h6 h]
  · rw [com_hi (by omega) hf, com_hi (by omega) hf, who_c h2 h5]
theorem ahead_or {A : Nat → Nat → Int32} {a b p q : Int32} (ha : okR a) (hb : okR b) : (uAhead A a b p q = a ∨ uAhead A a b p q = b) ∧ (¬ a < 0 ∨ uAhead A a b p q = b) ∧ (¬ b < 0 ∨ uAhead A a b p q = a) := by
  rcases ha with ha | ⟨i, hi, ha⟩
  · rcases hb with hb | ⟨j, hj, hb⟩
    · have e : uAhead A a b p q = -6 := by
        unfold uAhead
        rw [ha, hb, m6_8, if_neg (by decide), if_neg (by decide)]
      rw [e, ha, hb]
      exact ⟨Or.inl rfl, Or.inr rfl, Or.inr rfl⟩
    · have e : uAhead A a b p q = b := by
        unfold uAhead
        rw [ha, hb, m6_8, if_neg (by decide), nI_i8 hj, if_pos rfl]
      rw [e]
      refine ⟨Or.inr rfl, Or.inr rfl, Or.inl ?_⟩
      rw [hb]
      exact nI_nn (by omega)
  · rcases hb with hb | ⟨j, hj, hb⟩
    · have e : uAhead A a b p q = a := by
        unfold uAhead
        rw [ha, hb, m6_8, nI_i8 hi, if_pos rfl, if_neg (by decide)]
      rw [e]
      refine ⟨Or.inl rfl, Or.inl ?_, Or.inr rfl⟩
      rw [ha]
      exact nI_nn (by omega)
    · refine ⟨?_, Or.inl (by rw [ha]; exact nI_nn (by omega)), Or.inl (by rw [hb]; exact nI_nn (by omega))⟩
      unfold uAhead
      rw [ha, hb, nI_i8 hi, nI_i8 hj, if_pos rfl, if_pos rfl]
      repeat' split
      all_goals first | exact Or.inl rfl | exact Or.inr rfl
/-- class and reference picture the same cup, but for the matches outside of the sets -/
def zF (A : Nat → Nat → Int32) (N : Nat → Int32) (n : Nat) (T C : Nat → Prop) : Prop := zR A ∧ zS A ∧ zN A N ∧ zP A N n T ∧ ∀ k, 1 ≤ k → k < 8 → C k → N (49 + k) = uCom A (nI (2 * k)) ∧ N (57 + k) = uCom A (nI (2 * k + 1))
theorem zR_c {A B : Nat → Nat → Int32} (h : ∀ a b, 1 ≤ a → a ≤ 5 → B a b = A a b) (hr : zR A) : zR B := by
  refine ⟨fun i hi => ?_, fun i j hi hj => ?_⟩
  · rw [h 5 i (by omega) (by omega), h 1 i (by omega) (by omega), h 2 i (by omega) (by omega)]
    exact hr.1 i hi
  · rw [h 2 i (by omega) (by omega), h 2 j (by omega) (by omega)]
    exact hr.2 i j hi hj
theorem zS_c {A B : Nat → Nat → Int32} (h : ∀ b, B 4 b = A 4 b) (hs : zS A) : zS B := by
  intro i hi
  rw [h]
  exact hs i hi
theorem zN_c {A B : Nat → Nat → Int32} {N N' : Nat → Int32} (h : ∀ a b, a ≤ 5 → B a b = A a b) (h' : ∀ k, k ≤ 40 → N' k = N k) (hn : zN A N) : zN B N' := by
  refine ⟨fun i hi => ?_, ?_⟩
  · rw [h 1 i (by omega), h 2 i (by omega), h 3 i (by omega), h 4 i (by omega), h 5 i (by omega), h' _ (by omega), h' _ (by omega), h' _ (by omega), h' _ (by omega), h' _ (by omega)]
    exact hn.1 i hi
  · rw [h 0 8 (by omega), h' 40 (by omega)]
    exact hn.2
theorem mul2_0 (m : Nat) : 2 * nI m = nI (2 * m) := nI_mu 2 m
theorem mul2_1 (m : Nat) : 2 * nI m + 1 = nI (2 * m + 1) := by rw [mul2_0, nI_1]
/-- what a decision does to rows, but for the queue -/
theorem dec_q {A : Nat → Nat → Int32} {m n a b : Nat} {p q : Int32} (h1 : 1 ≤ m) (h2 : m < 8) (hn : A 7 5 = nI n) (hn32 : n < 32) (h : a < 7 ∨ 12 < a) (hb : ¬ (a = 6 ∧ b = m)) : uDecA A (nI m) p q a b = A a b := by
  rw [dec_e h1 h2 hn hn32, cCert_q h, xup_q (by omega)]
theorem dec_6 {A : Nat → Nat → Int32} {m n : Nat} {p q : Int32} (h1 : 1 ≤ m) (h2 : m < 8) (hn : A 7 5 = nI n) (hn32 : n < 32) : uDecA A (nI m) p q 6 m = uWon A (nI m) p q := by
  rw [dec_e h1 h2 hn hn32, cCert_q (by omega), xup_same]
theorem dec_step {A M M3 : Nat → Nat → Int32} {n m : Nat} {T C : Nat → Prop} {p q : Int32} (h1 : 1 ≤ m) (h2 : m < 8) (hn32 : n < 32) (hF : zF A (M 2) n T C) (hT : m ≤ 3 → T (2 * m) ∧ T (2 * m + 1)) (h49 : M3 2 (49 + m) = rCo (M 2) m 0) (h57 : M3 2 (57 + m) = rCo (M 2) m 1) (h41 : M3 2 (41 + m) = rBet (M 2) (rCo (M 2) m 0) (rCo (M 2) m 1) p q) (hq : ∀ k, ¬ k = 41 + m → ¬ k = 49 + m → ¬ k = 57 + m → M3 2 k = M 2 k) :
    ∃ n', n ≤ n' ∧ n' ≤ n + 1 ∧ zF (uDecA A (nI m) p q) (rCert M3 m 2) n' (fun k => T k ∨ k = m) (fun k => (C k ∧ ¬ 2 * k = m ∧ ¬ 2 * k + 1 = m) ∨ k = m) := by
  obtain ⟨hR, hS, hN, hP, hC⟩ := hF
  have hn := hP.1
  have ea := com_e (A := A) (N := M 2) (m := m) (t := 0) hR hN h1 h2 (by omega) (fun h3 => (hP.2.2.2.2 (2 * m) (by omega) (by omega) (hT h3).1).2.1)
  have eb := com_e (A := A) (N := M 2) (m := m) (t := 1) hR hN h1 h2 (by omega) (fun h3 => (hP.2.2.2.2 (2 * m + 1) (by omega) (by omega) (hT h3).2).2.1)
  have oa := com_ok (A := A) (m := m) (t := 0) h1 h2 (by omega) (fun h3 => (hP.2.2.2.2 (2 * m) (by omega) (by omega) (hT h3).1).2.2)
  have ob := com_ok (A := A) (m := m) (t := 1) h1 h2 (by omega) (fun h3 => (hP.2.2.2.2 (2 * m + 1) (by omega) (by omega) (hT h3).2).2.2)
  rw [Nat.add_zero] at ea oa
  have ew : uWon A (nI m) p q = rBet (M 2) (rCo (M 2) m 0) (rCo (M 2) m 1) p q := by
    unfold uWon
    rw [mul2_1, mul2_0, ahead_e hS hN oa ob, ea, eb]
  have el : uLost A (nI m) p q = (if uWon A (nI m) p q = rCo (M 2) m 0 then rCo (M 2) m 1 else rCo (M 2) m 0) := by
    unfold uLost
    rw [mul2_1, mul2_0, ea, eb]
  have eor := ahead_or (A := A) (p := p) (q := q) oa ob
  have eW : uWon A (nI m) p q = uAhead A (rCo (M 2) m 0) (rCo (M 2) m 1) p q := by
    unfold uWon
    rw [mul2_1, mul2_0, ea, eb]
  rw [ea, eb, ← eW] at eor
  rw [ea] at oa
  rw [eb] at ob
  have ow : okR (uWon A (nI m) p q) := by
    rw [eW]
    exact ahead_ok oa ob
  have hN1 : zN (xup A 6 m (uWon A (nI m) p q)) (M3 2) := zN_c (fun a b h => xup_q (by omega)) (fun k hk => hq k (by omega) (by omega) (by omega)) hN
  have hP1 : zP (xup A 6 m (uWon A (nI m) p q)) (M3 2) n T := by
    obtain ⟨p1, p2, p3, p4, p5⟩ := hP
    refine ⟨by rw [xup_q (by omega), p1], by rw [hq 73 (by omega) (by omega) (by omega), p2], by rw [xup_q (by omega), hq 74 (by omega) (by omega) (by omega), p3], fun k hk => ?_, fun k k1 k2 hk => ?_⟩
    · rw [xup_q (by omega), xup_q (by omega), xup_q (by omega), xup_q (by omega), hq _ (by omega) (by omega) (by omega), hq _ (by omega) (by omega) (by omega), hq _ (by omega) (by omega) (by omega), hq _ (by omega) (by omega) (by omega)]
      exact p4 k hk
    · have e5 := p5 k k1 k2 hk
      by_cases e : k = m
      · subst e
        rw [xup_q (by omega), xup_same, h41, ← ew, hq (65 + k) (by omega) (by omega) (by omega)]
        exact ⟨e5.1, rfl, ow⟩
      · rw [xup_q (by omega), xup_q (by omega), hq _ (by omega) (by omega) (by omega), hq _ (by omega) (by omega) (by omega)]
        exact e5
  obtain ⟨n', n1, n2, hP'⟩ := cert_sim (A := xup A 6 m (uWon A (nI m) p q)) (M := M3) (n := n) (m := m) (T := T) h1 h2 hn32 (zS_c (fun b => xup_q (by omega)) hS) hN1 hP1 oa ob h49 h57 (uWon A (nI m) p q) (by rw [h41, ew]) xup_same eor.1 eor.2.1 eor.2.2
  have eD : uDecA A (nI m) p q = cCert (xup A 6 m (uWon A (nI m) p q)) m n (uWon A (nI m) p q) (if uWon A (nI m) p q = rCo (M 2) m 0 then rCo (M 2) m 1 else rCo (M 2) m 0) := by
    rw [dec_e h1 h2 hn hn32, el]
  have hfr : ∀ a b, (a < 7 ∨ 12 < a) → ¬ (a = 6 ∧ b = m) → uDecA A (nI m) p q a b = A a b := fun a b h hb => dec_q h1 h2 hn hn32 h hb
  refine ⟨n', n1, n2, zR_c (fun a b h3 h4 => hfr a b (by omega) (by omega)) hR, zS_c (fun b => hfr 4 b (by omega) (by omega)) hS, zN_c (fun a b h => hfr a b (by omega) (by omega)) (fun k hk => by rw [rCert_lo (by omega), hq k (by omega) (by omega) (by omega)]) hN, by rw [eD]; exact hP', fun k k1 k2 hk => ?_⟩
  rw [rCert_lo (by omega), rCert_lo (by omega), com_c (fun i => hfr 2 i (by omega) (by omega)) (fun i => hfr 5 i (by omega) (by omega)) (fun h => hfr 6 (2 * k) (by omega) (by
    rcases hk with hk | hk
    · omega
    · omega)) (by omega) (by omega), com_c (fun i => hfr 2 i (by omega) (by omega)) (fun i => hfr 5 i (by omega) (by omega)) (fun h => hfr 6 (2 * k + 1) (by omega) (by
    rcases hk with hk | hk
    · omega
    · omega)) (by omega) (by omega)]
  rcases hk with hk | hk
  · by_cases e : k = m
    · subst e
      rw [h49, h57, ea, eb]
      exact ⟨rfl, rfl⟩
    · rw [hq _ (by omega) (by omega) (by omega), hq _ (by omega) (by omega) (by omega)]
      exact hC k k1 k2 hk.1
  · subst hk
    rw [h49, h57, ea, eb]
    exact ⟨rfl, rfl⟩
theorem zP_T {A : Nat → Nat → Int32} {N : Nat → Int32} {n : Nat} {T T' : Nat → Prop} (h : ∀ k, 1 ≤ k → k < 8 → T' k → T k) (hP : zP A N n T) : zP A N n T' := ⟨hP.1, hP.2.1, hP.2.2.1, hP.2.2.2.1, fun m h1 h2 h3 => hP.2.2.2.2 m h1 h2 (h m h1 h2 h3)⟩
theorem zF_T {A : Nat → Nat → Int32} {N : Nat → Int32} {n : Nat} {T T' C C' : Nat → Prop} (h : ∀ k, 1 ≤ k → k < 8 → T' k → T k) (h' : ∀ k, 1 ≤ k → k < 8 → C' k → C k) (hF : zF A N n T C) : zF A N n T' C' := ⟨hF.1, hF.2.1, hF.2.2.1, zP_T h hF.2.2.2.1, fun k h1 h2 h3 => hF.2.2.2.2 k h1 h2 (h' k h1 h2 h3)⟩
/-- the loop of beginning anew -/
theorem an_sim {s : Int32} : ∀ m A M n, m < 8 → n + m ≤ 7 → M 2 40 = s → zF A (M 2) n (fun k => m < k) (fun k => m < k) → ∃ n', n' ≤ 7 ∧ zF (uAn s m A) (rAl m M 2) n' (fun _ => True) (fun _ => True)
  | 0, A, M, n, _, h2, _, hF => ⟨n, by omega, zF_T (fun k h1 _ _ => by omega) (fun k h1 _ _ => by omega) hF⟩
  | m + 1, A, M, n, h1, h2, hs, hF => by
    have e49 : rA3 (rA2 (rA1 M (m + 1)) (m + 1)) (m + 1) 2 (49 + (m + 1)) = rCo (M 2) (m + 1) 0 := rA_a
    have eb : rCo (rA1 M (m + 1) 2) (m + 1) 1 = rCo (M 2) (m + 1) 1 := by
      have hr : ∀ pl d i, rOn (rA1 M (m + 1) 2) pl d i = rOn (M 2) pl d i ∨ 8 < i + d := by
        intro pl d
        induction d with
        | zero => intro i; exact Or.inl rfl
        | succ d ih =>
          intro i
          by_cases h : 8 < i + (d + 1)
          · exact Or.inr h
          · rcases ih (i + 1) with h3 | h3
            · refine Or.inl ?_
              rw [rOn, rOn, h3, rA1, xup_q (by omega), xup_q (by omega)]
            · omega
      unfold rCo
      split
      · rcases hr (nI (2 * (m + 1 - 4) + 1)) 8 0 with h | h
        · exact h
        · omega
      · rw [rA1, xup_q (by omega)]
    have e57 : rA3 (rA2 (rA1 M (m + 1)) (m + 1)) (m + 1) 2 (57 + (m + 1)) = rCo (M 2) (m + 1) 1 := by rw [rA_b, eb]
    have hq : ∀ k, ¬ k = 41 + (m + 1) → ¬ k = 49 + (m + 1) → ¬ k = 57 + (m + 1) → rA3 (rA2 (rA1 M (m + 1)) (m + 1)) (m + 1) 2 k = M 2 k := by
      intro k k1 k2 k3
      rw [rA3, xup_q (by omega), rA2, xup_q (by omega), rA1, xup_q (by omega)]
    have e41 : rA3 (rA2 (rA1 M (m + 1)) (m + 1)) (m + 1) 2 (41 + (m + 1)) = rBet (M 2) (rCo (M 2) (m + 1) 0) (rCo (M 2) (m + 1) 1) s 1 := by
      have f1 : rA2 (rA1 M (m + 1)) (m + 1) 2 (49 + (m + 1)) = rCo (M 2) (m + 1) 0 := by rw [rA2, xup_q (by omega), rA1, xup_same]
      have f2 : rA2 (rA1 M (m + 1)) (m + 1) 2 (57 + (m + 1)) = rCo (M 2) (m + 1) 1 := by rw [rA2, xup_same, eb]
      have f3 : rA2 (rA1 M (m + 1)) (m + 1) 2 40 = s := by rw [rA2, xup_q (by omega), rA1, xup_q (by omega), hs]
      rw [rA3, xup_same, f1, f2, f3]
      have hrow : ∀ k, k ≤ 40 → rA2 (rA1 M (m + 1)) (m + 1) 2 k = M 2 k := by
        intro k hk
        rw [rA2, xup_q (by omega), rA1, xup_q (by omega)]
      have hah : ∀ i j, i < 8 → j < 8 → rAh (rA2 (rA1 M (m + 1)) (m + 1) 2) i j s 1 = rAh (M 2) i j s 1 := by
        intro i j hi hj
        unfold rAh rOff
        rw [hrow _ (by omega), hrow _ (by omega), hrow _ (by omega), hrow _ (by omega)]
      have oka : okR (rCo (M 2) (m + 1) 0) := by
        rw [← com_e (A := A) hF.1 hF.2.2.1 (m := m + 1) (t := 0) (by omega) h1 (by omega) (fun h3 => (hF.2.2.2.1.2.2.2.2 (2 * (m + 1) + 0) (by omega) (by omega) (by omega)).2.1)]
        exact com_ok (by omega) h1 (by omega) (fun h3 => (hF.2.2.2.1.2.2.2.2 (2 * (m + 1) + 0) (by omega) (by omega) (by omega)).2.2)
      have okb : okR (rCo (M 2) (m + 1) 1) := by
        rw [← com_e (A := A) hF.1 hF.2.2.1 (m := m + 1) (t := 1) (by omega) h1 (by omega) (fun h3 => (hF.2.2.2.1.2.2.2.2 (2 * (m + 1) + 1) (by omega) (by omega) (by omega)).2.1)]
        exact com_ok (by omega) h1 (by omega) (fun h3 => (hF.2.2.2.1.2.2.2.2 (2 * (m + 1) + 1) (by omega) (by omega) (by omega)).2.2)
      unfold rBet
      rcases oka with ha | ⟨i, hi, ha⟩
      · rw [ha, if_pos m6_l, if_pos m6_l]
      · rcases okb with hb | ⟨j, hj, hb⟩
        · rw [ha, hb, if_neg (nI_nn (by omega)), if_neg (nI_nn (by omega)), if_pos m6_l, if_pos m6_l]
        · rw [ha, hb, nI_cl (by omega), nI_cl (by omega), hah i j hi hj]
    obtain ⟨n', n1, n2, hF'⟩ := dec_step (A := A) (M := M) (M3 := rA3 (rA2 (rA1 M (m + 1)) (m + 1)) (m + 1)) (n := n) (m := m + 1) (p := s) (q := 1) (by omega) h1 (by omega) hF (fun h3 => ⟨by omega, by omega⟩) e49 e57 e41 hq
    rw [uAn, rAl]
    refine an_sim m _ (rAs M (m + 1)) n' (by omega) (by omega) ?_ (zF_T (fun k h3 h4 h5 => ?_) (fun k h3 h4 h5 => ?_) hF')
    · rw [rAs_lo (by omega) (by omega) (by omega) (by omega), hs]
    · by_cases e : k = m + 1
      · exact Or.inr e
      · exact Or.inl (by omega)
    · by_cases e : k = m + 1
      · exact Or.inr e
      · exact Or.inl ⟨by omega, by omega, by omega⟩
theorem clr_q {A : Nat → Nat → Int32} {a b : Nat} (h : ¬ a = 12) (h2 : ¬ (a = 7 ∧ (b = 5 ∨ b = 6))) : uClr A a b = A a b := by
  unfold uClr
  rw [xup_q (by omega), xup_q (by omega), xfil, if_neg (by omega)]
/-- beginning anew: the same -/
theorem anew_sim {A M : Nat → Nat → Int32} (hR : zR A) (hS : zS A) (hN : zN A (M 2)) : ∃ n, n ≤ 7 ∧ zF (uAnew A) (rAnew M 2) n (fun _ => True) (fun _ => True) := by
  unfold uAnew rAnew
  refine an_sim (s := A 0 8) 7 (uClr A) (xup (xup M 2 73 0) 2 74 0) 0 (by omega) (by omega) (by rw [xup_q (by omega), xup_q (by omega), hN.2]) ?_
  refine ⟨zR_c (fun a b h1 h2 => clr_q (by omega) (by omega)) hR, zS_c (fun b => clr_q (by omega) (by omega)) hS, zN_c (fun a b h => clr_q (by omega) (by omega)) (fun k hk => by rw [xup_q (by omega), xup_q (by omega)]) hN, ⟨?_, ?_, ?_, fun k hk => by omega, fun m h1 h2 h3 => by omega⟩, fun k h1 h2 h3 => by omega⟩
  · unfold uClr
    rw [xup_q (by omega), xup_same, nI_0]
  · rw [xup_q (by omega), xup_same, nI_0]
  · unfold uClr
    rw [xup_same, xup_same]
