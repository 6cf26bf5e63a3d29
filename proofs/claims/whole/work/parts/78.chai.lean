def wT (m : Nat) : Nat := if 4 ≤ m then 3 else if 2 ≤ m then 1 else 0
def zBu (u : Nat) : Nat := if u = 0 then 0 else if u = 1 then 1 else 3
theorem phi_c {A B : Nat → Nat → Int32} {m : Nat} (h1 : 1 ≤ m) (h2 : m < 8) (h : ∀ k, ¬ k = m → B 12 k = A 12 k) : zPhi B + wT m * cW A m = zPhi A + wT m * cW B m := by
  have c : ∀ k, ¬ k = m → cW B k = cW A k := fun k hk => cW_c (h k hk)
  unfold zPhi wT
  rcases (show m = 1 ∨ m = 2 ∨ m = 3 ∨ m = 4 ∨ m = 5 ∨ m = 6 ∨ m = 7 by omega) with e | e | e | e | e | e | e
  · subst e
    rw [c 2 (by omega), c 3 (by omega), c 4 (by omega), c 5 (by omega), c 6 (by omega), c 7 (by omega)]
    simp
  · subst e
    rw [c 3 (by omega), c 4 (by omega), c 5 (by omega), c 6 (by omega), c 7 (by omega)]
    simp
    omega
  · subst e
    rw [c 2 (by omega), c 4 (by omega), c 5 (by omega), c 6 (by omega), c 7 (by omega)]
    simp
    omega
  · subst e
    rw [c 2 (by omega), c 3 (by omega), c 5 (by omega), c 6 (by omega), c 7 (by omega)]
    simp
    omega
  · subst e
    rw [c 2 (by omega), c 3 (by omega), c 4 (by omega), c 6 (by omega), c 7 (by omega)]
    simp
    omega
  · subst e
    rw [c 2 (by omega), c 3 (by omega), c 4 (by omega), c 5 (by omega), c 7 (by omega)]
    simp
    omega
  · subst e
    rw [c 2 (by omega), c 3 (by omega), c 4 (by omega), c 5 (by omega), c 6 (by omega)]
    simp
    omega
theorem uCh_0 {p q : Int32} : ∀ d A m, uCh p q d A m 0 = A
  | 0, _, _ => rfl
  | d + 1, A, m => by rw [uCh, if_pos (Or.inr rfl)]
theorem uCh_z {p q c : Int32} : ∀ d A, uCh p q d A 0 c = A
  | 0, _ => rfl
  | d + 1, A => by rw [uCh, if_pos (Or.inl rfl)]
theorem decR_e {A : Nat → Nat → Int32} {m : Nat} {p q : Int32} (h1 : 1 ≤ m) (h2 : m < 8) : uDecR A (nI m) p q = decide (¬ uWon A (nI m) p q = A 6 m) := by
  unfold uDecR
  rw [uM_n h1 h2, nI_cl (by omega), Bool.true_and]
theorem ch_sim {p q : Int32} : ∀ d A M u n mz K, u ≤ 3 → u < 2 ^ d → zF A (M 2) n (fun _ => True) (fun k => ¬ k = u) → zQa A n mz → zQb A n (fun k => k = u) → zL A → mz + zPhi A + zBu u ≤ 21 → n + zPhi A + zBu u ≤ K → (1 ≤ u → ¬ (M 2 (49 + u) = uCom A (nI (2 * u)) ∧ M 2 (57 + u) = uCom A (nI (2 * u + 1)))) → ∃ n' mz', zF (uCh p q d A u 1) (rUp p q d M u 2) n' (fun _ => True) (fun _ => True) ∧ zQa (uCh p q d A u 1) n' mz' ∧ zQb (uCh p q d A u 1) n' (fun _ => False) ∧ mz' + zPhi (uCh p q d A u 1) ≤ 21 ∧ n' + zPhi (uCh p q d A u 1) ≤ K ∧ (∀ a b, (a < 6 ∨ 12 < a) → uCh p q d A u 1 a b = A a b) ∧ ∀ a b, ¬ a = 2 → rUp p q d M u a b = M a b
  | 0, A, M, u, n, mz, K, h1, h2, hF, hQ, hB, hL, hm, hn, hc => by
    have e : u = 0 := by omega
    subst e
    exact ⟨n, mz, zF_T (fun k _ _ h => h) (fun k _ _ _ => by omega) hF, hQ, fun m m1 m2 _ => hB m m1 m2 (by omega), by unfold uCh; omega, by unfold uCh; omega, fun a b _ => rfl, fun a b _ => rfl⟩
  | d + 1, A, M, u, n, mz, K, h1, h2, hF, hQ, hB, hL, hm, hn, hc => by
    by_cases h0 : u = 0
    · subst h0
      rw [uCh_z, rUp, if_pos rfl]
      exact ⟨n, mz, zF_T (fun k _ _ h => h) (fun k _ _ _ => by omega) hF, hQ, fun m m1 m2 _ => hB m m1 m2 (by omega), by omega, by omega, fun a b _ => rfl, fun a b _ => rfl⟩
    · have u1 : 1 ≤ u := by omega
      have u8 : u < 8 := by omega
      have hbu : 1 ≤ zBu u := by unfold zBu; split <;> (try split) <;> omega
      have n32 : n < 32 := by have := hQ.2.2.1; omega
      obtain ⟨hR, hS, hN, hP, hC⟩ := id hF
      have ea := com_e (A := A) (N := M 2) (m := u) (t := 0) hR hN u1 u8 (by omega) (fun h3 => (hP.2.2.2.2 (2 * u) (by omega) (by omega) trivial).2.1)
      have eb := com_e (A := A) (N := M 2) (m := u) (t := 1) hR hN u1 u8 (by omega) (fun h3 => (hP.2.2.2.2 (2 * u + 1) (by omega) (by omega) trivial).2.1)
      have oa := com_ok (A := A) (m := u) (t := 0) u1 u8 (by omega) (fun h3 => (hP.2.2.2.2 (2 * u) (by omega) (by omega) trivial).2.2)
      have ob := com_ok (A := A) (m := u) (t := 1) u1 u8 (by omega) (fun h3 => (hP.2.2.2.2 (2 * u + 1) (by omega) (by omega) trivial).2.2)
      rw [Nat.add_zero] at ea oa
      have em : rUm M u = true := by
        have hcu := hc u1
        unfold rUm rUa rUb
        rw [← ea, ← eb]
        by_cases z : uCom A (nI (2 * u)) = M 2 (49 + u)
        · rw [if_pos z, Bool.not_eq_true', decide_eq_false_iff_not]
          intro c
          exact hcu ⟨z.symm, c.symm⟩
        · rw [if_neg z]
      have eU : rU M u p q = rCert (rU3 M u p q) u := by
        unfold rU
        rw [if_pos (Or.inr em)]
      obtain ⟨n1, l1, l2, hF'⟩ := dec_step (A := A) (M := M) (M3 := rU3 M u p q) (n := n) (m := u) (p := p) (q := q) u1 u8 n32 hF (fun _ => ⟨trivial, trivial⟩) rU3_a rU3_b (rU3_w u8) (fun k k1 k2 k3 => rU3_q (Or.inr ⟨k1, k2, k3⟩))
      rw [← eU] at hF'
      have hfr : ∀ a b, (a < 7 ∨ 12 < a) → ¬ (a = 6 ∧ b = u) → uDecA A (nI u) p q a b = A a b := fun a b h hb => dec_q u1 u8 hQ.1 n32 h hb
      have e6 : uDecA A (nI u) p q 6 u = uWon A (nI u) p q := dec_6 u1 u8 hQ.1 n32
      have hL' : zL (uDecA A (nI u) p q) := fun i hi => by rw [hfr 3 i (by omega) (by omega)]; exact hL i hi
      have eo : rUo M u p q = uDecR A (nI u) p q := by
        rw [decR_e u1 u8, won_e, ahead_e hS hN oa ob, ea, eb, (hP.2.2.2.2 u u1 u8 trivial).2.1]
        unfold rUo rUw rUa rUb
        by_cases z : rBet (M 2) (rCo (M 2) u 0) (rCo (M 2) u 1) p q = M 2 (41 + u)
        · rw [decide_eq_true z, decide_eq_false (fun c => c z)]
          rfl
        · rw [decide_eq_false z, decide_eq_true z]
          rfl
      rw [uCh, if_neg (by
        intro c
        rcases c with c | c
        · exact h0 c
        · exact absurd c (by decide)), rUp, if_neg h0, eo]
      by_cases g : uWon A (nI u) p q = A 6 u
      · have gR : uDecR A (nI u) p q = false := by
          rw [decR_e u1 u8]
          exact decide_eq_false (fun c => c g)
        rw [gR, xi_f, uCh_0, if_neg (by decide)]
        obtain ⟨n', mz', l3, l4, l5, hQ', hB', h12, -, -⟩ := dec_qb (A := A) (m := u) (n := n) (mk := mz) (E := fun _ => False) (E' := fun _ => False) (p := p) (q := q) u1 u8 n32 (by omega) hS hL hQ (fun k k1 k2 k3 => hB k k1 k2 (fun c => k3 (Or.inr c))) oa ob (fun _ _ _ _ _ c => c) (fun k _ _ _ _ => by rw [e6, g])
        have en : n' = n1 := by
          have a1 := hQ'.1
          have a2 := hF'.2.2.2.1.1
          rw [a1] at a2
          exact nI_inj (by omega) (by omega) a2
        subst en
        have hph := phi_c (B := uDecA A (nI u) p q) u1 u8 h12
        have w1 := cW_1 (uDecA A (nI u) p q) u
        have hwt : wT u * cW (uDecA A (nI u) p q) u ≤ wT u := by
          rcases (show cW (uDecA A (nI u) p q) u = 0 ∨ cW (uDecA A (nI u) p q) u = 1 by omega) with e | e
          · rw [e]; omega
          · rw [e]; omega
        have hb2 : wT u + 1 ≤ zBu u := by
          unfold wT zBu
          repeat' split
          all_goals omega
        refine ⟨n', mz', ?_, hQ', hB', by omega, by omega, fun a b h => hfr a b (by omega) (by omega), fun a b h => rU_rw h⟩
        refine ⟨hF'.1, hF'.2.1, hF'.2.2.1, zP_T (fun k _ _ _ => Or.inl trivial) hF'.2.2.2.1, fun k k1 k2 _ => ?_⟩
        by_cases e : k = u / 2
        · have hk6 : ∀ f, uDecA A (nI u) p q 6 f = A 6 f := by
            intro f
            by_cases ef : f = u
            · rw [ef, e6, g]
            · exact hfr 6 f (by omega) (by omega)
          rw [eU, rCert_lo (by omega), rCert_lo (by omega), rU3_q (Or.inr ⟨by omega, by omega, by omega⟩), rU3_q (Or.inr ⟨by omega, by omega, by omega⟩), com_c (fun i => hfr 2 i (by omega) (by omega)) (fun i => hfr 5 i (by omega) (by omega)) (fun _ => hk6 _) (by omega) (by omega), com_c (fun i => hfr 2 i (by omega) (by omega)) (fun i => hfr 5 i (by omega) (by omega)) (fun _ => hk6 _) (by omega) (by omega)]
          exact hC k k1 k2 (by omega)
        · refine hF'.2.2.2.2 k k1 k2 ?_
          by_cases e2 : k = u
          · exact Or.inr e2
          · exact Or.inl ⟨e2, by omega, by omega⟩
      · have gR : uDecR A (nI u) p q = true := by
          rw [decR_e u1 u8]
          exact decide_eq_true g
        rw [gR, xi_t, if_pos rfl]
        obtain ⟨n', mz', l3, l4, l5, hQ', hB', h12, -, -⟩ := dec_qb (A := A) (m := u) (n := n) (mk := mz) (E := fun _ => False) (E' := fun k => k = u / 2) (p := p) (q := q) u1 u8 n32 (by omega) hS hL hQ (fun k k1 k2 k3 => hB k k1 k2 (fun c => k3 (Or.inr c))) oa ob (fun _ _ _ _ _ c => c) (fun k _ _ k3 k4 => absurd (by omega) k3)
        have en : n' = n1 := by
          have a1 := hQ'.1
          have a2 := hF'.2.2.2.1.1
          rw [a1] at a2
          exact nI_inj (by omega) (by omega) a2
        subst en
        have hph := phi_c (B := uDecA A (nI u) p q) u1 u8 h12
        have w1 := cW_1 (uDecA A (nI u) p q) u
        have hwt : wT u * cW (uDecA A (nI u) p q) u ≤ wT u := by
          rcases (show cW (uDecA A (nI u) p q) u = 0 ∨ cW (uDecA A (nI u) p q) u = 1 by omega) with e | e
          · rw [e]; omega
          · rw [e]; omega
        have hb2 : wT u + 1 + zBu (u / 2) ≤ zBu u := by
          unfold wT zBu
          rcases (show u = 1 ∨ u = 2 ∨ u = 3 by omega) with e | e | e
          · subst e; decide
          · subst e; decide
          · subst e; decide
        have h2' : u / 2 < 2 ^ d := by
          rw [Nat.pow_succ] at h2
          omega
        obtain ⟨n2, mk2, r1, r2, r3, r4, r5, r6, r7⟩ := ch_sim (p := p) (q := q) d (uDecA A (nI u) p q) (rU M u p q) (u / 2) n' mz' K (by omega) h2' (zF_T (fun k _ _ _ => Or.inl trivial) (fun k k1 k2 k3 => by
          by_cases e2 : k = u
          · exact Or.inr e2
          · exact Or.inl ⟨e2, by omega, by omega⟩) hF') hQ' hB' hL' (by omega) (by omega) (by
          intro hu2
          rw [eU, rCert_lo (by omega), rCert_lo (by omega), rU3_q (Or.inr ⟨by omega, by omega, by omega⟩), rU3_q (Or.inr ⟨by omega, by omega, by omega⟩)]
          have hcc := hC (u / 2) hu2 (by omega) (by omega)
          rw [hcc.1, hcc.2]
          intro c
          apply g
          rw [← e6]
          by_cases ev : u = 2 * (u / 2)
          · have c1 := c.1
            rw [← ev, com_lo u1 u8, com_lo u1 u8] at c1
            exact c1.symm
          · have od : u = 2 * (u / 2) + 1 := by omega
            have c1 := c.2
            rw [← od, com_lo u1 u8, com_lo u1 u8] at c1
            exact c1.symm)
        exact ⟨n2, mk2, r1, r2, r3, r4, r5, fun a b h => by rw [r6 a b h, hfr a b (by omega) (by omega)], fun a b h => by rw [r7 a b h, rU_rw h]⟩
