/-- all that is kept between acts but the lines' own bounds -/
def zI (A M : Nat → Nat → Int32) (n mk : Nat) : Prop := zF A (M 2) n (fun _ => True) (fun _ => True) ∧ zQa A n mk ∧ zQb A n (fun _ => False) ∧ zL A ∧ mk + zPhi A ≤ 21
theorem phi_12 {A B : Nat → Nat → Int32} (h : ∀ b, B 12 b = A 12 b) : zPhi B = zPhi A := by
  unfold zPhi cW
  simp only [h]
theorem i32_z1 (a b c d : Int32) : (a - b) * (d - c) + (c - d) * (a - b) = 0 := by
  have e : c - d = -(d - c) := by rw [Int32.neg_sub]
  rw [e, Int32.neg_mul, Int32.mul_comm (d - c) (a - b), Int32.add_right_neg]
theorem i32_z2 (a b c d : Int32) : (b - a) * (d - c) + (d - c) * (a - b) = 0 := by
  have e : b - a = -(a - b) := by rw [Int32.neg_sub]
  rw [e, Int32.neg_mul, Int32.mul_comm (d - c) (a - b), Int32.add_left_neg]
/-- where a match's own certificate comes due, who passes wins -/
theorem own_won {A : Nat → Nat → Int32} {m i j : Nat} (hS : zS A) (h : zO A m i j) : uWon A (nI m) (A 3 i - A 3 j) (A 4 j - A 4 i) = nI j ∧ uLost A (nI m) (A 3 i - A 3 j) (A 4 j - A 4 i) = nI i := by
  obtain ⟨i8, j8, h6, hc, hs⟩ := h
  have si := hS i i8
  have sj := hS j j8
  have hij : ¬ nI i = nI j := by
    intro e
    have := nI_inj (by omega) (by omega) e
    subst this
    omega
  have ci : (nI i).toNatClampNeg = i := nI_cl (by omega)
  have cj : (nI j).toNatClampNeg = j := nI_cl (by omega)
  have e1 := ti_s50 si sj
  have e2 := ti_s50 sj si
  have hw : uWon A (nI m) (A 3 i - A 3 j) (A 4 j - A 4 i) = nI j := by
    rw [won_e]
    rcases hc with ⟨c1, c2⟩ | ⟨c1, c2⟩
    · rw [c1, c2]
      unfold uAhead
      rw [nI_i8 i8, nI_i8 j8, if_pos rfl, if_pos rfl, ci, cj, if_pos (i32_z1 _ _ _ _), if_neg (by rw [ti_e, e1, q_0]; omega), if_pos (by rw [ti_le, e1, q_0]; omega)]
    · rw [c1, c2]
      unfold uAhead
      rw [nI_i8 i8, nI_i8 j8, if_pos rfl, if_pos rfl, ci, cj, if_pos (i32_z2 _ _ _ _), if_neg (by rw [ti_e, e2, q_0]; omega), if_neg (by rw [ti_le, e2, q_0]; omega)]
  refine ⟨hw, ?_⟩
  rw [lost_e, hw]
  rcases hc with ⟨c1, c2⟩ | ⟨c1, c2⟩
  · rw [c1, c2, if_neg (fun c => hij c.symm)]
  · rw [c1, c2, if_pos rfl]
theorem rw_ok {A M : Nat → Nat → Int32} {n : Nat} {C : Nat → Prop} (hF : zF A (M 2) n (fun _ => True) C) : rW M := by
  intro k h1 h2
  have e := hF.2.2.2.1.2.2.2.2 k (by omega) h1 trivial
  rw [← e.2.1]
  exact okR_v e.2.2
/-- one certificate taken: the same, and one less is left -/
theorem take_sim {A M : Nat → Nat → Int32} {n mk e : Nat} {un act : Int32} (h : zI A M n mk) (hT : zT A M e) (he : e < 100000000) (ha : ¬ act < 0) (hd : uDue A un = true) (h1 : 1 ≤ un.toInt) (h2 : un.toInt ≤ 100) :
    rDue (M 2) un = nI (uF A) ∧ uF A < n ∧ (∃ m, 1 ≤ m ∧ m < 8 ∧ M 2 (75 + uF A) = nI m) ∧ ∃ n' mk' e', zI (uTk A act) (rTk M (uF A) act) n' mk' ∧ n' + zPhi (uTk A act) + 1 ≤ n + zPhi A ∧ e' ≤ e + 1 ∧ zT (uTk A act) (rTk M (uF A) act) e' ∧ (∀ a b, a < 6 → uTk A act a b = A a b) ∧ ∀ a b, ¬ a = 2 → (a = 0 → b < 6 ∨ 10 < b) → rTk M (uF A) act a b = M a b := by
  obtain ⟨hF, hQ, hB, hL, hmk⟩ := h
  have hP := hF.2.2.2.1
  have hS := hF.2.1
  have n32 : n < 32 := by have := hQ.2.2.1; omega
  rcases take_w hQ hP (by omega) h1 h2 with ⟨c, -⟩ | ⟨-, hf, eN, eD, eE⟩
  · rw [hd] at c
    exact absurd c (by decide)
  · obtain ⟨⟨m, m1, m8, e8⟩, ⟨s, s1, s2, e11⟩, b1, b2, b3, b4⟩ := hQ.2.2.2.1 (uF A) hf
    have pf := hP.2.2.2.1 (uF A) hf
    refine ⟨eD, hf, ⟨m, m1, m8, by rw [← pf.1, e8]⟩, ?_⟩
    have cm : (nI m).toNatClampNeg = m := nI_cl (by omega)
    have cn : (M 2 73).toNatClampNeg = n := by rw [hP.2.1]; exact nI_cl (by omega)
    have c75 : (M 2 (75 + uF A)).toNatClampNeg = m := by rw [← pf.1, e8, cm]
    have eOwn : uOwn A (nI (uF A)) = decide (A 11 (uF A) = A 12 m) := by
      unfold uOwn
      rw [uHere_n hQ.1 (by omega) hf, nI_cl (by omega), e8, uM_n m1 m8, cm, Bool.true_and, Bool.true_and]
    have p12 := (hP.2.2.2.2 m m1 m8 trivial)
    have eH : (M 2 (65 + m) = M 2 (267 + uF A)) ↔ (A 11 (uF A) = A 12 m) := by
      rw [← p12.1, ← pf.2.2.2]
      exact ⟨fun c => c.symm, fun c => c.symm⟩
    have hrm := cnt_rm (A := A) (f := uF A) (n := n) (ev := xi (uOwn A (nI (uF A)))) (act := act) (m := A 8 (uF A)) hQ.1 hf
    unfold uTk rTk rTk2
    rw [eN, cn, c75]
    have hL1 : zL (uCnt (uRem A (uF A) n) (xi (uOwn A (nI (uF A)))) act (A 8 (uF A))) := fun i hi => by rw [hrm.1 3 i (by omega)]; exact hL i hi
    have hph := phi_12 hrm.2.2.2.2
    by_cases g : A 11 (uF A) = A 12 m
    · have gO : uOwn A (nI (uF A)) = true := by rw [eOwn]; exact decide_eq_true g
      rw [if_pos (eH.mpr g), ← pf.2.1, ← pf.2.2.1]
      rw [gO] at hrm hL1 hph ⊢
      rw [xi_t, e8] at hrm hL1 hph ⊢
      rw [cm]
      obtain ⟨i, j, hO, e9, e10⟩ := (hB m m1 m8 (fun c => c)).1 (uF A) hf e8 g
      have hQ1 := zRm_qa hf hrm hQ
      have hB1 := zRm_qb (E := fun k => k = m) hf hrm e8 m8 (fun c => absurd rfl c) hB
      have hM1 : ∀ k, rEv (rTe (rTc (rTS M (uF A) n))) act m 2 k = rTS M (uF A) n 2 k := by
        intro k
        unfold rEv rTe rTc
        split
        · rw [xup_q (by omega), xup_q (by omega), xup_q (by omega), xup_q (by omega)]
        · rw [xup_q (by omega), xup_q (by omega)]
      have hF1 := zRm_F (M1 := rEv (rTe (rTc (rTS M (uF A) n))) act m) hf (by omega) hrm (fun b => hrm.1 0 b (by omega)) hM1 hF
      have hT1 := cnt_1 (f := uF A) (n := n) (m := m) (act := act) he ha hT
      have hrw : ∀ a b, ¬ a = 2 → (a = 0 → b < 6 ∨ 10 < b) → rEv (rTe (rTc (rTS M (uF A) n))) act m a b = M a b := by
        intro a b h3 h4
        unfold rEv rTe rTc
        split
        · rw [xup_q (by omega), xup_q (by omega), xup_q (by omega), xup_q (by omega), rTS_q (Or.inl h3)]
        · rw [xup_q (by omega), xup_q (by omega), rTS_q (Or.inl h3)]
      generalize hA1 : uCnt (uRem A (uF A) n) 1 act (nI m) = A1 at *
      generalize hMM : rEv (rTe (rTc (rTS M (uF A) n))) act m = M1 at *
      have hO1 : zO A1 m i j := (zO_c m1 m8 (hrm.1 6 m (by omega)) (fun i => hrm.1 4 i (by omega)) (com_c (fun i => hrm.1 2 i (by omega)) (fun i => hrm.1 5 i (by omega)) (fun _ => hrm.1 6 _ (by omega)) (by omega) (by omega)) (com_c (fun i => hrm.1 2 i (by omega)) (fun i => hrm.1 5 i (by omega)) (fun _ => hrm.1 6 _ (by omega)) (by omega) (by omega))).mpr hO
      have hS1 := hF1.2.1
      have e9' : A 9 (uF A) = A1 3 i - A1 3 j := by rw [e9, hrm.1 3 i (by omega), hrm.1 3 j (by omega)]
      have e10' : A 10 (uF A) = A1 4 j - A1 4 i := by rw [e10, hrm.1 4 i (by omega), hrm.1 4 j (by omega)]
      rw [e9', e10']
      obtain ⟨hw, hl⟩ := own_won hS1 hO1
      generalize hp : A1 3 i - A1 3 j = p at *
      generalize hq : A1 4 j - A1 4 i = q at *
      obtain ⟨i8, j8, o6, oc, os⟩ := hO1
      have hij : ¬ nI j = nI i := by
        intro c
        have := nI_inj (by omega) (by omega) c
        subst this
        omega
      have hne : ¬ uWon A1 (nI m) p q = A1 6 m := by
        rw [hw, o6]
        exact hij
      have gR : uDecR A1 (nI m) p q = true := by
        rw [decR_e m1 m8]
        exact decide_eq_true hne
      obtain ⟨hR1, -, hN1, hP1, hC1⟩ := id hF1
      have ea := com_e (A := A1) (N := M1 2) (m := m) (t := 0) hR1 hN1 m1 m8 (by omega) (fun h3 => (hP1.2.2.2.2 (2 * m) (by omega) (by omega) trivial).2.1)
      have eb := com_e (A := A1) (N := M1 2) (m := m) (t := 1) hR1 hN1 m1 m8 (by omega) (fun h3 => (hP1.2.2.2.2 (2 * m + 1) (by omega) (by omega) trivial).2.1)
      have oa := com_ok (A := A1) (m := m) (t := 0) m1 m8 (by omega) (fun h3 => (hP1.2.2.2.2 (2 * m) (by omega) (by omega) trivial).2.2)
      have ob := com_ok (A := A1) (m := m) (t := 1) m1 m8 (by omega) (fun h3 => (hP1.2.2.2.2 (2 * m + 1) (by omega) (by omega) trivial).2.2)
      rw [Nat.add_zero] at ea oa
      have eo : rUo M1 m p q = true := by
        unfold rUo rUw rUa rUb
        rw [← ea, ← eb, ← ahead_e hS1 hN1 oa ob, ← won_e, ← (hP1.2.2.2.2 m m1 m8 trivial).2.1, decide_eq_false hne]
        rfl
      have eU : rU M1 m p q = rCert (rU3 M1 m p q) m := by
        unfold rU
        rw [if_pos (Or.inl eo)]
      obtain ⟨n1, l1, l2, hF'⟩ := dec_step (A := A1) (M := M1) (M3 := rU3 M1 m p q) (n := n - 1) (m := m) (p := p) (q := q) m1 m8 (by omega) hF1 (fun _ => ⟨trivial, trivial⟩) rU3_a rU3_b (rU3_w m8) (fun k k1 k2 k3 => rU3_q (Or.inr ⟨k1, k2, k3⟩))
      rw [← eU] at hF'
      have hfr : ∀ a b, (a < 7 ∨ 12 < a) → ¬ (a = 6 ∧ b = m) → uDecA A1 (nI m) p q a b = A1 a b := fun a b h hb => dec_q m1 m8 hQ1.1 (by omega) h hb
      have e6 : uDecA A1 (nI m) p q 6 m = uWon A1 (nI m) p q := dec_6 m1 m8 hQ1.1 (by omega)
      obtain ⟨n', mk', l3, l4, l5, hQ', hB', h12, hz, hno⟩ := dec_qb (A := A1) (m := m) (n := n - 1) (mk := mk) (E := fun _ => False) (E' := fun k => k = m / 2) (p := p) (q := q) m1 m8 (by omega) (by omega) hS1 hL1 hQ1 (fun k k1 k2 k3 => hB1 k k1 k2 (fun c => k3 (Or.inr c))) oa ob (fun _ _ _ _ _ c => c) (fun k _ _ k3 k4 => absurd (by omega) k3)
      have en1 : n' = n - 1 := hno (by
        rw [hw, hl, nI_cl (by omega), nI_cl (by omega)]
        intro c
        have := c.2.2
        rw [ti_lt] at this
        omega)
      have emk : mk' = mk := by omega
      subst emk
      have en : n' = n1 := by
        have a1 := hQ'.1
        have a2 := hF'.2.2.2.1.1
        rw [a1] at a2
        exact nI_inj (by omega) (by omega) a2
      subst en
      have z12 := hz en1
      have c0 : cW (uDecA A1 (nI m) p q) m = 0 := cW_0 z12
      have c1 : cW A1 m = 1 := by
        unfold cW
        rw [if_neg]
        rw [hrm.2.2.2.2 m, ← g, e11, nI_e0 (by omega)]
        omega
      have hph2 := phi_c (A := A1) (B := uDecA A1 (nI m) p q) m1 m8 h12
      rw [c0, c1, Nat.mul_zero, Nat.mul_one] at hph2
      have hb2 : zBu (m / 2) ≤ wT m := by
        unfold wT zBu
        rcases (show m = 1 ∨ m = 2 ∨ m = 3 ∨ m = 4 ∨ m = 5 ∨ m = 6 ∨ m = 7 by omega) with c | c | c | c | c | c | c
        all_goals (subst c; decide)
      obtain ⟨n2, mk2, r1, r2, r3, r4, r5, r6, r7⟩ := ch_sim (p := p) (q := q) 2 (uDecA A1 (nI m) p q) (rU M1 m p q) (m / 2) n' mk' (n - 1 + zPhi A) (by omega) (by omega) (zF_T (fun k _ _ _ => Or.inl trivial) (fun k k1 k2 k3 => by
        by_cases c2 : k = m
        · exact Or.inr c2
        · exact Or.inl ⟨trivial, by omega, by omega⟩) hF') hQ' hB' (fun i hi => by rw [hfr 3 i (by omega) (by omega)]; exact hL1 i hi) (by omega) (by omega) (by
        intro hu2
        rw [eU, rCert_lo (by omega), rCert_lo (by omega), rU3_q (Or.inr ⟨by omega, by omega, by omega⟩), rU3_q (Or.inr ⟨by omega, by omega, by omega⟩)]
        have hcc := hC1 (m / 2) hu2 (by omega) trivial
        rw [hcc.1, hcc.2]
        intro c
        apply hne
        rw [← e6]
        by_cases ev : m = 2 * (m / 2)
        · have d1 := c.1
          rw [← ev, com_lo m1 m8, com_lo m1 m8] at d1
          exact d1.symm
        · have od : m = 2 * (m / 2) + 1 := by omega
          have d1 := c.2
          rw [← od, com_lo m1 m8, com_lo m1 m8] at d1
          exact d1.symm)
      have eC : uCh p q 3 A1 m 1 = uCh p q 2 (uDecA A1 (nI m) p q) (m / 2) 1 := by
        rw [uCh, if_neg (by
          intro c
          rcases c with c | c
          · omega
          · exact absurd c (by decide)), gR, xi_t]
      have eR : rUp p q 3 M1 m = rUp p q 2 (rU M1 m p q) (m / 2) := by
        rw [rUp, if_neg (by omega), if_pos eo]
      rw [eC, eR]
      have hfr2 : ∀ a b, (a < 6 ∨ 12 < a) → uCh p q 2 (uDecA A1 (nI m) p q) (m / 2) 1 a b = A1 a b := fun a b h => by rw [r6 a b h, hfr a b (by omega) (by omega)]
      refine ⟨n2, mk2, e + 1, ⟨r1, r2, r3, fun i hi => by rw [hfr2 3 i (by omega)]; exact hL1 i hi, r4⟩, by omega, by omega, ?_, fun a b h => by rw [hfr2 a b (by omega), hrm.1 a b (by omega)], fun a b h3 h4 => by rw [r7 a b h3, rU_rw h3, hrw a b h3 h4]⟩
      obtain ⟨t1, t2, t3, t4, t5, t6, t7, t8⟩ := hT1
      have q13 : ∀ b, uCh p q 2 (uDecA A1 (nI m) p q) (m / 2) 1 13 b = A1 13 b := fun b => hfr2 13 b (by omega)
      have q0 : ∀ b, rUp p q 2 (rU M1 m p q) (m / 2) 0 b = M1 0 b := fun b => by rw [r7 0 b (by omega), rU_rw (by omega)]
      refine ⟨?_, ?_, ?_, ?_, ?_, ?_, ?_, ?_⟩
      · rw [q13, q0, t1]
      · rw [q13, q0, t2]
      · rw [q13, q0, t3]
      · rw [q13, q0, t4]
      · rw [q13, q0, t5]
      · rw [q13, t6]
      · intro c
        rw [q13]
        exact t7 c
      · intro c
        rw [q13]
        exact t8 c
    · have gO : uOwn A (nI (uF A)) = false := by rw [eOwn]; exact decide_eq_false g
      rw [if_neg (fun c => g (eH.mp c))]
      rw [gO] at hrm hL1 hph ⊢
      rw [xi_f] at hrm hL1 hph ⊢
      rw [uCh_0]
      have hM1 : ∀ k, rTs (rTc (rTS M (uF A) n)) 2 k = rTS M (uF A) n 2 k := by
        intro k
        unfold rTs rTc
        rw [xup_q (by omega), xup_q (by omega)]
      refine ⟨n - 1, mk, e, ⟨zRm_F hf (by omega) hrm (fun b => hrm.1 0 b (by omega)) hM1 hF, zRm_qa hf hrm hQ, zRm_qb hf hrm e8 m8 (fun _ => g) hB, hL1, by omega⟩, by omega, by omega, cnt_0 hT, fun a b h => hrm.1 a b (by omega), fun a b h3 h4 => ?_⟩
      unfold rTs rTc
      rw [xup_q (by omega), xup_q (by omega), rTS_q (Or.inl h3)]
