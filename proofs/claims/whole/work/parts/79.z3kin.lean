/-- at a second: who wins each match is ahead, and nothing is due before it -/
def zKv (A : Nat → Nat → Int32) (s n : Nat) : Prop := (∀ m i j, 1 ≤ m → m < 8 → zPr A m i j → ¬ i = j → zAh A s 1 i j) ∧ kT A n s 1 ∧ zWk A (fun _ => False)
/-- the same at some time up to a second -/
def zKx (A : Nat → Nat → Int32) (n : Nat) (un : Int) : Prop := ∃ P Q : Int, 0 < Q ∧ P ≤ un * Q ∧ kW A P Q (fun _ => False) ∧ kT A n P Q ∧ zWk A (fun _ => False)
theorem zKv_x {A : Nat → Nat → Int32} {s n : Nat} (h : zKv A s n) : zKx A n ((s : Int) + 1) := by
  refine ⟨s, 1, by omega, by omega, fun m h1 h2 _ i j hp hij => ?_, h.2.1, h.2.2⟩
  have z := h.1 m i j h1 h2 hp hij
  refine ⟨?_, fun _ => z⟩
  rcases z with z | z
  · omega
  · omega
/-- one certificate taken: time goes on to it -/
theorem take_k {A : Nat → Nat → Int32} {n mk : Nat} {un act : Int32} (hQ : zQa A n mk) (hB : zQb A n (fun _ => False)) (hS : zS A) (hL : zL A) (h6 : ∀ k, 1 ≤ k → k < 8 → okR (A 6 k)) (hmk : mk ≤ 21) (hK : zKx A n un.toInt) (hf : uF A < n) (hN : uN A = n) (hE : uE A 0 n = nI (uF A)) (hd : zDu A un.toInt (uF A)) : ∃ n', uTk A act 7 5 = nI n' ∧ n' < 32 ∧ zKx (uTk A act) n' un.toInt := by
  have nmk := hQ.2.2.1
  have n32 : n < 32 := by omega
  obtain ⟨P, Q, hQ0, hPQ, hW, hT, hk⟩ := hK
  obtain ⟨⟨m, m1, m8, e8⟩, ⟨s, s1, s2, e11⟩, b1, b2, b3, b4⟩ := hQ.2.2.2.1 (uF A) hf
  have hmin := fun k hk => (earl_min hQ (by omega) n (Nat.le_refl n) (uF A) hE (by omega) k hk).2
  have hTu : kT A n (A 9 (uF A)).toInt (A 10 (uF A)).toInt := fun k hk => hmin k hk
  have hWu := kW_adv hQ hS hL hB hQ0 (show 0 < (A 10 (uF A)).toInt by omega) (hT (uF A) hf) hW hTu
  have cm : (nI m).toNatClampNeg = m := nI_cl (by omega)
  have eOwn : uOwn A (nI (uF A)) = decide (A 11 (uF A) = A 12 m) := by
    unfold uOwn
    rw [uHere_n hQ.1 (by omega) hf, nI_cl (by omega), e8, uM_n m1 m8, cm, Bool.true_and, Bool.true_and]
  have hrm := cnt_rm (A := A) (f := uF A) (n := n) (ev := xi (uOwn A (nI (uF A)))) (act := act) (m := A 8 (uF A)) hQ.1 hf
  unfold uTk
  rw [hN]
  generalize hA1 : uCnt (uRem A (uF A) n) (xi (uOwn A (nI (uF A)))) act (A 8 (uF A)) = A1 at *
  have hQ1 := zRm_qa hf hrm hQ
  have hS1 : zS A1 := zS_c (fun b => hrm.1 4 b (by omega)) hS
  have hL1 : zL A1 := fun i hi => by rw [hrm.1 3 i (by omega)]; exact hL i hi
  have h61 : ∀ k, 1 ≤ k → k < 8 → okR (A1 6 k) := fun k k1 k2 => by rw [hrm.1 6 k (by omega)]; exact h6 k k1 k2
  have hT1 : kT A1 (n - 1) (A 9 (uF A)).toInt (A 10 (uF A)).toInt := fun k hk => by
    rw [hrm.2.2.2.1 10 k (by omega) (by omega) hk, hrm.2.2.2.1 9 k (by omega) (by omega) hk]
    exact hTu _ (zJ_n hf hk).1
  have hW1 : kW A1 (A 9 (uF A)).toInt (A 10 (uF A)).toInt (fun _ => False) := by
    intro k k1 k2 k3 i j hp hij
    rw [zVal_c (fun i => hrm.1 3 i (by omega)) (fun i => hrm.1 4 i (by omega)), zVal_c (fun i => hrm.1 3 i (by omega)) (fun i => hrm.1 4 i (by omega)), hrm.1 4 j (by omega), hrm.1 4 i (by omega), zAh_c (fun i => hrm.1 3 i (by omega)) (fun i => hrm.1 4 i (by omega))]
    exact hWu k k1 k2 k3 i j ((zPr_c (hrm.1 6 k (by omega)) (com_c (fun i => hrm.1 2 i (by omega)) (fun i => hrm.1 5 i (by omega)) (fun _ => hrm.1 6 _ (by omega)) (by omega) (by omega)) (com_c (fun i => hrm.1 2 i (by omega)) (fun i => hrm.1 5 i (by omega)) (fun _ => hrm.1 6 _ (by omega)) (by omega) (by omega))).mp hp) hij
  have hk1 : zWk A1 (fun _ => False) := zWk_c (fun i => hrm.1 2 i (by omega)) (fun i => hrm.1 5 i (by omega)) (fun i => hrm.1 6 i (by omega)) hk
  rw [e8, cm]
  by_cases g : A 11 (uF A) = A 12 m
  · have gO : uOwn A (nI (uF A)) = true := by rw [eOwn]; exact decide_eq_true g
    rw [gO, xi_t]
    have hp : -21800 ≤ (A 9 (uF A)).toInt ∧ (A 9 (uF A)).toInt ≤ 21800 := ⟨b3, b4⟩
    have hq : 0 ≤ (A 10 (uF A)).toInt ∧ (A 10 (uF A)).toInt ≤ 100 := ⟨by omega, b2⟩
    have oa := com_ok (A := A1) (m := m) (t := 0) m1 m8 (by omega) (fun h3 => h61 (2 * m) (by omega) (by omega))
    have ob := com_ok (A := A1) (m := m) (t := 1) m1 m8 (by omega) (fun h3 => h61 (2 * m + 1) (by omega) (by omega))
    rw [Nat.add_zero] at oa
    have hfr : ∀ a b, (a < 7 ∨ 12 < a) → ¬ (a = 6 ∧ b = m) → uDecA A1 (nI m) (A 9 (uF A)) (A 10 (uF A)) a b = A1 a b := fun a b h hb => dec_q m1 m8 hQ1.1 (by omega) h hb
    have e6 : uDecA A1 (nI m) (A 9 (uF A)) (A 10 (uF A)) 6 m = uWon A1 (nI m) (A 9 (uF A)) (A 10 (uF A)) := dec_6 m1 m8 hQ1.1 (by omega)
    have h6' : ∀ k, 1 ≤ k → k < 8 → okR (uDecA A1 (nI m) (A 9 (uF A)) (A 10 (uF A)) 6 k) := by
      intro k k1 k2
      by_cases e : k = m
      · subst e
        rw [e6, won_e]
        exact ahead_ok oa ob
      · rw [hfr 6 k (by omega) (by omega)]
        exact h61 k k1 k2
    have hS' := zS_c (fun b => hfr 4 b (by omega) (by omega)) hS1
    have hL' : zL (uDecA A1 (nI m) (A 9 (uF A)) (A 10 (uF A))) := fun i hi => by rw [hfr 3 i (by omega) (by omega)]; exact hL1 i hi
    obtain ⟨r1, r2⟩ := dec_kW (A := A1) (E := fun _ => False) (E' := fun k => k = m / 2) (p := A 9 (uF A)) (q := A 10 (uF A)) m1 m8 (by omega) (by omega) hS1 hL1 hQ1 oa ob hp hq (fun k k1 k2 _ => hW1 k k1 k2 (fun c => c)) hT1 (fun _ _ _ _ _ c => c) (fun k _ _ k3 k4 => absurd (by omega) k3)
    have eC : ∃ c, uCh (A 9 (uF A)) (A 10 (uF A)) 3 A1 m 1 = uCh (A 9 (uF A)) (A 10 (uF A)) 2 (uDecA A1 (nI m) (A 9 (uF A)) (A 10 (uF A))) (m / 2) (xi c) ∧ c = uDecR A1 (nI m) (A 9 (uF A)) (A 10 (uF A)) := by
      refine ⟨_, ?_, rfl⟩
      rw [uCh, if_neg (by
        intro c
        rcases c with c | c
        · omega
        · exact absurd c (by decide))]
    obtain ⟨c, eC, ec⟩ := eC
    rw [eC]
    have hfin : ∀ n2, n2 < 32 → ∀ B : Nat → Nat → Int32, B 7 5 = nI n2 → kW B (A 9 (uF A)).toInt (A 10 (uF A)).toInt (fun _ => False) → kT B n2 (A 9 (uF A)).toInt (A 10 (uF A)).toInt → zWk B (fun _ => False) → ∃ n', B 7 5 = nI n' ∧ n' < 32 ∧ zKx B n' un.toInt := fun n2 h1 B h2 h3 h4 h5 => ⟨n2, h2, h1, _, _, by omega, hd, h3, h4, h5⟩
    have r5 := dec_wk (E := fun _ => False) (E' := fun k => k = m / 2) (p := A 9 (uF A)) (q := A 10 (uF A)) m1 m8 hQ1.1 (by omega) oa ob (fun k k1 k2 _ => hk1 k k1 k2 (fun c => c)) (fun _ _ _ _ _ c => c) (fun k _ _ k3 k4 => absurd (by omega) k3)
    cases c with
    | true =>
      rw [xi_t]
      rcases r2 with ⟨r2, r3⟩ | ⟨r2, r3⟩
      · obtain ⟨n2, q1, q2, q3, q4, q5⟩ := kch hp hq 2 _ (m / 2) (n - 1) mk (by omega) (by omega) (by omega) hS' hL' r2 h6' r1 r3 r5 (by omega)
        exact hfin n2 q2 _ q1 q3 q4 q5
      · obtain ⟨n2, q1, q2, q3, q4, q5⟩ := kch hp hq 2 _ (m / 2) (n - 1 + 1) (mk + 1) (by omega) (by omega) (by omega) hS' hL' r2 h6' r1 r3 r5 (by omega)
        exact hfin n2 q2 _ q1 q3 q4 q5
    | false =>
      rw [xi_f, uCh_0]
      have gW : uWon A1 (nI m) (A 9 (uF A)) (A 10 (uF A)) = A1 6 m := by
        rw [decR_e m1 m8] at ec
        exact Classical.byContradiction fun x => by
          rw [decide_eq_true x] at ec
          exact absurd ec (by decide)
      obtain ⟨r1, -⟩ := dec_kW (A := A1) (E := fun _ => False) (E' := fun _ => False) (p := A 9 (uF A)) (q := A 10 (uF A)) m1 m8 (by omega) (by omega) hS1 hL1 hQ1 oa ob hp hq (fun k k1 k2 _ => hW1 k k1 k2 (fun c => c)) hT1 (fun _ _ _ _ _ c => c) (fun k _ _ _ _ => by rw [e6, gW])
      have r6 := dec_wk (E := fun _ => False) (E' := fun _ => False) (p := A 9 (uF A)) (q := A 10 (uF A)) m1 m8 hQ1.1 (by omega) oa ob (fun k k1 k2 _ => hk1 k k1 k2 (fun c => c)) (fun _ _ _ _ _ c => c) (fun k _ _ _ _ => by rw [e6, gW])
      rcases r2 with ⟨r2, r3⟩ | ⟨r2, r3⟩
      · exact hfin (n - 1) (by omega) _ r2.1 r1 r3 r6
      · exact hfin (n - 1 + 1) (by omega) _ r2.1 r1 r3 r6
  · have gO : uOwn A (nI (uF A)) = false := by rw [eOwn]; exact decide_eq_false g
    rw [gO, xi_f, uCh_0]
    exact ⟨n - 1, hQ1.1, by omega, _, _, by omega, hd, hW1, hT1, hk1⟩
/-- nothing more is due: who wins is ahead -/
theorem end_k {A : Nat → Nat → Int32} {n mk s : Nat} (hQ : zQa A n mk) (hn32 : n ≤ 32) (hS : zS A) (hL : zL A) (hB : zQb A n (fun _ => False)) (hK : zKx A n ((s : Int) + 1)) (hnd : ∀ f, uE A 0 n = nI f → f < n → ¬ zDu A ((s : Int) + 1) f) : zKv A (s + 1) n := by
  obtain ⟨P, Q, hQ0, hPQ, hW, hT, hk⟩ := hK
  have hall : ∀ k, k < n → ((s : Int) + 1) * (A 10 k).toInt < (A 9 k).toInt := by
    intro k hk
    obtain ⟨f, f1, f2⟩ := earl_e0 (A := A) n (by omega)
    have hm := (earl_min hQ hn32 n (Nat.le_refl n) f f2.symm (by omega) k hk).2
    have nd := hnd f f2.symm f1
    have bf := hQ.2.2.2.1 f f1
    have bk := hQ.2.2.2.1 k hk
    exact Classical.byContradiction fun c => nd (int_due (by omega) (by omega) hm (by omega))
  have hT1 : kT A n ((s : Int) + 1) 1 := fun k hk => by
    have := hall k hk
    omega
  have hW1 := kW_adv hQ hS hL hB hQ0 (show (0 : Int) < 1 by omega) (show P * 1 ≤ ((s : Int) + 1) * Q by omega) hW hT1
  have es : (((s + 1 : Nat)) : Int) = (s : Int) + 1 := by omega
  refine ⟨fun m i j h1 h2 hp hij => ?_, fun k hk => by rw [es]; exact hT1 k hk, hk⟩
  rw [es]
  obtain ⟨w1, w2⟩ := hW1 m h1 h2 (fun c => c) i j hp hij
  by_cases g : (A 4 j).toInt ≤ (A 4 i).toInt
  · exact w2 g
  · have hO := zPr_O hp (by omega)
    obtain ⟨b1, b2, b3⟩ := hB m h1 h2 (fun c => c)
    obtain ⟨k, k1, k2, k3⟩ := b2 (b3 i j hO)
    obtain ⟨i', j', o1, o2, o3⟩ := b1 k k1 k2 k3
    have i8 := hp.1
    have jj8 := hp.2.1
    have i'8 := o1.1
    have j'8 := o1.2.1
    have ei : i' = i := by
      have := o1.2.2.1
      rw [hp.2.2.1] at this
      exact (nI_inj (by omega) (by omega) this).symm
    subst ei
    have ej : j' = j := by
      rcases o1.2.2.2.1 with ⟨c1, c2⟩ | ⟨c1, c2⟩
      · rcases hp.2.2.2 with ⟨d1, d2⟩ | ⟨d1, d2⟩
        · rw [c2] at d2
          exact nI_inj (by omega) (by omega) d2
        · rw [c1] at d1
          exact absurd (nI_inj (by omega) (by omega) d1) hij
      · rcases hp.2.2.2 with ⟨d1, d2⟩ | ⟨d1, d2⟩
        · rw [c2] at d2
          exact absurd (nI_inj (by omega) (by omega) d2) hij
        · rw [c1] at d1
          exact nI_inj (by omega) (by omega) d1
    subst ej
    have si := hS i' i8
    have sj := hS j' j'8
    have li := hL i' i8
    have lj := hL j' j'8
    have t := hall k k1
    rw [o2, o3, ti_sub (by omega) (by omega), ti_sub (by omega) (by omega), Int.mul_sub, Int.mul_comm _ (A 4 j').toInt, Int.mul_comm _ (A 4 i').toInt] at t
    left
    unfold zVal
    omega
/-- begun anew: who wins is ahead -/
theorem an_k {s : Nat} (hs : s ≤ 99) : ∀ m A n, m < 8 → n + m ≤ 7 → zR A → zS A → zL A → zQa A n n → (∀ k, m < k → k < 8 → okR (A 6 k)) → kW A s 1 (fun k => k ≤ m) → kT A n s 1 → zWk A (fun k => k ≤ m) → ∃ n', uAn (nI s) m A 7 5 = nI n' ∧ n' < 32 ∧ kW (uAn (nI s) m A) s 1 (fun _ => False) ∧ kT (uAn (nI s) m A) n' s 1 ∧ zWk (uAn (nI s) m A) (fun _ => False)
  | 0, A, n, _, h2, _, _, _, hQ, _, hW, hT, hk => ⟨n, hQ.1, by omega, fun k k1 k2 _ => hW k k1 k2 (by omega), hT, fun k k1 k2 _ => hk k k1 k2 (by omega)⟩
  | m + 1, A, n, h1, h2, hR, hS, hL, hQ, h6, hW, hT, hk => by
    have ts : (nI s).toInt = (s : Int) := ti_nI (by omega)
    have oa := com_ok (A := A) (m := m + 1) (t := 0) (by omega) h1 (by omega) (fun h3 => h6 (2 * (m + 1) + 0) (by omega) (by omega))
    have ob := com_ok (A := A) (m := m + 1) (t := 1) (by omega) h1 (by omega) (fun h3 => h6 (2 * (m + 1) + 1) (by omega) (by omega))
    rw [Nat.add_zero] at oa
    have hfr : ∀ a b, (a < 7 ∨ 12 < a) → ¬ (a = 6 ∧ b = m + 1) → uDecA A (nI (m + 1)) (nI s) 1 a b = A a b := fun a b h hb => dec_q (by omega) h1 hQ.1 (by omega) h hb
    have h6' : ∀ k, m < k → k < 8 → okR (uDecA A (nI (m + 1)) (nI s) 1 6 k) := by
      intro k k1 k2
      by_cases e : k = m + 1
      · subst e
        rw [dec_6 (by omega) h1 hQ.1 (by omega), won_e]
        exact ahead_ok oa ob
      · rw [hfr 6 k (by omega) (by omega)]
        exact h6 k (by omega) k2
    obtain ⟨r1, r2⟩ := dec_kW (A := A) (m := m + 1) (n := n) (mk := n) (E := fun k => k < m + 1) (E' := fun k => k ≤ m) (p := nI s) (q := 1) (by omega) h1 (by omega) (by omega) hS hL hQ oa ob (by rw [ts]; omega) (by rw [q_1]; omega) (by rw [ts, q_1]; exact fun k k1 k2 k3 => hW k k1 k2 (by omega)) (by rw [ts, q_1]; exact hT) (fun k k1 k2 k3 k4 => by omega) (fun k k1 k2 k3 k4 => by omega)
    rw [ts, q_1] at r1 r2
    have r5 := dec_wk (E := fun k => k < m + 1) (E' := fun k => k ≤ m) (p := nI s) (q := 1) (by omega) h1 hQ.1 (by omega) oa ob (fun k k1 k2 k3 => hk k k1 k2 (by omega)) (fun k k1 k2 k3 k4 => by omega) (fun k k1 k2 k3 k4 => by omega)
    have hR' := zR_c (fun a b h3 h4 => hfr a b (by omega) (by omega)) hR
    have hS' := zS_c (fun b => hfr 4 b (by omega) (by omega)) hS
    have hL' : zL (uDecA A (nI (m + 1)) (nI s) 1) := fun i hi => by rw [hfr 3 i (by omega) (by omega)]; exact hL i hi
    rw [uAn]
    rcases r2 with ⟨r2, r3⟩ | ⟨r2, r3⟩
    · exact an_k hs m _ n (by omega) (by omega) hR' hS' hL' r2 h6' r1 r3 r5
    · exact an_k hs m _ (n + 1) (by omega) (by omega) hR' hS' hL' r2 h6' r1 r3 r5
