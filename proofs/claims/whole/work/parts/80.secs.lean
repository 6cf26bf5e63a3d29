theorem uLp_n {un act : Int32} {A : Nat → Nat → Int32} (h : uDue A un = false) : ∀ F, uLp un act F A = A
  | 0 => rfl
  | F + 1 => by rw [uLp, h, if_neg (by decide)]
theorem zI_n {A M : Nat → Nat → Int32} {n mk : Nat} (h : zI A M n mk) : n ≤ 21 := by
  have a := h.2.1.2.2.1
  have b := h.2.2.2.2
  omega
/-- all that comes due by a second: the same -/
theorem lp_sim (X : xX) (sh : List (Nat × Nat × List Value)) (σ : Nat → Nat → Int32) (hm : xmod sh) {s : Nat} {act : Int32} (hs : s < 99) (ha : ¬ act < 0) : ∀ d F A M n mz e, d ≤ F → n + zPhi A ≤ d → zI A M n mz → zKx A n ((s : Int) + 1) → zT A M e → e + d < 100000000 → M 2 40 = nI s → ∃ M' n' mz' e', zKx (uLp (nI (s + 1)) act F A) n' ((s : Int) + 1) ∧  xV X 140 (29, [.ref 78, .int act, .int (rDue (M 2) (nI (s + 1)))], [], (sh, xput 8 σ 78 M)) = some (some (.int 0), (sh, xput 8 σ 78 (xup M' 2 40 (M' 2 40 + 1)))) ∧ zI (uLp (nI (s + 1)) act F A) M' n' mz' ∧ zT (uLp (nI (s + 1)) act F A) M' e' ∧ e' ≤ e + d ∧ uDue (uLp (nI (s + 1)) act F A) (nI (s + 1)) = false ∧ (∀ a b, a < 6 → uLp (nI (s + 1)) act F A a b = A a b) ∧ ∀ a b, ¬ a = 2 → (a = 0 → b < 6 ∨ 10 < b) → M' a b = M a b := by
  have t1 := ti_nI (n := s + 1) (by omega)
  have t2 : (nI (s + 1)).toInt = (s : Int) + 1 := by rw [t1]; omega
  intro d
  induction d with
  | zero =>
    intro F A M n mz e hd hn hI hK hT he h40
    have n0 : n = 0 := by omega
    rcases take_w (un := nI (s + 1)) hI.2.1 hI.1.2.2.2.1 (by omega) (by omega) (by omega) with ⟨c1, c2, -⟩ | ⟨-, c2, -⟩
    · rw [uLp_n c1, c2]
      exact ⟨M, n, mz, e, hK, x140 X sh σ M hm act (-6) m6_l, hI, hT, by omega, c1, fun a b _ => rfl, fun a b _ _ => rfl⟩
    · omega
  | succ d ih =>
    intro F A M n mz e hd hn hI hK hT he h40
    have n21 := zI_n hI
    rcases take_w (un := nI (s + 1)) hI.2.1 hI.1.2.2.2.1 (by omega) (by omega) (by omega) with ⟨c1, c2, -⟩ | ⟨c1, cf, cN, -, cE⟩
    · rw [uLp_n c1, c2]
      exact ⟨M, n, mz, e, hK, x140 X sh σ M hm act (-6) m6_l, hI, hT, by omega, c1, fun a b _ => rfl, fun a b _ _ => rfl⟩
    · obtain ⟨eD, hf, ⟨m, m1, m8, e75⟩, n', mz', e', hI', hn', he', hT', hfa, hfm⟩ := take_sim hI hT (by omega) ha c1 (by omega) (by omega)
      have hdu : zDu A (nI (s + 1)).toInt (uF A) := by
        refine (due_e hI.2.1 cf (by omega) (by omega)).mp ?_
        have c2 := c1
        unfold uDue at c2
        rw [Bool.and_eq_true, decide_eq_true_eq, decide_eq_true_eq] at c2
        exact c2.2
      obtain ⟨nk, k1, k2, k3⟩ := take_k (act := act) hI.2.1 hI.2.2.1 hI.1.2.1 hI.2.2.2.1 (fun k x1 x2 => (hI.1.2.2.2.1.2.2.2.2 k x1 x2 trivial).2.2) (by have := hI.2.2.2.2; omega) (by rw [t2]; exact hK) cf cN cE hdu
      have enk : nk = n' := by
        have a1 := hI'.2.1.1
        have a2 := zI_n hI'
        rw [k1] at a1
        exact nI_inj (by omega) (by omega) a1
      subst enk
      rw [t2] at k3
      obtain ⟨F', rfl⟩ : ∃ F', F = F' + 1 := ⟨F - 1, by omega⟩
      have h40' : rTk M (uF A) act 2 40 = nI s := by
        have a1 := hI'.1.2.2.1.2
        have a2 := hI.1.2.2.1.2
        rw [← a1, hfa 0 8 (by omega), a2, h40]
      have n21' := zI_n hI'
      obtain ⟨M', n2, mz2, e2, r0, r1, r2, r3, r4, r5, r6, r7⟩ := ih F' (uTk A act) (rTk M (uF A) act) nk mz' e' (by omega) (by omega) hI' k3 hT' (by omega) h40'
      rw [uLp, c1, if_pos rfl]
      refine ⟨M', n2, mz2, e2, r0, ?_, r2, r3, by omega, r5, fun a b h => by rw [r6 a b h, hfa a b h], fun a b h3 h4 => by rw [r7 a b h3 h4, hfm a b h3 h4]⟩
      have q1 := k142 X sh σ M hm (uF A) n m act hI.1.2.2.2.1.2.1 (by omega) hf e75 m8 (by omega) (rw_ok hI.1)
      have q2 := k141 X sh σ (rTk M (uF A) act) hm nk hI'.1.2.2.2.1.2.1 (by omega) (nI s + 1)
      rw [eD, i140 X sh σ M hm (rTk M (uF A) act) (nI s) act _ (uF A) (by omega) q1 h40' q2, nI_1]
      exact r1
theorem rAl_rw {a b : Nat} (h : ¬ a = 2) : ∀ m M, rAl m M a b = M a b
  | 0, _ => rfl
  | m + 1, M => by rw [rAl, rAl_rw h m, rAs_rw h]
theorem rAnew_rw {M : Nat → Nat → Int32} {a b : Nat} (h : ¬ a = 2) : rAnew M a b = M a b := by
  unfold rAnew
  rw [rAl_rw h, xup_q (by omega), xup_q (by omega)]
/-- a cup begun anew -/
theorem anew_I {A M : Nat → Nat → Int32} (hR : zR A) (hS : zS A) (hL : zL A) (hN : zN A (M 2)) : ∃ n, n ≤ 7 ∧ zI (uAnew A) (rAnew M) n n := by
  obtain ⟨n, n7, hF⟩ := anew_sim hR hS hN
  obtain ⟨n2, n27, hQ, hB, -⟩ := anew_inv hR hS hL
  have e : n2 = n := by
    have a1 := hQ.1
    have a2 := hF.2.2.2.1.1
    rw [a1] at a2
    exact nI_inj (by omega) (by omega) a2
  subst e
  have p := zPhi_14 (uAnew A)
  exact ⟨n2, n7, hF, hQ, hB, fun i hi => by rw [anew_q hR hS hL (by omega)]; exact hL i hi, by omega⟩
/-- values are bounded at the second -/
def zV (A : Nat → Nat → Int32) (s : Nat) : Prop := s ≤ 99 ∧ A 0 8 = nI s ∧ ∀ i, i < 8 → -(1000 + 50 * (s : Int)) ≤ (A 3 i).toInt + (A 4 i).toInt * s ∧ (A 3 i).toInt + (A 4 i).toInt * s ≤ 1000 + 50 * s
theorem int_ms {x : Int} {s : Nat} (h1 : -50 ≤ x) (h2 : x ≤ 50) (hs : s ≤ 100) : -(50 * (s : Int)) ≤ x * s ∧ x * s ≤ 50 * s := by
  constructor
  · have a : -50 * (s : Int) ≤ x * s := Int.mul_le_mul_of_nonneg_right h1 (by omega)
    omega
  · exact Int.mul_le_mul_of_nonneg_right h2 (by omega)
theorem zV_L {A : Nat → Nat → Int32} {s : Nat} (hS : zS A) (h : zV A s) : zL A := by
  intro i hi
  have a := h.2.2 i hi
  have b := int_ms (hS i hi).1 (hS i hi).2 (s := s) (by have := h.1; omega)
  have c := h.1
  omega
theorem zV_s {A : Nat → Nat → Int32} {s : Nat} (hS : zS A) (hs : s < 99) (h : zV A s) : zV (xup A 0 8 (nI (s + 1))) (s + 1) := by
  refine ⟨by omega, xup_same, fun i hi => ?_⟩
  rw [xup_q (by omega), xup_q (by omega)]
  have a := h.2.2 i hi
  have b := hS i hi
  have e : (A 4 i).toInt * ((s + 1 : Nat) : Int) = (A 4 i).toInt * s + (A 4 i).toInt := by
    rw [Int.natCast_add, Int.mul_add]
    omega
  rw [e]
  omega
/-- all rows but the tally and scratch -/
def zA (A M : Nat → Nat → Int32) (s e : Nat) : Prop := (∃ n mk, zI A M n mk ∧ zKv A s n) ∧ zV A s ∧ zT A M e
/-- a second: the same -/
theorem sec_sim (X : xX) (sh : List (Nat × Nat × List Value)) (σ A M : Nat → Nat → Int32) (hm : xmod sh) {s e : Nat} {act : Int32} (ha : ¬ act < 0) (he : e < 10000000) (h : zA A M s e) : (s = 99 ∧ xK X 140 [.ref 78, .int act] (sh, xput 8 σ 78 M) = some (some (.int 7), (sh, xput 8 σ 78 M))) ∨ (s < 99 ∧ ∃ M' e', xK X 140 [.ref 78, .int act] (sh, xput 8 σ 78 M) = some (some (.int 0), (sh, xput 8 σ 78 M')) ∧ e' ≤ e + 1000 ∧ zA (uPerf A act 46 0 0) M' (s + 1) e' ∧ ∀ a b, ¬ a = 2 → (a = 0 → b < 6 ∨ 10 < b) → M' a b = M a b) := by
  obtain ⟨⟨n, mz, hI, hKv⟩, hV, hT⟩ := h
  have hS := hI.1.2.1
  have h40 : M 2 40 = nI s := by rw [← hI.1.2.2.1.2, hV.2.1]
  have n21 := zI_n hI
  by_cases g : s = 99
  · subst g
    exact Or.inl ⟨rfl, y140 X sh σ M hm act (by rw [h40]; rfl)⟩
  · have s99 := hV.1
    refine Or.inr ⟨by omega, ?_⟩
    have ph := zPhi_14 A
    obtain ⟨M', n2, mz2, e2, r0, r1, r2, r3, r4, r5, r6, r7⟩ := lp_sim X sh σ hm (s := s) (act := act) (by omega) ha 1000 1000 A M n mz e (by omega) (by omega) hI (zKv_x hKv) hT (by omega) h40
    have t2 : (nI (s + 1)).toInt = (s : Int) + 1 := by rw [ti_nI (by omega)]; omega
    have n221 := zI_n r2
    have hEnd : zKv (uLp (nI (s + 1)) act 1000 A) (s + 1) n2 := by
      rcases take_w (un := nI (s + 1)) r2.2.1 r2.1.2.2.2.1 (by omega) (by omega) (by omega) with ⟨-, -, c3⟩ | ⟨c1, -⟩
      · rw [t2] at c3
        exact end_k r2.2.1 (by omega) r2.1.2.1 r2.2.2.2.1 r2.2.2.1 r0 c3
      · rw [r5] at c1
        exact absurd c1 (by decide)
    have q2 := k141 X sh σ M hm n hI.1.2.2.2.1.2.1 (by omega) (nI s + 1)
    have hk := h140 X sh σ M hm act (nI s) (rDue (M 2) (nI s + 1)) h40 (by
      intro c
      have := ti_nI (n := s) (by omega)
      rw [c, q_99] at this
      omega) q2 _ _ (by rw [nI_1]; exact r1)
    refine ⟨_, e2, hk, r4, ?_, fun a b h3 h4 => by rw [xup_q (by omega), r7 a b h3 h4]⟩
    have eP : uPerf A act 46 0 0 = xup (uLp (nI (s + 1)) act 1000 A) 0 8 (nI (s + 1)) := by
      unfold uPerf
      rw [if_pos rfl, hV.2.1, nI_1]
    have eM : M' 2 40 + 1 = nI (s + 1) := by
      rw [← r2.1.2.2.1.2, r6 0 8 (by omega), hV.2.1, nI_1]
    rw [eP, eM]
    generalize uLp (nI (s + 1)) act 1000 A = B at *
    refine ⟨⟨n2, mz2, ?_, zKv_c (fun a b h1 h2 => xup_q (by omega)) hEnd⟩, ?_, ?_⟩
    · obtain ⟨⟨f1, f2, f3, ⟨p1, p2, p3, p4, p5⟩, f5⟩, i2, i3, i4, i5⟩ := r2
      have q1 : ∀ a b, ¬ a = 0 → xup B 0 8 (nI (s + 1)) a b = B a b := fun a b h => xup_q (by omega)
      have q2 : ∀ k, ¬ k = 40 → xup M' 2 40 (nI (s + 1)) 2 k = M' 2 k := fun k h => xup_q (by omega)
      have hcm : ∀ f, 1 ≤ f → f < 16 → uCom (xup B 0 8 (nI (s + 1))) (nI f) = uCom B (nI f) := fun f h1 h2 => com_c (fun i => q1 2 i (by omega)) (fun i => q1 5 i (by omega)) (fun _ => q1 6 _ (by omega)) h1 h2
      have hzo : ∀ m i j, 1 ≤ m → m < 8 → (zO (xup B 0 8 (nI (s + 1))) m i j ↔ zO B m i j) := fun m i j h1 h2 => zO_c h1 h2 (q1 6 m (by omega)) (fun i => q1 4 i (by omega)) (hcm _ (by omega) (by omega)) (hcm _ (by omega) (by omega))
      refine ⟨⟨zR_c (fun a b h1 h2 => q1 a b (by omega)) f1, zS_c (fun b => q1 4 b (by omega)) f2, ⟨fun i hi => ?_, ?_⟩, ⟨?_, ?_, ?_, fun k hk => ?_, fun m h1 h2 h3 => ?_⟩, fun k h1 h2 h3 => ?_⟩, ⟨?_, ?_, i2.2.2.1, fun k hk => ?_, fun j k hj hk => ?_, fun m h1 h2 => ?_⟩, fun m h1 h2 h3 => ?_, fun i hi => ?_, ?_⟩
      · rw [q1 1 i (by omega), q1 2 i (by omega), q1 3 i (by omega), q1 4 i (by omega), q1 5 i (by omega), q2 _ (by omega), q2 _ (by omega), q2 _ (by omega), q2 _ (by omega), q2 _ (by omega)]
        exact f3.1 i hi
      · rw [xup_same, xup_same]
      · rw [q1 7 5 (by omega), p1]
      · rw [q2 73 (by omega), p2]
      · rw [q1 7 6 (by omega), q2 74 (by omega), p3]
      · rw [q1 8 k (by omega), q1 9 k (by omega), q1 10 k (by omega), q1 11 k (by omega), q2 _ (by omega), q2 _ (by omega), q2 _ (by omega), q2 _ (by omega)]
        exact p4 k hk
      · rw [q1 12 m (by omega), q1 6 m (by omega), q2 _ (by omega), q2 _ (by omega)]
        exact p5 m h1 h2 h3
      · rw [q2 _ (by omega), q2 _ (by omega), hcm _ (by omega) (by omega), hcm _ (by omega) (by omega)]
        exact f5 k h1 h2 h3
      · rw [q1 7 5 (by omega), i2.1]
      · rw [q1 7 6 (by omega), i2.2.1]
      · rw [q1 8 k (by omega), q1 9 k (by omega), q1 10 k (by omega), q1 11 k (by omega)]
        exact i2.2.2.2.1 k hk
      · rw [q1 11 j (by omega), q1 11 k (by omega)]
        exact i2.2.2.2.2.1 j k hj hk
      · rw [q1 12 m (by omega)]
        exact i2.2.2.2.2.2 m h1 h2
      · obtain ⟨b1, b2, b3⟩ := i3 m h1 h2 h3
        rw [q1 12 m (by omega)]
        refine ⟨fun k hk c1 c2 => ?_, fun c => ?_, fun i j c => b3 i j ((hzo m i j h1 h2).mp c)⟩
        · rw [q1 8 k (by omega)] at c1
          rw [q1 11 k (by omega)] at c2
          obtain ⟨i, j, g1, g2, g3⟩ := b1 k hk c1 c2
          exact ⟨i, j, (hzo m i j h1 h2).mpr g1, by rw [q1 9 k (by omega), q1 3 i (by omega), q1 3 j (by omega), g2], by rw [q1 10 k (by omega), q1 4 i (by omega), q1 4 j (by omega), g3]⟩
        · obtain ⟨k, g1, g2, g3⟩ := b2 c
          exact ⟨k, g1, by rw [q1 8 k (by omega), g2], by rw [q1 11 k (by omega), g3]⟩
      · rw [q1 3 i (by omega)]
        exact i4 i hi
      · rw [phi_12 (fun b => q1 12 b (by omega))]
        exact i5
    · have hv : zV B s := ⟨hV.1, by rw [r6 0 8 (by omega), hV.2.1], fun i hi => by
        rw [r6 3 i (by omega), r6 4 i (by omega)]
        exact hV.2.2 i hi⟩
      exact zV_s r2.1.2.1 (by omega) hv
    · obtain ⟨t1, t2, t3, t4, t5, t6, t7, t8⟩ := r3
      refine ⟨?_, ?_, ?_, ?_, ?_, ?_, ?_, ?_⟩
      · rw [xup_q (by omega), xup_q (by omega), t1]
      · rw [xup_q (by omega), xup_q (by omega), t2]
      · rw [xup_q (by omega), xup_q (by omega), t3]
      · rw [xup_q (by omega), xup_q (by omega), t4]
      · rw [xup_q (by omega), xup_q (by omega), t5]
      · rw [xup_q (by omega), t6]
      · intro c
        rw [xup_q (by omega)]
        exact t7 c
      · intro c
        rw [xup_q (by omega)]
        exact t8 c
