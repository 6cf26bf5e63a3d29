/-- a changed line up: what begins anew -/
theorem anew_A {A A1 M M1 : Nat → Nat → Int32} {s e : Nat} (hR : zR A1) (hS : zS A1) (hV : zV A1 s) (hN : zN A1 (M1 2)) (h13 : ∀ b, A1 13 b = A 13 b) (h0 : ∀ b, M1 0 b = M 0 b) (hT : zT A M e) : zA (uAnew A1) (rAnew M1) s e := by
  have hL := zV_L hS hV
  obtain ⟨n, -, hI⟩ := anew_I hR hS hL hN
  obtain ⟨n2, k1, k2, k3⟩ := anew_K hV.1 hV.2.1 hR hS hL
  have en : n2 = n := by
    have a1 := hI.2.1.1
    have a2 := zI_n hI
    rw [k1] at a1
    exact nI_inj (by omega) (by omega) a1
  subst en
  refine ⟨⟨n2, n2, hI, k3⟩, ⟨hV.1, by rw [anew_q hR hS hL (by omega), hV.2.1], fun i hi => ?_⟩, ?_⟩
  · rw [anew_q hR hS hL (by omega), anew_q hR hS hL (by omega)]
    exact hV.2.2 i hi
  · have q13 : ∀ b, uAnew A1 13 b = A 13 b := fun b => by rw [anew_q hR hS hL (by omega), h13]
    have q0 : ∀ b, rAnew M1 0 b = M 0 b := fun b => by rw [rAnew_rw (by omega), h0]
    obtain ⟨t1, t2, t3, t4, t5, t6, t7, t8⟩ := hT
    refine ⟨?_, ?_, ?_, ?_, ?_, ?_, ?_, ?_⟩
    · rw [q13, q0, t1]
    · rw [q13, q0, t2]
    · rw [q13, q0, t3]
    · rw [q13, q0, t4]
    · rw [q13, q0, t5]
    · rw [q13, t6]
    · intro c
      rw [q13]
      exact t7 c
    · intro c
      rw [q13]
      exact t8 c
theorem in_01 {A M : Nat → Nat → Int32} {n mk i : Nat} (h : zI A M n mk) (hi : i < 8) : (A 5 i = 0 ∨ A 5 i = 1) ∧ (A 1 i = 0 ∨ A 1 i = 1) := ⟨(h.1.1.1 i hi).1, (h.1.1.1 i hi).2.1⟩
theorem push_v {A : Nat → Nat → Int32} {s i : Nat} {y : Int32} (hi : i < 8) (hy : y = 1 ∨ y = -1) (hS : zS A) (hV : zV A s) (h1 : -50 ≤ (A 4 i).toInt + y.toInt) (h2 : (A 4 i).toInt + y.toInt ≤ 50) : zS (uPush A (nI i) y) ∧ zV (uPush A (nI i) y) s ∧ uPush A (nI i) y = xup (xup A 4 i (A 4 i + y)) 3 i (A 3 i - y * A 0 8) := by
  have c : (nI i).toNatClampNeg = i := nI_cl (by omega)
  have e : uPush A (nI i) y = xup (xup A 4 i (A 4 i + y)) 3 i (A 3 i - y * A 0 8) := by
    unfold uPush
    rw [if_pos (nI_i8 hi), c]
  have ty : y.toInt = 1 ∨ y.toInt = -1 := by
    rcases hy with h | h
    · rw [h]; exact Or.inl q_1
    · rw [h]; exact Or.inr q_m1
  have s4 := hS i hi
  have hL := zV_L hS hV i hi
  have ts : (A 0 8).toInt = (s : Int) := by rw [hV.2.1, ti_nI (by have := hV.1; omega)]
  have s99 := hV.1
  have e4 : (A 4 i + y).toInt = (A 4 i).toInt + y.toInt := ti_add (by omega) (by omega)
  have em : (y * A 0 8).toInt = y.toInt * s := by
    rw [ti_mul (by rw [ts]; rcases ty with h | h <;> rw [h] <;> omega) (by rw [ts]; rcases ty with h | h <;> rw [h] <;> omega), ts]
  have hys : y.toInt * (s : Int) = s ∨ y.toInt * (s : Int) = -(s : Int) := by
    rcases ty with h | h
    · rw [h]; omega
    · rw [h]; omega
  have e3 : (A 3 i - y * A 0 8).toInt = (A 3 i).toInt - y.toInt * s := by
    rw [ti_sub (by rw [em]; omega) (by rw [em]; omega), em]
  rw [e]
  refine ⟨fun j hj => ?_, ⟨hV.1, by rw [xup_q (by omega), xup_q (by omega), hV.2.1], fun j hj => ?_⟩, rfl⟩
  · by_cases ej : j = i
    · subst ej
      rw [xup_q (by omega), xup_same, e4]
      omega
    · rw [xup_q (by omega), xup_q (by omega)]
      exact hS j hj
  · by_cases ej : j = i
    · subst ej
      rw [xup_same, xup_q (by omega), xup_same, e4, e3, Int.add_mul]
      have := hV.2.2 j hj
      omega
    · rw [xup_q (by omega), xup_q (by omega), xup_q (by omega), xup_q (by omega)]
      exact hV.2.2 j hj
/-- a push: the same -/
theorem bend_sim {A M : Nat → Nat → Int32} {s e i : Nat} {d y act o : Int32} (h : zA A M s e) (hi : i < 8) (hd : (d = 43 ∧ y = 1) ∨ (d = 45 ∧ y = -1)) : dBd (M 2) i y = uHin A d (nI i) o ∧ (uHin A d (nI i) o = 0 → zA (uPerf A act d (nI i) o) (tBd M i y) s e) ∧ (¬ uHin A d (nI i) o = 0 → tBd M i y = M) := by
  obtain ⟨⟨n, mk, hI, -⟩, hV, hT⟩ := h
  have hS := hI.1.2.1
  have hR := hI.1.1
  have hN := hI.1.2.2.1
  have ni := hN.1 i hi
  have c : (nI i).toNatClampNeg = i := nI_cl (by omega)
  have s4 := hS i hi
  have ty : y.toInt = 1 ∨ y.toInt = -1 := by
    rcases hd with ⟨-, h⟩ | ⟨-, h⟩
    · rw [h]; exact Or.inl q_1
    · rw [h]; exact Or.inr q_m1
  have hy : y = 1 ∨ y = -1 := by
    rcases hd with ⟨-, h⟩ | ⟨-, h⟩
    · exact Or.inl h
    · exact Or.inr h
  have e4 : (A 4 i + y).toInt = (A 4 i).toInt + y.toInt := ti_add (by omega) (by omega)
  have eH : uHin A d (nI i) o = (if A 5 i = 0 then 1 else if A 1 i = 0 then 2 else if -50 ≤ (A 4 i).toInt + y.toInt ∧ (A 4 i).toInt + y.toInt ≤ 50 then 0 else 3) := by
    have eS : uSlope A (nI i) = A 4 i := by unfold uSlope; rw [if_pos (nI_i8 hi), c]
    have eK : uKind A (nI i) = A 1 i := by unfold uKind; rw [if_pos (nI_i8 hi), c]
    unfold uHin uPH
    rcases hd with ⟨hd, hy1⟩ | ⟨hd, hy1⟩
    · subst hd; subst hy1
      rw [if_neg (by decide), if_pos (nI_i8 hi), if_neg (by decide), if_neg (by decide), if_neg (show ¬ (43 : Int32) = 33 by decide), c, eK, eS, if_pos (show (43 : Int32) = 43 from rfl), q_1]
      by_cases g : A 4 i = 50
      · have g2 : (A 4 i).toInt = 50 := by rw [g, q_50]
        rw [if_pos g, if_neg (show ¬ (-50 ≤ (A 4 i).toInt + 1 ∧ (A 4 i).toInt + 1 ≤ 50) by omega)]
      · have g2 : ¬ (A 4 i).toInt = 50 := fun x => g (ti_eq (by rw [x, q_50]))
        rw [if_neg g, if_pos (show -50 ≤ (A 4 i).toInt + 1 ∧ (A 4 i).toInt + 1 ≤ 50 by omega)]
    · subst hd; subst hy1
      rw [if_neg (by decide), if_pos (nI_i8 hi), if_neg (by decide), if_neg (by decide), if_neg (show ¬ (45 : Int32) = 33 by decide), c, eK, eS, if_neg (show ¬ (45 : Int32) = 43 by decide), q_m1]
      by_cases g : A 4 i = -50
      · have g2 : (A 4 i).toInt = -50 := by rw [g, q_m50]
        rw [if_pos g, if_neg (show ¬ (-50 ≤ (A 4 i).toInt + -1 ∧ (A 4 i).toInt + -1 ≤ 50) by omega)]
      · have g2 : ¬ (A 4 i).toInt = -50 := fun x => g (ti_eq (by rw [x, q_m50]))
        rw [if_neg g, if_pos (show -50 ≤ (A 4 i).toInt + -1 ∧ (A 4 i).toInt + -1 ≤ 50 by omega)]
  have eD : dBd (M 2) i y = uHin A d (nI i) o := by
    rw [eH]
    unfold dBd
    rw [← ni.2.2.2.2, ← ni.1, ← ni.2.2.2.1]
    by_cases g1 : A 5 i = 0
    · rw [if_pos g1, if_pos g1]
    · rw [if_neg g1, if_neg g1]
      by_cases g2 : A 1 i = 0
      · rw [if_pos g2, if_pos g2]
      · rw [if_neg g2, if_neg g2]
        by_cases g3 : -50 ≤ (A 4 i).toInt + y.toInt ∧ (A 4 i).toInt + y.toInt ≤ 50
        · rw [if_pos g3, if_pos]
          rw [Bool.and_eq_true, decide_eq_true_eq, decide_eq_true_eq, ti_le, ti_le, e4, q_50, q_m50]
          exact g3
        · rw [if_neg g3, if_neg]
          rw [Bool.and_eq_true, decide_eq_true_eq, decide_eq_true_eq, ti_le, ti_le, e4, q_50, q_m50]
          exact g3
  refine ⟨eD, fun h0 => ?_, fun h0 => ?_⟩
  · unfold tBd
    rw [if_pos (by rw [eD]; exact h0)]
    have g3 : -50 ≤ (A 4 i).toInt + y.toInt ∧ (A 4 i).toInt + y.toInt ≤ 50 := by
      rw [eH] at h0
      by_cases g1 : A 5 i = 0
      · rw [if_pos g1] at h0; exact absurd h0 (by decide)
      · rw [if_neg g1] at h0
        by_cases g2 : A 1 i = 0
        · rw [if_pos g2] at h0; exact absurd h0 (by decide)
        · rw [if_neg g2] at h0
          by_cases g3 : -50 ≤ (A 4 i).toInt + y.toInt ∧ (A 4 i).toInt + y.toInt ≤ 50
          · exact g3
          · rw [if_neg g3] at h0; exact absurd h0 (by decide)
    obtain ⟨p1, p2, p3⟩ := push_v hi hy hS hV g3.1 g3.2
    have eP : uPerf A act d (nI i) o = uAnew (uPush A (nI i) y) := by
      unfold uPerf uChg
      rcases hd with ⟨hd, hy1⟩ | ⟨hd, hy1⟩
      · subst hd; subst hy1
        rw [if_neg (by decide), if_pos (nI_i8 hi), if_neg (by decide), if_neg (by decide), if_pos (by decide)]
      · subst hd; subst hy1
        rw [if_neg (by decide), if_pos (nI_i8 hi), if_neg (by decide), if_neg (by decide), if_neg (by decide), if_pos (by decide)]
    rw [eP]
    refine anew_A (A := A) (M := M) ?_ p1 p2 ?_ (fun b => by rw [p3, xup_q (by omega), xup_q (by omega)]) (fun b => by unfold rBd; rw [xup_q (by omega), xup_q (by omega)]) hT
    · rw [p3]
      refine ⟨fun j hj => ?_, fun j k hj hk => ?_⟩
      · rw [xup_q (by omega), xup_q (by omega), xup_q (by omega), xup_q (by omega), xup_q (by omega), xup_q (by omega)]
        exact hR.1 j hj
      · rw [xup_q (by omega), xup_q (by omega), xup_q (by omega), xup_q (by omega)]
        exact hR.2 j k hj hk
    · rw [p3]
      unfold rBd
      refine ⟨fun j hj => ?_, ?_⟩
      · have nj := hN.1 j hj
        have qa : ∀ a b, ¬ a = 3 → ¬ a = 4 → xup (xup A 4 i (A 4 i + y)) 3 i (A 3 i - y * A 0 8) a b = A a b := fun a b h3 h4 => by rw [xup_q (by omega), xup_q (by omega)]
        have qm : ∀ k, ¬ k = 24 + i → ¬ k = 32 + i → xup (xup M 2 (32 + i) (M 2 (32 + i) + y)) 2 (24 + i) (M 2 (24 + i) - y * M 2 40) 2 k = M 2 k := fun k h3 h4 => by rw [xup_q (by omega), xup_q (by omega)]
        rw [qa 1 j (by omega) (by omega), qa 2 j (by omega) (by omega), qa 5 j (by omega) (by omega), qm (8 + j) (by omega) (by omega), qm (16 + j) (by omega) (by omega), qm j (by omega) (by omega)]
        refine ⟨nj.1, nj.2.1, ?_, ?_, nj.2.2.2.2⟩
        · by_cases ej : j = i
          · subst ej
            rw [xup_same, xup_same, ni.2.2.1, hN.2]
          · rw [xup_q (by omega), xup_q (by omega), qm (24 + j) (by omega) (by omega)]
            exact nj.2.2.1
        · by_cases ej : j = i
          · subst ej
            rw [xup_q (by omega), xup_same, xup_q (by omega), xup_same, ni.2.2.2.1]
          · rw [xup_q (by omega), xup_q (by omega), qm (32 + j) (by omega) (by omega)]
            exact nj.2.2.2.1
      · rw [xup_q (by omega), xup_q (by omega), xup_q (by omega), xup_q (by omega), hN.2]
  · unfold tBd
    rw [if_neg (by rw [eD]; exact h0)]
