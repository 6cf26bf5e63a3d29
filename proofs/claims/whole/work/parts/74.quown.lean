theorem won_e {A : Nat → Nat → Int32} {m : Nat} {p q : Int32} : uWon A (nI m) p q = uAhead A (uCom A (nI (2 * m))) (uCom A (nI (2 * m + 1))) p q := by
  unfold uWon
  rw [mul2_1, mul2_0]
theorem lost_e {A : Nat → Nat → Int32} {m : Nat} {p q : Int32} : uLost A (nI m) p q = (if uWon A (nI m) p q = uCom A (nI (2 * m)) then uCom A (nI (2 * m + 1)) else uCom A (nI (2 * m))) := by
  unfold uLost
  rw [mul2_1, mul2_0]
/-- own certificates behind a decision -/
theorem dec_qb {A : Nat → Nat → Int32} {m n mk : Nat} {E E' : Nat → Prop} {p q : Int32} (h1 : 1 ≤ m) (h2 : m < 8) (hn32 : n < 32) (hmk : mk < 900) (hS : zS A) (hL : zL A) (hQ : zQa A n mk) (hB : zQb A n (fun k => E k ∨ k = m)) (oa : okR (uCom A (nI (2 * m)))) (ob : okR (uCom A (nI (2 * m + 1)))) (hE : ∀ k, 1 ≤ k → k < 8 → ¬ E' k → ¬ k = m → ¬ E k) (hx : ∀ k, 1 ≤ k → k < 8 → ¬ E' k → (2 * k = m ∨ 2 * k + 1 = m) → uDecA A (nI m) p q 6 m = A 6 m) :
    ∃ n' mk', n ≤ n' ∧ n' ≤ n + 1 ∧ n' + mk = n + mk' ∧ zQa (uDecA A (nI m) p q) n' mk' ∧ zQb (uDecA A (nI m) p q) n' E' ∧ (∀ k, ¬ k = m → uDecA A (nI m) p q 12 k = A 12 k) ∧ (n' = n → uDecA A (nI m) p q 12 m = 0) ∧ (¬ (xin (uWon A (nI m) p q) 8 = true ∧ xin (uLost A (nI m) p q) 8 = true ∧ A 4 (uWon A (nI m) p q).toNatClampNeg < A 4 (uLost A (nI m) p q).toNatClampNeg) → n' = n) := by
  have hn := hQ.1
  have hfr : ∀ a b, (a < 7 ∨ 12 < a) → ¬ (a = 6 ∧ b = m) → uDecA A (nI m) p q a b = A a b := fun a b h hb => dec_q h1 h2 hn hn32 h hb
  have e6 : uDecA A (nI m) p q 6 m = uWon A (nI m) p q := dec_6 h1 h2 hn hn32
  have eor := ahead_or (A := A) (p := p) (q := q) oa ob
  rw [← won_e] at eor
  have ele := lost_e (A := A) (m := m) (p := p) (q := q)
  have cm0 : uCom (uDecA A (nI m) p q) (nI (2 * m)) = uCom A (nI (2 * m)) := com_c (fun i => hfr 2 i (by omega) (by omega)) (fun i => hfr 5 i (by omega) (by omega)) (fun h => hfr 6 (2 * m) (by omega) (by omega)) (by omega) (by omega)
  have cm1 : uCom (uDecA A (nI m) p q) (nI (2 * m + 1)) = uCom A (nI (2 * m + 1)) := com_c (fun i => hfr 2 i (by omega) (by omega)) (fun i => hfr 5 i (by omega) (by omega)) (fun h => hfr 6 (2 * m + 1) (by omega) (by omega)) (by omega) (by omega)
  have ho : ∀ k i j, 1 ≤ k → k < 8 → ¬ k = m → ¬ E' k → (zO (uDecA A (nI m) p q) k i j ↔ zO A k i j) := by
    intro k i j k1 k2 k3 k4
    have h6 : ∀ f, (f = 2 * k ∨ f = 2 * k + 1) → f < 8 → uDecA A (nI m) p q 6 f = A 6 f := by
      intro f hf hf8
      by_cases e : f = m
      · rw [e]
        exact hx k k1 k2 k4 (by omega)
      · exact hfr 6 f (by omega) (by omega)
    exact zO_c k1 k2 (hfr 6 k (by omega) (by omega)) (fun i => hfr 4 i (by omega) (by omega)) (com_c (fun i => hfr 2 i (by omega) (by omega)) (fun i => hfr 5 i (by omega) (by omega)) (fun h => h6 (2 * k) (Or.inl rfl) h) (by omega) (by omega)) (com_c (fun i => hfr 2 i (by omega) (by omega)) (fun i => hfr 5 i (by omega) (by omega)) (fun h => h6 (2 * k + 1) (Or.inr rfl) h) (by omega) (by omega))
  have e3 : ∀ i, uDecA A (nI m) p q 3 i = A 3 i := fun i => hfr 3 i (by omega) (by omega)
  have e4 : ∀ i, uDecA A (nI m) p q 4 i = A 4 i := fun i => hfr 4 i (by omega) (by omega)
  rcases dec_qa (p := p) (q := q) h1 h2 hn32 hmk hS hL hQ with ⟨d1, d2, d3, d4, d5⟩ | ⟨d1, d2, d3, d4, d5, d6, d7, d8, d9⟩
  · refine ⟨n, mk, by omega, by omega, by omega, d1, fun k k1 k2 k3 => ?_, d4, fun _ => d2, fun _ => rfl⟩
    by_cases e : k = m
    · subst e
      refine ⟨fun idx hi c1 c2 => ?_, fun c => absurd d2 c, fun i j c => ?_⟩
      · rw [d2] at c2
        obtain ⟨-, ⟨s, s1, s2, s3⟩, -⟩ := d1.2.2.2.1 idx hi
        rw [s3, nI_e0 (by omega)] at c2
        omega
      · exfalso
        obtain ⟨i8, j8, c1, c2, c3⟩ := c
        rw [e6] at c1
        rw [cm0, cm1] at c2
        rw [e4, e4] at c3
        have hij : ¬ nI i = nI j := by
          intro e
          have := nI_inj (by omega) (by omega) e
          subst this
          omega
        have el : uLost A (nI k) p q = nI j := by
          rw [ele, c1]
          rcases c2 with ⟨c2, c4⟩ | ⟨c2, c4⟩
          · rw [c2, c4, if_pos rfl]
          · rw [c2, c4, if_neg hij]
        apply d5
        rw [c1, el, nI_cl (by omega), nI_cl (by omega)]
        exact ⟨nI_i8 i8, nI_i8 j8, ti_lt.mpr c3⟩
    · obtain ⟨b1, b2, b3⟩ := hB k k1 k2 (fun c => (hE k k1 k2 k3 e) (c.resolve_right e))
      refine ⟨fun idx hi c1 c2 => ?_, fun c => ?_, fun i j c => ?_⟩
      · rw [d3 8 idx (by omega) (by omega)] at c1
        rw [d3 11 idx (by omega) (by omega), d4 k e] at c2
        obtain ⟨i, j, f1, f2, f3⟩ := b1 idx hi c1 c2
        exact ⟨i, j, (ho k i j k1 k2 e k3).mpr f1, by rw [d3 9 idx (by omega) (by omega), e3, e3, f2], by rw [d3 10 idx (by omega) (by omega), e4, e4, f3]⟩
      · rw [d4 k e] at c
        obtain ⟨idx, f1, f2, f3⟩ := b2 c
        exact ⟨idx, f1, by rw [d3 8 idx (by omega) (by omega), f2], by rw [d3 11 idx (by omega) (by omega), d4 k e, f3]⟩
      · rw [d4 k e]
        exact b3 i j ((ho k i j k1 k2 e k3).mp c)
  · refine ⟨n + 1, mk + 1, by omega, by omega, by omega, d1, fun k k1 k2 k3 => ?_, d4, fun h => by omega, fun c => absurd d7 c⟩
    by_cases e : k = m
    · subst e
      have hwl : ∃ iw il, iw < 8 ∧ il < 8 ∧ uWon A (nI k) p q = nI iw ∧ uLost A (nI k) p q = nI il ∧ (A 4 iw).toInt < (A 4 il).toInt := by
        obtain ⟨iw, w8, ew⟩ := xin_of d7.1 (by omega)
        obtain ⟨il, l8, el⟩ := xin_of d7.2.1 (by omega)
        have g := d7.2.2
        rw [ew, el, nI_cl (by omega), nI_cl (by omega), ti_lt] at g
        exact ⟨iw, il, w8, l8, ew, el, g⟩
      obtain ⟨iw, il, w8, l8, ew, el, g⟩ := hwl
      have hO : zO (uDecA A (nI k) p q) k iw il := by
        refine ⟨w8, l8, by rw [e6, ew], ?_, by rw [e4, e4]; exact g⟩
        rw [cm0, cm1]
        rw [ew] at ele eor
        rw [el] at ele
        by_cases z : nI iw = uCom A (nI (2 * k))
        · rw [if_pos z] at ele
          exact Or.inl ⟨z.symm, ele.symm⟩
        · rw [if_neg z] at ele
          rcases eor.1 with h | h
          · exact absurd h z
          · exact Or.inr ⟨ele.symm, h.symm⟩
      refine ⟨fun idx hi c1 c2 => ?_, fun c => ⟨n, by omega, d5, by rw [d6, d2]⟩, fun i j c => ?_⟩
      · by_cases z : idx = n
        · subst z
          refine ⟨iw, il, hO, ?_, ?_⟩
          · rw [d8, e3, e3, ew, el, nI_cl (by omega), nI_cl (by omega)]
          · rw [d9, e4, e4, ew, el, nI_cl (by omega), nI_cl (by omega)]
        · exfalso
          rw [d3 11 idx (by omega) (by omega) z, d2] at c2
          obtain ⟨-, ⟨s, s1, s2, s3⟩, -⟩ := hQ.2.2.2.1 idx (by omega)
          rw [s3] at c2
          have := nI_inj (by omega) (by omega) c2
          omega
      · rw [d2, nI_e0 (by omega)]
        omega
    · obtain ⟨b1, b2, b3⟩ := hB k k1 k2 (fun c => (hE k k1 k2 k3 e) (c.resolve_right e))
      refine ⟨fun idx hi c1 c2 => ?_, fun c => ?_, fun i j c => ?_⟩
      · have z : ¬ idx = n := by
          intro z
          subst z
          rw [d5] at c1
          have := nI_inj (by omega) (by omega) c1
          omega
        rw [d3 8 idx (by omega) (by omega) z] at c1
        rw [d3 11 idx (by omega) (by omega) z, d4 k e] at c2
        obtain ⟨i, j, f1, f2, f3⟩ := b1 idx (by omega) c1 c2
        exact ⟨i, j, (ho k i j k1 k2 e k3).mpr f1, by rw [d3 9 idx (by omega) (by omega) z, e3, e3, f2], by rw [d3 10 idx (by omega) (by omega) z, e4, e4, f3]⟩
      · rw [d4 k e] at c
        obtain ⟨idx, f1, f2, f3⟩ := b2 c
        exact ⟨idx, by omega, by rw [d3 8 idx (by omega) (by omega) (by omega), f2], by rw [d3 11 idx (by omega) (by omega) (by omega), d4 k e, f3]⟩
      · rw [d4 k e]
        exact b3 i j ((ho k i j k1 k2 e k3).mp c)
