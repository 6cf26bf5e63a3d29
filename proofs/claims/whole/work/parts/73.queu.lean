/-- bases are bounded -/
def zL (A : Nat → Nat → Int32) : Prop := ∀ i, i < 8 → -10900 ≤ (A 3 i).toInt ∧ (A 3 i).toInt ≤ 10900
def cW (A : Nat → Nat → Int32) (m : Nat) : Nat := if A 12 m = 0 then 0 else 1
/-- how many certificates may yet be made -/
def zPhi (A : Nat → Nat → Int32) : Nat := 3 * (cW A 4 + cW A 5 + cW A 6 + cW A 7) + cW A 2 + cW A 3
theorem cW_1 (A : Nat → Nat → Int32) (m : Nat) : cW A m ≤ 1 := by
  unfold cW
  split <;> omega
/-- the queue's own order -/
def zQa (A : Nat → Nat → Int32) (n mk : Nat) : Prop := A 7 5 = nI n ∧ A 7 6 = nI mk ∧ n ≤ mk ∧ (∀ k, k < n → (∃ m, 1 ≤ m ∧ m < 8 ∧ A 8 k = nI m) ∧ (∃ s, 1 ≤ s ∧ s ≤ mk ∧ A 11 k = nI s) ∧ 1 ≤ (A 10 k).toInt ∧ (A 10 k).toInt ≤ 100 ∧ -21800 ≤ (A 9 k).toInt ∧ (A 9 k).toInt ≤ 21800) ∧ (∀ j k, j < k → k < n → (A 11 j).toInt < (A 11 k).toInt) ∧ ∀ m, 1 ≤ m → m < 8 → ∃ s, s ≤ mk ∧ A 12 m = nI s
/-- what a match's own certificate says: i wins now, j passes it -/
def zO (A : Nat → Nat → Int32) (m i j : Nat) : Prop := i < 8 ∧ j < 8 ∧ A 6 m = nI i ∧ ((uCom A (nI (2 * m)) = nI i ∧ uCom A (nI (2 * m + 1)) = nI j) ∨ (uCom A (nI (2 * m)) = nI j ∧ uCom A (nI (2 * m + 1)) = nI i)) ∧ (A 4 i).toInt < (A 4 j).toInt
/-- own certificates are right, and there where they must be, but for a set of matches -/
def zQb (A : Nat → Nat → Int32) (n : Nat) (E : Nat → Prop) : Prop := ∀ m, 1 ≤ m → m < 8 → ¬ E m → (∀ k, k < n → A 8 k = nI m → A 11 k = A 12 m → ∃ i j, zO A m i j ∧ A 9 k = A 3 i - A 3 j ∧ A 10 k = A 4 j - A 4 i) ∧ (¬ A 12 m = 0 → ∃ k, k < n ∧ A 8 k = nI m ∧ A 11 k = A 12 m) ∧ ∀ i j, zO A m i j → ¬ A 12 m = 0
theorem zO_c {A B : Nat → Nat → Int32} {m i j : Nat} (h1 : 1 ≤ m) (h2 : m < 8) (h6 : B 6 m = A 6 m) (h4 : ∀ i, B 4 i = A 4 i) (hc : uCom B (nI (2 * m)) = uCom A (nI (2 * m))) (hd : uCom B (nI (2 * m + 1)) = uCom A (nI (2 * m + 1))) : zO B m i j ↔ zO A m i j := by
  unfold zO
  rw [h6, h4, h4, hc, hd]
theorem nI_e0 {s : Nat} (h : s < 1000) : nI s = 0 ↔ s = 0 := by
  rw [← nI_0]
  exact ⟨fun e => nI_inj h (by omega) e, fun e => by rw [e]⟩
/-- the queue behind a decision -/
theorem dec_qa {A : Nat → Nat → Int32} {m n mk : Nat} {p q : Int32} (h1 : 1 ≤ m) (h2 : m < 8) (hn32 : n < 32) (hmk : mk < 900) (hS : zS A) (hL : zL A) (hQ : zQa A n mk) : (zQa (uDecA A (nI m) p q) n mk ∧ uDecA A (nI m) p q 12 m = 0 ∧ (∀ a b, 8 ≤ a → a ≤ 11 → uDecA A (nI m) p q a b = A a b) ∧ (∀ k, ¬ k = m → uDecA A (nI m) p q 12 k = A 12 k) ∧ ¬ (xin (uWon A (nI m) p q) 8 = true ∧ xin (uLost A (nI m) p q) 8 = true ∧ A 4 (uWon A (nI m) p q).toNatClampNeg < A 4 (uLost A (nI m) p q).toNatClampNeg)) ∨
    (zQa (uDecA A (nI m) p q) (n + 1) (mk + 1) ∧ uDecA A (nI m) p q 12 m = nI (mk + 1) ∧ (∀ a b, 8 ≤ a → a ≤ 11 → ¬ b = n → uDecA A (nI m) p q a b = A a b) ∧ (∀ k, ¬ k = m → uDecA A (nI m) p q 12 k = A 12 k) ∧ uDecA A (nI m) p q 8 n = nI m ∧ uDecA A (nI m) p q 11 n = nI (mk + 1) ∧ (xin (uWon A (nI m) p q) 8 = true ∧ xin (uLost A (nI m) p q) 8 = true ∧ A 4 (uWon A (nI m) p q).toNatClampNeg < A 4 (uLost A (nI m) p q).toNatClampNeg) ∧ uDecA A (nI m) p q 9 n = A 3 (uWon A (nI m) p q).toNatClampNeg - A 3 (uLost A (nI m) p q).toNatClampNeg ∧ uDecA A (nI m) p q 10 n = A 4 (uLost A (nI m) p q).toNatClampNeg - A 4 (uWon A (nI m) p q).toNatClampNeg) := by
  obtain ⟨a1, a2, a3, a4, a5, a6⟩ := hQ
  rw [dec_e h1 h2 a1 hn32]
  generalize uWon A (nI m) p q = w
  generalize uLost A (nI m) p q = l
  unfold cCert
  have e4 : ∀ b, xup A 6 m w 4 b = A 4 b := fun b => xup_q (by omega)
  have e3 : ∀ b, xup A 6 m w 3 b = A 3 b := fun b => xup_q (by omega)
  rw [e4, e4, e3, e3]
  by_cases g : xin w 8 = true ∧ xin l 8 = true ∧ A 4 w.toNatClampNeg < A 4 l.toNatClampNeg
  · rw [if_pos g]
    refine Or.inr ?_
    obtain ⟨iw, hiw, ew⟩ := xin_of g.1 (by omega)
    obtain ⟨il, hil, el⟩ := xin_of g.2.1 (by omega)
    have cw : w.toNatClampNeg = iw := by rw [ew]; exact nI_cl (by omega)
    have cl : l.toNatClampNeg = il := by rw [el]; exact nI_cl (by omega)
    have g4 := g.2.2
    rw [cw, cl] at g4 ⊢
    rw [ti_lt] at g4
    have sw := hS iw hiw
    have sl := hS il hil
    have lw := hL iw hiw
    have ll := hL il hil
    have f9 : (A 3 iw - A 3 il).toInt = (A 3 iw).toInt - (A 3 il).toInt := ti_sub (by omega) (by omega)
    have f10 : (A 4 il - A 4 iw).toInt = (A 4 il).toInt - (A 4 iw).toInt := ti_sub (by omega) (by omega)
    have e76 : xup (xup A 6 m w) 12 m 0 7 6 = nI mk := by rw [xup_q (by omega), xup_q (by omega), a2]
    have eq : ∀ a b, 8 ≤ a → a ≤ 11 → ¬ b = n → cPut (xup (xup A 6 m w) 12 m 0) m n (A 3 iw - A 3 il) (A 4 il - A 4 iw) a b = A a b := by
      intro a b h3 h4 h5
      rw [cPut_q (by omega), xup_q (by omega), xup_q (by omega)]
    have e12 : ∀ k, ¬ k = m → cPut (xup (xup A 6 m w) 12 m 0) m n (A 3 iw - A 3 il) (A 4 il - A 4 iw) 12 k = A 12 k := by
      intro k hk
      rw [cPut_q (by omega), xup_q (by omega), xup_q (by omega)]
    refine ⟨⟨cPut_75, by rw [cPut_76, e76, nI_1], by omega, fun k hk => ?_, fun j k hj hk => ?_, fun k k1 k2 => ?_⟩, by rw [cPut_12, e76, nI_1], eq, e12, cPut_8, by rw [cPut_11, e76, nI_1], ⟨g.1, g.2.1, ti_lt.mpr g4⟩, cPut_9, cPut_10⟩
    · by_cases e : k = n
      · subst e
        rw [cPut_8, cPut_9, cPut_10, cPut_11, e76, nI_1, f9, f10]
        exact ⟨⟨m, h1, h2, rfl⟩, ⟨mk + 1, by omega, by omega, rfl⟩, by omega, by omega, by omega, by omega⟩
      · rw [eq 8 k (by omega) (by omega) e, eq 9 k (by omega) (by omega) e, eq 10 k (by omega) (by omega) e, eq 11 k (by omega) (by omega) e]
        obtain ⟨b1, ⟨s, b2, b3, b4⟩, b5⟩ := a4 k (by omega)
        exact ⟨b1, ⟨s, b2, by omega, b4⟩, b5⟩
    · by_cases e : k = n
      · subst e
        rw [cPut_11, e76, nI_1, eq 11 j (by omega) (by omega) (by omega)]
        obtain ⟨b1, ⟨s, b2, b3, b4⟩, b5⟩ := a4 j (by omega)
        rw [b4, ti_nI (by omega), ti_nI (by omega)]
        omega
      · rw [eq 11 j (by omega) (by omega) (by omega), eq 11 k (by omega) (by omega) e]
        exact a5 j k hj (by omega)
    · by_cases e : k = m
      · subst e
        exact ⟨mk + 1, by omega, by rw [cPut_12, e76, nI_1]⟩
      · obtain ⟨s, b1, b2⟩ := a6 k k1 k2
        exact ⟨s, by omega, by rw [e12 k e, b2]⟩
  · rw [if_neg g]
    refine Or.inl ?_
    have eq : ∀ a b, 8 ≤ a → a ≤ 11 → xup (xup A 6 m w) 12 m 0 a b = A a b := by
      intro a b h3 h4
      rw [xup_q (by omega), xup_q (by omega)]
    have e12 : ∀ k, ¬ k = m → xup (xup A 6 m w) 12 m 0 12 k = A 12 k := by
      intro k hk
      rw [xup_q (by omega), xup_q (by omega)]
    refine ⟨⟨by rw [xup_q (by omega), xup_q (by omega), a1], by rw [xup_q (by omega), xup_q (by omega), a2], a3, fun k hk => ?_, fun j k hj hk => ?_, fun k k1 k2 => ?_⟩, xup_same, eq, e12, g⟩
    · rw [eq 8 k (by omega) (by omega), eq 9 k (by omega) (by omega), eq 10 k (by omega) (by omega), eq 11 k (by omega) (by omega)]
      exact a4 k hk
    · rw [eq 11 j (by omega) (by omega), eq 11 k (by omega) (by omega)]
      exact a5 j k hj hk
    · by_cases e : k = m
      · subst e
        exact ⟨0, by omega, by rw [xup_same, nI_0]⟩
      · rw [e12 k e]
        exact a6 k k1 k2
