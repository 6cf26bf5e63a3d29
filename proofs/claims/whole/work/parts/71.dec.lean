/-- a certificate laid at place n -/
def cPut (A : Nat → Nat → Int32) (m n : Nat) (u l : Int32) : Nat → Nat → Int32 := xup (xup (xup (xup (xup (xup (xup A 7 6 (A 7 6 + 1)) 8 n (nI m)) 9 n u) 10 n l) 11 n (A 7 6 + 1)) 12 m (A 7 6 + 1)) 7 5 (nI (n + 1))
theorem cPut_q {A : Nat → Nat → Int32} {m n a b : Nat} {u l : Int32} (h : a < 7 ∨ 12 < a ∨ (a = 7 ∧ ¬ b = 5 ∧ ¬ b = 6) ∨ (8 ≤ a ∧ a ≤ 11 ∧ ¬ b = n) ∨ (a = 12 ∧ ¬ b = m)) : cPut A m n u l a b = A a b := by
  unfold cPut
  rw [xup_q (by omega), xup_q (by omega), xup_q (by omega), xup_q (by omega), xup_q (by omega), xup_q (by omega), xup_q (by omega)]
theorem cPut_75 {A : Nat → Nat → Int32} {m n : Nat} {u l : Int32} : cPut A m n u l 7 5 = nI (n + 1) := xup_same
theorem cPut_76 {A : Nat → Nat → Int32} {m n : Nat} {u l : Int32} : cPut A m n u l 7 6 = A 7 6 + 1 := by
  unfold cPut
  rw [xup_q (by omega), xup_q (by omega), xup_q (by omega), xup_q (by omega), xup_q (by omega), xup_q (by omega), xup_same]
theorem cPut_8 {A : Nat → Nat → Int32} {m n : Nat} {u l : Int32} : cPut A m n u l 8 n = nI m := by
  unfold cPut
  rw [xup_q (by omega), xup_q (by omega), xup_q (by omega), xup_q (by omega), xup_q (by omega), xup_same]
theorem cPut_9 {A : Nat → Nat → Int32} {m n : Nat} {u l : Int32} : cPut A m n u l 9 n = u := by
  unfold cPut
  rw [xup_q (by omega), xup_q (by omega), xup_q (by omega), xup_q (by omega), xup_same]
theorem cPut_10 {A : Nat → Nat → Int32} {m n : Nat} {u l : Int32} : cPut A m n u l 10 n = l := by
  unfold cPut
  rw [xup_q (by omega), xup_q (by omega), xup_q (by omega), xup_same]
theorem cPut_11 {A : Nat → Nat → Int32} {m n : Nat} {u l : Int32} : cPut A m n u l 11 n = A 7 6 + 1 := by
  unfold cPut
  rw [xup_q (by omega), xup_q (by omega), xup_same]
theorem cPut_12 {A : Nat → Nat → Int32} {m n : Nat} {u l : Int32} : cPut A m n u l 12 m = A 7 6 + 1 := by
  unfold cPut
  rw [xup_q (by omega), xup_same]
/-- the class's certify -/
def cCert (A : Nat → Nat → Int32) (m n : Nat) (w l : Int32) : Nat → Nat → Int32 := if xin w 8 = true ∧ xin l 8 = true ∧ A 4 w.toNatClampNeg < A 4 l.toNatClampNeg then cPut (xup A 12 m 0) m n (A 3 w.toNatClampNeg - A 3 l.toNatClampNeg) (A 4 l.toNatClampNeg - A 4 w.toNatClampNeg) else xup A 12 m 0
theorem cCert_e {A : Nat → Nat → Int32} {m n : Nat} {w l : Int32} (h1 : 1 ≤ m) (h2 : m < 8) (hn : A 7 5 = nI n) (hn32 : n < 32) : uCert A (nI m) w l = cCert A m n w l := by
  have c1 : (nI m).toNatClampNeg = m := nI_cl (by omega)
  have c2 : (nI n).toNatClampNeg = n := nI_cl (by omega)
  have e1 : uDis A (nI m) = xup A 12 m 0 := by rw [uDis, if_pos (uM_n h1 h2), c1]
  have e7 : xup A 12 m 0 7 5 = nI n := by rw [xup_q (by omega), hn]
  have e2 : uRoom (xup A 12 m 0) (nI m) = true := by
    rw [uRoom, e7, uM_n h1 h2, Bool.and_true, Bool.and_eq_true, decide_eq_true_eq, decide_eq_true_eq]
    exact ⟨nI_le' (a := 0) (b := n) (by omega) (by omega), Int32.not_le.mp (nI_lt' (a := n) (b := 32) hn32 (by omega))⟩
  unfold uCert cCert
  rw [e1, uPut, if_pos e2, e7, c1, c2, nI_1]
  rfl
theorem dec_e {A : Nat → Nat → Int32} {m n : Nat} {p q : Int32} (h1 : 1 ≤ m) (h2 : m < 8) (hn : A 7 5 = nI n) (hn32 : n < 32) : uDecA A (nI m) p q = cCert (xup A 6 m (uWon A (nI m) p q)) m n (uWon A (nI m) p q) (uLost A (nI m) p q) := by
  have c1 : (nI m).toNatClampNeg = m := nI_cl (by omega)
  rw [uDecA, if_pos (uM_n h1 h2), c1, cCert_e h1 h2 (by rw [xup_q (by omega), hn]) hn32]
theorem rPut_q {M : Nat → Nat → Int32} {m n w oo k : Nat} {f : Int32} (h1 : ¬ k = 65 + m) (h2 : ¬ k = 267 + n) (h3 : ¬ k = 203 + n) (h4 : ¬ k = 139 + n) (h5 : ¬ k = 75 + n) (h6 : ¬ k = 74) (h7 : ¬ k = 73) : rPut M m n w oo f 2 k = M 2 k := by
  unfold rPut rC8 rC7 rC6 rC5 rC4 rC3 rC2
  rw [xup_q (by omega), xup_q (by omega), xup_q (by omega), xup_q (by omega), xup_q (by omega), xup_q (by omega), xup_q (by omega)]
theorem rPut_74 {M : Nat → Nat → Int32} {m n w oo : Nat} {f : Int32} (hm : m < 8) : rPut M m n w oo f 2 74 = M 2 74 + 1 := by
  unfold rPut rC8 rC7 rC6 rC5 rC4 rC3 rC2
  rw [xup_q (by omega), xup_q (by omega), xup_q (by omega), xup_q (by omega), xup_q (by omega), xup_same, xup_q (by omega)]
theorem rC_74 {M : Nat → Nat → Int32} {m n w oo : Nat} {f : Int32} : rC6 (rC5 (rC4 (rC3 (rC2 M n)) m n) n w oo) n f 2 74 = M 2 74 + 1 := by
  unfold rC6 rC5 rC4 rC3 rC2
  rw [xup_q (by omega), xup_q (by omega), xup_q (by omega), xup_same, xup_q (by omega)]
theorem rPut_65 {M : Nat → Nat → Int32} {m n w oo : Nat} {f : Int32} : rPut M m n w oo f 2 (65 + m) = M 2 74 + 1 := by
  unfold rPut rC8
  rw [xup_same, rC7, xup_q (by omega), rC_74]
theorem rPut_267 {M : Nat → Nat → Int32} {m n w oo : Nat} {f : Int32} (hm : m < 8) : rPut M m n w oo f 2 (267 + n) = M 2 74 + 1 := by
  unfold rPut rC8
  rw [xup_q (by omega), rC7, xup_same, rC_74]
theorem rPut_203 {M : Nat → Nat → Int32} {m n w oo : Nat} {f : Int32} (hm : m < 8) (hn : n < 64) : rPut M m n w oo f 2 (203 + n) = f := by
  unfold rPut rC8 rC7 rC6
  rw [xup_q (by omega), xup_q (by omega), xup_same]
theorem rPut_139 {M : Nat → Nat → Int32} {m n w oo : Nat} {f : Int32} (hm : m < 8) (hn : n < 64) (hw : w < 8) (ho : oo < 8) : rPut M m n w oo f 2 (139 + n) = M 2 (24 + w) - M 2 (24 + oo) := by
  unfold rPut rC8 rC7 rC6 rC5
  rw [xup_q (by omega), xup_q (by omega), xup_q (by omega), xup_same]
  unfold rC4 rC3 rC2
  rw [xup_q (by omega), xup_q (by omega), xup_q (by omega), xup_q (by omega), xup_q (by omega), xup_q (by omega)]
theorem rPut_75 {M : Nat → Nat → Int32} {m n w oo : Nat} {f : Int32} (hm : m < 8) (hn : n < 64) : rPut M m n w oo f 2 (75 + n) = nI m := by
  unfold rPut rC8 rC7 rC6 rC5 rC4
  rw [xup_q (by omega), xup_q (by omega), xup_q (by omega), xup_q (by omega), xup_same]
/-- the queues and the winners of the matches in a set are the same -/
def zP (A : Nat → Nat → Int32) (N : Nat → Int32) (n : Nat) (T : Nat → Prop) : Prop := A 7 5 = nI n ∧ N 73 = nI n ∧ A 7 6 = N 74 ∧ (∀ k, k < n → A 8 k = N (75 + k) ∧ A 9 k = N (139 + k) ∧ A 10 k = N (203 + k) ∧ A 11 k = N (267 + k)) ∧ ∀ m, 1 ≤ m → m < 8 → T m → A 12 m = N (65 + m) ∧ A 6 m = N (41 + m) ∧ okR (A 6 m)
/-- certify: the same -/
theorem cert_sim {A M : Nat → Nat → Int32} {n m : Nat} {T : Nat → Prop} {a b : Int32} (h1 : 1 ≤ m) (h2 : m < 8) (hn32 : n < 32) (hs : zS A) (hN : zN A (M 2)) (hP : zP A (M 2) n T) (ha : okR a) (hb : okR b) (h49 : M 2 (49 + m) = a) (h57 : M 2 (57 + m) = b) (w : Int32) (h41 : M 2 (41 + m) = w) (hA6 : A 6 m = w) (hw : w = a ∨ w = b) (hwn : ¬ a < 0 ∨ w = b) (hwm : ¬ b < 0 ∨ w = a) :
    ∃ n', n ≤ n' ∧ n' ≤ n + 1 ∧ zP (cCert A m n w (if w = a then b else a)) (rCert M m 2) n' (fun k => T k ∨ k = m) := by
  obtain ⟨p1, p2, p3, p4, p5⟩ := hP
  have okw : okR w := by
    rcases hw with h | h
    · rw [h]; exact ha
    · rw [h]; exact hb
  have cn : (M 2 73).toNatClampNeg = n := by rw [p2]; exact nI_cl (by omega)
  -- no certificate in either
  have hno : zP (xup A 12 m 0) (rC1 M m 2) n (fun k => T k ∨ k = m) := by
    refine ⟨by rw [xup_q (by omega), p1], by rw [rC1, xup_q (by omega), p2], by rw [xup_q (by omega), rC1, xup_q (by omega), p3], fun k hk => ?_, fun k k1 k2 hk => ?_⟩
    · have e := p4 k hk
      rw [xup_q (by omega), xup_q (by omega), xup_q (by omega), xup_q (by omega), rC1, xup_q (by omega), xup_q (by omega), xup_q (by omega), xup_q (by omega)]
      exact e
    · by_cases e : k = m
      · subst e
        rw [xup_same, rC1, xup_same, xup_q (by omega), xup_q (by omega), hA6, h41]
        exact ⟨rfl, rfl, okw⟩
      · have e5 := p5 k k1 k2 (hk.resolve_right e)
        rw [xup_q (by omega), rC1, xup_q (by omega), xup_q (by omega), xup_q (by omega)]
        exact e5
  unfold cCert rCert
  rw [h49, h57]
  by_cases ga : a < 0
  · have hwb : w = b := by
      rcases hwn with h | h
      · exact absurd ga h
      · exact h
    have hna : xin a 8 = false := by
      rcases ha with h | ⟨i, hi, h⟩
      · rw [h]; exact m6_8
      · rw [h] at ga; exact absurd ga (nI_nn (by omega))
    rw [if_pos ga, if_neg (by
      rintro ⟨c1, c2, -⟩
      by_cases e : w = a
      · rw [e, hna] at c1
        exact absurd c1 (by decide)
      · rw [if_neg e, hna] at c2
        exact absurd c2 (by decide))]
    exact ⟨n, by omega, by omega, hno⟩
  · rw [if_neg ga]
    by_cases gb : b < 0
    · have hnb : xin b 8 = false := by
        rcases hb with h | ⟨i, hi, h⟩
        · rw [h]; exact m6_8
        · rw [h] at gb; exact absurd gb (nI_nn (by omega))
      have hwa : w = a := by
        rcases hwm with h | h
        · exact absurd gb h
        · exact h
      rw [if_pos gb, if_neg (by
        rintro ⟨c1, c2, -⟩
        rw [if_pos hwa, hnb] at c2
        exact absurd c2 (by decide))]
      exact ⟨n, by omega, by omega, hno⟩
    · rw [if_neg gb]
      have hai : ∃ i, i < 8 ∧ a = nI i := by
        rcases ha with h | h
        · rw [h] at ga; exact absurd m6_l ga
        · exact h
      have hbi : ∃ i, i < 8 ∧ b = nI i := by
        rcases hb with h | h
        · rw [h] at gb; exact absurd m6_l gb
        · exact h
      have hwi : ∃ i, i < 8 ∧ w = nI i := by
        rcases hw with h | h
        · rw [h]; exact hai
        · rw [h]; exact hbi
      have hli : ∃ i, i < 8 ∧ (if w = a then b else a) = nI i := by
        split
        · exact hbi
        · exact hai
      have eo : rOth M m = (if w = a then b else a) := by unfold rOth; rw [h41, h49, h57]
      obtain ⟨iw, wi8, ew⟩ := hwi
      obtain ⟨io, oi8, eol⟩ := hli
      have cw : (nI iw).toNatClampNeg = iw := nI_cl (by omega)
      have co : (nI io).toNatClampNeg = io := nI_cl (by omega)
      have nw := hN.1 iw wi8
      have no := hN.1 io oi8
      have ef : rFas M m = A 4 io - A 4 iw := by
        unfold rFas
        rw [eo, eol, h41, ew, cw, co, nw.2.2.2.1, no.2.2.2.1]
      have es := ti_s50 (hs io oi8) (hs iw wi8)
      rw [ef, eo, eol, cn, h41, ew, cw, co, nI_i8 wi8, nI_i8 oi8]
      by_cases g : A 4 iw < A 4 io
      · rw [if_pos ⟨rfl, rfl, g⟩, if_neg (by rw [ti_le, es, q_0]; rw [ti_lt] at g; omega)]
        refine ⟨n + 1, by omega, by omega, cPut_75, by rw [rPut_73 h2, nI_1], ?_, fun k hk => ?_, fun k k1 k2 hk => ?_⟩
        · rw [cPut_76, rPut_74 h2, xup_q (by omega), p3, rC1, xup_q (by omega)]
        · by_cases e : k = n
          · subst e
            rw [cPut_8, cPut_9, cPut_10, cPut_11, rPut_75 h2 (by omega), rPut_139 h2 (by omega) wi8 oi8, rPut_203 h2 (by omega), rPut_267 h2, xup_q (by omega), p3, rC1, xup_q (by omega), xup_q (by omega), xup_q (by omega), nw.2.2.1, no.2.2.1]
            exact ⟨rfl, rfl, rfl, rfl⟩
          · have e4 := p4 k (by omega)
            rw [cPut_q (by omega), cPut_q (by omega), cPut_q (by omega), cPut_q (by omega), xup_q (by omega), xup_q (by omega), xup_q (by omega), xup_q (by omega)]
            rw [rPut_q (by omega) (by omega) (by omega) (by omega) (by omega) (by omega) (by omega), rPut_q (by omega) (by omega) (by omega) (by omega) (by omega) (by omega) (by omega), rPut_q (by omega) (by omega) (by omega) (by omega) (by omega) (by omega) (by omega), rPut_q (by omega) (by omega) (by omega) (by omega) (by omega) (by omega) (by omega)]
            rw [rC1, xup_q (by omega), xup_q (by omega), xup_q (by omega), xup_q (by omega)]
            exact e4
        · by_cases e : k = m
          · subst e
            rw [cPut_12, rPut_65, xup_q (by omega), p3, rC1, xup_q (by omega), cPut_q (by omega), xup_q (by omega), rPut_q (by omega) (by omega) (by omega) (by omega) (by omega) (by omega) (by omega), xup_q (by omega), hA6, h41]
            exact ⟨rfl, rfl, okw⟩
          · have e5 := p5 k k1 k2 (hk.resolve_right e)
            rw [cPut_q (by omega), cPut_q (by omega), xup_q (by omega), xup_q (by omega), rPut_q (by omega) (by omega) (by omega) (by omega) (by omega) (by omega) (by omega), rPut_q (by omega) (by omega) (by omega) (by omega) (by omega) (by omega) (by omega), rC1, xup_q (by omega), xup_q (by omega)]
            exact e5
      · rw [if_neg (fun h => g h.2.2), if_pos (by rw [ti_le, es, q_0]; rw [ti_lt] at g; omega)]
        exact ⟨n, by omega, by omega, hno⟩
