theorem zAh_tot {A : Nat → Nat → Int32} {p q : Int} {i j : Nat} (h : ¬ zAh A p q j i) (hij : ¬ i = j) : zAh A p q i j := by
  unfold zAh at *
  omega
/-- a decision, by whole numbers -/
theorem won_i {A : Nat → Nat → Int32} {m i j : Nat} {p q : Int32} (hS : zS A) (hL : zL A) (hp : -21800 ≤ p.toInt ∧ p.toInt ≤ 21800) (hq : 0 ≤ q.toInt ∧ q.toInt ≤ 100) (hi : i < 8) (hj : j < 8) (hij : ¬ i = j) (hw : uWon A (nI m) p q = nI i) (hc : (uCom A (nI (2 * m)) = nI i ∧ uCom A (nI (2 * m + 1)) = nI j) ∨ (uCom A (nI (2 * m)) = nI j ∧ uCom A (nI (2 * m + 1)) = nI i)) : zAh A p.toInt q.toInt i j := by
  rw [won_e] at hw
  rcases hc with ⟨c1, c2⟩ | ⟨c1, c2⟩
  · rw [c1, c2] at hw
    have a := ahead_i hi hj hS hL hp hq hij
    exact Classical.byContradiction fun c => by
      have b := a.2 c
      rw [hw] at b
      exact hij (nI_inj (by omega) (by omega) b)
  · rw [c1, c2] at hw
    have a := ahead_i hj hi hS hL hp hq (fun c => hij c.symm)
    refine zAh_tot (fun c => ?_) hij
    have b := a.1 c
    rw [hw] at b
    exact hij (nI_inj (by omega) (by omega) b)
theorem dec_kW {A : Nat → Nat → Int32} {m n mk : Nat} {E E' : Nat → Prop} {p q : Int32} (h1 : 1 ≤ m) (h2 : m < 8) (hn32 : n < 32) (hmk : mk < 900) (hS : zS A) (hL : zL A) (hQ : zQa A n mk) (oa : okR (uCom A (nI (2 * m)))) (ob : okR (uCom A (nI (2 * m + 1)))) (hp : -21800 ≤ p.toInt ∧ p.toInt ≤ 21800) (hq : 0 ≤ q.toInt ∧ q.toInt ≤ 100) (hW : kW A p.toInt q.toInt (fun k => E k ∨ k = m)) (hT : kT A n p.toInt q.toInt) (hE : ∀ k, 1 ≤ k → k < 8 → ¬ E' k → ¬ k = m → ¬ E k) (hx : ∀ k, 1 ≤ k → k < 8 → ¬ E' k → (2 * k = m ∨ 2 * k + 1 = m) → uDecA A (nI m) p q 6 m = A 6 m) :
    kW (uDecA A (nI m) p q) p.toInt q.toInt E' ∧ ((zQa (uDecA A (nI m) p q) n mk ∧ kT (uDecA A (nI m) p q) n p.toInt q.toInt) ∨ (zQa (uDecA A (nI m) p q) (n + 1) (mk + 1) ∧ kT (uDecA A (nI m) p q) (n + 1) p.toInt q.toInt)) := by
  have hn := hQ.1
  have hfr : ∀ a b, (a < 7 ∨ 12 < a) → ¬ (a = 6 ∧ b = m) → uDecA A (nI m) p q a b = A a b := fun a b h hb => dec_q h1 h2 hn hn32 h hb
  have e6 : uDecA A (nI m) p q 6 m = uWon A (nI m) p q := dec_6 h1 h2 hn hn32
  have e3 : ∀ i, uDecA A (nI m) p q 3 i = A 3 i := fun i => hfr 3 i (by omega) (by omega)
  have e4 : ∀ i, uDecA A (nI m) p q 4 i = A 4 i := fun i => hfr 4 i (by omega) (by omega)
  constructor
  · intro k k1 k2 k3 i j hpr hij
    rw [zVal_c e3 e4, zVal_c e3 e4, e4, e4, zAh_c e3 e4]
    by_cases e : k = m
    · subst e
      have cm0 : uCom (uDecA A (nI k) p q) (nI (2 * k)) = uCom A (nI (2 * k)) := com_c (fun i => hfr 2 i (by omega) (by omega)) (fun i => hfr 5 i (by omega) (by omega)) (fun h => hfr 6 (2 * k) (by omega) (by omega)) (by omega) (by omega)
      have cm1 : uCom (uDecA A (nI k) p q) (nI (2 * k + 1)) = uCom A (nI (2 * k + 1)) := com_c (fun i => hfr 2 i (by omega) (by omega)) (fun i => hfr 5 i (by omega) (by omega)) (fun h => hfr 6 (2 * k + 1) (by omega) (by omega)) (by omega) (by omega)
      obtain ⟨p1, p2, p3, p4⟩ := hpr
      rw [e6] at p3
      rw [cm0, cm1] at p4
      have z := won_i hS hL hp hq p1 p2 hij p3 p4
      refine ⟨?_, fun _ => z⟩
      rcases z with z | z
      · omega
      · omega
    · have h6 : ∀ f, (f = 2 * k ∨ f = 2 * k + 1) → f < 8 → uDecA A (nI m) p q 6 f = A 6 f := by
        intro f hf hf8
        by_cases e : f = m
        · rw [e]
          exact hx k k1 k2 k3 (by omega)
        · exact hfr 6 f (by omega) (by omega)
      have hc := (zPr_c (A := A) (B := uDecA A (nI m) p q) (m := k) (i := i) (j := j) (hfr 6 k (by omega) (by omega)) (com_c (fun i => hfr 2 i (by omega) (by omega)) (fun i => hfr 5 i (by omega) (by omega)) (fun h => h6 (2 * k) (Or.inl rfl) h) (by omega) (by omega)) (com_c (fun i => hfr 2 i (by omega) (by omega)) (fun i => hfr 5 i (by omega) (by omega)) (fun h => h6 (2 * k + 1) (Or.inr rfl) h) (by omega) (by omega))).mp hpr
      exact hW k k1 k2 (fun c => (hE k k1 k2 k3 e) (c.resolve_right e)) i j hc hij
  · rcases dec_qa (p := p) (q := q) h1 h2 hn32 hmk hS hL hQ with ⟨d1, d2, d3, d4, d5⟩ | ⟨d1, d2, d3, d4, d5, d6, d7, d8, d9⟩
    · refine Or.inl ⟨d1, fun k hk => ?_⟩
      rw [d3 10 k (by omega) (by omega), d3 9 k (by omega) (by omega)]
      exact hT k hk
    · refine Or.inr ⟨d1, fun k hk => ?_⟩
      by_cases e : k = n
      · subst e
        obtain ⟨iw, w8, ew⟩ := xin_of d7.1 (by omega)
        obtain ⟨il, l8, el⟩ := xin_of d7.2.1 (by omega)
        have g := d7.2.2
        rw [d8, d9]
        rw [ew, el, nI_cl (by omega), nI_cl (by omega)] at g ⊢
        rw [ti_lt] at g
        have si := hS iw w8
        have sj := hS il l8
        have li := hL iw w8
        have lj := hL il l8
        have hij : ¬ iw = il := by
          intro c
          subst c
          omega
        have eor := ahead_or (A := A) (p := p) (q := q) oa ob
        rw [← won_e, ew] at eor
        have ele := lost_e (A := A) (m := m) (p := p) (q := q)
        rw [ew, el] at ele
        have hc : (uCom A (nI (2 * m)) = nI iw ∧ uCom A (nI (2 * m + 1)) = nI il) ∨ (uCom A (nI (2 * m)) = nI il ∧ uCom A (nI (2 * m + 1)) = nI iw) := by
          by_cases z : nI iw = uCom A (nI (2 * m))
          · rw [if_pos z] at ele
            exact Or.inl ⟨z.symm, ele.symm⟩
          · rw [if_neg z] at ele
            rcases eor.1 with h | h
            · exact absurd h z
            · exact Or.inr ⟨ele.symm, h.symm⟩
        have z := won_i hS hL hp hq w8 l8 hij ew hc
        rw [ti_sub (by omega) (by omega), ti_sub (by omega) (by omega), Int.mul_sub, Int.sub_mul]
        have zz : zVal A il p.toInt q.toInt ≤ zVal A iw p.toInt q.toInt := by
          rcases z with z | z
          · omega
          · omega
        unfold zVal at zz
        rw [Int.mul_comm p.toInt, Int.mul_comm p.toInt]
        omega
      · rw [d3 10 k (by omega) (by omega) e, d3 9 k (by omega) (by omega) e]
        exact hT k (by omega)
theorem dec_wk {A : Nat → Nat → Int32} {m n : Nat} {E E' : Nat → Prop} {p q : Int32} (h1 : 1 ≤ m) (h2 : m < 8) (hn : A 7 5 = nI n) (hn32 : n < 32) (oa : okR (uCom A (nI (2 * m)))) (ob : okR (uCom A (nI (2 * m + 1)))) (hW : zWk A (fun k => E k ∨ k = m)) (hE : ∀ k, 1 ≤ k → k < 8 → ¬ E' k → ¬ k = m → ¬ E k) (hx : ∀ k, 1 ≤ k → k < 8 → ¬ E' k → (2 * k = m ∨ 2 * k + 1 = m) → uDecA A (nI m) p q 6 m = A 6 m) : zWk (uDecA A (nI m) p q) E' := by
  have hfr : ∀ a b, (a < 7 ∨ 12 < a) → ¬ (a = 6 ∧ b = m) → uDecA A (nI m) p q a b = A a b := fun a b h hb => dec_q h1 h2 hn hn32 h hb
  have e6 : uDecA A (nI m) p q 6 m = uWon A (nI m) p q := dec_6 h1 h2 hn hn32
  intro k k1 k2 k3
  by_cases e : k = m
  · subst e
    rw [com_c (fun i => hfr 2 i (by omega) (by omega)) (fun i => hfr 5 i (by omega) (by omega)) (fun h => hfr 6 (2 * k) (by omega) (by omega)) (by omega) (by omega), com_c (fun i => hfr 2 i (by omega) (by omega)) (fun i => hfr 5 i (by omega) (by omega)) (fun h => hfr 6 (2 * k + 1) (by omega) (by omega)) (by omega) (by omega), e6, won_e]
    exact ahead_or oa ob
  · have h6 : ∀ f, (f = 2 * k ∨ f = 2 * k + 1) → f < 8 → uDecA A (nI m) p q 6 f = A 6 f := by
      intro f hf hf8
      by_cases e : f = m
      · rw [e]
        exact hx k k1 k2 k3 (by omega)
      · exact hfr 6 f (by omega) (by omega)
    rw [hfr 6 k (by omega) (by omega), com_c (fun i => hfr 2 i (by omega) (by omega)) (fun i => hfr 5 i (by omega) (by omega)) (fun h => h6 (2 * k) (Or.inl rfl) h) (by omega) (by omega), com_c (fun i => hfr 2 i (by omega) (by omega)) (fun i => hfr 5 i (by omega) (by omega)) (fun h => h6 (2 * k + 1) (Or.inr rfl) h) (by omega) (by omega)]
    exact hW k k1 k2 (fun c => (hE k k1 k2 k3 e) (c.resolve_right e))
/-- the chain of decisions at one time -/
theorem kch {p q : Int32} (hp : -21800 ≤ p.toInt ∧ p.toInt ≤ 21800) (hq : 0 ≤ q.toInt ∧ q.toInt ≤ 100) : ∀ d A u n mz, u ≤ 3 → n + d < 32 → mz + d < 900 → zS A → zL A → zQa A n mz → (∀ k, 1 ≤ k → k < 8 → okR (A 6 k)) → kW A p.toInt q.toInt (fun k => k = u) → kT A n p.toInt q.toInt → zWk A (fun k => k = u) → u < 2 ^ d → ∃ n', uCh p q d A u 1 7 5 = nI n' ∧ n' < 32 ∧ kW (uCh p q d A u 1) p.toInt q.toInt (fun _ => False) ∧ kT (uCh p q d A u 1) n' p.toInt q.toInt ∧ zWk (uCh p q d A u 1) (fun _ => False)
  | 0, A, u, n, mz, h1, h2, h3, hS, hL, hQ, h6, hW, hT, hk, hu => by
    have e : u = 0 := by omega
    subst e
    exact ⟨n, hQ.1, by omega, fun k k1 k2 _ => hW k k1 k2 (by omega), hT, fun k k1 k2 _ => hk k k1 k2 (by omega)⟩
  | d + 1, A, u, n, mz, h1, h2, h3, hS, hL, hQ, h6, hW, hT, hk, hu => by
    by_cases h0 : u = 0
    · subst h0
      rw [uCh_z]
      exact ⟨n, hQ.1, by omega, fun k k1 k2 _ => hW k k1 k2 (by omega), hT, fun k k1 k2 _ => hk k k1 k2 (by omega)⟩
    · have u1 : 1 ≤ u := by omega
      have u8 : u < 8 := by omega
      have oa := com_ok (A := A) (m := u) (t := 0) u1 u8 (by omega) (fun h3 => h6 (2 * u) (by omega) (by omega))
      have ob := com_ok (A := A) (m := u) (t := 1) u1 u8 (by omega) (fun h3 => h6 (2 * u + 1) (by omega) (by omega))
      rw [Nat.add_zero] at oa
      have hfr : ∀ a b, (a < 7 ∨ 12 < a) → ¬ (a = 6 ∧ b = u) → uDecA A (nI u) p q a b = A a b := fun a b h hb => dec_q u1 u8 hQ.1 (by omega) h hb
      have e6 : uDecA A (nI u) p q 6 u = uWon A (nI u) p q := dec_6 u1 u8 hQ.1 (by omega)
      have hS' := zS_c (fun b => hfr 4 b (by omega) (by omega)) hS
      have hL' : zL (uDecA A (nI u) p q) := fun i hi => by rw [hfr 3 i (by omega) (by omega)]; exact hL i hi
      have h6' : ∀ k, 1 ≤ k → k < 8 → okR (uDecA A (nI u) p q 6 k) := by
        intro k k1 k2
        by_cases e : k = u
        · subst e
          rw [e6, won_e]
          exact ahead_ok oa ob
        · rw [hfr 6 k (by omega) (by omega)]
          exact h6 k k1 k2
      rw [uCh, if_neg (by
        intro c
        rcases c with c | c
        · exact h0 c
        · exact absurd c (by decide))]
      by_cases g : uWon A (nI u) p q = A 6 u
      · have gR : uDecR A (nI u) p q = false := by
          rw [decR_e u1 u8]
          exact decide_eq_false (fun c => c g)
        rw [gR, xi_f, uCh_0]
        obtain ⟨r1, r2⟩ := dec_kW (E := fun _ => False) (E' := fun _ => False) (p := p) (q := q) u1 u8 (by omega) (by omega) hS hL hQ oa ob hp hq (fun k k1 k2 k3 => hW k k1 k2 (fun c => k3 (Or.inr c))) hT (fun _ _ _ _ _ c => c) (fun k _ _ _ _ => by rw [e6, g])
        have r5 := dec_wk (E := fun _ => False) (E' := fun _ => False) (p := p) (q := q) u1 u8 hQ.1 (by omega) oa ob (fun k k1 k2 k3 => hk k k1 k2 (fun c => k3 (Or.inr c))) (fun _ _ _ _ _ c => c) (fun k _ _ _ _ => by rw [e6, g])
        rcases r2 with ⟨r2, r3⟩ | ⟨r2, r3⟩
        · exact ⟨n, r2.1, by omega, r1, r3, r5⟩
        · exact ⟨n + 1, r2.1, by omega, r1, r3, r5⟩
      · have gR : uDecR A (nI u) p q = true := by
          rw [decR_e u1 u8]
          exact decide_eq_true g
        rw [gR, xi_t]
        obtain ⟨r1, r2⟩ := dec_kW (E := fun _ => False) (E' := fun k => k = u / 2) (p := p) (q := q) u1 u8 (by omega) (by omega) hS hL hQ oa ob hp hq (fun k k1 k2 k3 => hW k k1 k2 (fun c => k3 (Or.inr c))) hT (fun _ _ _ _ _ c => c) (fun k _ _ k3 k4 => absurd (by omega) k3)
        have r5 := dec_wk (E := fun _ => False) (E' := fun k => k = u / 2) (p := p) (q := q) u1 u8 hQ.1 (by omega) oa ob (fun k k1 k2 k3 => hk k k1 k2 (fun c => k3 (Or.inr c))) (fun _ _ _ _ _ c => c) (fun k _ _ k3 k4 => absurd (by omega) k3)
        have h2' : u / 2 < 2 ^ d := by
          rw [Nat.pow_succ] at hu
          omega
        rcases r2 with ⟨r2, r3⟩ | ⟨r2, r3⟩
        · exact kch hp hq d _ (u / 2) n mz (by omega) (by omega) (by omega) hS' hL' r2 h6' r1 r3 r5 h2'
        · exact kch hp hq d _ (u / 2) (n + 1) (mz + 1) (by omega) (by omega) (by omega) hS' hL' r2 h6' r1 r3 r5 h2'
theorem int_tr {a b c d e f : Int} (hb : 0 < b) (hd : 0 < d) (hf : 0 < f) (h1 : a * d ≤ c * b) (h2 : c * f ≤ e * d) : a * f ≤ e * b := by
  have x1 : a * d * f ≤ c * b * f := Int.mul_le_mul_of_nonneg_right h1 (by omega)
  have x2 : c * f * b ≤ e * d * b := Int.mul_le_mul_of_nonneg_right h2 (by omega)
  have e1 : a * d * f = a * f * d := by rw [Int.mul_assoc, Int.mul_comm d f, ← Int.mul_assoc]
  have e2 : c * b * f = c * f * b := by rw [Int.mul_assoc, Int.mul_comm b f, ← Int.mul_assoc]
  have e3 : e * d * b = e * b * d := by rw [Int.mul_assoc, Int.mul_comm d b, ← Int.mul_assoc]
  rw [e1, e2] at x1
  rw [e3] at x2
  exact Int.le_of_mul_le_mul_right (Int.le_trans x1 x2) hd
theorem nI_n6' {k : Nat} (h : k < 1000) : ¬ nI k = -6 := by
  intro c
  have := ti_nI (n := k) (by omega)
  rw [c, q_m6] at this
  omega
theorem earl_e0 {A : Nat → Nat → Int32} : ∀ K, 0 < K → ∃ f, f < K ∧ nI f = uE A 0 K
  | 0, h => by omega
  | K + 1, _ => by
    rw [uE, uE1]
    split
    · exact ⟨K, by omega, rfl⟩
    · rename_i c
      by_cases h : 0 < K
      · obtain ⟨f, f1, f2⟩ := earl_e0 (A := A) K h
        exact ⟨f, by omega, f2⟩
      · have e : K = 0 := by omega
        subst e
        exact absurd ⟨Or.inl rfl, Or.inl rfl⟩ c
/-- the first of all is first -/
theorem earl_min {A : Nat → Nat → Int32} {n mk : Nat} (hQ : zQa A n mk) (hn32 : n ≤ 32) : ∀ K, K ≤ n → ∀ f, uE A 0 K = nI f → f < 1000 → ∀ k, k < K → f < K ∧ (A 9 f).toInt * (A 10 k).toInt ≤ (A 9 k).toInt * (A 10 f).toInt
  | 0, _, f, _, _, k, hk => by omega
  | K + 1, hK, f, hf, hf1, k, hk => by
    rw [uE] at hf
    have bK := hQ.2.2.2.1 K (by omega)
    rcases uE_c A 0 K with h0 | ⟨g, g1, g2⟩
    · have K0 : K = 0 := by
        exact Classical.byContradiction fun c => by
          have := earl_e0 (A := A) K (by omega)
          rcases this with ⟨x, x1, x2⟩
          rw [h0] at x2
          exact nI_n6' (by omega) x2
      rw [h0, uE1, if_pos ⟨Or.inl rfl, Or.inl rfl⟩] at hf
      have : K = f := nI_inj (by omega) hf1 hf
      subst this
      have k0 : k = K := by omega
      subst k0
      exact ⟨by omega, Int.le_refl _⟩
    · have bg := hQ.2.2.2.1 g (by omega)
      have sk := soon_e hQ hn32 (i := K) (j := g) (by omega) (by omega)
      rw [g2, uE1] at hf
      by_cases s : uSoon A (nI K) (nI g) = true
      · rw [if_pos ⟨Or.inl rfl, Or.inr s⟩] at hf
        have : K = f := nI_inj (by omega) hf1 hf
        subst this
        refine ⟨by omega, ?_⟩
        by_cases ek : k = K
        · subst ek
          exact Int.le_refl _
        · have ih := earl_min hQ hn32 K (by omega) g g2 (by omega) k (by omega)
          have sz := sk.mp s
          have bk := hQ.2.2.2.1 k (by omega)
          have x : (A 9 K).toInt * (A 10 g).toInt ≤ (A 9 g).toInt * (A 10 K).toInt := by
            rcases sz with sz | sz <;> omega
          exact int_tr (by omega) (by omega) (by omega) x ih.2
      · rw [if_neg (by
          rintro ⟨-, c | c⟩
          · exact nI_n6' (by omega) c
          · exact s c)] at hf
        have : g = f := nI_inj (by omega) hf1 hf
        subst this
        refine ⟨by omega, ?_⟩
        by_cases ek : k = K
        · subst ek
          have sz : ¬ zSn A k g := fun c => s (sk.mpr c)
          unfold zSn at sz
          omega
        · exact (earl_min hQ hn32 K (by omega) g g2 (by omega) k (by omega)).2
