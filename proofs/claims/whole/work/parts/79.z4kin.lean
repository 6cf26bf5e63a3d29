def kS (A : Nat → Nat → Int32) (p q : Int) (E : Nat → Prop) : Prop := ∀ m, 1 ≤ m → m < 8 → ¬ E m → ∀ i j, zPr A m i j → ¬ i = j → zAh A p q i j
theorem dec_kS {A : Nat → Nat → Int32} {m n : Nat} {E E' : Nat → Prop} {p q : Int32} (h1 : 1 ≤ m) (h2 : m < 8) (hn : A 7 5 = nI n) (hn32 : n < 32) (hS : zS A) (hL : zL A) (hp : -21800 ≤ p.toInt ∧ p.toInt ≤ 21800) (hq : 0 ≤ q.toInt ∧ q.toInt ≤ 100) (hW : kS A p.toInt q.toInt (fun k => E k ∨ k = m)) (hE : ∀ k, 1 ≤ k → k < 8 → ¬ E' k → ¬ k = m → ¬ E k) (hx : ∀ k, 1 ≤ k → k < 8 → ¬ E' k → ¬ (2 * k = m ∨ 2 * k + 1 = m)) : kS (uDecA A (nI m) p q) p.toInt q.toInt E' := by
  have hfr : ∀ a b, (a < 7 ∨ 12 < a) → ¬ (a = 6 ∧ b = m) → uDecA A (nI m) p q a b = A a b := fun a b h hb => dec_q h1 h2 hn hn32 h hb
  have e6 : uDecA A (nI m) p q 6 m = uWon A (nI m) p q := dec_6 h1 h2 hn hn32
  have e3 : ∀ i, uDecA A (nI m) p q 3 i = A 3 i := fun i => hfr 3 i (by omega) (by omega)
  have e4 : ∀ i, uDecA A (nI m) p q 4 i = A 4 i := fun i => hfr 4 i (by omega) (by omega)
  intro k k1 k2 k3 i j hpr hij
  rw [zAh_c e3 e4]
  by_cases e : k = m
  · subst e
    have cm0 : uCom (uDecA A (nI k) p q) (nI (2 * k)) = uCom A (nI (2 * k)) := com_c (fun i => hfr 2 i (by omega) (by omega)) (fun i => hfr 5 i (by omega) (by omega)) (fun h => hfr 6 (2 * k) (by omega) (by omega)) (by omega) (by omega)
    have cm1 : uCom (uDecA A (nI k) p q) (nI (2 * k + 1)) = uCom A (nI (2 * k + 1)) := com_c (fun i => hfr 2 i (by omega) (by omega)) (fun i => hfr 5 i (by omega) (by omega)) (fun h => hfr 6 (2 * k + 1) (by omega) (by omega)) (by omega) (by omega)
    obtain ⟨p1, p2, p3, p4⟩ := hpr
    rw [e6] at p3
    rw [cm0, cm1] at p4
    exact won_i hS hL hp hq p1 p2 hij p3 p4
  · have hno := hx k k1 k2 k3
    have hc := (zPr_c (A := A) (B := uDecA A (nI m) p q) (m := k) (i := i) (j := j) (hfr 6 k (by omega) (by omega)) (com_c (fun i => hfr 2 i (by omega) (by omega)) (fun i => hfr 5 i (by omega) (by omega)) (fun h => hfr 6 (2 * k) (by omega) (by omega)) (by omega) (by omega)) (com_c (fun i => hfr 2 i (by omega) (by omega)) (fun i => hfr 5 i (by omega) (by omega)) (fun h => hfr 6 (2 * k + 1) (by omega) (by omega)) (by omega) (by omega))).mp hpr
    exact hW k k1 k2 (fun c => (hE k k1 k2 k3 e) (c.resolve_right e)) i j hc hij
theorem an_kS {s : Nat} (hs : s ≤ 99) : ∀ m A n, m < 8 → n + m ≤ 7 → zS A → zL A → zQa A n n → kS A s 1 (fun k => k ≤ m) → kS (uAn (nI s) m A) s 1 (fun _ => False)
  | 0, A, n, _, h2, _, _, hQ, hW => fun k k1 k2 _ => hW k k1 k2 (by omega)
  | m + 1, A, n, h1, h2, hS, hL, hQ, hW => by
    have ts : (nI s).toInt = (s : Int) := ti_nI (by omega)
    have hfr : ∀ a b, (a < 7 ∨ 12 < a) → ¬ (a = 6 ∧ b = m + 1) → uDecA A (nI (m + 1)) (nI s) 1 a b = A a b := fun a b h hb => dec_q (by omega) h1 hQ.1 (by omega) h hb
    have r1 := dec_kS (A := A) (m := m + 1) (n := n) (E := fun k => k < m + 1) (E' := fun k => k ≤ m) (p := nI s) (q := 1) (by omega) h1 hQ.1 (by omega) hS hL (by rw [ts]; omega) (by rw [q_1]; omega) (by rw [ts, q_1]; exact fun k k1 k2 k3 => hW k k1 k2 (by omega)) (fun k k1 k2 k3 k4 => by omega) (fun k k1 k2 k3 => by omega)
    rw [ts, q_1] at r1
    have hS' := zS_c (fun b => hfr 4 b (by omega) (by omega)) hS
    have hL' : zL (uDecA A (nI (m + 1)) (nI s) 1) := fun i hi => by rw [hfr 3 i (by omega) (by omega)]; exact hL i hi
    rw [uAn]
    rcases dec_qa (p := nI s) (q := 1) (by omega) h1 (by omega) (by omega) hS hL hQ with ⟨d1, -⟩ | ⟨d1, -⟩
    · exact an_kS hs m _ n (by omega) (by omega) hS' hL' d1 r1
    · exact an_kS hs m _ (n + 1) (by omega) (by omega) hS' hL' d1 r1
theorem anew_K {A : Nat → Nat → Int32} {s : Nat} (hs : s ≤ 99) (h0 : A 0 8 = nI s) (hR : zR A) (hS : zS A) (hL : zL A) : ∃ n, uAnew A 7 5 = nI n ∧ n < 32 ∧ zKv (uAnew A) s n := by
  have hRc := zR_c (fun a b h1 h2 => clr_q (A := A) (by omega) (by omega)) hR
  have hSc : zS (uClr A) := zS_c (fun b => clr_q (by omega) (by omega)) hS
  have hLc : zL (uClr A) := fun i hi => by rw [clr_q (by omega) (by omega)]; exact hL i hi
  unfold uAnew
  rw [h0]
  obtain ⟨n, e1, e2, -, e3, e5⟩ := an_k hs 7 (uClr A) 0 (by omega) (by omega) hRc hSc hLc clr_qa (fun k k1 k2 => by omega) (fun k k1 k2 k3 => absurd (by omega) k3) (fun k hk => by omega) (fun k k1 k2 k3 => absurd (by omega) k3)
  have e4 := an_kS hs 7 (uClr A) 0 (by omega) (by omega) hSc hLc clr_qa (fun k k1 k2 k3 => absurd (by omega) k3)
  exact ⟨n, e1, e2, fun m i j h1 h2 => e4 m h1 h2 (fun c => c) i j, e3, e5⟩
theorem zKv_c {A B : Nat → Nat → Int32} {s n : Nat} (h : ∀ a b, 1 ≤ a → a ≤ 12 → B a b = A a b) (hK : zKv A s n) : zKv B s n := by
  refine ⟨fun m i j h1 h2 hp hij => ?_, fun k hk => ?_, zWk_c (fun i => h 2 i (by omega) (by omega)) (fun i => h 5 i (by omega) (by omega)) (fun i => h 6 i (by omega) (by omega)) hK.2.2⟩
  · rw [zAh_c (fun i => h 3 i (by omega) (by omega)) (fun i => h 4 i (by omega) (by omega))]
    exact hK.1 m i j h1 h2 ((zPr_c (h 6 m (by omega) (by omega)) (com_c (fun i => h 2 i (by omega) (by omega)) (fun i => h 5 i (by omega) (by omega)) (fun _ => h 6 _ (by omega) (by omega)) (by omega) (by omega)) (com_c (fun i => h 2 i (by omega) (by omega)) (fun i => h 5 i (by omega) (by omega)) (fun _ => h 6 _ (by omega) (by omega)) (by omega) (by omega))).mp hp) hij
  · rw [h 10 k (by omega) (by omega), h 9 k (by omega) (by omega)]
    exact hK.2.1 k hk
