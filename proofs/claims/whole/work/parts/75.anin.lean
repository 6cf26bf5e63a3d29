theorem cW_0 {A : Nat → Nat → Int32} {m : Nat} (h : A 12 m = 0) : cW A m = 0 := by
  unfold cW
  rw [if_pos h]
theorem cW_c {A B : Nat → Nat → Int32} {m : Nat} (h : B 12 m = A 12 m) : cW B m = cW A m := by
  unfold cW
  rw [h]
theorem zPhi_14 (A : Nat → Nat → Int32) : zPhi A ≤ 14 := by
  have a2 := cW_1 A 2
  have a3 := cW_1 A 3
  have a4 := cW_1 A 4
  have a5 := cW_1 A 5
  have a6 := cW_1 A 6
  have a7 := cW_1 A 7
  unfold zPhi
  omega
/-- what the loop of beginning anew keeps -/
theorem an_inv {s : Int32} : ∀ m A n, m < 8 → n + m ≤ 7 → zR A → zS A → zL A → zQa A n n → zQb A n (fun k => k ≤ m) → (∀ k, m < k → k < 8 → okR (A 6 k)) → ∃ n', n' ≤ 7 ∧ zQa (uAn s m A) n' n' ∧ zQb (uAn s m A) n' (fun _ => False) ∧ ∀ k, 1 ≤ k → k < 8 → okR (uAn s m A 6 k)
  | 0, A, n, _, h2, _, _, _, hQ, hB, h6 => ⟨n, by omega, hQ, fun m h1 h2 _ => hB m h1 h2 (by omega), fun k k1 k2 => h6 k (by omega) k2⟩
  | m + 1, A, n, h1, h2, hR, hS, hL, hQ, hB, h6 => by
    have hn := hQ.1
    have oa := com_ok (A := A) (m := m + 1) (t := 0) (by omega) h1 (by omega) (fun h3 => h6 (2 * (m + 1) + 0) (by omega) (by omega))
    have ob := com_ok (A := A) (m := m + 1) (t := 1) (by omega) h1 (by omega) (fun h3 => h6 (2 * (m + 1) + 1) (by omega) (by omega))
    rw [Nat.add_zero] at oa
    obtain ⟨n', mk', n1, n2, n3, hQ', hB', -, -, -⟩ := dec_qb (A := A) (m := m + 1) (n := n) (mk := n) (E := fun k => k < m + 1) (E' := fun k => k ≤ m) (p := s) (q := 1) (by omega) h1 (by omega) (by omega) hS hL hQ (fun k k1 k2 k3 => hB k k1 k2 (by omega)) oa ob (fun k k1 k2 k3 k4 => by omega) (fun k k1 k2 k3 k4 => by omega)
    have em : mk' = n' := by omega
    subst em
    have hfr : ∀ a b, (a < 7 ∨ 12 < a) → ¬ (a = 6 ∧ b = m + 1) → uDecA A (nI (m + 1)) s 1 a b = A a b := fun a b h hb => dec_q (by omega) h1 hn (by omega) h hb
    rw [uAn]
    refine an_inv m _ mk' (by omega) (by omega) (zR_c (fun a b h3 h4 => hfr a b (by omega) (by omega)) hR) (zS_c (fun b => hfr 4 b (by omega) (by omega)) hS) (fun i hi => by rw [hfr 3 i (by omega) (by omega)]; exact hL i hi) hQ' hB' (fun k k1 k2 => ?_)
    by_cases e : k = m + 1
    · subst e
      rw [dec_6 (by omega) h1 hn (by omega), won_e]
      exact ahead_ok oa ob
    · rw [hfr 6 k (by omega) (by omega)]
      exact h6 k (by omega) k2
theorem anew_inv {A : Nat → Nat → Int32} (hR : zR A) (hS : zS A) (hL : zL A) : ∃ n, n ≤ 7 ∧ zQa (uAnew A) n n ∧ zQb (uAnew A) n (fun _ => False) ∧ ∀ k, 1 ≤ k → k < 8 → okR (uAnew A 6 k) := by
  unfold uAnew
  have e12 : ∀ m, m < 8 → uClr A 12 m = 0 := by
    intro m hm
    unfold uClr
    rw [xup_q (by omega), xup_q (by omega), xfil, if_pos (by omega)]
  refine an_inv (s := A 0 8) 7 (uClr A) 0 (by omega) (by omega) (zR_c (fun a b h1 h2 => clr_q (by omega) (by omega)) hR) (zS_c (fun b => clr_q (by omega) (by omega)) hS) (fun i hi => by rw [clr_q (by omega) (by omega)]; exact hL i hi) ⟨?_, ?_, by omega, fun k hk => by omega, fun j k hj hk => by omega, fun m h1 h2 => ⟨0, by omega, by rw [e12 m h2, nI_0]⟩⟩ (fun m h1 h2 h3 => absurd (by omega : m ≤ 7) h3) (fun k k1 k2 => by omega)
  · unfold uClr
    rw [xup_q (by omega), xup_same, nI_0]
  · unfold uClr
    rw [xup_same, nI_0]
theorem an_q {s : Int32} {a b : Nat} (h : a < 6 ∨ 12 < a) : ∀ m A n, m < 8 → n + m ≤ 7 → zR A → zS A → zL A → zQa A n n → (∀ k, m < k → k < 8 → okR (A 6 k)) → uAn s m A a b = A a b
  | 0, A, n, _, _, _, _, _, _, _ => rfl
  | m + 1, A, n, h1, h2, hR, hS, hL, hQ, h6 => by
    have hn := hQ.1
    have oa := com_ok (A := A) (m := m + 1) (t := 0) (by omega) h1 (by omega) (fun h3 => h6 (2 * (m + 1) + 0) (by omega) (by omega))
    have ob := com_ok (A := A) (m := m + 1) (t := 1) (by omega) h1 (by omega) (fun h3 => h6 (2 * (m + 1) + 1) (by omega) (by omega))
    rw [Nat.add_zero] at oa
    have hfr : ∀ a b, (a < 7 ∨ 12 < a) → ¬ (a = 6 ∧ b = m + 1) → uDecA A (nI (m + 1)) s 1 a b = A a b := fun a b h hb => dec_q (by omega) h1 hn (by omega) h hb
    have hk6 : ∀ k, m < k → k < 8 → okR (uDecA A (nI (m + 1)) s 1 6 k) := by
      intro k k1 k2
      by_cases e : k = m + 1
      · subst e
        rw [dec_6 (by omega) h1 hn (by omega), won_e]
        exact ahead_ok oa ob
      · rw [hfr 6 k (by omega) (by omega)]
        exact h6 k (by omega) k2
    rw [uAn]
    have hR' := zR_c (fun a b h3 h4 => hfr a b (by omega) (by omega)) hR
    have hS' := zS_c (fun b => hfr 4 b (by omega) (by omega)) hS
    have hL' : zL (uDecA A (nI (m + 1)) s 1) := fun i hi => by rw [hfr 3 i (by omega) (by omega)]; exact hL i hi
    rcases dec_qa (p := s) (q := 1) (by omega) h1 (by omega) (by omega) hS hL hQ with ⟨d1, -⟩ | ⟨d1, -⟩
    · rw [an_q h m _ n (by omega) (by omega) hR' hS' hL' d1 hk6, hfr a b (by omega) (by omega)]
    · rw [an_q h m _ (n + 1) (by omega) (by omega) hR' hS' hL' d1 hk6, hfr a b (by omega) (by omega)]
theorem clr_qa {A : Nat → Nat → Int32} : zQa (uClr A) 0 0 := by
  have e12 : ∀ m, m < 8 → uClr A 12 m = 0 := by
    intro m hm
    unfold uClr
    rw [xup_q (by omega), xup_q (by omega), xfil, if_pos (by omega)]
  refine ⟨?_, ?_, by omega, fun k hk => by omega, fun j k hj hk => by omega, fun m h1 h2 => ⟨0, by omega, by rw [e12 m h2, nI_0]⟩⟩
  · unfold uClr
    rw [xup_q (by omega), xup_same, nI_0]
  · unfold uClr
    rw [xup_same, nI_0]
/-- lines, second and tally are kept -/
theorem anew_q {A : Nat → Nat → Int32} {a b : Nat} (hR : zR A) (hS : zS A) (hL : zL A) (h : a < 6 ∨ 12 < a) : uAnew A a b = A a b := by
  unfold uAnew
  rw [an_q h 7 (uClr A) 0 (by omega) (by omega) (zR_c (fun a b h1 h2 => clr_q (by omega) (by omega)) hR) (zS_c (fun b => clr_q (by omega) (by omega)) hS) (fun i hi => by rw [clr_q (by omega) (by omega)]; exact hL i hi) clr_qa (fun k k1 k2 => by omega), clr_q (by omega) (by omega)]
