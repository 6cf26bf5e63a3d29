theorem best_c {A : Nat → Nat → Int32} {N : Nat → Int32} {s m : Nat} (hs : s ≤ 99) (hS : zS A) (hL : zL A) (hN : zN A N) : ∀ k, k ≤ 8 → (rBs N m (nI s) 1 k 0 (-6) = -6 ∧ ∀ r, r < k → rTo N m r = false) ∨ ∃ w, w < k ∧ rBs N m (nI s) 1 k 0 (-6) = nI w ∧ rTo N m w = true ∧ ∀ r, r < k → rTo N m r = true → ¬ r = w → zAh A s 1 w r
  | 0, _ => Or.inl ⟨rfl, fun r hr => by omega⟩
  | k + 1, hk => by
    have ts : (nI s).toInt = (s : Int) := ti_nI (by omega)
    rw [rBs_s, Nat.zero_add]
    by_cases g : rTo N m k = true
    · rw [if_pos g]
      rcases best_c (m := m) hs hS hL hN k (by omega) with ⟨a1, a2⟩ | ⟨w, w1, a1, a2, a3⟩
      · refine Or.inr ⟨k, by omega, ?_, g, fun r h1 h2 h3 => ?_⟩
        · rw [a1, ← ahead_e hS hN okR_6 (okR_n (by omega))]
          unfold uAhead
          rw [m6_8, if_neg (by decide), nI_i8 (by omega), if_pos rfl]
        · have := a2 r (by omega)
          rw [this] at h2
          exact absurd h2 (by decide)
      · rw [a1, ← ahead_e hS hN (okR_n (by omega)) (okR_n (by omega))]
        have ai := ahead_i (A := A) (i := w) (j := k) (p := nI s) (q := 1) (by omega) (by omega) hS hL (by rw [ts]; omega) (by rw [q_1]; omega) (by omega)
        rw [ts, q_1] at ai
        by_cases z : zAh A s 1 w k
        · refine Or.inr ⟨w, by omega, ai.1 z, a2, fun r h1 h2 h3 => ?_⟩
          by_cases e : r = k
          · rw [e]; exact z
          · exact a3 r (by omega) h2 h3
        · have z2 := zAh_tot z (show ¬ k = w by omega)
          refine Or.inr ⟨k, by omega, ai.2 z, g, fun r h1 h2 h3 => ?_⟩
          by_cases e : r = w
          · rw [e]; exact z2
          · exact zAh_tr z2 (a3 r (by omega) h2 e)
    · rw [if_neg g]
      rcases best_c (m := m) hs hS hL hN k (by omega) with ⟨a1, a2⟩ | ⟨w, w1, a1, a2, a3⟩
      · refine Or.inl ⟨a1, fun r h1 => ?_⟩
        by_cases e : r = k
        · rw [e]; simpa using g
        · exact a2 r (by omega)
      · refine Or.inr ⟨w, by omega, a1, a2, fun r h1 h2 h3 => ?_⟩
        by_cases e : r = k
        · rw [e] at h2
          exact absurd h2 g
        · exact a3 r (by omega) h2 h3
theorem to_u {A : Nat → Nat → Int32} {N : Nat → Int32} {m r p : Nat} (hN : zN A N) (hr : r < 8) (hp : A 2 r = nI p) (p8 : p < 8) (m8 : m < 8) : rTo N m r = true ↔ (A 5 r = 1 ∧ und m p = true) := by
  have nk := hN.1 r hr
  rw [rTo_e (p := p) (by rw [← nk.2.1, hp]) p8, Bool.and_eq_true, decide_eq_true_eq, ← nk.2.2.2.2]
  unfold und
  rw [if_pos m8]
/-- the reference's best of a match at the second is who wins it -/
theorem best_e {A : Nat → Nat → Int32} {N : Nat → Int32} {s n m : Nat} (hs : s ≤ 99) (hR : zR A) (hS : zS A) (hL : zL A) (hN : zN A N) (hK : zKv A s n) (m1 : 1 ≤ m) (m8 : m < 8) : rBst N m (nI s) 1 = A 6 m := by
  have hb := mat_a hR hK 7 1 (by omega) (by omega) m m1 m8
  unfold rBst
  rcases best_c (m := m) hs hS hL hN 8 (Nat.le_refl 8) with ⟨a1, a2⟩ | ⟨w, w1, a1, a2, a3⟩
  · rw [a1]
    rcases hb with ⟨b1, -⟩ | ⟨v, q, v8, q8, b1, b2, b3, b4, -⟩
    · rw [b1]
    · have := (to_u hN v8 b3 q8 m8).mpr ⟨b2, b4⟩
      rw [a2 v v8] at this
      exact absurd this (by decide)
  · rw [a1]
    obtain ⟨-, -, p, p8, ep⟩ := hR.1 w w1
    obtain ⟨x1, x2⟩ := (to_u hN w1 ep p8 m8).mp a2
    rcases hb with ⟨-, b2⟩ | ⟨v, q, v8, q8, b1, b2, b3, b4, b5⟩
    · rw [b2 w p w1 p8 ep x1] at x2
      exact absurd x2 (by decide)
    · rw [b1]
      by_cases e : w = v
      · rw [e]
      · exact (zAh_as (a3 v v8 ((to_u hN v8 b3 q8 m8).mpr ⟨b2, b4⟩) (fun c => e c.symm)) (b5 w p w1 p8 ep x1 x2 e)).elim
