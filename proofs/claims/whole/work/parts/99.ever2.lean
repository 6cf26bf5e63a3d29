theorem rLy_s {N : Nat → Int32} {m w : Nat} : ∀ d i s, rLy N m w (d + 1) i s = rL1 N m w (i + d) (rLy N m w d i s)
  | 0, i, s => rfl
  | d + 1, i, s => by
    rw [rLy, rLy_s d (i + 1), rLy, show i + 1 + d = i + (d + 1) by omega]
/-- the reference's search for who passes first in a match -/
theorem lay_c {A : Nat → Nat → Int32} {N : Nat → Int32} {m w : Nat} {a0 b0 : Int32} (hS : zS A) (hL : zL A) (hN : zN A N) (hw : w < 8) : ∀ k, k ≤ 8 → (rLy N m w k 0 (false, a0, b0) = (false, a0, b0) ∧ ∀ r, r < k → ¬ (rTo N m r = true ∧ (A 4 w).toInt < (A 4 r).toInt)) ∨ ∃ r, r < k ∧ (rTo N m r = true ∧ (A 4 w).toInt < (A 4 r).toInt) ∧ rLy N m w k 0 (false, a0, b0) = (true, A 3 w - A 3 r, A 4 r - A 4 w) ∧ ∀ r', r' < k → (rTo N m r' = true ∧ (A 4 w).toInt < (A 4 r').toInt) → zGp A w r * zGn A w r' ≤ zGp A w r' * zGn A w r
  | 0, _ => Or.inl ⟨rfl, fun r hr => by omega⟩
  | k + 1, hk => by
    obtain ⟨b1, b2, b3, b4, b5, b6⟩ := gp_b hS hL hw (r := k) (by omega)
    have nk := hN.1 k (by omega)
    have nw := hN.1 w hw
    have ef : rLf N w k = A 4 k - A 4 w := by unfold rLf; rw [nk.2.2.2.1, nw.2.2.2.1]
    have eu : rLu N w k = A 3 w - A 3 k := by unfold rLu; rw [nk.2.2.1, nw.2.2.1]
    have et : rLt N m w k = true ↔ (rTo N m k = true ∧ (A 4 w).toInt < (A 4 k).toInt) := by
      unfold rLt
      rw [Bool.and_eq_true, decide_eq_true_eq, ef, ti_lt, q_0, b2]
      unfold zGn
      exact ⟨fun c => ⟨c.1, by omega⟩, fun c => ⟨c.1, by omega⟩⟩
    rw [rLy_s, Nat.zero_add]
    rcases lay_c (m := m) (a0 := a0) (b0 := b0) hS hL hN hw k (by omega) with ⟨a1, a2⟩ | ⟨r, r1, r2, r3, r4⟩
    · rw [a1]
      unfold rL1
      by_cases g : rLt N m w k = true
      · rw [if_pos g, if_pos (show rLS (false, a0, b0).1 (rLu N w k) (rLf N w k) (false, a0, b0).2.1 (false, a0, b0).2.2 = true from rfl), ef, eu]
        refine Or.inr ⟨k, by omega, et.mp g, rfl, fun r' h1 h2 => ?_⟩
        by_cases e : r' = k
        · rw [e]; exact Int.le_refl _
        · exact absurd h2 (a2 r' (by omega))
      · rw [if_neg g]
        refine Or.inl ⟨rfl, fun r h1 h2 => ?_⟩
        by_cases e : r = k
        · rw [e] at h2
          exact g (et.mpr h2)
        · exact a2 r (by omega) h2
    · obtain ⟨c1, c2, c3, c4, c5, c6⟩ := gp_b hS hL hw (r := r) (by omega)
      have m1 := int_bm (x := zGp A w k) (c := 21800) (y := zGn A w r) (d := 100) (by omega) (by omega) (by omega) (by omega) (by omega) (by omega)
      have m2 := int_bm (x := zGp A w r) (c := 21800) (y := zGn A w k) (d := 100) (by omega) (by omega) (by omega) (by omega) (by omega) (by omega)
      have yr : 0 < zGn A w r := by unfold zGn; have := r2.2; omega
      have el : ((A 3 w - A 3 k) * (A 4 r - A 4 w) < (A 3 w - A 3 r) * (A 4 k - A 4 w)) ↔ zGp A w k * zGn A w r < zGp A w r * zGn A w k := by
        rw [ti_lt, ti_mul (by rw [b1, c2]; omega) (by rw [b1, c2]; omega), ti_mul (by rw [c1, b2]; omega) (by rw [c1, b2]; omega), b1, b2, c1, c2]
      rw [r3]
      unfold rL1
      by_cases g : rLt N m w k = true
      · rw [if_pos g, ef, eu]
        have gk := et.mp g
        have yk : 0 < zGn A w k := by unfold zGn; omega
        by_cases g2 : zGp A w k * zGn A w r < zGp A w r * zGn A w k
        · rw [if_pos (by unfold rLS; rw [if_pos rfl]; exact decide_eq_true (el.mpr g2))]
          refine Or.inr ⟨k, by omega, gk, rfl, fun r' h1 h2 => ?_⟩
          by_cases e : r' = k
          · rw [e]; exact Int.le_refl _
          · have y2 : 0 < zGn A w r' := by unfold zGn; omega
            exact int_tr yk yr y2 (by omega) (r4 r' (by omega) h2)
        · rw [if_neg (by
            unfold rLS
            rw [if_pos rfl, decide_eq_true_eq]
            exact fun c => g2 (el.mp c))]
          refine Or.inr ⟨r, by omega, r2, rfl, fun r' h1 h2 => ?_⟩
          by_cases e : r' = k
          · rw [e]; omega
          · exact r4 r' (by omega) h2
      · rw [if_neg g]
        refine Or.inr ⟨r, by omega, r2, rfl, fun r' h1 h2 => ?_⟩
        by_cases e : r' = k
        · rw [e] at h2
          exact absurd (et.mpr h2) g
        · exact r4 r' (by omega) h2
theorem cN_lt {P Q : Nat → Bool} {x : Nat} : ∀ k, (∀ b, b < k → P b = true → Q b = true) → x < k → Q x = true → P x = false → cN P k < cN Q k
  | 0, _, hx, _, _ => by omega
  | k + 1, h, hx, h1, h2 => by
    have mono : ∀ j, j ≤ k → cN P j ≤ cN Q j := by
      intro j
      induction j with
      | zero => intro _; exact Nat.le_refl _
      | succ j ih =>
        intro hj
        have := ih (by omega)
        rw [cN, cN]
        by_cases g : P j = true
        · rw [if_pos g, if_pos (h j (by omega) g)]
          omega
        · rw [if_neg g]
          omega
    rw [cN, cN]
    by_cases e : x = k
    · subst e
      have := mono x (Nat.le_refl x)
      rw [h1, h2, if_neg (by decide), if_pos rfl]
      omega
    · have := cN_lt k (fun b hb => h b (by omega)) (show x < k by omega) h1 h2
      by_cases g : P k = true
      · rw [if_pos g, if_pos (h k (by omega) g)]
        omega
      · rw [if_neg g]
        omega
def cSt (A : Nat → Nat → Int32) (w : Nat) : Nat := cN (fun r => decide (A 5 r = 1 ∧ (A 4 w).toInt < (A 4 r).toInt)) 8
theorem cSt_lt {A : Nat → Nat → Int32} {w b : Nat} (hb : b < 8) (h : zPs A w b) : cSt A b < cSt A w := by
  unfold cSt
  refine cN_lt (x := b) 8 (fun r hr hp => ?_) hb (decide_eq_true ⟨h.1, h.2⟩) (decide_eq_false (fun c => by omega))
  rw [decide_eq_true_eq] at hp ⊢
  exact ⟨hp.1, by have := h.2; omega⟩
theorem cSt_8 {A : Nat → Nat → Int32} {w : Nat} (hw : w < 8) : cSt A w < 8 := by
  have a := cN_lt (P := fun r => decide (A 5 r = 1 ∧ (A 4 w).toInt < (A 4 r).toInt)) (Q := fun _ => true) (x := w) 8 (fun _ _ _ => rfl) hw rfl (decide_eq_false (fun c => by omega))
  have b := cN_le (fun _ => true) 8
  unfold cSt
  omega
theorem rTo_1 {A : Nat → Nat → Int32} {N : Nat → Int32} {r : Nat} (hR : zR A) (hN : zN A N) (hr : r < 8) : rTo N 1 r = true ↔ A 5 r = 1 := by
  obtain ⟨h01, -, pl, p8, ep⟩ := hR.1 r hr
  have nk := hN.1 r hr
  rw [rTo_e (p := pl) (by rw [← nk.2.1, ep]) p8, rIs_1 pl p8, Bool.and_true, decide_eq_true_eq, ← nk.2.2.2.2]
/-- who leads where the first one passes is steeper -/
theorem lead_st {A : Nat → Nat → Int32} {w r b : Nat} {P Q : Int} (hQ : 0 < Q) (hw : zLd A P Q 8 w) (hr8 : r < 8) (hr : zPs A w r) (hb : zLd A (zGp A w r) (zGn A w r) 8 b) : zPs A w b := by
  have hne : ¬ r = w := by
    intro e
    have := hr.2
    rw [e] at this
    omega
  have yr : 0 < zGn A w r := by unfold zGn; have := hr.2; omega
  have hcr : zVal A r (zGp A w r) (zGn A w r) = zVal A w (zGp A w r) (zGn A w r) := by
    unfold zVal zGp zGn
    rw [Int.mul_sub, Int.mul_sub, Int.mul_sub, Int.mul_sub, Int.mul_comm (A 3 r).toInt (A 4 r).toInt, Int.mul_comm (A 3 r).toInt (A 4 w).toInt, Int.mul_comm (A 3 w).toInt (A 4 r).toInt, Int.mul_comm (A 3 w).toInt (A 4 w).toInt]
    omega
  refine ⟨hb.2.1, ?_⟩
  by_cases e : b = r
  · rw [e]; exact hr.2
  · have z := hb.2.2 r hr8 hr.1 (fun c => e c.symm)
    rcases z with z | ⟨z1, z2⟩
    · exact Classical.byContradiction fun c => by
        have hbw : ¬ b = w := by
          intro x
          rw [x] at z
          omega
        have zz := hw.2.2 b hb.1 hb.2.1 hbw
        have hzr := hw.2.2 r hr8 hr.1 hne
        have ht : P * zGn A w r ≤ zGp A w r * Q := by
          have h1 : zVal A r P Q ≤ zVal A w P Q := by
            rcases hzr with x | x <;> omega
          unfold zVal at h1
          unfold zGn zGp
          rw [Int.mul_sub, Int.sub_mul, Int.mul_comm P, Int.mul_comm P]
          omega
        have adv := zAh_adv hQ yr ht (by omega) zz
        rcases adv with x | x <;> omega
    · have := hr.2
      omega
