theorem int_trs {a b c d e f : Int} (hb : 0 < b) (hd : 0 < d) (hf : 0 < f) (h1 : a * d < c * b) (h2 : c * f ≤ e * d) : a * f < e * b := by
  have x1 : a * d * f < c * b * f := Int.mul_lt_mul_of_pos_right h1 hf
  have x2 : c * f * b ≤ e * d * b := Int.mul_le_mul_of_nonneg_right h2 (by omega)
  have e1 : a * d * f = a * f * d := by rw [Int.mul_assoc, Int.mul_comm d f, ← Int.mul_assoc]
  have e2 : c * b * f = c * f * b := by rw [Int.mul_assoc, Int.mul_comm b f, ← Int.mul_assoc]
  have e3 : e * d * b = e * b * d := by rw [Int.mul_assoc, Int.mul_comm d b, ← Int.mul_assoc]
  rw [e1, e2] at x1
  rw [e3] at x2
  exact Int.lt_of_mul_lt_mul_right (Int.lt_of_lt_of_le x1 x2) (by omega)
theorem int_tsr {a b c d e f : Int} (hb : 0 < b) (hd : 0 < d) (hf : 0 < f) (h1 : a * d ≤ c * b) (h2 : c * f < e * d) : a * f < e * b := by
  have x1 : a * d * f ≤ c * b * f := Int.mul_le_mul_of_nonneg_right h1 (by omega)
  have x2 : c * f * b < e * d * b := Int.mul_lt_mul_of_pos_right h2 hb
  have e1 : a * d * f = a * f * d := by rw [Int.mul_assoc, Int.mul_comm d f, ← Int.mul_assoc]
  have e2 : c * b * f = c * f * b := by rw [Int.mul_assoc, Int.mul_comm b f, ← Int.mul_assoc]
  have e3 : e * d * b = e * b * d := by rw [Int.mul_assoc, Int.mul_comm d b, ← Int.mul_assoc]
  rw [e1, e2] at x1
  rw [e3] at x2
  exact Int.lt_of_mul_lt_mul_right (Int.lt_of_le_of_lt x1 x2) (by omega)
/-- f comes no later than k, and of those at one time its match is the greatest -/
def zFi (A : Nat → Nat → Int32) (f k : Nat) : Prop := (A 9 f).toInt * (A 10 k).toInt < (A 9 k).toInt * (A 10 f).toInt ∨ ((A 9 f).toInt * (A 10 k).toInt = (A 9 k).toInt * (A 10 f).toInt ∧ (A 8 k).toInt ≤ (A 8 f).toInt)
theorem zFi_t {A : Nat → Nat → Int32} {a b c : Nat} (ha : 0 < (A 10 a).toInt) (hb : 0 < (A 10 b).toInt) (hc : 0 < (A 10 c).toInt) (h1 : zFi A a b) (h2 : zFi A b c) : zFi A a c := by
  rcases h1 with h1 | ⟨h1, m1⟩
  · rcases h2 with h2 | ⟨h2, m2⟩
    · exact Or.inl (int_trs ha hb hc h1 (by omega))
    · exact Or.inl (int_trs ha hb hc h1 (by omega))
  · rcases h2 with h2 | ⟨h2, m2⟩
    · exact Or.inl (int_tsr ha hb hc (by omega) h2)
    · refine Or.inr ⟨?_, by omega⟩
      have x1 := int_tr ha hb hc (Int.le_of_eq h1) (Int.le_of_eq h2)
      have x2 := int_tr hc hb ha (Int.le_of_eq h2.symm) (Int.le_of_eq h1.symm)
      omega
/-- the earliest of a match's own -/
theorem own_c {A : Nat → Nat → Int32} {n mk : Nat} (hQ : zQa A n mk) (hn32 : n ≤ 32) : ∀ K, K ≤ n → (uE A 1 K = -6 ∧ ∀ k, k < K → uOwn A (nI k) = false) ∨ ∃ f, f < K ∧ uE A 1 K = nI f ∧ uOwn A (nI f) = true ∧ ∀ k, k < K → uOwn A (nI k) = true → zFi A f k
  | 0, _ => Or.inl ⟨rfl, fun k hk => by omega⟩
  | K + 1, hK => by
    have bK := hQ.2.2.2.1 K (by omega)
    rw [uE, uE1]
    by_cases g : uOwn A (nI K) = true
    · rcases own_c hQ hn32 K (by omega) with ⟨a1, a2⟩ | ⟨f, f1, a1, a2, a3⟩
      · rw [a1, if_pos ⟨Or.inr g, Or.inl rfl⟩]
        refine Or.inr ⟨K, by omega, rfl, g, fun k hk hg => ?_⟩
        by_cases e : k = K
        · rw [e]; exact Or.inr ⟨rfl, Int.le_refl _⟩
        · rw [a2 k (by omega)] at hg
          exact absurd hg (by decide)
      · have bf := hQ.2.2.2.1 f (by omega)
        have sk := soon_e hQ hn32 (i := K) (j := f) (by omega) (by omega)
        rw [a1]
        by_cases s : zSn A K f
        · rw [if_pos ⟨Or.inr g, Or.inr (sk.mpr s)⟩]
          have hKf : zFi A K f := by
            unfold zSn at s
            unfold zFi
            omega
          refine Or.inr ⟨K, by omega, rfl, g, fun k hk hg => ?_⟩
          by_cases e : k = K
          · rw [e]; exact Or.inr ⟨rfl, Int.le_refl _⟩
          · have bk := hQ.2.2.2.1 k (by omega)
            exact zFi_t (by omega) (by omega) (by omega) hKf (a3 k (by omega) hg)
        · rw [if_neg (by
            rintro ⟨-, c | c⟩
            · exact nI_n6' (by omega) c
            · exact s (sk.mp c))]
          refine Or.inr ⟨f, by omega, rfl, a2, fun k hk hg => ?_⟩
          by_cases e : k = K
          · rw [e]
            unfold zSn at s
            unfold zFi
            omega
          · exact a3 k (by omega) hg
    · rw [if_neg (by
        rintro ⟨c | c, -⟩
        · exact absurd c (by decide)
        · exact g c)]
      have gf : uOwn A (nI K) = false := by simpa using g
      rcases own_c hQ hn32 K (by omega) with ⟨a1, a2⟩ | ⟨f, f1, a1, a2, a3⟩
      · refine Or.inl ⟨a1, fun k hk => ?_⟩
        by_cases e : k = K
        · rw [e]; exact gf
        · exact a2 k (by omega)
      · refine Or.inr ⟨f, by omega, a1, a2, fun k hk hg => ?_⟩
        by_cases e : k = K
        · rw [e, gf] at hg
          exact absurd hg (by decide)
        · exact a3 k (by omega) hg
