theorem rDu_s {N : Nat → Int32} {sec : Int32} : ∀ d i f, rDu N sec (d + 1) i f = rDn N sec (i + d) (rDu N sec d i f)
  | 0, i, f => rfl
  | d + 1, i, f => by
    rw [rDu, rDu_s d (i + 1) (rDn N sec i f), rDu, show i + 1 + d = i + (d + 1) by omega]
theorem int_due {ui li uf lf un : Int} (h1 : 0 < lf) (h2 : 0 < li) (h : ui * lf ≤ uf * li) (hd : uf ≤ un * lf) : ui ≤ un * li := by
  have a : uf * li ≤ un * lf * li := Int.mul_le_mul_of_nonneg_right hd (by omega)
  have b : ui * lf ≤ un * li * lf := by
    have e : un * lf * li = un * li * lf := by rw [Int.mul_assoc, Int.mul_comm lf li, ← Int.mul_assoc]
    rw [e] at a
    exact Int.le_trans h a
  exact Int.le_of_mul_le_mul_right b h1
theorem int_b {u l : Int} (h1 : -21800 ≤ u) (h2 : u ≤ 21800) (h3 : 1 ≤ l) (h4 : l ≤ 100) : -2180000 ≤ u * l ∧ u * l ≤ 2180000 := by
  constructor
  · have a : -21800 * l ≤ u * l := Int.mul_le_mul_of_nonneg_right h1 (by omega)
    omega
  · have a : u * l ≤ 21800 * l := Int.mul_le_mul_of_nonneg_right h2 (by omega)
    omega
theorem uHere_n {A : Nat → Nat → Int32} {n k : Nat} (hn : A 7 5 = nI n) (hn32 : n ≤ 32) (hk : k < n) : uHere A (nI k) = true := by
  unfold uHere
  rw [hn, Bool.and_eq_true, Bool.and_eq_true, decide_eq_true_eq, decide_eq_true_eq, decide_eq_true_eq]
  exact ⟨⟨nI_le' (a := 0) (b := k) (by omega) (by omega), Int32.not_le.mp (nI_lt' hk (by omega))⟩, Int32.not_le.mp (nI_lt' (a := k) (b := 32) (by omega) (by omega))⟩
/-- the order of the queue, by whole numbers -/
def zSn (A : Nat → Nat → Int32) (i j : Nat) : Prop := (A 9 i).toInt * (A 10 j).toInt < (A 9 j).toInt * (A 10 i).toInt ∨ ((A 9 i).toInt * (A 10 j).toInt = (A 9 j).toInt * (A 10 i).toInt ∧ (A 8 j).toInt < (A 8 i).toInt)
def zDu (A : Nat → Nat → Int32) (un : Int) (i : Nat) : Prop := (A 9 i).toInt ≤ un * (A 10 i).toInt
theorem soon_e {A : Nat → Nat → Int32} {n mk i j : Nat} (hQ : zQa A n mk) (hn32 : n ≤ 32) (hi : i < n) (hj : j < n) : uSoon A (nI i) (nI j) = true ↔ zSn A i j := by
  have bi := hQ.2.2.2.1 i hi
  have bj := hQ.2.2.2.1 j hj
  have b1 := int_b bi.2.2.2.2.1 bi.2.2.2.2.2 bj.2.2.1 bj.2.2.2.1
  have b2 := int_b bj.2.2.2.2.1 bj.2.2.2.2.2 bi.2.2.1 bi.2.2.2.1
  have e1 : (A 9 i * A 10 j).toInt = (A 9 i).toInt * (A 10 j).toInt := ti_mul (by omega) (by omega)
  have e2 : (A 9 j * A 10 i).toInt = (A 9 j).toInt * (A 10 i).toInt := ti_mul (by omega) (by omega)
  have c1 : (nI i).toNatClampNeg = i := nI_cl (by omega)
  have c2 : (nI j).toNatClampNeg = j := nI_cl (by omega)
  unfold uSoon uUpp uLow uMat zSn
  rw [uHere_n hQ.1 hn32 hi, uHere_n hQ.1 hn32 hj, if_pos rfl, if_pos rfl, if_pos rfl, if_pos rfl, if_pos rfl, if_pos rfl, c1, c2]
  by_cases z : A 9 i * A 10 j = A 9 j * A 10 i
  · rw [if_pos z, decide_eq_true_eq, ti_lt]
    rw [ti_e, e1, e2] at z
    omega
  · rw [if_neg z, decide_eq_true_eq, ti_lt, e1, e2]
    rw [ti_e, e1, e2] at z
    omega
theorem fst_e {A : Nat → Nat → Int32} {N : Nat → Int32} {n mk i j : Nat} {T : Nat → Prop} (hQ : zQa A n mk) (hP : zP A N n T) (hi : i < n) (hj : j < i) : rFst N i j = true ↔ zSn A i j := by
  have bi := hQ.2.2.2.1 i hi
  have bj := hQ.2.2.2.1 j (by omega)
  have b1 := int_b bi.2.2.2.2.1 bi.2.2.2.2.2 bj.2.2.1 bj.2.2.2.1
  have b2 := int_b bj.2.2.2.2.1 bj.2.2.2.2.2 bi.2.2.1 bi.2.2.2.1
  have e1 : (A 9 i * A 10 j).toInt = (A 9 i).toInt * (A 10 j).toInt := ti_mul (by omega) (by omega)
  have e2 : (A 9 j * A 10 i).toInt = (A 9 j).toInt * (A 10 i).toInt := ti_mul (by omega) (by omega)
  have pi := hP.2.2.2.1 i hi
  have pj := hP.2.2.2.1 j (by omega)
  have e3 : (A 9 i * A 10 j - A 9 j * A 10 i).toInt = (A 9 i).toInt * (A 10 j).toInt - (A 9 j).toInt * (A 10 i).toInt := by
    rw [ti_sub (by rw [e1, e2]; omega) (by rw [e1, e2]; omega), e1, e2]
  have hs := hQ.2.2.2.2.1 j i hj hi
  unfold rFst rOf rFs zSn
  rw [← pi.1, ← pi.2.1, ← pi.2.2.1, ← pi.2.2.2, ← pj.1, ← pj.2.1, ← pj.2.2.1, ← pj.2.2.2]
  by_cases g : A 9 i * A 10 j - A 9 j * A 10 i < 0
  · rw [if_pos g]
    rw [ti_lt, e3, q_0] at g
    simp only [true_iff]
    omega
  · rw [if_neg g]
    rw [ti_lt, e3, q_0] at g
    by_cases z : A 9 i * A 10 j - A 9 j * A 10 i = 0
    · rw [if_pos z]
      rw [ti_e, e3, q_0] at z
      by_cases g2 : A 8 j < A 8 i
      · rw [if_pos g2]
        rw [ti_lt] at g2
        simp only [true_iff]
        omega
      · rw [if_neg g2]
        rw [ti_lt] at g2
        by_cases z2 : A 8 i = A 8 j
        · rw [if_pos z2, decide_eq_true_eq, ti_lt]
          omega
        · rw [if_neg z2]
          simp only [Bool.false_eq_true, false_iff]
          omega
    · rw [if_neg z]
      rw [ti_e, e3, q_0] at z
      simp only [Bool.false_eq_true, false_iff]
      omega
theorem due_e {A : Nat → Nat → Int32} {n mk i : Nat} {un : Int32} (hQ : zQa A n mk) (hi : i < n) (h1 : 1 ≤ un.toInt) (h2 : un.toInt ≤ 100) : A 9 i ≤ un * A 10 i ↔ zDu A un.toInt i := by
  have bi := hQ.2.2.2.1 i hi
  have b := int_b (u := un.toInt) (l := (A 10 i).toInt) (by omega) (by omega) bi.2.2.1 bi.2.2.2.1
  unfold zDu
  rw [ti_le, ti_mul (by omega) (by omega)]
/-- the first of all, and the first of those due -/
theorem earl_e {A : Nat → Nat → Int32} {N : Nat → Int32} {n mk : Nat} {T : Nat → Prop} {un : Int32} (hQ : zQa A n mk) (hP : zP A N n T) (hn32 : n ≤ 32) (h1 : 1 ≤ un.toInt) (h2 : un.toInt ≤ 100) : ∀ k, k ≤ n → (k = 0 ∧ uE A 0 k = -6 ∧ rDu N un k 0 (-6) = -6) ∨ ∃ f, f < k ∧ uE A 0 k = nI f ∧ ((zDu A un.toInt f ∧ rDu N un k 0 (-6) = nI f) ∨ (¬ zDu A un.toInt f ∧ rDu N un k 0 (-6) = -6))
  | 0, _ => Or.inl ⟨rfl, rfl, rfl⟩
  | k + 1, hk => by
    refine Or.inr ?_
    have bk := hQ.2.2.2.1 k (by omega)
    have pk := hP.2.2.2.1 k (by omega)
    have dk := due_e (un := un) hQ (i := k) (by omega) h1 h2
    have eN : ∀ g, rDn N un k g = (if A 9 k ≤ un * A 10 k then (if g < 0 then nI k else if rFst N k g.toNatClampNeg = true then nI k else g) else g) := by
      intro g
      rw [rDn, ← pk.2.1, ← pk.2.2.1]
    rw [uE, rDu_s, Nat.zero_add, eN]
    rcases earl_e hQ hP hn32 h1 h2 k (by omega) with ⟨h0, e1, e2⟩ | ⟨f, hf, e1, e2⟩
    · refine ⟨k, by omega, ?_, ?_⟩
      · rw [e1, uE1, if_pos ⟨Or.inl rfl, Or.inl rfl⟩]
      · rw [e2]
        by_cases d : zDu A un.toInt k
        · exact Or.inl ⟨d, by rw [if_pos (dk.mpr d), if_pos m6_l]⟩
        · exact Or.inr ⟨d, by rw [if_neg (fun c => d (dk.mp c))]⟩
    · have bf := hQ.2.2.2.1 f (by omega)
      have sk := soon_e hQ hn32 (i := k) (j := f) (by omega) (by omega)
      have fk := fst_e hQ hP (i := k) (j := f) (by omega) hf
      have hne : ¬ nI f = -6 := by
        intro c
        have := ti_nI (n := f) (by omega)
        rw [c, q_m6] at this
        omega
      have e5 : uE1 A 0 (nI k) (nI f) = (if uSoon A (nI k) (nI f) = true then nI k else nI f) := by
        unfold uE1
        by_cases s : uSoon A (nI k) (nI f) = true
        · rw [if_pos ⟨Or.inl rfl, Or.inr s⟩, if_pos s]
        · rw [if_neg (by
            rintro ⟨-, c | c⟩
            · exact hne c
            · exact s c), if_neg s]
      rw [e1, e5]
      by_cases s : zSn A k f
      · rw [if_pos (sk.mpr s)]
        refine ⟨k, by omega, rfl, ?_⟩
        rcases e2 with ⟨d, e2⟩ | ⟨d, e2⟩
        · have d2 : zDu A un.toInt k := int_due (by omega) (by omega) (by rcases s with s | s <;> omega) d
          rw [e2]
          exact Or.inl ⟨d2, by rw [if_pos (dk.mpr d2), if_neg (nI_nn (by omega)), nI_cl (by omega), if_pos (fk.mpr s)]⟩
        · rw [e2]
          by_cases d2 : zDu A un.toInt k
          · exact Or.inl ⟨d2, by rw [if_pos (dk.mpr d2), if_pos m6_l]⟩
          · exact Or.inr ⟨d2, by rw [if_neg (fun c => d2 (dk.mp c))]⟩
      · rw [if_neg (fun c => s (sk.mp c))]
        refine ⟨f, by omega, rfl, ?_⟩
        rcases e2 with ⟨d, e2⟩ | ⟨d, e2⟩
        · rw [e2]
          refine Or.inl ⟨d, ?_⟩
          by_cases d2 : zDu A un.toInt k
          · rw [if_pos (dk.mpr d2), if_neg (nI_nn (by omega)), nI_cl (by omega), if_neg (fun c => s (fk.mp c))]
          · rw [if_neg (fun c => d2 (dk.mp c))]
        · rw [e2]
          refine Or.inr ⟨d, ?_⟩
          have d2 : ¬ zDu A un.toInt k := by
            intro c
            apply d
            have s2 : (A 9 f).toInt * (A 10 k).toInt ≤ (A 9 k).toInt * (A 10 f).toInt := by
              unfold zSn at s
              omega
            exact int_due (by omega) (by omega) s2 c
          rw [if_neg (fun c => d2 (dk.mp c))]
/-- which certificate is taken: the same -/
theorem take_w {A : Nat → Nat → Int32} {N : Nat → Int32} {n mk : Nat} {T : Nat → Prop} {un : Int32} (hQ : zQa A n mk) (hP : zP A N n T) (hn32 : n ≤ 32) (h1 : 1 ≤ un.toInt) (h2 : un.toInt ≤ 100) : (uDue A un = false ∧ rDue N un = -6 ∧ ∀ f, uE A 0 n = nI f → f < n → ¬ zDu A un.toInt f) ∨ (uDue A un = true ∧ uF A < n ∧ uN A = n ∧ rDue N un = nI (uF A) ∧ uE A 0 n = nI (uF A)) := by
  have cn : (nI n).toNatClampNeg = n := nI_cl (by omega)
  have eN : uN A = n := by rw [uN, hQ.1, cn]
  have eD : rDue N un = rDu N un n 0 (-6) := by rw [rDue, hP.2.1, cn]
  rw [eD]
  rcases earl_e hQ hP hn32 h1 h2 n (Nat.le_refl n) with ⟨h0, e1, e2⟩ | ⟨f, hf, e1, e2⟩
  · refine Or.inl ⟨?_, e2, fun f _ hf => by omega⟩
    unfold uDue
    rw [eN, e1]
    rfl
  · have cf : uF A = f := by rw [uF, eN, e1]; exact nI_cl (by omega)
    have hne : ¬ nI f = -6 := by
      intro c
      have := ti_nI (n := f) (by omega)
      rw [c, q_m6] at this
      omega
    have dk := due_e (un := un) hQ (i := f) hf h1 h2
    have eU : uDue A un = decide (A 9 f ≤ un * A 10 f) := by
      unfold uDue
      rw [eN, e1, cf, decide_eq_true hne, Bool.true_and]
    rw [eU, cf]
    rcases e2 with ⟨d, e2⟩ | ⟨d, e2⟩
    · exact Or.inr ⟨decide_eq_true (dk.mpr d), hf, eN, e2, e1⟩
    · refine Or.inl ⟨decide_eq_false (fun c => d (dk.mp c)), e2, fun g hg hg2 => ?_⟩
      have : f = g := nI_inj (by omega) (by omega) (by rw [← e1, hg])
      subst this
      exact d
