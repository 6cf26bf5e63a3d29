theorem rGa_lo {T : Nat → Int32} {n : Nat} : ∀ d c k F, k ≤ (rGa T n d c k F).1 ∧ ∀ b, b < k → (rGa T n d c k F).2 b = F b
  | 0, c, k, F => ⟨Nat.le_refl k, fun _ _ => rfl⟩
  | d + 1, c, k, F => by
    rw [rGa]
    split
    · obtain ⟨a1, a2⟩ := rGa_lo (T := T) (n := n) d (c + 1) (k + 1) (fun b => if b = k then nI c else F b)
      refine ⟨by omega, fun b hb => ?_⟩
      rw [a2 b (by omega), if_neg (by omega)]
    · exact rGa_lo d (c + 1) k F
theorem rGa_s {T : Nat → Int32} {n : Nat} : ∀ d c k F, rGa T n (d + 1) c k F = (if rFit T n (nI (c + d)) = true then ((rGa T n d c k F).1 + 1, fun b => if b = (rGa T n d c k F).1 then nI (c + d) else (rGa T n d c k F).2 b) else rGa T n d c k F)
  | 0, c, k, F => by
    rw [rGa]
    rfl
  | d + 1, c, k, F => by
    rw [rGa, show c + (d + 1) = c + 1 + d by omega]
    by_cases g : rFit T n (nI c) = true
    · rw [if_pos g, rGa_s d (c + 1), rGa, if_pos g]
    · rw [if_neg g, rGa_s d (c + 1), rGa, if_neg g]
theorem rGa_hi {T : Nat → Int32} {n : Nat} : ∀ d c k F, (rGa T n d c k F).1 ≤ k + d
  | 0, c, k, F => Nat.le_refl k
  | d + 1, c, k, F => by
    rw [rGa]
    split
    · have := rGa_hi (T := T) (n := n) d (c + 1) (k + 1) (fun b => if b = k then nI c else F b)
      omega
    · have := rGa_hi (T := T) (n := n) d (c + 1) k F
      omega
theorem rFi_n {T : Nat → Int32} {code : Int32} : ∀ d i, (rFi T code d i false = true ↔ false = true)
  | 0, _ => by rw [rFi]
  | d + 1, i => by rw [rFi, if_neg (by decide)]
/-- the i-th of those that fit -/
theorem rLi_e {T : Nat → Int32} {n : Nat} {i : Int32} : ∀ d c k F, k + d < 10000 → rLi T n i d c k = (if i = -1 then nI (rGa T n d c k F).1 else if nI k ≤ i ∧ i < nI (rGa T n d c k F).1 then (rGa T n d c k F).2 i.toNatClampNeg else -6)
  | 0, c, k, F, h => by
    rw [rLi, rGa]
    have tk := ti_nI (n := k) (by omega)
    by_cases g : i = -1
    · rw [if_pos g, if_pos g]
    · rw [if_neg g, if_neg g, if_neg (by
        rw [ti_le, ti_lt]
        show ¬ ((nI k).toInt ≤ i.toInt ∧ i.toInt < (nI k).toInt)
        omega)]
  | d + 1, c, k, F, h => by
    have tk := ti_nI (n := k) (by omega)
    have tk1 := ti_nI (n := k + 1) (by omega)
    rw [rLi, rGa]
    by_cases g : rFit T n (nI c) = true
    · rw [if_pos g, if_pos g]
      obtain ⟨a1, a2⟩ := rGa_lo (T := T) (n := n) d (c + 1) (k + 1) (fun b => if b = k then nI c else F b)
      by_cases e : nI k = i
      · have hK : (rGa T n d (c + 1) (k + 1) (fun b => if b = k then nI c else F b)).1 < 20000 := by
          have := rGa_hi (T := T) (n := n) d (c + 1) (k + 1) (fun b => if b = k then nI c else F b)
          omega
        have tK := ti_nI (n := (rGa T n d (c + 1) (k + 1) (fun b => if b = k then nI c else F b)).1) (by omega)
        rw [if_pos e, ← e, if_neg (by rw [ti_e, tk, q_m1]; omega), if_pos ⟨by rw [ti_le]; omega, by rw [ti_lt, tk, tK]; omega⟩, nI_cl (by omega), a2 k (by omega), if_pos rfl]
      · rw [if_neg e, rLi_e d (c + 1) (k + 1) (fun b => if b = k then nI c else F b) (by omega)]
        have hne : ¬ (k : Int) = i.toInt := fun x => e (ti_eq (by rw [tk, x]))
        have hiff : (nI (k + 1) ≤ i ∧ i < nI (rGa T n d (c + 1) (k + 1) (fun b => if b = k then nI c else F b)).1) ↔ (nI k ≤ i ∧ i < nI (rGa T n d (c + 1) (k + 1) (fun b => if b = k then nI c else F b)).1) := by
          rw [ti_le, ti_le, tk, tk1]
          constructor
          · rintro ⟨x1, x2⟩
            exact ⟨by omega, x2⟩
          · rintro ⟨x1, x2⟩
            exact ⟨by omega, x2⟩
        simp only [hiff]
    · rw [if_neg g, if_neg g]
      exact rLi_e d (c + 1) k F (by omega)
theorem fit_e {T : Nat → Nat → Int32} {S : Nat → Int32} {n a j : Nat} (h : zSg T n S) (ha : a < 31) (hj : j < 19) : ∀ d i, i + d = n → ∀ f, d ≤ f → (rFi S (nI (100 * a + 41 + j)) d i true = true ↔ vAl T (nI a) (nI j - 9) f i = true)
  | 0, i, hi, f, hf => by
    have n8 := h.1
    rw [rFi]
    cases f with
    | zero => rw [vAl]
    | succ f =>
      rw [vAl, h.2.1, if_neg (by
        rw [ti_lt, ti_nI (by omega), ti_nI (by omega)]
        omega)]
  | d + 1, i, hi, f, hf => by
    have n8 := h.1
    obtain ⟨f', rfl⟩ : ∃ f', f = f' + 1 := ⟨f - 1, by omega⟩
    obtain ⟨s1, s2, s3, s4⟩ := h.2.2 i (by omega)
    have e1 : nI (100 * a + 41 + j) / 100 = nI a := by
      have := nI_dv (a := 100 * a + 41 + j) (d := 100) (by omega) (by omega) (by omega)
      rw [show nI 100 = (100 : Int32) from rfl] at this
      rw [this, show (100 * a + 41 + j) / 100 = a by omega]
    have e2 : nI (100 * a + 41 + j) - nI a * 100 - 50 = nI j - 9 := by
      apply ti_eq
      have t0 := ti_nI (n := 100 * a + 41 + j) (by omega)
      have t1 : (nI a * 100).toInt = 100 * (a : Int) := by
        rw [ti_mul (by rw [ti_nI (by omega), q_100]; omega) (by rw [ti_nI (by omega), q_100]; omega), ti_nI (by omega), q_100]
        omega
      have t2 := ti_nI (n := j) (by omega)
      have t3 : (nI (100 * a + 41 + j) - nI a * 100).toInt = 41 + (j : Int) := by
        rw [ti_sub (by rw [t0, t1]; omega) (by rw [t0, t1]; omega), t0, t1]
        omega
      rw [ti_sub (by rw [t3, q_50]; omega) (by rw [t3, q_50]; omega), t3, q_50, ti_sub (by rw [t2, q_9]; omega) (by rw [t2, q_9]; omega), t2, q_9]
      omega
    have eA : rFa S (nI (100 * a + 41 + j)) i = true ↔ xi (decide (T 2 i ≤ nI a + (nI j - 9) * T 1 i)) = T 3 i := by
      unfold rFa rLst rLv
      rw [e1, e2, ← s1, ← s2, ← s3, decide_eq_true_eq]
      by_cases g : T 2 i ≤ nI a + (nI j - 9) * T 1 i
      · rw [decide_eq_true g, xi_t]
        rcases s4 with z | z
        · rw [z]
          exact ⟨fun c => absurd c (by decide), fun c => absurd c (by decide)⟩
        · rw [z]
          exact ⟨fun _ => rfl, fun _ => rfl⟩
      · rw [decide_eq_false g, xi_f]
        rcases s4 with z | z
        · rw [z]
          exact ⟨fun _ => rfl, fun _ => rfl⟩
        · rw [z]
          exact ⟨fun c => absurd c (by decide), fun c => absurd c (by decide)⟩
    rw [rFi, if_pos rfl, vAl, h.2.1, if_pos (by
      rw [ti_lt, ti_nI (by omega), ti_nI (by omega)]
      omega)]
    by_cases g : rFa S (nI (100 * a + 41 + j)) i = true
    · rw [if_pos (eA.mp g), g]
      exact fit_e h ha hj d (i + 1) (by omega) f' (by omega)
    · rw [if_neg (fun c => g (eA.mpr c))]
      have gf : rFa S (nI (100 * a + 41 + j)) i = false := by simpa using g
      rw [gf, rFi_n]
theorem fit_c {T : Nat → Nat → Int32} {S : Nat → Int32} {n a j : Nat} (h : zSg T n S) (ha : a < 31) (hj : j < 19) : rFit S n (nI (100 * a + 41 + j)) = vAl T (nI a) (nI j - 9) 8 0 := by
  have eb : rFb (nI (100 * a + 41 + j)) = true := by
    unfold rFb
    rw [nI_r100 (by omega), Bool.and_eq_true, decide_eq_true_eq, decide_eq_true_eq, ti_le, ti_le, q_41, q_59, ti_nI (by omega)]
    omega
  unfold rFit
  rw [eb, Bool.eq_iff_iff]
  exact fit_e h ha hj n 0 (by omega) 8 h.1
/-- those gathered: the same -/
def zGt (G : Nat → Nat → Int32) (K : Nat × (Nat → Int32)) : Prop := G 0 2 = nI K.1 ∧ ∀ b, b < K.1 → G 1 b = K.2 b
theorem rGa_n {S : Nat → Int32} {n : Nat} {F : Nat → Int32} {c : Nat} (hc : c < 3100) (h : ¬ (41 ≤ c % 100 ∧ c % 100 ≤ 59)) : rGa S n (c + 1) 0 0 F = rGa S n c 0 0 F := by
  rw [rGa_s, Nat.zero_add, if_neg (fun x => h (rFit_b hc x))]
theorem rGa_b {S : Nat → Int32} {n : Nat} {F : Nat → Int32} : ∀ c, c ≤ 3100 → (rGa S n c 0 0 F).1 ≤ rBn c
  | 0, _ => Nat.le_refl 0
  | c + 1, h => by
    have ih := rGa_b (S := S) (n := n) (F := F) c (by omega)
    have m := rBn_m c
    rw [rGa_s, Nat.zero_add]
    split
    · rename_i g
      have hb := rFit_b (by omega) g
      have s := rBn_s hb.1 hb.2
      show (rGa S n c 0 0 F).1 + 1 ≤ rBn (c + 1)
      omega
    · omega
theorem vGs_e {T G : Nat → Nat → Int32} {S F : Nat → Int32} {n a j : Nat} (h : zSg T n S) (ha : a < 31) (hj : j < 19) (hG : zGt G (rGa S n (100 * a + 41 + j) 0 0 F)) : zGt (vGs T a j G) (rGa S n (100 * a + 41 + j + 1) 0 0 F) := by
  have bk := rGa_b (S := S) (n := n) (F := F) (100 * a + 41 + j) (by omega)
  have bl := rBn_l (c := 100 * a + 41 + j) (by omega) (by omega) (by omega)
  rw [rGa_s, Nat.zero_add, fit_c h ha hj]
  generalize rGa S n (100 * a + 41 + j) 0 0 F = K at *
  obtain ⟨g1, g2⟩ := hG
  have tK := ti_nI (n := K.1) (by omega)
  unfold vGs
  by_cases g : vAl T (nI a) (nI j - 9) 8 0 = true
  · rw [if_pos ⟨g, by rw [g1, ti_lt, tK, q_589]; omega⟩, if_pos g, g1, nI_cl (by omega), nI_1]
    refine ⟨xup_same, fun b hb => ?_⟩
    have hb' : b < K.1 + 1 := hb
    by_cases e : b = K.1
    · rw [e, xup_q (by omega), xup_same]
      show 100 * nI a + (nI j - 9) + 50 = (if K.1 = K.1 then nI (100 * a + 41 + j) else K.2 K.1)
      rw [if_pos rfl]
      apply ti_eq
      have t1 : (100 * nI a).toInt = 100 * (a : Int) := by
        rw [ti_mul (by rw [ti_nI (by omega), q_100]; omega) (by rw [ti_nI (by omega), q_100]; omega), ti_nI (by omega), q_100]
      have t2 := ti_nI (n := j) (by omega)
      have t3 : (nI j - 9).toInt = (j : Int) - 9 := by rw [ti_sub (by rw [t2, q_9]; omega) (by rw [t2, q_9]; omega), t2, q_9]
      have t4 : (100 * nI a + (nI j - 9)).toInt = 100 * (a : Int) + j - 9 := by rw [ti_add (by rw [t1, t3]; omega) (by rw [t1, t3]; omega), t1, t3]; omega
      rw [ti_add (by rw [t4, q_50]; omega) (by rw [t4, q_50]; omega), t4, q_50, ti_nI (by omega)]
      omega
    · rw [xup_q (by omega), xup_q (by omega)]
      show G 1 b = (if b = K.1 then nI (100 * a + 41 + j) else K.2 b)
      rw [if_neg e]
      exact g2 b (by omega)
  · rw [if_neg (fun c => g c.1), if_neg g]
    exact ⟨g1, g2⟩
theorem vG1_e {T : Nat → Nat → Int32} {S F : Nat → Int32} {n a : Nat} (h : zSg T n S) (ha : a < 31) : ∀ d j G, j + d = 19 → zGt G (rGa S n (100 * a + 41 + j) 0 0 F) → zGt (vG1 T a d j G) (rGa S n (100 * a + 60) 0 0 F)
  | 0, j, G, hj, hG => by
    have e : j = 19 := by omega
    subst e
    exact hG
  | d + 1, j, G, hj, hG => by
    rw [vG1]
    exact vG1_e h ha d (j + 1) _ (by omega) (vGs_e h ha (by omega) hG)
theorem rGa_skip {S F : Nat → Int32} {n : Nat} : ∀ d c, c + d ≤ 3100 → (∀ x, c ≤ x → x < c + d → ¬ (41 ≤ x % 100 ∧ x % 100 ≤ 59)) → rGa S n (c + d) 0 0 F = rGa S n c 0 0 F
  | 0, c, _, _ => rfl
  | d + 1, c, h, hx => by
    rw [show c + (d + 1) = c + d + 1 by omega, rGa_n (by omega) (hx (c + d) (by omega) (by omega)), rGa_skip d c (by omega) (fun x h1 h2 => hx x h1 (by omega))]
theorem vG2_e {T : Nat → Nat → Int32} {S F : Nat → Int32} {n : Nat} (h : zSg T n S) : ∀ d a G, a + d = 31 → zGt G (rGa S n (100 * a) 0 0 F) → zGt (vG2 T d a G) (rGa S n 3100 0 0 F)
  | 0, a, G, ha, hG => by
    have e : a = 31 := by omega
    subst e
    exact hG
  | d + 1, a, G, ha, hG => by
    rw [vG2]
    refine vG2_e h d (a + 1) _ (by omega) ?_
    have e1 : rGa S n (100 * a + 41) 0 0 F = rGa S n (100 * a) 0 0 F := rGa_skip 41 (100 * a) (by omega) (fun x h1 h2 => by omega)
    have e2 : rGa S n (100 * a + 60 + 40) 0 0 F = rGa S n (100 * a + 60) 0 0 F := rGa_skip 40 (100 * a + 60) (by omega) (fun x h1 h2 => by omega)
    rw [show 100 * (a + 1) = 100 * a + 60 + 40 by omega, e2]
    exact vG1_e h (by omega) 19 0 G (by omega) (by rw [Nat.add_zero, e1]; exact hG)
theorem vGa_e {T G : Nat → Nat → Int32} {S F : Nat → Int32} {n : Nat} (h : zSg T n S) : zGt (vGa T G) (rGa S n 3100 0 0 F) := vG2_e h 31 0 _ (by omega) ⟨by rw [xup_same]; exact nI_0.symm, fun b hb => absurd hb (Nat.not_lt_zero b)⟩
/-- lines -/
theorem c_18 (X : xX) (σ : Nat → Nat → Int32) (i : Int32) (h : Rel σ) : zCi X 111 172 [.int i] σ := by
  obtain ⟨r1, r2, ⟨n2, s1, s2⟩, r5, r6⟩ := id h
  have k1 := k111 X xshM σ xkin_M i
  have hE : zEq σ (sLin σ) := by
    intro a b hab
    unfold sLin xput
    rw [if_neg (by omega)]
  have e3 : xget (sLin σ) 78 3 = σ 81 := by
    funext b
    show sLin σ (78 + 3) b = σ 81 b
    exact hE 81 b (by omega)
  have q := k172 X xshM (sLin σ) (xget (sLin σ) 78) xmod_M i n2 (by
    show sLin σ (78 + 0) 2 = nI n2
    rw [hE (78 + 0) 2 (by omega)]
    exact s2) s1.1
  rw [mget, e3, rLi_e 3100 0 0 (fun _ => 0) (by omega)] at q
  obtain ⟨g1, g2⟩ := vGa_e (G := xget σ 36) (F := fun _ => 0) s1
  have bk := rGa_l (T := σ 81) (n := n2) 3100 0 0 (fun _ => 0) (by omega) (Nat.zero_le _)
  have tK := ti_nI (n := (rGa (σ 81) n2 3100 0 0 (fun _ => 0)).1) (by omega)
  have ea : (if i = -1 then vGa (xget σ 17) (xget σ 36) 0 2 else vCode (vGa (xget σ 17) (xget σ 36)) i) = (if i = -1 then nI (rGa (σ 81) n2 3100 0 0 (fun _ => 0)).1 else if nI 0 ≤ i ∧ i < nI (rGa (σ 81) n2 3100 0 0 (fun _ => 0)).1 then (rGa (σ 81) n2 3100 0 0 (fun _ => 0)).2 i.toNatClampNeg else -6) := by
    unfold vCode
    rw [g1]
    by_cases c : i = -1
    · rw [if_pos c, if_pos c]
    · rw [if_neg c, if_neg c]
      by_cases c2 : nI 0 ≤ i ∧ i < nI (rGa (σ 81) n2 3100 0 0 (fun _ => 0)).1
      · have c3 := c2
        rw [nI_0, ti_le, ti_lt, q_0, tK] at c3
        have ei : i = nI i.toInt.toNat := ti_eq (by rw [ti_nI (by omega)]; omega)
        have ci : i.toNatClampNeg = i.toInt.toNat := by
          have := nI_cl (n := i.toInt.toNat) (by omega)
          rw [← ei] at this
          exact this
        rw [if_pos c2, if_pos ⟨by rw [ti_le, q_0]; omega, c2.2, by rw [ti_lt, q_589]; omega⟩, ci, g2 _ (by omega)]
      · rw [if_neg c2, if_neg (fun x => c2 ⟨by rw [nI_0]; exact x.1, x.2.1⟩)]
  rw [ea] at k1
  exact ⟨_, _, _, k1, q, Rel_eq hE h⟩
