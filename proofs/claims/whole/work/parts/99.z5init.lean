def vIni (a b : Nat) : Int32 := if a = 1 then (if nI b < 4 then 0 else 1) else if a = 2 then nI b else if a = 3 then 10 * nI b else if a = 4 then 0 else 1
theorem uIn1_e {A : Nat → Nat → Int32} {i a b : Nat} : uIn1 A i a b = (if 1 ≤ a ∧ a ≤ 5 ∧ b = i then vIni a b else A a b) := by
  by_cases h : 1 ≤ a ∧ a ≤ 5 ∧ b = i
  · rw [if_pos h]
    obtain ⟨h1, h2, h3⟩ := h
    subst h3
    unfold uIn1
    rcases (show a = 1 ∨ a = 2 ∨ a = 3 ∨ a = 4 ∨ a = 5 by omega) with e | e | e | e | e
    · subst e
      rw [xup_q (by omega), xup_q (by omega), xup_q (by omega), xup_q (by omega), xup_same]
      rfl
    · subst e
      rw [xup_q (by omega), xup_q (by omega), xup_q (by omega), xup_same]
      rfl
    · subst e
      rw [xup_q (by omega), xup_q (by omega), xup_same]
      rfl
    · subst e
      rw [xup_q (by omega), xup_same]
      rfl
    · subst e
      rw [xup_same]
      rfl
  · rw [if_neg h]
    unfold uIn1
    rw [xup_q (by omega), xup_q (by omega), xup_q (by omega), xup_q (by omega), xup_q (by omega)]
theorem uInl_e {a b : Nat} : ∀ d i A, uInl d i A a b = (if 1 ≤ a ∧ a ≤ 5 ∧ i ≤ b ∧ b < i + d then vIni a b else A a b)
  | 0, i, A => by
    rw [uInl, if_neg (by omega)]
  | d + 1, i, A => by
    rw [uInl, uInl_e d (i + 1), uIn1_e]
    repeat' split
    all_goals first | rfl | (exfalso; omega)
def vMod (i l : Nat) : Int32 := if l < 8 then 1 else if l < 16 then (if 3 < nI (l - 8) then 1 else 0) else if l < 24 then nI (l - 16) else 10 * nI (l - 24)
theorem mI1_e {M : Nat → Nat → Int32} {i a l : Nat} (hi : i < 8) : mI1 M i a l = (if a = 2 ∧ l < 32 ∧ l % 8 = i then vMod i l else M a l) := by
  by_cases h : a = 2 ∧ l < 32 ∧ l % 8 = i
  · rw [if_pos h]
    obtain ⟨h1, h2, h3⟩ := h
    subst h1
    unfold mI1 vMod
    rcases (show l = i ∨ l = 8 + i ∨ l = 16 + i ∨ l = 24 + i by omega) with e | e | e | e
    · rw [xup_q (by omega), xup_q (by omega), xup_q (by omega), if_pos (show l < 8 by omega), e, xup_same]
    · rw [xup_q (by omega), xup_q (by omega), if_neg (show ¬ l < 8 by omega), if_pos (show l < 16 by omega), e, xup_same, show 8 + i - 8 = i by omega]
    · rw [xup_q (by omega), if_neg (show ¬ l < 8 by omega), if_neg (show ¬ l < 16 by omega), if_pos (show l < 24 by omega), e, xup_same, show 16 + i - 16 = i by omega]
    · rw [if_neg (show ¬ l < 8 by omega), if_neg (show ¬ l < 16 by omega), if_neg (show ¬ l < 24 by omega), e, xup_same, show 24 + i - 24 = i by omega]
  · rw [if_neg h]
    unfold mI1
    rw [xup_q (by omega), xup_q (by omega), xup_q (by omega), xup_q (by omega)]
theorem mIl_e {a l : Nat} : ∀ d i M, i + d ≤ 8 → mIl d i M a l = (if a = 2 ∧ l < 32 ∧ i ≤ l % 8 ∧ l % 8 < i + d then vMod 0 l else M a l)
  | 0, i, M, _ => by
    rw [mIl, if_neg (by omega)]
  | d + 1, i, M, h => by
    have ev : vMod i l = vMod 0 l := rfl
    rw [mIl, mIl_e d (i + 1) _ (by omega), mI1_e (by omega), ev]
    repeat' split
    all_goals first | rfl | (exfalso; omega)
/-- the first cup -/
theorem ini_K (B C : Nat → Nat → Int32) : zK (uAnew (uInl 8 0 (uCt B))) (rAnew (mIl 8 0 (mZr C)) 2) := by
  have e1 : ∀ a b, 1 ≤ a → a ≤ 5 → b < 8 → uInl 8 0 (uCt B) a b = vIni a b := fun a b h1 h2 h3 => by rw [uInl_e, if_pos (by omega)]
  have e0 : uInl 8 0 (uCt B) 0 8 = 0 := by
    rw [uInl_e, if_neg (by omega)]
    unfold uCt
    rw [xup_same]
  have m1 : ∀ l, l < 32 → mIl 8 0 (mZr C) 2 l = vMod 0 l := fun l hl => by rw [mIl_e 8 0 _ (by omega), if_pos (by omega)]
  have m2 : ∀ l, 32 ≤ l → mIl 8 0 (mZr C) 2 l = 0 := fun l hl => by
    rw [mIl_e 8 0 _ (by omega), if_neg (by omega)]
    unfold mZr xzr
    simp
  have t10 : ∀ i, i < 8 → (10 * nI i).toInt = 10 * (i : Int) := fun i hi => by
    have := ti_nI (n := i) (by omega)
    rw [ti_mul (by rw [q_10, this]; omega) (by rw [q_10, this]; omega), q_10, this]
  refine anew_zK (s := 0) ⟨fun i hi => ?_, fun i j hi hj hij => ?_⟩ (fun i hi => ?_) ⟨by omega, by rw [e0, nI_0], fun i hi => ?_⟩ ⟨fun i hi => ?_, by rw [e0, m2 40 (by omega)]⟩
  · rw [e1 5 i (by omega) (by omega) hi, e1 1 i (by omega) (by omega) hi, e1 2 i (by omega) (by omega) hi]
    refine ⟨Or.inr rfl, ?_, i, hi, rfl⟩
    unfold vIni
    rw [if_pos rfl]
    split
    · exact Or.inl rfl
    · exact Or.inr rfl
  · rw [e1 2 i (by omega) (by omega) hi, e1 2 j (by omega) (by omega) hj] at hij
    exact nI_inj (by omega) (by omega) hij
  · rw [e1 4 i (by omega) (by omega) hi]
    have : (vIni 4 i).toInt = 0 := q_0
    omega
  · rw [e1 3 i (by omega) (by omega) hi, e1 4 i (by omega) (by omega) hi]
    have x1 : (vIni 3 i).toInt = 10 * (i : Int) := t10 i hi
    have x2 : (vIni 4 i).toInt = 0 := q_0
    rw [x1, x2]
    omega
  · rw [e1 1 i (by omega) (by omega) hi, e1 2 i (by omega) (by omega) hi, e1 3 i (by omega) (by omega) hi, e1 4 i (by omega) (by omega) hi, e1 5 i (by omega) (by omega) hi, m1 (8 + i) (by omega), m1 (16 + i) (by omega), m1 (24 + i) (by omega), m2 (32 + i) (by omega), m1 i (by omega)]
    refine ⟨?_, ?_, ?_, rfl, ?_⟩
    · show (if nI i < 4 then (0 : Int32) else 1) = vMod 0 (8 + i)
      unfold vMod
      rw [if_neg (show ¬ 8 + i < 8 by omega), if_pos (show 8 + i < 16 by omega), show 8 + i - 8 = i by omega]
      have t := ti_nI (n := i) (by omega)
      by_cases g : nI i < 4
      · rw [if_pos g, if_neg (by rw [ti_lt, q_3, t]; rw [ti_lt, q_4, t] at g; omega)]
      · rw [if_neg g, if_pos (by rw [ti_lt, q_3, t]; rw [ti_lt, q_4, t] at g; omega)]
    · show nI i = vMod 0 (16 + i)
      unfold vMod
      rw [if_neg (show ¬ 16 + i < 8 by omega), if_neg (show ¬ 16 + i < 16 by omega), if_pos (show 16 + i < 24 by omega), show 16 + i - 16 = i by omega]
    · show 10 * nI i = vMod 0 (24 + i)
      unfold vMod
      rw [if_neg (show ¬ 24 + i < 8 by omega), if_neg (show ¬ 24 + i < 16 by omega), if_neg (show ¬ 24 + i < 24 by omega), show 24 + i - 24 = i by omega]
    · show (1 : Int32) = vMod 0 i
      unfold vMod
      rw [if_pos hi]
theorem xzr_q {σ : Nat → Nat → Int32} {k a b : Nat} (h : ¬ a = k) : xzr σ k a b = σ a b := by
  unfold xzr
  rw [if_neg h]
theorem sIma_lo {σ : Nat → Nat → Int32} {m a b : Nat} (h : a < m ∨ m + 19 ≤ a) : sIma σ m a b = σ a b := by
  unfold sIma sSig sCup
  rw [xup_q (by omega)]
  unfold xput
  rw [if_neg (by omega), xzr_q (by omega), if_neg (by omega), xzr_q (by omega)]
theorem sIma_2 {σ : Nat → Nat → Int32} {m : Nat} : sIma σ m m 2 = 0 := by
  unfold sIma
  exact xup_same
theorem sReh_lo {σ : Nat → Nat → Int32} {a b : Nat} (h : a < 21) : sReh σ 21 a b = σ a b := by
  unfold sReh sCup
  rw [xup_q (by omega), xup_q (by omega), xup_q (by omega)]
  unfold xput
  rw [if_neg (by omega), xzr_q (by omega)]
/-- alike at the beginning -/
theorem ini_R (σ : Nat → Nat → Int32) : Rel (sMod (xzr (sKin σ) 78)) := by
  have hM : ∀ a b, a < 78 → sMod (xzr (sKin σ) 78) a b = sKin σ a b := by
    intro a b ha
    unfold sMod xput
    rw [if_neg (by omega), xzr_q (by omega)]
  have hC : ∀ a b, a < 8 → sMod (xzr (sKin σ) 78) (78 + a) b = rKeep (rAnew (mIl 8 0 (mZr (xget (xzr (sKin σ) 78) 78)))) a b := fun a b ha => by
    unfold sMod
    exact xput_at ha
  have hrow0 : ∀ b, sMod (xzr (sKin σ) 78) 78 b = 0 := by
    intro b
    have e := hC 0 b (by omega)
    rw [show 78 + 0 = 78 from rfl] at e
    rw [e, keep_q (by omega), rAnew_rw (by omega), mIl_e 8 0 _ (by omega), if_neg (by omega)]
    unfold mZr
    rw [xzr_q (by omega), xzr_q (by omega), xzr_q (by omega), xzr_q (by omega), xzr_q (by omega), xzr_q (by omega), xzr_q (by omega)]
    show xzr (sKin σ) 78 (78 + 0) b = 0
    unfold xzr
    rw [if_pos rfl]
  have h85 : ∀ b, sMod (xzr (sKin σ) 78) 85 b = 0 := by
    intro b
    have e := hC 7 b (by omega)
    rw [show 78 + 7 = 85 from rfl] at e
    rw [e, keep_q (by omega), rAnew_rw (by omega), mIl_e 8 0 _ (by omega), if_neg (by omega)]
    unfold mZr
    unfold xzr
    rw [if_pos rfl]
  have hlo : ∀ a b, a < 21 → sKin σ a b = sSig (xzr (sPad (xzr (sCup (xzr σ 1) 1) 15) 15) 17) 17 a b := by
    intro a b ha
    unfold sKin sK1
    rw [sIma_lo (by omega), xzr_q (by omega), sIma_lo (by omega), xzr_q (by omega), xzr_q (by omega)]
    unfold sSea xput
    rw [if_neg (by omega), xzr_q (by omega), sReh_lo ha, xzr_q (by omega)]
  refine ⟨?_, ⟨0, ⟨by omega, ?_, fun k hk => by omega⟩, by rw [hrow0, nI_0]⟩, ⟨0, ⟨by omega, ?_, fun k hk => by omega⟩, by rw [hrow0, nI_0]⟩, ?_, ?_⟩
  · refine zK_cb (fun a b hr => ?_) (fun k hk => ?_) (ini_K (xget (xzr σ 1) 1) (xget (xzr (sKin σ) 78) 78))
    · have ha : a < 14 := by unfold rlv at hr; omega
      show sMod (xzr (sKin σ) 78) (1 + a) b = _
      rw [hM _ _ (by omega), hlo _ _ (by omega)]
      unfold sSig xput
      rw [if_neg (by omega), xzr_q (by omega)]
      unfold sPad xput
      rw [if_neg (by omega), xzr_q (by omega)]
      unfold sCup
      exact xput_at ha
    · have e := hC 1 k (by omega)
      rw [show 78 + 1 = 79 from rfl] at e
      rw [e, keep_1 hk]
  · rw [hM _ _ (by omega), hlo _ _ (by omega), nI_0]
    unfold sSig xput
    rw [if_neg (by omega), xzr_q (by omega)]
    unfold sPad xput
    rw [if_pos (by omega), xup_same]
  · show sMod (xzr (sKin σ) 78) (17 + 0) 3 = nI 0
    rw [hM _ _ (by omega), hlo _ _ (by omega), nI_0]
    unfold sSig xput
    rw [if_pos (by omega), xup_same]
  · have e : sMod (xzr (sKin σ) 78) 40 2 = 0 := by
      rw [hM _ _ (by omega)]
      unfold sKin
      rw [sIma_lo (by omega), xzr_q (by omega), sIma_2]
    exact ⟨by rw [e, h85], Or.inl e, fun c => by rw [e] at c; exact absurd c (by decide)⟩
  · have e : sMod (xzr (sKin σ) 78) 59 2 = 0 := by
      rw [hM _ _ (by omega)]
      unfold sKin
      rw [sIma_2]
    exact ⟨by rw [e, h85], Or.inl e, fun c => by rw [e] at c; exact absurd c (by decide)⟩
