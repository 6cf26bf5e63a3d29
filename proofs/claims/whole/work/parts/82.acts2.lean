/-- going out and coming in: the same -/
theorem out_sim {A M : Nat → Nat → Int32} {s e i : Nat} {d act o : Int32} {t : Bool} (h : zA A M s e) (hi : i < 8) (hd : (d = 33 ∧ t = true) ∨ (d = 35 ∧ t = false)) : dGo (M 2) i t = uHin A d (nI i) o ∧ (uHin A d (nI i) o = 0 → zA (uPerf A act d (nI i) o) (tGo M i t) s e) ∧ (¬ uHin A d (nI i) o = 0 → tGo M i t = M) := by
  obtain ⟨⟨n, mk, hI, -⟩, hV, hT⟩ := h
  have hS := hI.1.2.1
  have hR := hI.1.1
  have hN := hI.1.2.2.1
  have ni := hN.1 i hi
  have c : (nI i).toNatClampNeg = i := nI_cl (by omega)
  have h01 := (in_01 hI hi).1
  -- a changed flag
  have key : ∀ v : Int32, (v = 0 ∨ v = 1) → zA (uAnew (xup A 5 i v)) (rAnew (xup M 2 i v)) s e := by
    intro v hv
    refine anew_A (A := A) (M := M) ⟨fun j hj => ?_, fun j k hj hk => ?_⟩ (zS_c (fun b => xup_q (by omega)) hS) ⟨hV.1, by rw [xup_q (by omega), hV.2.1], fun j hj => by rw [xup_q (by omega), xup_q (by omega)]; exact hV.2.2 j hj⟩ ⟨fun j hj => ?_, ?_⟩ (fun b => xup_q (by omega)) (fun b => xup_q (by omega)) hT
    · have r := hR.1 j hj
      rw [xup_q (show ¬ (1 = 5 ∧ j = i) by omega), xup_q (show ¬ (2 = 5 ∧ j = i) by omega)]
      refine ⟨?_, r.2⟩
      by_cases ej : j = i
      · subst ej
        rw [xup_same]
        exact hv
      · rw [xup_q (by omega)]
        exact r.1
    · rw [xup_q (by omega), xup_q (by omega)]
      exact hR.2 j k hj hk
    · have nj := hN.1 j hj
      have qm : ∀ k, ¬ k = i → xup M 2 i v 2 k = M 2 k := fun k h3 => xup_q (by omega)
      have qa : ∀ a b, ¬ a = 5 → xup A 5 i v a b = A a b := fun a b h3 => xup_q (by omega)
      rw [qa 1 j (by omega), qa 2 j (by omega), qa 3 j (by omega), qa 4 j (by omega), qm (8 + j) (by omega), qm (16 + j) (by omega), qm (24 + j) (by omega), qm (32 + j) (by omega)]
      refine ⟨nj.1, nj.2.1, nj.2.2.1, nj.2.2.2.1, ?_⟩
      by_cases ej : j = i
      · subst ej
        rw [xup_same, xup_same]
      · rw [xup_q (by omega), qm j ej]
        exact nj.2.2.2.2
    · rw [xup_q (by omega), xup_q (by omega), hN.2]
  rcases hd with ⟨hd, ht⟩ | ⟨hd, ht⟩
  · subst hd; subst ht
    have eH : uHin A 33 (nI i) o = (if A 5 i = 0 then 1 else 0) := by
      unfold uHin
      rw [if_neg (by decide), if_pos (nI_i8 hi), if_neg (by decide), if_neg (by decide), c, if_pos (show (33 : Int32) = 33 from rfl)]
    have eP : uPerf A act 33 (nI i) o = uAnew (xup A 5 i 0) := by
      unfold uPerf uChg
      rw [if_neg (by decide), if_pos (nI_i8 hi), if_pos (by decide), c]
    rw [eH, eP]
    unfold dGo tGo
    rw [if_pos rfl, if_pos rfl, ← ni.2.2.2.2]
    by_cases g : A 5 i = 0
    · rw [if_pos g, if_pos g]
      exact ⟨rfl, fun c => absurd c (by decide), fun _ => rfl⟩
    · rw [if_neg g, if_neg g]
      exact ⟨rfl, fun _ => key 0 (Or.inl rfl), fun c => absurd rfl c⟩
  · subst hd; subst ht
    have eH : uHin A 35 (nI i) o = (if A 5 i = 0 then 0 else 4) := by
      unfold uHin
      rw [if_neg (by decide), if_pos (nI_i8 hi), if_pos rfl, c]
    have eP : uPerf A act 35 (nI i) o = uAnew (xup A 5 i 1) := by
      unfold uPerf uChg
      rw [if_neg (by decide), if_pos (nI_i8 hi), if_neg (by decide), if_pos (by decide), c]
    rw [eH, eP]
    unfold dGo tGo
    rw [if_neg (show ¬ false = true by decide), if_neg (show ¬ false = true by decide), ← ni.2.2.2.2]
    rcases h01 with g | g
    · rw [g, if_pos rfl, if_neg (by decide), if_neg (by decide)]
      exact ⟨rfl, fun _ => key 1 (Or.inr rfl), fun c => absurd rfl c⟩
    · rw [g, if_pos (show (1 : Int32) = 1 from rfl), if_pos (show (1 : Int32) = 1 from rfl), if_neg (show ¬ (1 : Int32) = 0 by decide)]
      exact ⟨rfl, fun c => absurd c (by decide), fun _ => rfl⟩
theorem lane_e {p : Nat} {k : Int32} (hp : p < 8) (hk : k = 0 ∨ k = 1) : uLane (nI p) k = true ↔ ¬ (nI p < 4 ∧ k = 1) := by
  have t := ti_nI (n := p) (by omega)
  unfold uLane
  rw [Bool.or_eq_true, decide_eq_true_eq, decide_eq_true_eq, ti_le, ti_lt, t, q_4]
  rcases hk with h | h
  · rw [h]
    exact ⟨fun _ c => absurd c.2 (by decide), fun _ => Or.inr rfl⟩
  · rw [h]
    refine ⟨fun c => ?_, fun c => ?_⟩
    · rcases c with c | c
      · intro x
        omega
      · exact absurd c (by decide)
    · exact Or.inl (Classical.byContradiction fun x => c ⟨by omega, rfl⟩)
/-- places exchanged: the same -/
theorem exch_sim {A M : Nat → Nat → Int32} {s e i j : Nat} {act : Int32} (h : zA A M s e) (hi : i < 8) (hj : j < 8) : dEx (M 2) i j = uHin A 37 (nI i) (nI j) ∧ (uHin A 37 (nI i) (nI j) = 0 → zA (uPerf A act 37 (nI i) (nI j)) (tEx M i j) s e) ∧ (¬ uHin A 37 (nI i) (nI j) = 0 → tEx M i j = M) := by
  obtain ⟨⟨n, mk, hI, -⟩, hV, hT⟩ := h
  have hS := hI.1.2.1
  have hR := hI.1.1
  have hN := hI.1.2.2.1
  have ni := hN.1 i hi
  have nj := hN.1 j hj
  have ci : (nI i).toNatClampNeg = i := nI_cl (by omega)
  have cj : (nI j).toNatClampNeg = j := nI_cl (by omega)
  obtain ⟨-, ki, pi, pi8, epi⟩ := hR.1 i hi
  obtain ⟨-, kj, pj, pj8, epj⟩ := hR.1 j hj
  have l1 := lane_e pi8 kj
  have l2 := lane_e pj8 ki
  have eH : uHin A 37 (nI i) (nI j) = (if i = j then 5 else if (nI pi < 4 ∧ A 1 j = 1) ∨ (nI pj < 4 ∧ A 1 i = 1) then 6 else 0) := by
    unfold uHin uSwH uPlace uKind
    rw [if_neg (by decide), if_pos (nI_i8 hi), if_neg (by decide), if_pos rfl, if_pos (nI_i8 hi), if_pos (nI_i8 hi), if_pos (nI_i8 hj), if_pos (nI_i8 hj), ci, cj, epi, epj]
    by_cases g : i = j
    · rw [if_pos g, if_pos (by rw [g])]
    · rw [if_neg g, if_neg (nI_ne (by omega) (by omega) g)]
      by_cases g1 : nI pi < 4 ∧ A 1 j = 1
      · rw [if_neg (fun c => l1.mp c g1), if_pos (Or.inl g1)]
      · rw [if_pos (l1.mpr g1)]
        by_cases g2 : nI pj < 4 ∧ A 1 i = 1
        · rw [if_neg (fun c => l2.mp c g2), if_pos (Or.inr g2)]
        · rw [if_pos (l2.mpr g2), if_neg (by
            intro c
            rcases c with c | c
            · exact g1 c
            · exact g2 c)]
  have eL : rLn (M 2) i j = true ↔ ((nI pi < 4 ∧ A 1 j = 1) ∨ (nI pj < 4 ∧ A 1 i = 1)) := by
    unfold rLn
    rw [← nj.2.1, ← ni.2.1, ← ni.1, ← nj.1, epi, epj]
    by_cases g1 : nI pj < 4
    · by_cases g2 : A 1 i = 1
      · rw [if_pos g1, if_pos g2]
        exact ⟨fun _ => Or.inr ⟨g1, g2⟩, fun _ => rfl⟩
      · rw [if_pos g1, if_neg g2]
        by_cases g3 : nI pi < 4
        · rw [if_pos g3, decide_eq_true_eq]
          exact ⟨fun c => Or.inl ⟨g3, c⟩, fun c => by
            rcases c with c | c
            · exact c.2
            · exact absurd c.2 g2⟩
        · rw [if_neg g3]
          exact ⟨fun c => absurd c (by decide), fun c => by
            rcases c with c | c
            · exact absurd c.1 g3
            · exact absurd c.2 g2⟩
    · rw [if_neg g1]
      by_cases g3 : nI pi < 4
      · rw [if_pos g3, decide_eq_true_eq]
        exact ⟨fun c => Or.inl ⟨g3, c⟩, fun c => by
          rcases c with c | c
          · exact c.2
          · exact absurd c.1 g1⟩
      · rw [if_neg g3]
        exact ⟨fun c => absurd c (by decide), fun c => by
          rcases c with c | c
          · exact absurd c.1 g3
          · exact absurd c.1 g1⟩
  have eD : dEx (M 2) i j = uHin A 37 (nI i) (nI j) := by
    rw [eH]
    unfold dEx
    by_cases g : i = j
    · rw [if_pos g, if_pos g]
    · rw [if_neg g, if_neg g]
      by_cases g2 : rLn (M 2) i j = true
      · rw [if_pos g2, if_pos (eL.mp g2)]
      · rw [if_neg g2, if_neg (fun c => g2 (eL.mpr c))]
  refine ⟨eD, fun h0 => ?_, fun h0 => ?_⟩
  · unfold tEx
    rw [if_pos (by rw [eD]; exact h0)]
    have hij : ¬ i = j := by
      intro g
      rw [eH, if_pos g] at h0
      exact absurd h0 (by decide)
    have eP : uPerf A act 37 (nI i) (nI j) = uAnew (xup (xup A 2 i (A 2 j)) 2 j (A 2 i)) := by
      unfold uPerf uChg uSwap
      rw [if_neg (by decide), if_pos (nI_i8 hi), if_neg (by decide), if_neg (by decide), if_neg (by decide), if_neg (by decide), if_pos ⟨nI_i8 hi, nI_i8 hj⟩, ci, cj]
    rw [eP]
    have q2 : ∀ k, xup (xup A 2 i (A 2 j)) 2 j (A 2 i) 2 k = A 2 (if k = j then i else if k = i then j else k) := by
      intro k
      by_cases g1 : k = j
      · rw [if_pos g1, g1, xup_same]
      · rw [if_neg g1, xup_q (by omega)]
        by_cases g2 : k = i
        · rw [if_pos g2, g2, xup_same]
        · rw [if_neg g2, xup_q (by omega)]
    have qa : ∀ a b, ¬ a = 2 → xup (xup A 2 i (A 2 j)) 2 j (A 2 i) a b = A a b := fun a b h3 => by rw [xup_q (by omega), xup_q (by omega)]
    have hsw : ∀ k, k < 8 → (if k = j then i else if k = i then j else k) < 8 := by
      intro k hk
      split
      · exact hi
      · split
        · exact hj
        · exact hk
    refine anew_A (A := A) (M := M) ⟨fun k hk => ?_, fun k l hk hl hkl => ?_⟩ (zS_c (fun b => qa 4 b (by omega)) hS) ⟨hV.1, by rw [qa 0 8 (by omega), hV.2.1], fun k hk => by rw [qa 3 k (by omega), qa 4 k (by omega)]; exact hV.2.2 k hk⟩ ⟨fun k hk => ?_, ?_⟩ (fun b => qa 13 b (by omega)) (fun b => by unfold rEx; rw [xup_q (by omega), xup_q (by omega)]) hT
    · rw [qa 5 k (by omega), qa 1 k (by omega), q2 k]
      exact ⟨(hR.1 k hk).1, (hR.1 k hk).2.1, (hR.1 _ (hsw k hk)).2.2⟩
    · rw [q2, q2] at hkl
      have := hR.2 _ _ (hsw k hk) (hsw l hl) hkl
      revert this
      repeat' split
      all_goals omega
    · have nk := hN.1 k hk
      have qm : ∀ l, ¬ l = 16 + i → ¬ l = 16 + j → rEx M i j 2 l = M 2 l := fun l h3 h4 => by unfold rEx; rw [xup_q (by omega), xup_q (by omega)]
      rw [qa 1 k (by omega), qa 3 k (by omega), qa 4 k (by omega), qa 5 k (by omega), qm (8 + k) (by omega) (by omega), qm (24 + k) (by omega) (by omega), qm (32 + k) (by omega) (by omega), qm k (by omega) (by omega)]
      refine ⟨nk.1, ?_, nk.2.2.1, nk.2.2.2.1, nk.2.2.2.2⟩
      rw [q2 k]
      unfold rEx
      by_cases g1 : k = j
      · subst g1
        rw [if_pos rfl, xup_same, ni.2.1]
      · rw [if_neg g1, xup_q (by omega)]
        by_cases g2 : k = i
        · subst g2
          rw [if_pos rfl, xup_same, nj.2.1]
        · rw [if_neg g2, xup_q (by omega)]
          exact nk.2.1
    · unfold rEx
      rw [qa 0 8 (by omega), xup_q (by omega), xup_q (by omega), hN.2]
  · unfold tEx
    rw [if_neg (by rw [eD]; exact h0)]
theorem tBd_rw {M : Nat → Nat → Int32} {i a b : Nat} {y : Int32} (h : ¬ a = 2) : tBd M i y a b = M a b := by
  unfold tBd rBd
  split
  · rw [rAnew_rw h, xup_q (by omega), xup_q (by omega)]
  · rfl
theorem tGo_rw {M : Nat → Nat → Int32} {i a b : Nat} {t : Bool} (h : ¬ a = 2) : tGo M i t a b = M a b := by
  unfold tGo
  split
  · split
    · rfl
    · rw [rAnew_rw h, xup_q (by omega)]
  · split
    · rfl
    · rw [rAnew_rw h, xup_q (by omega)]
theorem tEx_rw {M : Nat → Nat → Int32} {i j a b : Nat} (h : ¬ a = 2) : tEx M i j a b = M a b := by
  unfold tEx rEx
  split
  · rw [rAnew_rw h, xup_q (by omega), xup_q (by omega)]
  · rfl
