/-- forget -/
theorem c_17 (X : xX) (σ : Nat → Nat → Int32) (h : Rel σ) : zCi X 110 171 [] σ := by
  obtain ⟨r1, r2, ⟨n2, s1, s2⟩, r5, r6⟩ := id h
  have k1 := k110 X xshM σ xkin_M
  have q := k171 X xshM (xput 4 σ 17 (xup (xget σ 17) 0 3 0)) (xget (xput 4 σ 17 (xup (xget σ 17) 0 3 0)) 78) xmod_M
  rw [mget] at q
  have e : xget (xput 4 σ 17 (xup (xget σ 17) 0 3 0)) 78 0 2 = xget σ 17 0 3 := by
    show xput 4 σ 17 (xup (xget σ 17) 0 3 0) (78 + 0) 2 = _
    unfold xput
    rw [if_neg (by omega), s1.2.1]
    exact s2
  rw [e] at q
  refine ⟨_, _, _, k1, q, ?_⟩
  have hq : ∀ a b, ¬ (a = 17 ∧ b = 3) → ¬ (a = 78 ∧ b = 2) → xput 8 (xput 4 σ 17 (xup (xget σ 17) 0 3 0)) 78 (xup (xget (xput 4 σ 17 (xup (xget σ 17) 0 3 0)) 78) 0 2 0) a b = σ a b := by
    intro a b h1 h2
    have hin : xput 4 σ 17 (xup (xget σ 17) 0 3 0) a b = σ a b := by
      unfold xput
      by_cases g : 17 ≤ a ∧ a < 17 + 4
      · rw [if_pos g, xup_q (by omega)]
        show σ (17 + (a - 17)) b = σ a b
        rw [show 17 + (a - 17) = a by omega]
      · rw [if_neg g]
    unfold xput
    by_cases g : 78 ≤ a ∧ a < 78 + 8
    · rw [if_pos g, xup_q (by omega)]
      show xput 4 σ 17 (xup (xget σ 17) 0 3 0) (78 + (a - 78)) b = σ a b
      rw [show 78 + (a - 78) = a by omega, hin]
    · rw [if_neg g]
      exact hin
  obtain ⟨n, ⟨p1, p2, p3⟩, p4⟩ := r2
  refine ⟨zK_cb (fun a b hr => ?_) (fun k _ => hq 79 k (by omega) (by omega)) r1, ⟨n, ⟨p1, by rw [hq 15 1 (by omega) (by omega), p2], fun k hk => by rw [hq 16 k (by omega) (by omega), hq 82 k (by omega) (by omega)]; exact p3 k hk⟩, by rw [hq 78 4 (by omega) (by omega), p4]⟩, ⟨0, ⟨by omega, ?_, fun k hk => by omega⟩, ?_⟩, zIm_c (fun a b h1 h2 => hq a b (by omega) (by omega)) (fun b => hq 84 b (by omega) (by omega)) (fun b => hq 85 b (by omega) (by omega)) r5, zIm_c (fun a b h1 h2 => hq a b (by omega) (by omega)) (fun b => hq 84 b (by omega) (by omega)) (fun b => hq 85 b (by omega) (by omega)) r6⟩
  · exact hq _ _ (by unfold rlv at hr; omega) (by unfold rlv at hr; omega)
  · show xput 8 (xput 4 σ 17 (xup (xget σ 17) 0 3 0)) 78 _ (17 + 0) 3 = nI 0
    unfold xput
    rw [if_neg (by omega), if_pos (by omega), xup_same, nI_0]
  · unfold xput
    rw [if_pos (by omega), xup_same, nI_0]
/-- seen -/
theorem c_16 (X : xX) (σ : Nat → Nat → Int32) (t v : Int32) (c : Bool) (h : Rel σ) : zCi X 109 170 [.int t, .int v, .int (xi c)] σ := by
  obtain ⟨r1, ⟨n, ⟨p1, p2, p3⟩, p4⟩, ⟨n2, s1, s2⟩, r5, r6⟩ := id h
  have n8 := s1.1
  have c01 : xi c = 0 ∨ xi c = 1 := by
    cases c
    · exact Or.inl xi_f
    · exact Or.inr xi_t
  have k1 := k109 X xshM σ xkin_M t v (xi c) c01 (by rw [s1.2.1, xin_nI (by omega)]; simp only [decide_eq_true_eq]; omega)
  have tn := ti_nI (n := n2) (by omega)
  have h78 : ∀ a b, 78 ≤ a → sSee σ t v (xi c) a b = σ a b := by
    intro a b hab
    unfold sSee
    repeat' split
    all_goals first | rfl | (unfold xput; rw [if_neg (by omega)])
  have e02 : xget (sSee σ t v (xi c)) 78 0 2 = nI n2 := by
    show sSee σ t v (xi c) (78 + 0) 2 = nI n2
    rw [h78 (78 + 0) 2 (by omega)]
    exact s2
  by_cases gt : (decide (0 ≤ t) && decide (t ≤ 9)) = true
  · have gt' := gt
    rw [Bool.and_eq_true, decide_eq_true_eq, decide_eq_true_eq] at gt'
    have t1 : ¬ t < 0 := Int32.not_lt.mpr gt'.1
    have t2 : ¬ 9 < t := Int32.not_lt.mpr gt'.2
    by_cases gv : (decide (-99 ≤ v) && decide (v ≤ 99)) = true
    · by_cases gn : n2 = 8
      · have ea : aSee (xget σ 17) t v = -4 := by
          unfold aSee
          rw [if_neg t1, if_neg t2, if_pos gv, s1.2.1, gn, if_neg (by decide)]
        have es : sSee σ t v (xi c) = σ := by
          unfold sSee
          rw [if_neg t1, if_neg t2, if_pos gv, vAdd, s1.2.1, gn, if_neg (by decide), xput_get]
        rw [es] at k1 e02
        rw [ea] at k1
        have q := x170 X xshM σ (xget σ 78) xmod_M t v (xi c) (by rw [e02, gn]; rfl) gt gv
        rw [mget] at q
        exact ⟨_, _, _, k1, q, h⟩
      · have l8 : nI n2 < 8 := by rw [ti_lt, tn, q_8]; omega
        have ea : aSee (xget σ 17) t v = nI (n2 + 1) := by
          unfold aSee
          rw [if_neg t1, if_neg t2, if_pos gv, s1.2.1, if_pos l8, nI_1]
        have es : sSee σ t v (xi c) = xput 4 σ 17 (xup (xup (xup (xup (xget σ 17) 1 n2 t) 2 n2 v) 3 n2 (xi c)) 0 3 (nI (n2 + 1))) := by
          unfold sSee vAdd
          rw [if_neg t1, if_neg t2, if_pos gv, s1.2.1, if_pos l8, nI_cl (by omega), nI_1]
        rw [ea] at k1
        have q := k170 X xshM (sSee σ t v (xi c)) (xget (sSee σ t v (xi c)) 78) xmod_M n2 (by omega) t v c gt gv e02
        rw [mget] at q
        refine ⟨_, _, _, k1, q, ?_⟩
        have hin : ∀ a b, (a < 17 ∨ 21 ≤ a) → sSee σ t v (xi c) a b = σ a b := by
          intro a b hab
          rw [es]
          unfold xput
          rw [if_neg (by omega)]
        have hq : ∀ a b, (a < 17 ∨ 21 ≤ a) → ¬ (a = 78 ∧ b = 2) → ¬ a = 81 → xput 8 (sSee σ t v (xi c)) 78 (rSn (xget (sSee σ t v (xi c)) 78) n2 t v (xi c)) a b = σ a b := by
          intro a b h0 h1 h2
          unfold xput
          by_cases g : 78 ≤ a ∧ a < 78 + 8
          · rw [if_pos g]
            unfold rSn
            rw [xup_q (by omega), xup_q (by omega), xup_q (by omega), xup_q (by omega)]
            show sSee σ t v (xi c) (78 + (a - 78)) b = σ a b
            rw [show 78 + (a - 78) = a by omega, hin a b h0]
          · rw [if_neg g]
            exact hin a b h0
        have h81 : ∀ b, xput 8 (sSee σ t v (xi c)) 78 (rSn (xget (sSee σ t v (xi c)) 78) n2 t v (xi c)) 81 b = (if b = 3 * n2 + 2 then xi c else if b = 3 * n2 + 1 then v else if b = 3 * n2 then t else σ 81 b) := by
          intro b
          unfold xput rSn
          rw [if_pos (by omega), show 81 - 78 = 3 from rfl, xup_q (by omega)]
          by_cases e1 : b = 3 * n2 + 2
          · rw [if_pos e1, e1, xup_same]
          · rw [if_neg e1, xup_q (by omega)]
            by_cases e2 : b = 3 * n2 + 1
            · rw [if_pos e2, e2, xup_same]
            · rw [if_neg e2, xup_q (by omega)]
              by_cases e3 : b = 3 * n2
              · rw [if_pos e3, e3, xup_same]
              · rw [if_neg e3, xup_q (by omega)]
                exact hin 81 b (by omega)
        have h17 : ∀ a b, a < 4 → xput 8 (sSee σ t v (xi c)) 78 (rSn (xget (sSee σ t v (xi c)) 78) n2 t v (xi c)) (17 + a) b = xup (xup (xup (xup (xget σ 17) 1 n2 t) 2 n2 v) 3 n2 (xi c)) 0 3 (nI (n2 + 1)) a b := by
          intro a b ha
          unfold xput
          rw [if_neg (by omega), es]
          unfold xput
          rw [if_pos (by omega), show 17 + a - 17 = a by omega]
        refine ⟨zK_cb (fun a b hr => ?_) (fun k _ => hq 79 k (by omega) (by omega) (by omega)) r1, ⟨n, ⟨p1, by rw [hq 15 1 (by omega) (by omega) (by omega), p2], fun k hk => by rw [hq 16 k (by omega) (by omega) (by omega), hq 82 k (by omega) (by omega) (by omega)]; exact p3 k hk⟩, by rw [hq 78 4 (by omega) (by omega) (by omega), p4]⟩, ⟨n2 + 1, ⟨by omega, ?_, fun k hk => ?_⟩, ?_⟩, zIm_c (fun a b h1 h2 => hq a b (by omega) (by omega) (by omega)) (fun b => hq 84 b (by omega) (by omega) (by omega)) (fun b => hq 85 b (by omega) (by omega) (by omega)) r5, zIm_c (fun a b h1 h2 => hq a b (by omega) (by omega) (by omega)) (fun b => hq 84 b (by omega) (by omega) (by omega)) (fun b => hq 85 b (by omega) (by omega) (by omega)) r6⟩
        · exact hq _ _ (by unfold rlv at hr; omega) (by unfold rlv at hr; omega) (by unfold rlv at hr; omega)
        · show xput 8 (sSee σ t v (xi c)) 78 _ (17 + 0) 3 = _
          rw [h17 0 3 (by omega), xup_same]
        · show xput 8 (sSee σ t v (xi c)) 78 _ (17 + 1) k = _ ∧ xput 8 (sSee σ t v (xi c)) 78 _ (17 + 2) k = _ ∧ xput 8 (sSee σ t v (xi c)) 78 _ (17 + 3) k = _ ∧ (xput 8 (sSee σ t v (xi c)) 78 _ (17 + 3) k = 0 ∨ xput 8 (sSee σ t v (xi c)) 78 _ (17 + 3) k = 1)
          rw [h17 1 k (by omega), h17 2 k (by omega), h17 3 k (by omega), h81, h81, h81]
          by_cases e : k = n2
          · subst e
            rw [if_neg (by omega), if_neg (by omega), if_pos rfl, if_neg (by omega), if_pos rfl, if_pos rfl]
            rw [xup_q (show ¬ (1 = 0 ∧ k = 3) by omega), xup_q (show ¬ (1 = 3 ∧ k = k) by omega), xup_q (show ¬ (1 = 2 ∧ k = k) by omega), xup_same, xup_q (show ¬ (2 = 0 ∧ k = 3) by omega), xup_q (show ¬ (2 = 3 ∧ k = k) by omega), xup_same, xup_q (show ¬ (3 = 0 ∧ k = 3) by omega), xup_same]
            exact ⟨rfl, rfl, rfl, c01⟩
          · rw [if_neg (by omega), if_neg (by omega), if_neg (by omega), if_neg (by omega), if_neg (by omega), if_neg (by omega), if_neg (by omega), if_neg (by omega), if_neg (by omega)]
            have hu : ∀ a, 1 ≤ a → a ≤ 3 → xup (xup (xup (xup (xget σ 17) 1 n2 t) 2 n2 v) 3 n2 (xi c)) 0 3 (nI (n2 + 1)) a k = xget σ 17 a k := by
              intro a h1 h2
              rw [xup_q (by omega), xup_q (by omega), xup_q (by omega), xup_q (by omega)]
            rw [hu 1 (by omega) (by omega), hu 2 (by omega) (by omega), hu 3 (by omega) (by omega)]
            exact s1.2.2 k (by omega)
        · unfold xput rSn
          rw [if_pos (by omega), xup_same]
    · have ea : aSee (xget σ 17) t v = -2 := by
        unfold aSee
        rw [if_neg t1, if_neg t2, if_neg gv]
      have es : sSee σ t v (xi c) = σ := by
        unfold sSee
        rw [if_neg t1, if_neg t2, if_neg gv]
      rw [es] at k1
      rw [ea] at k1
      have q := y170 X xshM σ (xget σ 78) xmod_M t v (xi c) _ _ (k130 X t 0 9 _) (k130 X v (-99) 99 _) (fun _ => by simpa using gv)
      rw [mget] at q
      exact ⟨_, _, _, k1, q, h⟩
  · have gt2 : t < 0 ∨ 9 < t := by
      rw [Bool.and_eq_true, decide_eq_true_eq, decide_eq_true_eq, ti_le, ti_le, q_0, q_9] at gt
      rw [ti_lt, ti_lt, q_0, q_9]
      omega
    have ea : aSee (xget σ 17) t v = -2 := by
      unfold aSee
      by_cases c : t < 0
      · rw [if_pos c]
      · rw [if_neg c, if_pos (gt2.resolve_left c)]
    have es : sSee σ t v (xi c) = σ := by
      unfold sSee
      by_cases c : t < 0
      · rw [if_pos c]
      · rw [if_neg c, if_pos (gt2.resolve_left c)]
    rw [es] at k1
    rw [ea] at k1
    have q := y170 X xshM σ (xget σ 78) xmod_M t v (xi c) _ _ (k130 X t 0 9 _) (k130 X v (-99) 99 _) (fun x => absurd x gt)
    rw [mget] at q
    exact ⟨_, _, _, k1, q, h⟩
