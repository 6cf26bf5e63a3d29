/-- done -/
theorem c_5 (X : xX) (σ : Nat → Nat → Int32) (h : Rel σ) : zCi X 95 146 [] σ := by
  have k1 := k95 X xshM σ xkin_M (uWF_K h.1)
  by_cases g : (uP σ).1 = 0
  · rw [if_pos g, if_pos g] at k1
    obtain ⟨b, M', q2, hmf, hc⟩ := bsim X σ (sPlay σ) h (fun a b hab => play_78 σ (by omega))
    have q := k146 X xshM (sPlay σ) (xget (sPlay σ) 78) xmod_M M' b (by rw [mget]; exact q2) _ _ (xup (rKeep M') 0 4 0 0 12) (k127 X xshM (sPlay σ) M' xmod_M) rfl rfl
    rw [mget] at q
    rcases hc with ⟨-, c2⟩ | ⟨c1, -⟩
    · rw [c2, if_pos (by decide), if_pos (by decide)] at q
      exact ⟨_, _, _, k1, q, Rel_eq (zEq_t (play_eq σ) (zEq_M hmf)) h⟩
    · rw [g] at c1
      exact absurd c1 (by decide)
  · rw [if_neg g, if_neg g] at k1
    have h78 : ∀ a b, 78 ≤ a → sDone σ a b = σ a b := by
      intro a b hab
      unfold sDone
      rw [xup_q (by omega)]
      unfold xput
      rw [if_neg (by omega)]
      exact play_78 σ (by omega)
    obtain ⟨b, M', q2, hmf, hc⟩ := bsim X σ (sDone σ) h h78
    have q := k146 X xshM (sDone σ) (xget (sDone σ) 78) xmod_M M' b (by rw [mget]; exact q2) _ _ (xup (rKeep M') 0 4 0 0 12) (k127 X xshM (sDone σ) M' xmod_M) rfl rfl
    rw [mget] at q
    rcases hc with ⟨c1, -⟩ | ⟨c1, c2, c3, s, e, c4⟩
    · exact absurd c1 g
    · rw [c2, if_neg (by decide), if_neg (by decide), xup_q (by omega), keep_q (by omega), c3] at q
      refine ⟨_, _, _, k1, q, ?_⟩
      obtain ⟨r1, r2, ⟨n2, s1, s2⟩, r5, r6⟩ := id h
      have hq : ∀ a b, 15 ≤ a → ¬ (a = 15 ∧ b = 1) → (a < 21 ∨ (40 ≤ a ∧ a < 78) ∨ a = 81 ∨ a = 82 ∨ a = 84 ∨ a = 85 ∨ (a = 78 ∧ b = 2)) → xput 8 (sDone σ) 78 (xup (rKeep M') 0 4 0) a b = σ a b := by
        intro a b h0 h1 h2
        unfold xput
        by_cases g : 78 ≤ a ∧ a < 78 + 8
        · rw [if_pos g, xup_q (by omega), keep_q (by omega), hmf (a - 78) b (by omega)]
          unfold xget
          rw [show 78 + (a - 78) = a by omega, h78 a b (by omega)]
        · rw [if_neg g]
          unfold sDone
          rw [xup_q (by omega)]
          unfold xput
          rw [if_neg (by omega)]
          exact play_eq σ a b (by omega)
      refine ⟨zK_cb (A := (uP σ).2.2.2.2) (N := M' 2) (fun a b hr => ?_) (fun k hk => ?_) (zA_K c4), ⟨0, ⟨by omega, ?_, fun k hk => by omega⟩, ?_⟩, ⟨n2, zSg_c ?_ (fun a k h1 h2 _ => ?_) (fun k _ => hq 81 k (by omega) (by omega) (by omega)) s1, by rw [hq 78 2 (by omega) (by omega) (by omega), s2]⟩, zIm_c (fun a b h1 h2 => hq a b (by omega) (by omega) (by omega)) (fun b => hq 84 b (by omega) (by omega) (by omega)) (fun b => hq 85 b (by omega) (by omega) (by omega)) r5, zIm_c (fun a b h1 h2 => hq a b (by omega) (by omega) (by omega)) (fun b => hq 84 b (by omega) (by omega) (by omega)) (fun b => hq 85 b (by omega) (by omega) (by omega)) r6⟩
      · have ha : a < 14 := by unfold rlv at hr; omega
        unfold xget xput
        rw [if_neg (by omega)]
        unfold sDone
        rw [xup_q (by omega)]
        unfold xput
        rw [if_pos (by omega), show 1 + a - 1 = a by omega, cpy_r a b hr]
        exact play_22 σ ha
      · unfold xput
        rw [if_pos (by omega), xup_q (by omega)]
        exact keep_1 hk
      · unfold xput
        rw [if_neg (by omega)]
        unfold sDone
        rw [xup_same, nI_0]
      · unfold xput
        rw [if_pos (by omega), xup_same, nI_0]
      · unfold xget
        exact hq _ _ (by omega) (by omega) (by omega)
      · unfold xget
        exact hq _ _ (by omega) (by omega) (by omega)
theorem zA_N {A M : Nat → Nat → Int32} {s e i : Nat} (h : zA A M s e) (hi : i < 8) : A 1 i = M 2 (8 + i) ∧ A 2 i = M 2 (16 + i) ∧ A 3 i = M 2 (24 + i) ∧ A 4 i = M 2 (32 + i) ∧ A 5 i = M 2 i ∧ (A 5 i = 0 ∨ A 5 i = 1) := by
  obtain ⟨⟨n, mk, hI, -⟩, -⟩ := h
  have a := hI.1.2.2.1.1 i hi
  exact ⟨a.1, a.2.1, a.2.2.1, a.2.2.2.1, a.2.2.2.2, (hI.1.1.1 i hi).1⟩
/-- behind -/
theorem c_6 (X : xX) (σ : Nat → Nat → Int32) (r w : Int32) (h : Rel σ) : zCi X 96 148 [.int r, .int w] σ := by
  have k1 := k96 X xshM σ xkin_M r w (uWF_K h.1)
  by_cases g : xin r 8 = true
  · obtain ⟨i, hi, rfl⟩ := xin_of g (by omega)
    have ci : (nI i).toNatClampNeg = i := nI_cl (by omega)
    by_cases gw : (decide (0 ≤ w) && decide (w ≤ 3)) = true
    · have hw : w = 0 ∨ w = 1 ∨ w = 2 ∨ w = 3 := by
        rw [Bool.and_eq_true, decide_eq_true_eq, decide_eq_true_eq, ti_le, ti_le, q_0, q_3] at gw
        rw [ti_e, ti_e, ti_e, ti_e, q_0, q_1, q_2, q_3]
        omega
      have w1 : ¬ w < 0 := by rcases hw with c | c | c | c <;> rw [c] <;> decide
      have w2 : ¬ 3 < w := by rcases hw with c | c | c | c <;> rw [c] <;> decide
      have es : sBeh σ (nI i) w = sPlay σ := by unfold sBeh; rw [if_pos g, if_neg w1, if_neg w2]
      rw [es] at k1
      obtain ⟨b, M', q2, hmf, hc⟩ := bsim X σ (sPlay σ) h (fun a b hab => play_78 σ (by omega))
      have hrel := Rel_eq (zEq_t (play_eq σ) (zEq_M hmf)) h
      have ea : aBeh σ (nI i) w = (if b < 0 then -5 else if w.toInt = 0 then M' 2 i else if w.toInt = 1 then M' 2 (16 + i) else if w.toInt = 2 then M' 2 (24 + i) else M' 2 (32 + i)) := by
        unfold aBeh
        rw [if_pos g, if_neg w1, if_neg w2]
        rcases hc with ⟨c1, c2⟩ | ⟨c1, c2, c3, s, e, c4⟩
        · rw [c1, c2, if_pos rfl, if_pos (by decide)]
        · obtain ⟨z1, z2, z3, z4, z5, z6⟩ := zA_N c4 hi
          have ui : uIn (xget (sPlay σ) 22) (nI i) = M' 2 i := by
            unfold uIn
            rw [if_pos g, ci, play_22 σ (by omega), ← z5]
            rcases z6 with z | z
            · rw [z, if_pos rfl]
            · rw [z, if_neg (by decide)]
          have up : uPlace (xget (sPlay σ) 22) (nI i) = M' 2 (16 + i) := by
            unfold uPlace
            rw [if_pos g, ci, play_22 σ (by omega), z2]
          have ub : uBase (xget (sPlay σ) 22) (nI i) = M' 2 (24 + i) := by
            unfold uBase
            rw [if_pos g, ci, play_22 σ (by omega), z3]
          have us : uSlope (xget (sPlay σ) 22) (nI i) = M' 2 (32 + i) := by
            unfold uSlope
            rw [if_pos g, ci, play_22 σ (by omega), z4]
          rw [c1, c2, if_neg (show ¬ (1 : Int32) = 0 by decide), if_neg (show ¬ (0 : Int32) < 0 by decide), ui, up, ub, us]
      rw [ea] at k1
      rcases hw with c | c | c | c
      · subst c
        have q := k148_0 X xshM (sPlay σ) (xget (sPlay σ) 78) xmod_M M' b (by rw [mget]; exact q2) i hi
        rw [mget] at q
        rw [if_pos (show (0 : Int32).toInt = 0 from q_0)] at k1
        exact ⟨_, _, _, k1, q, hrel⟩
      · subst c
        have q := k148_1 X xshM (sPlay σ) (xget (sPlay σ) 78) xmod_M M' b (by rw [mget]; exact q2) i hi
        rw [mget] at q
        rw [if_neg (show ¬ (1 : Int32).toInt = 0 by decide), if_pos (show (1 : Int32).toInt = 1 from q_1)] at k1
        exact ⟨_, _, _, k1, q, hrel⟩
      · subst c
        have q := k148_2 X xshM (sPlay σ) (xget (sPlay σ) 78) xmod_M M' b (by rw [mget]; exact q2) i hi
        rw [mget] at q
        rw [if_neg (show ¬ (2 : Int32).toInt = 0 by decide), if_neg (show ¬ (2 : Int32).toInt = 1 by decide), if_pos (show (2 : Int32).toInt = 2 from q_2)] at k1
        exact ⟨_, _, _, k1, q, hrel⟩
      · subst c
        have q := k148_3 X xshM (sPlay σ) (xget (sPlay σ) 78) xmod_M M' b (by rw [mget]; exact q2) i hi
        rw [mget] at q
        rw [if_neg (show ¬ (3 : Int32).toInt = 0 by decide), if_neg (show ¬ (3 : Int32).toInt = 1 by decide), if_neg (show ¬ (3 : Int32).toInt = 2 by decide)] at k1
        exact ⟨_, _, _, k1, q, hrel⟩
    · have hw : w < 0 ∨ 3 < w := by
        rw [Bool.and_eq_true, decide_eq_true_eq, decide_eq_true_eq, ti_le, ti_le, q_0, q_3] at gw
        rw [ti_lt, ti_lt, q_0, q_3]
        omega
      have es : sBeh σ (nI i) w = σ := by
        unfold sBeh
        rw [if_pos g]
        by_cases c : w < 0
        · rw [if_pos c]
        · rw [if_neg c, if_pos (hw.resolve_left c)]
      have ea : aBeh σ (nI i) w = -2 := by
        unfold aBeh
        rw [if_pos g]
        by_cases c : w < 0
        · rw [if_pos c]
        · rw [if_neg c, if_pos (hw.resolve_left c)]
      rw [es, ea] at k1
      have q := y148 X xshM σ (xget σ 78) xmod_M i hi w (by simpa using gw)
      rw [mget] at q
      exact ⟨_, _, _, k1, q, h⟩
  · have es : sBeh σ r w = σ := by unfold sBeh; rw [if_neg g]
    have ea : aBeh σ r w = -1 := by unfold aBeh; rw [if_neg g]
    rw [es, ea] at k1
    have q := x148 X xshM σ (xget σ 78) xmod_M r w (by simpa using g)
    rw [mget] at q
    exact ⟨_, _, _, k1, q, h⟩
/-- then -/
theorem c_8 (X : xX) (σ : Nat → Nat → Int32) (w : Int32) (h : Rel σ) : zCi X 98 150 [.int w] σ := by
  have k1 := k98 X xshM σ xkin_M w (uWF_K h.1)
  by_cases gw : (decide (0 ≤ w) && decide (w ≤ 6)) = true
  · have hw : w = 0 ∨ w = 1 ∨ w = 2 ∨ w = 3 ∨ w = 4 ∨ w = 5 ∨ w = 6 := by
      rw [Bool.and_eq_true, decide_eq_true_eq, decide_eq_true_eq, ti_le, ti_le, q_0, q_6] at gw
      rw [ti_e, ti_e, ti_e, ti_e, ti_e, ti_e, ti_e, q_0, q_1, q_2, q_3, q_4, q_5, q_6]
      omega
    have w1 : ¬ w < 0 := by rcases hw with c | c | c | c | c | c | c <;> rw [c] <;> decide
    have w2 : ¬ 6 < w := by rcases hw with c | c | c | c | c | c | c <;> rw [c] <;> decide
    have es : sThn σ w = sPlay σ := by unfold sThn; rw [if_neg w1, if_neg w2]
    rw [es] at k1
    obtain ⟨b, M', q2, hmf, hc⟩ := bsim X σ (sPlay σ) h (fun a b hab => play_78 σ (by omega))
    have hrel := Rel_eq (zEq_t (play_eq σ) (zEq_M hmf)) h
    have e35 : ∀ b, sPlay σ 35 b = (uP σ).2.2.2.2 13 b := fun b => play_22 σ (a := 13) (by omega)
    have ea : aThn σ w = (if b < 0 then -5 else if w.toInt = 0 then M' 2 40 else if w.toInt = 1 then M' 2 42 else if w.toInt = 2 then M' 0 6 else if w.toInt = 3 then M' 0 7 else if w.toInt = 4 then M' 0 8 else if w.toInt = 5 then M' 0 9 else M' 0 10) := by
      unfold aThn
      rw [if_neg w1, if_neg w2]
      rcases hc with ⟨c1, c2⟩ | ⟨c1, c2, c3, s, e, c4⟩
      · rw [c1, c2, if_pos rfl, if_pos (by decide)]
      · obtain ⟨⟨n, mk, hI, -⟩, -, t1, t2, t3, t4, t5, -⟩ := c4
        have u1 : uBest (xget (sPlay σ) 22) 1 = M' 2 42 := by
          unfold uBest
          rw [if_pos (by decide), show (1 : Int32).toNatClampNeg = 1 by decide, play_22 σ (by omega)]
          exact (hI.1.2.2.2.1.2.2.2.2 1 (by omega) (by omega) trivial).2.1
        rw [c1, c2, if_neg (show ¬ (1 : Int32) = 0 by decide), if_neg (show ¬ (0 : Int32) < 0 by decide), u1, play_22 σ (a := 0) (b := 8) (by omega), hI.1.2.2.1.2, e35, e35, e35, e35, e35, t1, t2, t3, t4, t5]
    rw [ea] at k1
    rcases hw with c | c | c | c | c | c | c
    · subst c
      have q := k150_0 X xshM (sPlay σ) (xget (sPlay σ) 78) xmod_M M' b (by rw [mget]; exact q2)
      rw [mget] at q
      rw [if_pos (show (0 : Int32).toInt = 0 from q_0)] at k1
      exact ⟨_, _, _, k1, q, hrel⟩
    · subst c
      have q := k150_1 X xshM (sPlay σ) (xget (sPlay σ) 78) xmod_M M' b (by rw [mget]; exact q2)
      rw [mget] at q
      rw [if_neg (show ¬ (1 : Int32).toInt = 0 by decide), if_pos (show (1 : Int32).toInt = 1 from q_1)] at k1
      exact ⟨_, _, _, k1, q, hrel⟩
    · subst c
      have q := k150_2 X xshM (sPlay σ) (xget (sPlay σ) 78) xmod_M M' b (by rw [mget]; exact q2)
      rw [mget] at q
      rw [if_neg (show ¬ (2 : Int32).toInt = 0 by decide), if_neg (show ¬ (2 : Int32).toInt = 1 by decide), if_pos (show (2 : Int32).toInt = 2 from q_2)] at k1
      exact ⟨_, _, _, k1, q, hrel⟩
    · subst c
      have q := k150_3 X xshM (sPlay σ) (xget (sPlay σ) 78) xmod_M M' b (by rw [mget]; exact q2)
      rw [mget] at q
      rw [if_neg (show ¬ (3 : Int32).toInt = 0 by decide), if_neg (show ¬ (3 : Int32).toInt = 1 by decide), if_neg (show ¬ (3 : Int32).toInt = 2 by decide), if_pos (show (3 : Int32).toInt = 3 from q_3)] at k1
      exact ⟨_, _, _, k1, q, hrel⟩
    · subst c
      have q := k150_4 X xshM (sPlay σ) (xget (sPlay σ) 78) xmod_M M' b (by rw [mget]; exact q2)
      rw [mget] at q
      rw [if_neg (show ¬ (4 : Int32).toInt = 0 by decide), if_neg (show ¬ (4 : Int32).toInt = 1 by decide), if_neg (show ¬ (4 : Int32).toInt = 2 by decide), if_neg (show ¬ (4 : Int32).toInt = 3 by decide), if_pos (show (4 : Int32).toInt = 4 from q_4)] at k1
      exact ⟨_, _, _, k1, q, hrel⟩
    · subst c
      have q := k150_5 X xshM (sPlay σ) (xget (sPlay σ) 78) xmod_M M' b (by rw [mget]; exact q2)
      rw [mget] at q
      rw [if_neg (show ¬ (5 : Int32).toInt = 0 by decide), if_neg (show ¬ (5 : Int32).toInt = 1 by decide), if_neg (show ¬ (5 : Int32).toInt = 2 by decide), if_neg (show ¬ (5 : Int32).toInt = 3 by decide), if_neg (show ¬ (5 : Int32).toInt = 4 by decide), if_pos (show (5 : Int32).toInt = 5 from q_5)] at k1
      exact ⟨_, _, _, k1, q, hrel⟩
    · subst c
      have q := k150_6 X xshM (sPlay σ) (xget (sPlay σ) 78) xmod_M M' b (by rw [mget]; exact q2)
      rw [mget] at q
      rw [if_neg (show ¬ (6 : Int32).toInt = 0 by decide), if_neg (show ¬ (6 : Int32).toInt = 1 by decide), if_neg (show ¬ (6 : Int32).toInt = 2 by decide), if_neg (show ¬ (6 : Int32).toInt = 3 by decide), if_neg (show ¬ (6 : Int32).toInt = 4 by decide), if_neg (show ¬ (6 : Int32).toInt = 5 by decide)] at k1
      exact ⟨_, _, _, k1, q, hrel⟩
  · have hw : w < 0 ∨ 6 < w := by
      rw [Bool.and_eq_true, decide_eq_true_eq, decide_eq_true_eq, ti_le, ti_le, q_0, q_6] at gw
      rw [ti_lt, ti_lt, q_0, q_6]
      omega
    have es : sThn σ w = σ := by
      unfold sThn
      by_cases c : w < 0
      · rw [if_pos c]
      · rw [if_neg c, if_pos (hw.resolve_left c)]
    have ea : aThn σ w = -2 := by
      unfold aThn
      by_cases c : w < 0
      · rw [if_pos c]
      · rw [if_neg c, if_pos (hw.resolve_left c)]
    rw [es, ea] at k1
    have q := x150 X xshM σ (xget σ 78) xmod_M w (by simpa using gw)
    rw [mget] at q
    exact ⟨_, _, _, k1, q, h⟩
