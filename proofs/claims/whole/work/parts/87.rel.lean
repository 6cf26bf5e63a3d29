/-- sights alike -/
def zSg (T : Nat → Nat → Int32) (n : Nat) (S : Nat → Int32) : Prop := n ≤ 8 ∧ T 0 3 = nI n ∧ ∀ k, k < n → T 1 k = S (3 * k) ∧ T 2 k = S (3 * k + 1) ∧ T 3 k = S (3 * k + 2) ∧ (T 3 k = 0 ∨ T 3 k = 1)
/-- an image alike -/
def zIm (σ : Nat → Nat → Int32) (m c off : Nat) : Prop := σ m 2 = σ 85 c ∧ (σ m 2 = 0 ∨ σ m 2 = 1) ∧ (σ m 2 = 1 → zK (xget σ (m + 1)) (fun k => σ 84 (off + k)) ∧ ∃ n, zSg (xget σ (m + 15)) n (fun k => σ 84 (off + 331 + k)) ∧ σ 84 (off + 358) = nI n)
/-- class and reference alike -/
def Rel (σ : Nat → Nat → Int32) : Prop := zK (xget σ 1) (σ 79) ∧ (∃ n, zPd σ (σ 82) n ∧ σ 78 4 = nI n) ∧ (∃ n, zSg (xget σ 17) n (σ 81) ∧ σ 78 2 = nI n) ∧ zIm σ 40 0 0 ∧ zIm σ 59 1 360
theorem zSg_c {T T' : Nat → Nat → Int32} {S S' : Nat → Int32} {n : Nat} (h0 : T' 0 3 = T 0 3) (h1 : ∀ a k, 1 ≤ a → a ≤ 3 → k < 8 → T' a k = T a k) (h2 : ∀ k, k < 24 → S' k = S k) (h : zSg T n S) : zSg T' n S' := by
  obtain ⟨a1, a2, a3⟩ := h
  refine ⟨a1, by rw [h0, a2], fun k hk => ?_⟩
  rw [h1 1 k (by omega) (by omega) (by omega), h1 2 k (by omega) (by omega) (by omega), h1 3 k (by omega) (by omega) (by omega), h2 _ (by omega), h2 _ (by omega), h2 _ (by omega)]
  exact a3 k hk
theorem zIm_c {σ σ' : Nat → Nat → Int32} {m c off : Nat} (hm : ∀ a b, m ≤ a → a < m + 19 → σ' a b = σ a b) (h84 : ∀ b, σ' 84 b = σ 84 b) (h85 : ∀ b, σ' 85 b = σ 85 b) (h : zIm σ m c off) : zIm σ' m c off := by
  obtain ⟨a1, a2, a3⟩ := h
  have e2 : σ' m 2 = σ m 2 := hm m 2 (by omega) (by omega)
  refine ⟨by rw [e2, h85, a1], by rw [e2]; exact a2, fun c1 => ?_⟩
  rw [e2] at c1
  obtain ⟨b1, n, b2, b3⟩ := a3 c1
  refine ⟨zK_cb (fun a b hr => ?_) (fun k _ => h84 _) b1, n, zSg_c ?_ (fun a k h1 h2 _ => ?_) (fun k _ => h84 _) b2, by rw [h84, b3]⟩
  · unfold xget
    exact hm _ _ (by omega) (by unfold rlv at hr; omega)
  · unfold xget
    exact hm _ _ (by omega) (by omega)
  · unfold xget
    exact hm _ _ (by omega) (by omega)
/-- what class and reference show -/
def zEq (σ σ' : Nat → Nat → Int32) : Prop := ∀ a b, (a < 21 ∨ (40 ≤ a ∧ a < 78) ∨ a = 79 ∨ a = 81 ∨ a = 82 ∨ a = 84 ∨ a = 85 ∨ (a = 78 ∧ (b = 2 ∨ b = 4))) → σ' a b = σ a b
theorem Rel_eq {σ σ' : Nat → Nat → Int32} (h : zEq σ σ') (hR : Rel σ) : Rel σ' := by
  obtain ⟨r1, ⟨n, ⟨p1, p2, p3⟩, p4⟩, ⟨n2, r3, r4⟩, r5, r6⟩ := hR
  refine ⟨zK_cb (fun a b hr => ?_) (fun k _ => h 79 k (by omega)) r1, ⟨n, ⟨p1, by rw [h 15 1 (by omega), p2], fun k hk => by rw [h 16 k (by omega), h 82 k (by omega)]; exact p3 k hk⟩, by rw [h 78 4 (by omega), p4]⟩, ⟨n2, zSg_c ?_ (fun a k h1 h2 _ => ?_) (fun k _ => h 81 k (by omega)) r3, by rw [h 78 2 (by omega), r4]⟩, zIm_c (fun a b h1 h2 => h a b (by omega)) (fun b => h 84 b (by omega)) (fun b => h 85 b (by omega)) r5, zIm_c (fun a b h1 h2 => h a b (by omega)) (fun b => h 84 b (by omega)) (fun b => h 85 b (by omega)) r6⟩
  · unfold xget
    exact h _ _ (by unfold rlv at hr; omega)
  · unfold xget
    exact h _ _ (by omega)
  · unfold xget
    exact h _ _ (by omega)
theorem zEq_t {σ σ' σ'' : Nat → Nat → Int32} (h : zEq σ σ') (h' : zEq σ' σ'') : zEq σ σ'' := fun a b hab => by rw [h' a b hab, h a b hab]
/-- rows of the reference that are shown -/
def zMf (M M' : Nat → Nat → Int32) : Prop := ∀ a b, (a = 1 ∨ a = 3 ∨ a = 4 ∨ a = 6 ∨ a = 7 ∨ (a = 0 ∧ (b = 2 ∨ b = 4))) → M' a b = M a b
theorem zEq_M {σ M' : Nat → Nat → Int32} (h : zMf (xget σ 78) M') : zEq σ (xput 8 σ 78 M') := by
  intro a b hab
  unfold xput
  by_cases g : 78 ≤ a ∧ a < 78 + 8
  · rw [if_pos g, h (a - 78) b (by omega)]
    unfold xget
    rw [show 78 + (a - 78) = a by omega]
  · rw [if_neg g]
theorem zMf_now {M : Nat → Nat → Int32} : zMf M (rNow M) := fun a b h => now_q (by omega) (by omega)
theorem zMf_t {M M' M'' : Nat → Nat → Int32} (h : zMf M M') (h' : zMf M' M'') : zMf M M'' := fun a b hab => by rw [h' a b hab, h a b hab]
theorem zMf_fr {M M' : Nat → Nat → Int32} (h : zFr M M') : zMf M M' := fun a b hab => h a b (by omega) (by omega)
theorem zMf_r {M : Nat → Nat → Int32} : zMf M M := fun _ _ _ => rfl
theorem uWF_K {A : Nat → Nat → Int32} {N : Nat → Int32} (h : zK A N) : uWF A := by
  obtain ⟨n, mk, s, hI, -, -⟩ := h
  have n21 := zI_n hI
  exact ⟨n, by omega, hI.2.1.1, fun k hk => by
    obtain ⟨⟨m, m1, m2, m3⟩, -⟩ := hI.2.1.2.2.2.1 k hk
    exact ⟨m, m1, by omega, m3⟩⟩
/-- what a call comes to: the same answer, and alike again -/
def zCi (X : xX) (j1 j2 : Nat) (as : List Value) (σ : Nat → Nat → Int32) : Prop := ∃ v σ1 σ2, xK X j1 (.ref 0 :: as) (xshM, σ) = some (some (.int v), (xshM, σ1)) ∧ xK X j2 (.ref 78 :: as) (xshM, σ1) = some (some (.int v), (xshM, σ2)) ∧ Rel σ2
def zCl (X : xX) (j1 j2 : Nat) (as : List Value) (σ : Nat → Nat → Int32) : Prop := ∃ v σ1 σ2, xK X j1 (.ref 0 :: as) (xshM, σ) = some (some (.long v), (xshM, σ1)) ∧ xK X j2 (.ref 78 :: as) (xshM, σ1) = some (some (.long v), (xshM, σ2)) ∧ Rel σ2
theorem mget (σ : Nat → Nat → Int32) : xput 8 σ 78 (xget σ 78) = σ := xput_get 8 σ 78
/-- wipe -/
theorem c_2 (X : xX) (σ : Nat → Nat → Int32) (h : Rel σ) : zCi X 92 133 [] σ := by
  obtain ⟨r1, ⟨n, ⟨p1, p2, p3⟩, p4⟩, r3, r5, r6⟩ := id h
  have q := k133 X xshM (xup σ 15 1 0) (xget (xup σ 15 1 0) 78) xmod_M
  rw [mget] at q
  have e : xget (xup σ 15 1 0) 78 0 4 = σ 15 1 := by
    unfold xget
    rw [xup_q (by omega), p4, p2]
  rw [e] at q
  refine ⟨σ 15 1, xup σ 15 1 0, _, k92 X xshM σ xkin_M, q, ?_⟩
  have hq : ∀ a b, ¬ (a = 15 ∧ b = 1) → ¬ (a = 78 ∧ b = 4) → xput 8 (xup σ 15 1 0) 78 (xup (xget (xup σ 15 1 0) 78) 0 4 0) a b = σ a b := by
    intro a b h1 h2
    unfold xput
    by_cases g : 78 ≤ a ∧ a < 78 + 8
    · rw [if_pos g, xup_q (by omega)]
      unfold xget
      rw [show 78 + (a - 78) = a by omega, xup_q (by omega)]
    · rw [if_neg g, xup_q (by omega)]
  obtain ⟨n2, s1, s2⟩ := r3
  refine ⟨zK_cb (fun a b hr => ?_) (fun k _ => hq 79 k (by omega) (by omega)) r1, ⟨0, ⟨by omega, ?_, fun k hk => by omega⟩, ?_⟩, ⟨n2, zSg_c ?_ (fun a k h1 h2 _ => ?_) (fun k _ => hq 81 k (by omega) (by omega)) s1, by rw [hq 78 2 (by omega) (by omega), s2]⟩, zIm_c (fun a b h1 h2 => hq a b (by omega) (by omega)) (fun b => hq 84 b (by omega) (by omega)) (fun b => hq 85 b (by omega) (by omega)) r5, zIm_c (fun a b h1 h2 => hq a b (by omega) (by omega)) (fun b => hq 84 b (by omega) (by omega)) (fun b => hq 85 b (by omega) (by omega)) r6⟩
  · unfold xget
    exact hq _ _ (by unfold rlv at hr; omega) (by unfold rlv at hr; omega)
  · unfold xput
    rw [if_neg (by omega), xup_same, nI_0]
  · unfold xput
    rw [if_pos (by omega), xup_same, nI_0]
  · unfold xget
    exact hq _ _ (by omega) (by omega)
  · unfold xget
    exact hq _ _ (by omega) (by omega)
/-- fault -/
theorem c_3 (X : xX) (σ : Nat → Nat → Int32) (h : Rel σ) : zCi X 93 134 [] σ := by
  obtain ⟨r1, ⟨n, hp, p4⟩, r3, r5, r6⟩ := id h
  have q := k134 X xshM σ (xget σ 78) xmod_M n p4 hp.1
  rw [mget] at q
  have e := ff_e (P := xget σ 78 4) hp 60 0 (by omega) (by have := hp.1; omega)
  rw [nI_0, Nat.sub_zero] at e
  rw [← e] at q
  exact ⟨vFF σ 60 0, σ, σ, k93 X xshM σ xkin_M, q, h⟩
/-- say -/
theorem c_1 (X : xX) (σ : Nat → Nat → Int32) (s : Int32) (h : Rel σ) : zCi X 91 132 [.int s] σ := by
  obtain ⟨r1, ⟨n, ⟨p1, p2, p3⟩, p4⟩, ⟨n2, s1, s2⟩, r5, r6⟩ := id h
  have x1 : xin (σ 15 1) 61 = true := by rw [p2, xin_nI (by omega)]; simp only [decide_eq_true_eq]; omega
  have q1 := k91 X xshM σ xkin_M s x1
  have tn := ti_nI (n := n) (by omega)
  have e78 : ∀ b, sSay σ s 78 b = σ 78 b := by
    intro b
    unfold sSay
    repeat' split
    all_goals first | rfl | rw [xup_q (by omega), xup_q (by omega)]
  have x2 : xin (xget (sSay σ s) 78 0 4) 61 = true := by
    show xin (sSay σ s (78 + 0) 4) 61 = true
    rw [e78, p4, xin_nI (by omega)]; simp only [decide_eq_true_eq]; omega
  have q2 := k132 X xshM (sSay σ s) (xget (sSay σ s) 78) xmod_M s x2
  rw [mget] at q2
  have e4 : xget (sSay σ s) 78 0 4 = nI n := by
    show sSay σ s (78 + 0) 4 = nI n
    rw [e78, p4]
  have eb : (decide (33 ≤ s) && decide (s ≤ 126)) = true ↔ ¬ s < 33 ∧ ¬ 126 < s := by
    rw [Bool.and_eq_true, decide_eq_true_eq, decide_eq_true_eq, Int32.not_lt, Int32.not_lt]
  have ea : dSay (xget (sSay σ s) 78) s = aSay σ s := by
    unfold dSay aSay
    rw [e4, p2]
    by_cases g1 : s < 33
    · rw [if_pos g1, if_neg (fun c => (eb.mp c).1 g1)]
    · rw [if_neg g1]
      by_cases g2 : 126 < s
      · rw [if_pos g2, if_neg (fun c => (eb.mp c).2 g2)]
      · rw [if_neg g2, if_pos (eb.mpr ⟨g1, g2⟩)]
        by_cases g3 : n = 60
        · rw [g3, if_pos (show nI 60 = 60 from rfl), if_neg (show ¬ nI 60 < 60 by decide)]
        · rw [if_neg (fun c => g3 (by rw [ti_e, tn, q_60] at c; omega)), if_pos (by rw [ti_lt, tn, q_60]; omega)]
  rw [ea] at q2
  refine ⟨aSay σ s, sSay σ s, _, q1, q2, ?_⟩
  by_cases g : (¬ s < 33 ∧ ¬ 126 < s) ∧ n < 60
  · have es : sSay σ s = xup (xup σ 16 n s) 15 1 (nI (n + 1)) := by
      unfold sSay
      rw [if_neg g.1.1, if_neg g.1.2, p2, if_pos (by rw [ti_lt, tn, q_60]; omega), nI_cl (by omega), nI_1]
    have et : tSay (xget (sSay σ s) 78) s = xup (xup (xget (sSay σ s) 78) 4 n s) 0 4 (nI (n + 1)) := by
      unfold tSay
      rw [e4, if_pos (eb.mpr g.1), if_neg (fun c => by rw [ti_e, tn, q_60] at c; omega), nI_cl (by omega), nI_1]
    rw [et, es]
    have hq : ∀ a b, ¬ (a = 15 ∧ b = 1) → ¬ (a = 78 ∧ b = 4) → ¬ (a = 16 ∧ b = n) → ¬ (a = 82 ∧ b = n) → xput 8 (xup (xup σ 16 n s) 15 1 (nI (n + 1))) 78 (xup (xup (xget (xup (xup σ 16 n s) 15 1 (nI (n + 1))) 78) 4 n s) 0 4 (nI (n + 1))) a b = σ a b := by
      intro a b h1 h2 h3 h4
      unfold xput
      by_cases g : 78 ≤ a ∧ a < 78 + 8
      · rw [if_pos g, xup_q (by omega), xup_q (by omega)]
        unfold xget
        rw [show 78 + (a - 78) = a by omega, xup_q (by omega), xup_q (by omega)]
      · rw [if_neg g, xup_q (by omega), xup_q (by omega)]
    refine ⟨zK_cb (fun a b hr => ?_) (fun k _ => hq 79 k (by omega) (by omega) (by omega) (by omega)) r1, ⟨n + 1, ⟨by omega, ?_, fun k hk => ?_⟩, ?_⟩, ⟨n2, zSg_c ?_ (fun a k h1 h2 _ => ?_) (fun k _ => hq 81 k (by omega) (by omega) (by omega) (by omega)) s1, by rw [hq 78 2 (by omega) (by omega) (by omega) (by omega), s2]⟩, zIm_c (fun a b h1 h2 => hq a b (by omega) (by omega) (by omega) (by omega)) (fun b => hq 84 b (by omega) (by omega) (by omega) (by omega)) (fun b => hq 85 b (by omega) (by omega) (by omega) (by omega)) r5, zIm_c (fun a b h1 h2 => hq a b (by omega) (by omega) (by omega) (by omega)) (fun b => hq 84 b (by omega) (by omega) (by omega) (by omega)) (fun b => hq 85 b (by omega) (by omega) (by omega) (by omega)) r6⟩
    · unfold xget
      exact hq _ _ (by unfold rlv at hr; omega) (by unfold rlv at hr; omega) (by unfold rlv at hr; omega) (by unfold rlv at hr; omega)
    · unfold xput
      rw [if_neg (by omega), xup_same]
    · by_cases e : k = n
      · subst e
        unfold xput
        rw [if_neg (by omega), xup_q (by omega), xup_same, if_pos (by omega), xup_q (by omega), xup_same]
      · rw [hq 16 k (by omega) (by omega) (by omega) (by omega), hq 82 k (by omega) (by omega) (by omega) (by omega)]
        exact p3 k (by omega)
    · unfold xput
      rw [if_pos (by omega), xup_same]
    · unfold xget
      exact hq _ _ (by omega) (by omega) (by omega) (by omega)
    · unfold xget
      exact hq _ _ (by omega) (by omega) (by omega) (by omega)
  · have es : sSay σ s = σ := by
      unfold sSay
      by_cases g1 : s < 33
      · rw [if_pos g1]
      · rw [if_neg g1]
        by_cases g2 : 126 < s
        · rw [if_pos g2]
        · rw [if_neg g2, p2, if_neg (by rw [ti_lt, tn, q_60]; intro c; exact g ⟨⟨g1, g2⟩, by omega⟩)]
    have et : tSay (xget (sSay σ s) 78) s = xget (sSay σ s) 78 := by
      unfold tSay
      rw [e4]
      by_cases g1 : (decide (33 ≤ s) && decide (s ≤ 126)) = true
      · have n60 : n = 60 := by
          exact Classical.byContradiction fun c => g ⟨eb.mp g1, by omega⟩
        rw [if_pos g1, n60, if_pos (show nI 60 = 60 from rfl)]
      · rw [if_neg g1]
    rw [et, mget, es]
    exact h
