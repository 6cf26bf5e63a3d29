theorem zIm_d {σ σ' : Nat → Nat → Int32} {m c off : Nat} (hm : ∀ a b, m ≤ a → a < m + 19 → σ' a b = σ a b) (h84 : ∀ b, off ≤ b → b < off + 360 → σ' 84 b = σ 84 b) (h85 : σ' 85 c = σ 85 c) (h : zIm σ m c off) : zIm σ' m c off := by
  obtain ⟨a1, a2, a3⟩ := h
  have e2 : σ' m 2 = σ m 2 := hm m 2 (by omega) (by omega)
  refine ⟨by rw [e2, h85, a1], by rw [e2]; exact a2, fun c1 => ?_⟩
  rw [e2] at c1
  obtain ⟨b1, n, b2, b3⟩ := a3 c1
  refine ⟨zK_cb (fun a b hr => ?_) (fun k _ => h84 _ (by omega) (by omega)) b1, n, zSg_c ?_ (fun a k h1 h2 _ => ?_) (fun k _ => h84 _ (by omega) (by omega)) b2, by rw [h84 _ (by omega) (by omega), b3]⟩
  · exact hm _ _ (by omega) (by unfold rlv at hr; omega)
  · exact hm _ _ (by omega) (by omega)
  · exact hm _ _ (by omega) (by omega)
theorem vCp_0 {T U : Nat → Nat → Int32} : vCp T U 0 3 = U 0 3 := by
  unfold vCp
  rw [if_pos (by omega)]
theorem vCp_1 {T U : Nat → Nat → Int32} {a k : Nat} (h1 : 1 ≤ a) (h2 : a ≤ 3) (hk : k < 8) : vCp T U a k = U a k := by
  unfold vCp
  rw [if_pos (by omega)]
/-- an image is kept: the class's cells -/
theorem keep_c {σ : Nat → Nat → Int32} {m : Nat} (hm : 40 ≤ m) : (∀ a b, (a < m ∨ m + 19 ≤ a) → uKeep σ m a b = σ a b) ∧ uKeep σ m m 2 = 1 ∧ (∀ a b, rlv a b → uKeep σ m (m + 1 + a) b = σ (1 + a) b) ∧ (uKeep σ m (m + 15 + 0) 3 = σ (17 + 0) 3) ∧ ∀ a k, 1 ≤ a → a ≤ 3 → k < 8 → uKeep σ m (m + 15 + a) k = σ (17 + a) k := by
  unfold uKeep uKp2 uKp1
  refine ⟨fun a b h => ?_, xup_same, fun a b h => ?_, ?_, fun a k h1 h2 h3 => ?_⟩
  · rw [xup_q (by omega)]
    unfold xput
    rw [if_neg (by omega), if_neg (by omega)]
  · have ha : a < 14 := by unfold rlv at h; omega
    rw [xup_q (by omega)]
    unfold xput
    rw [if_neg (by omega), if_pos (by omega), show m + 1 + a - (m + 1) = a by omega, cpy_r a b h]
    rfl
  · rw [xup_q (by omega)]
    unfold xput
    rw [if_pos (by omega), show m + 15 + 0 - (m + 15) = 0 by omega, vCp_0]
    show xput 14 σ (m + 1) _ (17 + 0) 3 = σ (17 + 0) 3
    unfold xput
    rw [if_neg (by omega)]
  · rw [xup_q (by omega)]
    unfold xput
    rw [if_pos (by omega), show m + 15 + a - (m + 15) = a by omega, vCp_1 h1 h2 h3]
    show xput 14 σ (m + 1) _ (17 + a) k = σ (17 + a) k
    unfold xput
    rw [if_neg (by omega)]
/-- an image is kept: the reference's cells -/
theorem keep_m {M : Nat → Nat → Int32} {n t : Nat} : (∀ k, k < 331 → rIm M n t 6 (t + k) = M 1 k) ∧ (∀ k, k < 24 → rIm M n t 6 (t + 331 + k) = M 3 k) ∧ rIm M n t 6 (t + 358) = M 0 2 ∧ rIm M n t 7 n = 1 ∧ (∀ b, (b < t ∨ t + 360 ≤ b) → rIm M n t 6 b = M 6 b) ∧ (∀ b, ¬ b = n → rIm M n t 7 b = M 7 b) ∧ ∀ a b, ¬ a = 6 → ¬ a = 7 → rIm M n t a b = M a b := by
  unfold rIm
  refine ⟨fun k hk => ?_, fun k hk => ?_, ?_, xup_same, fun b hb => ?_, fun b hb => ?_, fun a b h1 h2 => ?_⟩
  · rw [xup_q (by omega), xup_q (by omega)]
    unfold rCO
    rw [if_neg (by omega), if_pos (by omega), show t + k - t = k by omega]
  · rw [xup_q (by omega), xup_q (by omega)]
    unfold rCO
    rw [if_pos (by omega), show t + 331 + k - (t + 331) = k by omega, if_neg (by omega)]
  · rw [xup_q (by omega), xup_same]
  · rw [xup_q (by omega), xup_q (by omega)]
    unfold rCO
    rw [if_neg (by omega), if_neg (by omega)]
  · rw [xup_q (by omega), xup_q (by omega)]
    unfold rCO
    rw [if_neg (by omega), if_neg (by omega)]
  · rw [xup_q (by omega), xup_q (by omega)]
    unfold rCO
    rw [if_neg (by omega), if_neg (by omega)]
theorem keep_R {σ : Nat → Nat → Int32} (h : Rel σ) {m c off m' c' off' : Nat} (h1 : (m = 40 ∧ c = 0 ∧ off = 0 ∧ m' = 59 ∧ c' = 1 ∧ off' = 360) ∨ (m = 59 ∧ c = 1 ∧ off = 360 ∧ m' = 40 ∧ c' = 0 ∧ off' = 0)) : let τ := xput 8 (uKeep σ m) 78 (rIm (xget (uKeep σ m) 78) c off); zK (xget τ 1) (τ 79) ∧ (∃ n, zPd τ (τ 82) n ∧ τ 78 4 = nI n) ∧ (∃ n, zSg (xget τ 17) n (τ 81) ∧ τ 78 2 = nI n) ∧ zIm τ m c off ∧ (zIm σ m' c' off' → zIm τ m' c' off') := by
  intro τ
  obtain ⟨r1, ⟨n, ⟨p1, p2, p3⟩, p4⟩, ⟨n2, s1, s2⟩, r5, r6⟩ := id h
  obtain ⟨c1, c2, c3, c4, c5⟩ := keep_c (σ := σ) (m := m) (by omega)
  obtain ⟨d1, d2, d3, d4, d5, d6, d7⟩ := keep_m (M := xget (uKeep σ m) 78) (n := c) (t := off)
  have hm78 : ∀ a b, xget (uKeep σ m) 78 a b = σ (78 + a) b := fun a b => c1 (78 + a) b (by omega)
  have t1 : ∀ a b, a < 78 → τ a b = uKeep σ m a b := by
    intro a b ha
    show xput 8 (uKeep σ m) 78 _ a b = _
    unfold xput
    rw [if_neg (by omega)]
  have t2 : ∀ a b, a < 8 → τ (78 + a) b = rIm (xget (uKeep σ m) 78) c off a b := by
    intro a b ha
    show xput 8 (uKeep σ m) 78 _ (78 + a) b = _
    exact xput_at ha
  have hq : ∀ a b, (a < 40 ∨ (m' ≤ a ∧ a < m' + 19)) → τ a b = σ a b := fun a b hab => by rw [t1 a b (by omega), c1 a b (by omega)]
  have hq2 : ∀ a b, a < 8 → ¬ a = 6 → ¬ a = 7 → τ (78 + a) b = σ (78 + a) b := fun a b h1 h2 h3 => by rw [t2 a b h1, d7 a b h2 h3, hm78]
  refine ⟨zK_cb (fun a b hr => hq (1 + a) b (by unfold rlv at hr; omega)) (fun k _ => hq2 1 k (by omega) (by omega) (by omega)) r1, ⟨n, ⟨p1, by rw [hq 15 1 (by omega), p2], fun k hk => ?_⟩, ?_⟩, ⟨n2, zSg_c (T := xget σ 17) (S := σ 81) (hq (17 + 0) 3 (by omega)) (fun a k h1 h2 _ => hq (17 + a) k (by omega)) (fun k _ => hq2 3 k (by omega) (by omega) (by omega)) s1, ?_⟩, ?_, fun hz => ?_⟩
  · rw [hq 16 k (by omega)]
    have e := hq2 4 k (by omega) (by omega) (by omega)
    rw [show 78 + 4 = 82 from rfl] at e
    rw [e]
    exact p3 k hk
  · have e := hq2 0 4 (by omega) (by omega) (by omega)
    rw [show 78 + 0 = 78 from rfl] at e
    rw [e, p4]
  · have e := hq2 0 2 (by omega) (by omega) (by omega)
    rw [show 78 + 0 = 78 from rfl] at e
    rw [e, s2]
  · have e85 : τ 85 c = 1 := by
      have e := t2 7 c (by omega)
      rw [show 78 + 7 = 85 from rfl] at e
      rw [e, d4]
    have em : τ m 2 = 1 := by rw [t1 m 2 (by omega), c2]
    have e84 : ∀ b, τ 84 b = rIm (xget (uKeep σ m) 78) c off 6 b := fun b => t2 6 b (by omega)
    refine ⟨by rw [em, e85], Or.inr em, fun _ => ⟨zK_cb (fun a b hr => ?_) (fun k hk => ?_) r1, n2, zSg_c ?_ (fun a k h1 h2 h3 => ?_) (fun k hk => ?_) s1, ?_⟩⟩
    · show τ (m + 1 + a) b = σ (1 + a) b
      rw [t1 _ _ (by unfold rlv at hr; omega), c3 a b hr]
    · show τ 84 (off + k) = σ 79 k
      rw [e84, d1 k hk, hm78]
    · show τ (m + 15 + 0) 3 = σ (17 + 0) 3
      rw [t1 _ _ (by omega), c4]
    · show τ (m + 15 + a) k = σ (17 + a) k
      rw [t1 _ _ (by omega), c5 a k h1 h2 h3]
    · show τ 84 (off + 331 + k) = σ 81 k
      rw [e84, d2 k hk, hm78]
    · rw [e84, d3, hm78]
      exact s2
  · refine zIm_d (fun a b h1 h2 => hq a b (by omega)) (fun b h1 h2 => ?_) ?_ hz
    · have e := t2 6 b (by omega)
      rw [show 78 + 6 = 84 from rfl] at e
      rw [e, d5 b (by omega), hm78]
    · have e := t2 7 c' (by omega)
      rw [show 78 + 7 = 85 from rfl] at e
      rw [e, d6 c' (by omega), hm78]
/-- image -/
theorem c_22 (X : xX) (σ : Nat → Nat → Int32) (w : Int32) (h : Rel σ) : zCi X 115 178 [.int w] σ := by
  have k1 := k115 X xshM σ xkin_M w
  by_cases g0 : w = 0
  · subst g0
    have es : sImg σ 0 = uKeep σ 40 := by unfold sImg; rw [if_pos rfl]
    rw [es, if_pos (Or.inl rfl)] at k1
    have q := k178_0 X xshM (uKeep σ 40) (xget (uKeep σ 40) 78) xmod_M
    rw [mget] at q
    obtain ⟨a1, a2, a3, a4, a5⟩ := keep_R h (Or.inl ⟨rfl, rfl, rfl, rfl, rfl, rfl⟩)
    exact ⟨_, _, _, k1, q, a1, a2, a3, a4, a5 h.2.2.2.2⟩
  · by_cases g1 : w = 1
    · subst g1
      have es : sImg σ 1 = uKeep σ 59 := by unfold sImg; rw [if_neg (by decide), if_pos rfl]
      rw [es, if_pos (Or.inr rfl)] at k1
      have q := k178_1 X xshM (uKeep σ 59) (xget (uKeep σ 59) 78) xmod_M
      rw [mget] at q
      obtain ⟨a1, a2, a3, a4, a5⟩ := keep_R h (Or.inr ⟨rfl, rfl, rfl, rfl, rfl, rfl⟩)
      exact ⟨_, _, _, k1, q, a1, a2, a3, a5 h.2.2.2.1, a4⟩
    · have es : sImg σ w = σ := by unfold sImg; rw [if_neg g0, if_neg g1]
      rw [es, if_neg (by
        intro c
        rcases c with c | c
        · exact g0 c
        · exact g1 c)] at k1
      have q := x178o X xshM σ (xget σ 78) xmod_M w (by
        rw [Bool.and_eq_false_iff, decide_eq_false_iff_not, decide_eq_false_iff_not, ti_le, ti_le, q_0, q_1]
        rw [ti_e, q_0] at g0
        rw [ti_e, q_1] at g1
        omega)
      rw [mget] at q
      exact ⟨_, _, _, k1, q, h⟩
/-- an image is given back: the class's cells -/
theorem give_c {σ : Nat → Nat → Int32} {m : Nat} (hm : 40 ≤ m) : (∀ a b, (15 ≤ a ∧ a < 17) ∨ 21 ≤ a → uGive σ m a b = σ a b) ∧ (∀ a b, rlv a b → uGive σ m (1 + a) b = σ (m + 1 + a) b) ∧ (uGive σ m (17 + 0) 3 = σ (m + 15 + 0) 3) ∧ ∀ a k, 1 ≤ a → a ≤ 3 → k < 8 → uGive σ m (17 + a) k = σ (m + 15 + a) k := by
  unfold uGive uGb2 uGb1
  refine ⟨fun a b h => ?_, fun a b h => ?_, ?_, fun a k h1 h2 h3 => ?_⟩
  · unfold xput
    rw [if_neg (by omega), if_neg (by omega)]
  · have ha : a < 14 := by unfold rlv at h; omega
    unfold xput
    rw [if_neg (by omega), if_pos (by omega), show 1 + a - 1 = a by omega, cpy_r a b h]
    rfl
  · unfold xput
    rw [if_pos (by omega), show 17 + 0 - 17 = 0 by omega, vCp_0]
    show xput 14 σ 1 _ (m + 15 + 0) 3 = σ (m + 15 + 0) 3
    unfold xput
    rw [if_neg (by omega)]
  · unfold xput
    rw [if_pos (by omega), show 17 + a - 17 = a by omega, vCp_1 h1 h2 h3]
    show xput 14 σ 1 _ (m + 15 + a) k = σ (m + 15 + a) k
    unfold xput
    rw [if_neg (by omega)]
theorem give_R {σ : Nat → Nat → Int32} (h : Rel σ) {m c off : Nat} (h1 : (m = 40 ∧ off = 0) ∨ (m = 59 ∧ off = 360)) (hz : zIm σ m c off) (hk : σ m 2 = 1) : Rel (xput 8 (uGive σ m) 78 (rRe (xget (uGive σ m) 78) off)) := by
  obtain ⟨r1, ⟨n, ⟨p1, p2, p3⟩, p4⟩, ⟨n2, s1, s2⟩, r5, r6⟩ := id h
  obtain ⟨c1, c3, c4, c5⟩ := give_c (σ := σ) (m := m) (by omega)
  obtain ⟨b1, n3, b2, b3⟩ := hz.2.2 hk
  have hm78 : ∀ a b, xget (uGive σ m) 78 a b = σ (78 + a) b := fun a b => c1 (78 + a) b (by omega)
  have e0 : ∀ b, ¬ b = 2 → rRe (xget (uGive σ m) 78) off 0 b = σ 78 b := by
    intro b hb
    unfold rRe
    rw [xup_q (by omega), rCI_r (by omega), rCI_r (by omega), hm78]
  have e02 : rRe (xget (uGive σ m) 78) off 0 2 = σ 84 (off + 358) := by
    unfold rRe
    rw [xup_same, hm78]
  have e1 : ∀ k, k < 331 → rRe (xget (uGive σ m) 78) off 1 k = σ 84 (off + k) := by
    intro k hk
    unfold rRe
    rw [xup_q (by omega), rCI_r (by omega)]
    unfold rCI
    rw [if_pos ⟨rfl, hk⟩, hm78]
  have e3 : ∀ k, k < 24 → rRe (xget (uGive σ m) 78) off 3 k = σ 84 (off + 331 + k) := by
    intro k hk
    unfold rRe
    rw [xup_q (by omega)]
    unfold rCI
    rw [if_pos ⟨rfl, hk⟩, if_neg (by omega), hm78]
  have eo : ∀ a b, ¬ a = 0 → ¬ a = 1 → ¬ a = 3 → rRe (xget (uGive σ m) 78) off a b = σ (78 + a) b := by
    intro a b x1 x2 x3
    unfold rRe
    rw [xup_q (by omega), rCI_r x3, rCI_r x2, hm78]
  generalize hτ : xput 8 (uGive σ m) 78 (rRe (xget (uGive σ m) 78) off) = τ
  have t1 : ∀ a b, a < 78 → τ a b = uGive σ m a b := by
    intro a b ha
    rw [← hτ]
    unfold xput
    rw [if_neg (by omega)]
  have t2 : ∀ a b, a < 8 → τ (78 + a) b = rRe (xget (uGive σ m) 78) off a b := by
    intro a b ha
    rw [← hτ]
    exact xput_at ha
  have hq : ∀ a b, ((15 ≤ a ∧ a < 17) ∨ 21 ≤ a) → a < 78 → τ a b = σ a b := fun a b h1 h2 => by rw [t1 a b h2, c1 a b h1]
  have h84 : ∀ b, τ 84 b = σ 84 b := fun b => by
    have e := t2 6 b (by omega)
    rw [show 78 + 6 = 84 from rfl] at e
    rw [e, eo 6 b (by omega) (by omega) (by omega)]
  have h85 : ∀ b, τ 85 b = σ 85 b := fun b => by
    have e := t2 7 b (by omega)
    rw [show 78 + 7 = 85 from rfl] at e
    rw [e, eo 7 b (by omega) (by omega) (by omega)]
  refine ⟨zK_cb (A := xget σ (m + 1)) (N := fun k => σ 84 (off + k)) (fun a b hr => ?_) (fun k hk => ?_) b1, ⟨n, ⟨p1, by rw [hq 15 1 (by omega) (by omega), p2], fun k hk => ?_⟩, ?_⟩, ⟨n3, zSg_c (T := xget σ (m + 15)) (S := fun k => σ 84 (off + 331 + k)) ?_ (fun a k h1 h2 h3 => ?_) (fun k hk => ?_) b2, ?_⟩, zIm_c (fun a b h1 h2 => hq a b (by omega) (by omega)) h84 h85 r5, zIm_c (fun a b h1 h2 => hq a b (by omega) (by omega)) h84 h85 r6⟩
  · show τ (1 + a) b = σ (m + 1 + a) b
    rw [t1 _ _ (by unfold rlv at hr; omega), c3 a b hr]
  · have e := t2 1 k (by omega)
    rw [show 78 + 1 = 79 from rfl] at e
    rw [e, e1 k hk]
  · have e := t2 4 k (by omega)
    rw [show 78 + 4 = 82 from rfl] at e
    rw [hq 16 k (by omega) (by omega), e, eo 4 k (by omega) (by omega) (by omega)]
    exact p3 k hk
  · have e := t2 0 4 (by omega)
    rw [show 78 + 0 = 78 from rfl] at e
    rw [e, e0 4 (by omega), p4]
  · show τ (17 + 0) 3 = σ (m + 15 + 0) 3
    rw [t1 _ _ (by omega), c4]
  · show τ (17 + a) k = σ (m + 15 + a) k
    rw [t1 _ _ (by omega), c5 a k h1 h2 h3]
  · have e := t2 3 k (by omega)
    rw [show 78 + 3 = 81 from rfl] at e
    rw [e, e3 k hk]
  · have e := t2 0 2 (by omega)
    rw [show 78 + 0 = 78 from rfl] at e
    rw [e, e02, b3]
/-- restore -/
theorem c_23 (X : xX) (σ : Nat → Nat → Int32) (w : Int32) (h : Rel σ) : zCi X 116 179 [.int w] σ := by
  have z0 := h.2.2.2.1
  have z1 := h.2.2.2.2
  have k1 := k116 X xshM σ xkin_M w z0.2.1 z1.2.1
  by_cases g0 : w = 0
  · subst g0
    by_cases g : σ 40 2 = 0
    · have es : sRes σ 0 = σ := by unfold sRes; rw [if_pos rfl, if_pos g]
      have ea : aRes σ 0 = -3 := by unfold aRes; rw [if_pos rfl, if_pos g]
      rw [es, ea] at k1
      have q := n179_0 X xshM σ (xget σ 78) xmod_M (by
        show σ 85 0 = 0
        rw [← z0.1, g])
      rw [mget] at q
      exact ⟨_, _, _, k1, q, h⟩
    · have g1 : σ 40 2 = 1 := z0.2.1.resolve_left g
      have es : sRes σ 0 = uGive σ 40 := by unfold sRes; rw [if_pos rfl, if_neg g]
      have ea : aRes σ 0 = 1 := by unfold aRes; rw [if_pos rfl, if_neg g]
      rw [es, ea] at k1
      have q := k179_0 X xshM (uGive σ 40) (xget (uGive σ 40) 78) xmod_M (by
        show ¬ uGive σ 40 (78 + 7) 0 = 0
        rw [(give_c (σ := σ) (m := 40) (by omega)).1 (78 + 7) 0 (by omega), show 78 + 7 = 85 from rfl, ← z0.1, g1]
        decide)
      rw [mget] at q
      exact ⟨_, _, _, k1, q, give_R h (Or.inl ⟨rfl, rfl⟩) z0 g1⟩
  · by_cases g1 : w = 1
    · subst g1
      by_cases g : σ 59 2 = 0
      · have es : sRes σ 1 = σ := by unfold sRes; rw [if_neg (by decide), if_pos rfl, if_pos g]
        have ea : aRes σ 1 = -3 := by unfold aRes; rw [if_neg (by decide), if_pos rfl, if_pos g]
        rw [es, ea] at k1
        have q := n179_1 X xshM σ (xget σ 78) xmod_M (by
          show σ 85 1 = 0
          rw [← z1.1, g])
        rw [mget] at q
        exact ⟨_, _, _, k1, q, h⟩
      · have g1 : σ 59 2 = 1 := z1.2.1.resolve_left g
        have es : sRes σ 1 = uGive σ 59 := by unfold sRes; rw [if_neg (by decide), if_pos rfl, if_neg g]
        have ea : aRes σ 1 = 1 := by unfold aRes; rw [if_neg (by decide), if_pos rfl, if_neg g]
        rw [es, ea] at k1
        have q := k179_1 X xshM (uGive σ 59) (xget (uGive σ 59) 78) xmod_M (by
          show ¬ uGive σ 59 (78 + 7) 1 = 0
          rw [(give_c (σ := σ) (m := 59) (by omega)).1 (78 + 7) 1 (by omega), show 78 + 7 = 85 from rfl, ← z1.1, g1]
          decide)
        rw [mget] at q
        exact ⟨_, _, _, k1, q, give_R h (Or.inr ⟨rfl, rfl⟩) z1 g1⟩
    · have es : sRes σ w = σ := by unfold sRes; rw [if_neg g0, if_neg g1]
      have ea : aRes σ w = -2 := by unfold aRes; rw [if_neg g0, if_neg g1]
      rw [es, ea] at k1
      have q := x179o X xshM σ (xget σ 78) xmod_M w (by
        rw [Bool.and_eq_false_iff, decide_eq_false_iff_not, decide_eq_false_iff_not, ti_le, ti_le, q_0, q_1]
        rw [ti_e, q_0] at g0
        rw [ti_e, q_1] at g1
        omega)
      rw [mget] at q
      exact ⟨_, _, _, k1, q, h⟩
