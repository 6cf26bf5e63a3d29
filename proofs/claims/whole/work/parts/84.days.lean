theorem hin_pos {A : Nat → Nat → Int32} {d r o : Int32} : uHin A d r o = 0 ∨ 0 < uHin A d r o := by
  unfold uHin uPH uSwH
  repeat' split
  all_goals first | exact Or.inl rfl | exact Or.inr (by decide)
theorem zT_r {A M M' : Nat → Nat → Int32} {e : Nat} (h0 : ∀ b, 6 ≤ b → b ≤ 10 → M' 0 b = M 0 b) (h : zT A M e) : zT A M' e := by
  obtain ⟨t1, t2, t3, t4, t5, t6, t7, t8⟩ := h
  exact ⟨by rw [h0 6 (by omega) (by omega), t1], by rw [h0 7 (by omega) (by omega), t2], by rw [h0 8 (by omega) (by omega), t3], by rw [h0 9 (by omega) (by omega), t4], by rw [h0 10 (by omega) (by omega), t5], t6, t7, t8⟩
theorem zA_r {A M M' : Nat → Nat → Int32} {s e : Nat} (h2 : ∀ k, M' 2 k = M 2 k) (h0 : ∀ b, 6 ≤ b → b ≤ 10 → M' 0 b = M 0 b) (h : zA A M s e) : zA A M' s e := by
  obtain ⟨⟨n, mk, hI, hKv⟩, hV, hT⟩ := h
  have e2 : M' 2 = M 2 := funext h2
  refine ⟨⟨n, mk, ?_, hKv⟩, hV, zT_r h0 hT⟩
  unfold zI at hI ⊢
  rw [e2]
  exact hI
/-- frames that an act of the reference keeps -/
def zFr (M M' : Nat → Nat → Int32) : Prop := ∀ a b, ¬ a = 2 → (a = 0 → b < 6 ∨ 12 < b) → M' a b = M a b
/-- one act of the text: the reference's oneAct, and the class's -/
theorem one_sim (X : xX) (sh : List (Nat × Nat × List Value)) (σ τ A M : Nat → Nat → Int32) (hm : xmod sh) {n k s e act : Nat} (hp : zPd τ (M 4) n) (hk : k < n) (ha : act < 1000) (hact : M 0 12 = nI act) (he : e < 10000000) (h : zA A M s e) (hok : rFo (M 4) n (n - k) k 0 = -6) :
    ∃ M1 s' e' L, xK X 139 [.ref 78, .int (nI k)] (sh, xput 8 σ 78 M) = some (some (.int (uHin A (vDeed τ (nI k)) (vSign τ (nI k) - 97) (vSign τ (nI k + 2) - 97))), (sh, xput 8 σ 78 M1)) ∧ (uHin A (vDeed τ (nI k)) (vSign τ (nI k) - 97) (vSign τ (nI k + 2) - 97) = 0 → zA (uPerf A (nI act) (vDeed τ (nI k)) (vSign τ (nI k) - 97) (vSign τ (nI k + 2) - 97)) M1 s' e') ∧ e' ≤ e + 1000 ∧ (∀ a b, ¬ a = 2 → (a = 0 → b < 6 ∨ 10 < b) → M1 a b = M a b) ∧ vLen τ (nI k) = nI L ∧ rFo (M 4) n (n - (k + L)) (k + L) 0 = -6 ∧ k + L ≤ n ∧ ((L = 1 ∧ M 4 k = 46) ∨ (L = 2 ∧ k + 1 < n ∧ ¬ M 4 k = 46 ∧ ¬ M 4 (k + 1) = 37) ∨ (L = 3 ∧ k + 1 < n ∧ ¬ M 4 k = 46 ∧ M 4 (k + 1) = 37)) := by
  have n60 := hp.1
  have s0 := sign_lo hp (k := k) hk
  rcases fo_act (P := M 4) n60 hk with ⟨a1, a2⟩ | ⟨a1, a2, a3⟩ | ⟨a1, a2, a3⟩ | ⟨a1, a2, a3⟩
  · have dd : vDeed τ (nI k) = 46 := by unfold vDeed; rw [s0, if_pos a1]
    have eN : vLen τ (nI k) = nI 1 := by unfold vLen; rw [dd, if_neg (by decide), if_pos (by decide)]; rfl
    rw [dd]
    have eP : ∀ r o, uPerf A (nI act) 46 r o = uPerf A (nI act) 46 0 0 := by
      intro r o
      unfold uPerf
      rw [if_pos rfl, if_pos rfl]
    have eH : ∀ r o, uHin A 46 r o = (if A 0 8 < 99 then 0 else 7) := by
      intro r o
      unfold uHin
      rw [if_pos rfl]
    rw [eP, eH]
    have e08 := h.2.1.2.1
    have s99 := h.2.1.1
    have ts := ti_nI (n := s) (by omega)
    rcases sec_sim X sh σ A M hm (act := nI act) (nI_nn ha) he h with ⟨g1, g2⟩ | ⟨g1, M1, e', g2, g3, g4, g5⟩
    · rw [if_neg (by rw [e08, ti_lt, ts, q_99]; omega)]
      exact ⟨M, s, e, 1, a139 X sh σ M hm k (by omega) _ _ (nI act) a1 hact g2, fun c => absurd c (by decide), by omega, fun _ _ _ _ => rfl, eN, by rw [← a2, hok], by omega, Or.inl ⟨rfl, a1⟩⟩
    · rw [if_pos (by rw [e08, ti_lt, ts, q_99]; omega)]
      exact ⟨M1, s + 1, e', 1, a139 X sh σ M hm k (by omega) _ _ (nI act) a1 hact g2, fun _ => g4, g3, g5, eN, by rw [← a2, hok], by omega, Or.inl ⟨rfl, a1⟩⟩
  · rw [a3] at hok
    exact absurd hok (nI_n6 (by omega))
  · rw [a3] at hok
    exact absurd hok (nI_n6 (by omega))
  · have s1 := sign_lo hp (k := k + 1) a2
    have n46 := let_46 a1
    have dd : vDeed τ (nI k) = M 4 (k + 1) := by unfold vDeed; rw [s0, if_neg n46, nI_1, s1]
    obtain ⟨i, hi, ei⟩ := let_of a1
    rw [dd, s0, ei, nI_2]
    rcases a3 with ⟨b1, b2⟩ | ⟨b1, b2, b3⟩ | ⟨b1, b2, b3, b4⟩ | ⟨b1, b2, b3, b4⟩ | ⟨b1, b2⟩
    · have eN : vLen τ (nI k) = nI 2 := by
        unfold vLen
        rw [dd, if_neg (by rcases b1 with b | b | b | b <;> rw [b] <;> decide), if_neg (by rcases b1 with b | b | b | b <;> rw [b] <;> decide)]
        rfl
      have h37 : ¬ M 4 (k + 1) = 37 := by
        intro c
        rw [c] at b1
        exact absurd b1 (by decide)
      rcases b1 with b | b | b | b
      · rw [b]
        obtain ⟨c1, c2, c3⟩ := bend_sim (d := 43) (y := 1) (act := nI act) (o := vSign τ (nI (k + 2)) - 97) h hi (Or.inl ⟨rfl, rfl⟩)
        have q := k143 X sh σ M hm i hi 1
        rw [c1] at q
        exact ⟨_, s, e, 2, b139_43 X sh σ M hm k (by omega) _ _ i _ rfl n46 ei b q, c2, by omega, fun a b h3 _ => tBd_rw h3, eN, by rw [← b2, hok], by omega, Or.inr (Or.inl ⟨rfl, a2, n46, by decide⟩)⟩
      · rw [b]
        obtain ⟨c1, c2, c3⟩ := bend_sim (d := 45) (y := -1) (act := nI act) (o := vSign τ (nI (k + 2)) - 97) h hi (Or.inr ⟨rfl, rfl⟩)
        have q := k143 X sh σ M hm i hi (-1)
        rw [c1] at q
        exact ⟨_, s, e, 2, b139_45 X sh σ M hm k (by omega) _ _ i _ rfl n46 ei b q, c2, by omega, fun a b h3 _ => tBd_rw h3, eN, by rw [← b2, hok], by omega, Or.inr (Or.inl ⟨rfl, a2, n46, by decide⟩)⟩
      · rw [b]
        obtain ⟨c1, c2, c3⟩ := out_sim (d := 33) (t := true) (act := nI act) (o := vSign τ (nI (k + 2)) - 97) h hi (Or.inl ⟨rfl, rfl⟩)
        have q := k144 X sh σ M hm i hi true
        rw [c1, xi_t] at q
        exact ⟨_, s, e, 2, b139_33 X sh σ M hm k (by omega) _ _ i _ rfl n46 ei b q, c2, by omega, fun a b h3 _ => tGo_rw h3, eN, by rw [← b2, hok], by omega, Or.inr (Or.inl ⟨rfl, a2, n46, by decide⟩)⟩
      · rw [b]
        obtain ⟨c1, c2, c3⟩ := out_sim (d := 35) (t := false) (act := nI act) (o := vSign τ (nI (k + 2)) - 97) h hi (Or.inr ⟨rfl, rfl⟩)
        have q := k144 X sh σ M hm i hi false
        rw [c1, xi_f] at q
        exact ⟨_, s, e, 2, b139_35 X sh σ M hm k (by omega) _ _ i _ rfl n46 ei b q, c2, by omega, fun a b h3 _ => tGo_rw h3, eN, by rw [← b2, hok], by omega, Or.inr (Or.inl ⟨rfl, a2, n46, by decide⟩)⟩
    · rw [b3] at hok
      exact absurd hok (nI_n6 (by omega))
    · have eN : vLen τ (nI k) = nI 3 := by
        unfold vLen
        rw [dd, b1, if_pos q_37]
        rfl
      have s2 := sign_lo hp (k := k + 2) b2
      obtain ⟨j, hj, ej⟩ := let_of b3
      rw [b1, s2, ej]
      obtain ⟨c1, c2, c3⟩ := exch_sim (act := nI act) h hi hj
      have q := k145 X sh σ M hm i j hi hj
      rw [c1] at q
      exact ⟨_, s, e, 3, b139_37 X sh σ M hm k (by omega) _ _ i j _ _ rfl n46 ei b1 rfl ej q, c2, by omega, fun a b h3 _ => tEx_rw h3, eN, by rw [← b4, hok], by omega, Or.inr (Or.inr ⟨rfl, a2, n46, rfl⟩)⟩
    · rw [b4] at hok
      exact absurd hok (nI_n6 (by omega))
    · rw [b2] at hok
      exact absurd hok (nI_n6 (by omega))
/-- the whole text: the reference's goDays, and the class's play -/
theorem days_sim (X : xX) (sh : List (Nat × Nat × List Value)) (σ τ : Nat → Nat → Int32) (hm : xmod sh) {n : Nat} : ∀ f A M k s e act, zPd τ (M 4) n → M 0 4 = nI n → k ≤ n → n - k ≤ f → act + (n - k) < 1000 → M 0 12 = nI act → e + 1000 * (n - k) < 10000000 → zA A M s e → rFo (M 4) n (n - k) k 0 = -6 →
    ∃ M', zFr M M' ∧ (((uPl τ f (nI k) act A).1 = 1 ∧ (uPl τ f (nI k) act A).2.2.1 = -6 ∧ (uPl τ f (nI k) act A).2.2.2.1 = -6 ∧ xV X 138 (11, [.ref 78, .int (nI k)], [], (sh, xput 8 σ 78 M)) = some (some (.int (-6)), (sh, xput 8 σ 78 M')) ∧ M' 0 12 = nI (uPl τ f (nI k) act A).2.1 ∧ ∃ s' e', zA (uPl τ f (nI k) act A).2.2.2.2 M' s' e') ∨
      ((uPl τ f (nI k) act A).1 = 0 ∧ (uPl τ f (nI k) act A).2.1 < 1000 ∧ (uPl τ f (nI k) act A).2.2.1 = nI (uPl τ f (nI k) act A).2.1 ∧ xV X 138 (11, [.ref 78, .int (nI k)], [], (sh, xput 8 σ 78 M)) = some (some (.int (nI (uPl τ f (nI k) act A).2.1)), (sh, xput 8 σ 78 M')) ∧ M' 0 11 = (uPl τ f (nI k) act A).2.2.2.1))
  | 0, A, M, k, s, e, act, hp, h4, hk, hf, ha, hact, he, h, hok => by
    have n60 := hp.1
    refine ⟨M, fun _ _ _ _ => rfl, Or.inl ⟨rfl, rfl, rfl, x138 X sh σ M hm n k h4 (by omega) (by omega), hact, s, e, h⟩⟩
  | f + 1, A, M, k, s, e, act, hp, h4, hk, hf, ha, hact, he, h, hok => by
    have n60 := hp.1
    by_cases hkn : k = n
    · have eP : uPl τ (f + 1) (nI k) act A = (1, act, -6, -6, A) := by
        rw [uPl, hp.2.1, if_neg (nI_ngt (by omega) (by omega))]
      rw [eP]
      exact ⟨M, fun _ _ _ _ => rfl, Or.inl ⟨rfl, rfl, rfl, x138 X sh σ M hm n k h4 (by omega) (by omega), hact, s, e, h⟩⟩
    · obtain ⟨M1, s', e', L, q, hz, he', hfr, eN, hok', hkL, hL⟩ := one_sim X sh σ τ A M hm hp (show k < n by omega) (by omega) hact (by omega) h hok
      have hL1 : 1 ≤ L ∧ L ≤ 3 := by
        rcases hL with ⟨l, -⟩ | ⟨l, -⟩ | ⟨l, -⟩ <;> omega
      generalize hans : uHin A (vDeed τ (nI k)) (vSign τ (nI k) - 97) (vSign τ (nI k + 2) - 97) = ans at *
      have e12 : xup M1 0 11 ans 0 12 = nI act := by rw [xup_q (by omega), hfr 0 12 (by omega) (by omega), hact]
      have e4 : ∀ b, xup M1 0 11 ans 4 b = M 4 b := fun b => by rw [xup_q (by omega), hfr 4 b (by omega) (by omega)]
      have eit : xV X 138 (11, [.ref 78, .int (nI k)], [], (sh, xput 8 σ 78 M)) = (if 0 < ans then some (some (.int (nI act)), (sh, xput 8 σ 78 (xup M1 0 11 ans))) else xV X 138 (11, [.ref 78, .int (nI (k + L))], [], (sh, xput 8 σ 78 (xup (xup M1 0 11 ans) 0 12 (nI act + 1))))) := by
        rcases hL with ⟨l, g⟩ | ⟨l, g1, g2, g3⟩ | ⟨l, g1, g2, g3⟩
        · subst l
          exact i138_1 X sh σ M hm M1 _ _ n k h4 (by omega) n60 ans (nI act) q rfl e12 xup_same rfl (by rw [e4, g])
        · subst l
          exact i138_2 X sh σ M hm M1 _ _ n k h4 (by omega) n60 ans (nI act) q rfl e12 xup_same rfl _ _ (by omega) (e4 k) g2 (e4 (k + 1)) g3
        · subst l
          exact i138_3 X sh σ M hm M1 _ _ n k h4 (by omega) n60 ans (nI act) q rfl e12 xup_same rfl _ (by omega) (e4 k) g2 (by rw [e4, g3])
      have eP : uPl τ (f + 1) (nI k) act A = (if ans = 0 then uPl τ f (nI (k + L)) (act + 1) (uPerf A (nI act) (vDeed τ (nI k)) (vSign τ (nI k) - 97) (vSign τ (nI k + 2) - 97)) else (0, act, nI act, ans, A)) := by
        rw [uPl, hp.2.1, if_pos (nI_lts (by omega) (by omega)), hans, eN, nI_ad]
      rw [eP, eit]
      by_cases g : ans = 0
      · rw [if_pos g, if_neg (by rw [g]; decide), nI_1]
        generalize hM2 : xup (xup M1 0 11 ans) 0 12 (nI (act + 1)) = M2
        have q4 : M2 4 = M 4 := by
          funext b
          rw [← hM2, xup_q (by omega), e4]
        have q04 : M2 0 4 = nI n := by rw [← hM2, xup_q (by omega), xup_q (by omega), hfr 0 4 (by omega) (by omega), h4]
        have q12 : M2 0 12 = nI (act + 1) := by rw [← hM2, xup_same]
        have hA2 := zA_r (M' := M2) (fun b => by rw [← hM2, xup_q (by omega), xup_q (by omega)]) (fun b h1 h2 => by rw [← hM2, xup_q (by omega), xup_q (by omega)]) (hz g)
        obtain ⟨M', r1, r2⟩ := days_sim X sh σ τ hm f _ M2 (k + L) s' e' (act + 1) (by rw [q4]; exact hp) q04 hkL (by omega) (by omega) q12 (by omega) hA2 (by rw [q4]; exact hok')
        refine ⟨M', fun a b h1 h2 => ?_, r2⟩
        rw [r1 a b h1 h2, ← hM2, xup_q (by omega), xup_q (by omega), hfr a b h1 (by omega)]
      · have gp : 0 < ans := by
          rcases hin_pos (A := A) (d := vDeed τ (nI k)) (r := vSign τ (nI k) - 97) (o := vSign τ (nI k + 2) - 97) with c | c
          · rw [hans] at c
            exact absurd c g
          · rw [hans] at c
            exact c
        rw [if_neg g, if_pos gp]
        refine ⟨xup M1 0 11 ans, fun a b h1 h2 => ?_, Or.inr ⟨rfl, (show act < 1000 by omega), rfl, rfl, xup_same⟩⟩
        rw [xup_q (by omega), hfr a b h1 (by omega)]
