/-- r passes w, who wins match m -/
def zMp (A : Nat → Nat → Int32) (N : Nat → Int32) (m w r : Nat) : Prop := A 6 m = nI w ∧ w < 8 ∧ r < 8 ∧ rTo N m r = true ∧ (A 4 w).toInt < (A 4 r).toInt
/-- what is found among the matches above m -/
def zNx (A : Nat → Nat → Int32) (N : Nat → Int32) (m : Nat) (f fu fl : Int32) : Prop := (f = -6 ∧ ∀ m' w r, m < m' → m' < 8 → ¬ zMp A N m' w r) ∨ ∃ m0 w0 r0, m < m0 ∧ m0 < 8 ∧ f = nI m0 ∧ zMp A N m0 w0 r0 ∧ fu = A 3 w0 - A 3 r0 ∧ fl = A 4 r0 - A 4 w0 ∧ ∀ m' w r, m < m' → m' < 8 → zMp A N m' w r → zGp A w0 r0 * zGn A w r < zGp A w r * zGn A w0 r0 ∨ (zGp A w0 r0 * zGn A w r = zGp A w r * zGn A w0 r0 ∧ m' ≤ m0)
theorem nxt_s {A : Nat → Nat → Int32} {N : Nat → Int32} {m w r : Nat} {f fu fl : Int32} (hS : zS A) (hL : zL A) (m8 : m + 1 < 8) (h : zNx A N (m + 1) f fu fl) (hp : zMp A N (m + 1) w r) (hq : ∀ w' r', zMp A N (m + 1) w' r' → zGp A w r * zGn A w' r' ≤ zGp A w' r' * zGn A w r) (c : Bool) (hc : c = if f < 0 then true else decide ((A 3 w - A 3 r) * fl < fu * (A 4 r - A 4 w))) : zNx A N m (if c = true then nI (m + 1) else f) (if c = true then A 3 w - A 3 r else fu) (if c = true then A 4 r - A 4 w else fl) := by
  have gn : ∀ {m' w' r'}, zMp A N m' w' r' → 0 < zGn A w' r' := by
    intro m' w' r' q
    unfold zGn
    have := q.2.2.2.2
    omega
  rcases h with ⟨a1, a2⟩ | ⟨m0, w0, r0, b1, b2, b3, b4, b5, b6, b7⟩
  · rw [a1, if_pos m6_l] at hc
    rw [hc, if_pos rfl, if_pos rfl, if_pos rfl]
    refine Or.inr ⟨m + 1, w, r, by omega, m8, rfl, hp, rfl, rfl, fun m' w' r' h1 h2 h3 => ?_⟩
    by_cases e : m' = m + 1
    · subst e
      have := hq w' r' h3
      omega
    · exact absurd h3 (a2 m' w' r' (by omega) h2)
  · rw [b3, if_neg (nI_nn (j := m0) (by omega))] at hc
    obtain ⟨c1, c2, c3, c4, c5, c6⟩ := gp_b hS hL hp.2.1 hp.2.2.1
    obtain ⟨d1, d2, d3, d4, d5, d6⟩ := gp_b hS hL b4.2.1 b4.2.2.1
    have m1 := int_bm (x := zGp A w r) (c := 21800) (y := zGn A w0 r0) (d := 100) (by omega) (by omega) (by omega) (by omega) (by omega) (by omega)
    have m2 := int_bm (x := zGp A w0 r0) (c := 21800) (y := zGn A w r) (d := 100) (by omega) (by omega) (by omega) (by omega) (by omega) (by omega)
    have el : ((A 3 w - A 3 r) * fl < fu * (A 4 r - A 4 w)) ↔ zGp A w r * zGn A w0 r0 < zGp A w0 r0 * zGn A w r := by
      rw [b5, b6, ti_lt, ti_mul (by rw [c1, d2]; omega) (by rw [c1, d2]; omega), ti_mul (by rw [d1, c2]; omega) (by rw [d1, c2]; omega), c1, c2, d1, d2]
    by_cases g : zGp A w r * zGn A w0 r0 < zGp A w0 r0 * zGn A w r
    · rw [decide_eq_true (el.mpr g)] at hc
      rw [hc, if_pos rfl, if_pos rfl, if_pos rfl]
      refine Or.inr ⟨m + 1, w, r, by omega, m8, rfl, hp, rfl, rfl, fun m' w' r' h1 h2 h3 => ?_⟩
      by_cases e : m' = m + 1
      · subst e
        have := hq w' r' h3
        omega
      · have q := b7 m' w' r' (by omega) h2 h3
        exact Or.inl (int_trs (gn hp) (gn b4) (gn h3) g (by omega))
    · rw [decide_eq_false (fun q => g (el.mp q))] at hc
      rw [hc, if_neg (by decide), if_neg (by decide), if_neg (by decide)]
      refine Or.inr ⟨m0, w0, r0, by omega, b2, b3, b4, b5, b6, fun m' w' r' h1 h2 h3 => ?_⟩
      by_cases e : m' = m + 1
      · subst e
        have q := int_tr (gn b4) (gn hp) (gn h3) (show zGp A w0 r0 * zGn A w r ≤ zGp A w r * zGn A w0 r0 by omega) (hq w' r' h3)
        omega
      · exact b7 m' w' r' (by omega) h2 h3
theorem nxt_l (X : xX) (σ : Nat → Nat → Int32) {A : Nat → Nat → Int32} {N : Nat → Int32} {s n : Nat} (hs : s ≤ 99) (hR : zR A) (hS : zS A) (hL : zL A) (hN : zN A N) (hK : zKv A s n) (h40 : N 40 = nI s) (ok6 : ∀ k, 1 ≤ k → k < 8 → okR (A 6 k)) : ∀ m f M, m < 8 → M 2 = N → zNx A N m f (M 0 15) (M 0 16) → ∃ M' f', xV X 156 (6, [.ref 78, .int f, .int (nI m)], [], (xshM, xput 8 σ 78 M)) = some (some (.int f'), (xshM, xput 8 σ 78 M')) ∧ zMf M M' ∧ zNx A N 0 f' (M' 0 15) (M' 0 16)
  | 0, f, M, _, hM, h => ⟨M, f, by rw [nI_0]; exact x156 X xshM σ M xmod_M f, zMf_r, h⟩
  | m + 1, f, M, m8, hM, h => by
    have hP : rHP (M 2) := by rw [hM]; exact rHP_of hR hN
    have q1 := k153 X xshM σ M xmod_M (m + 1) (nI s) 1 m8 (by omega) hP
    have eb : rBst (M 2) (m + 1) (nI s) 1 = A 6 (m + 1) := by rw [hM]; exact best_e hs hR hS hL hN hK (by omega) m8
    rw [eb] at q1
    have r0 : M 2 40 = nI s := by rw [hM]; exact h40
    have skip : ∀ f fu fl, zNx A N (m + 1) f fu fl → (∀ w r, ¬ zMp A N (m + 1) w r) → zNx A N m f fu fl := by
      intro f fu fl hz hno
      rcases hz with ⟨a1, a2⟩ | ⟨m0, w0, r0, b1, b2, b3, b4, b5, b6, b7⟩
      · refine Or.inl ⟨a1, fun m' w r h1 h2 h3 => ?_⟩
        by_cases e : m' = m + 1
        · rw [e] at h3; exact hno w r h3
        · exact a2 m' w r (by omega) h2 h3
      · refine Or.inr ⟨m0, w0, r0, by omega, b2, b3, b4, b5, b6, fun m' w r h1 h2 h3 => ?_⟩
        by_cases e : m' = m + 1
        · rw [e] at h3; exact absurd h3 (hno w r)
        · exact b7 m' w r (by omega) h2 h3
    have go : ∀ (M1 : Nat → Nat → Int32) (nu nl : Int32) (any : Bool), xK X 157 [.ref 78, .int (nI (m + 1)), .int (A 6 (m + 1))] (xshM, xput 8 σ 78 M) = some (some (.int (xi any)), (xshM, xput 8 σ 78 M1)) → M1 0 13 = nu → M1 0 14 = nl → zMf M M1 → M1 2 = N → M1 0 15 = M 0 15 → M1 0 16 = M 0 16 → zNx A N m (if (if any = true then (if f < 0 then true else decide (nu * M 0 16 < M 0 15 * nl)) else false) = true then nI (m + 1) else f) (if (if any = true then (if f < 0 then true else decide (nu * M 0 16 < M 0 15 * nl)) else false) = true then nu else M 0 15) (if (if any = true then (if f < 0 then true else decide (nu * M 0 16 < M 0 15 * nl)) else false) = true then nl else M 0 16) → ∃ M' f', xV X 156 (6, [.ref 78, .int f, .int (nI (m + 1))], [], (xshM, xput 8 σ 78 M)) = some (some (.int f'), (xshM, xput 8 σ 78 M')) ∧ zMf M M' ∧ zNx A N 0 f' (M' 0 15) (M' 0 16) := by
      intro M1 nu nl any k1 k2 k3 k4 k5 k6 k7 hz
      have it := i156 X xshM σ M xmod_M M1 (xup M1 0 15 nu) (xup (xup M1 0 15 nu) 0 16 nl) (m + 1) m8 (by omega) f (nI s) (A 6 (m + 1)) nu nl (M 0 15) (M 0 16) any r0 q1 k1 k2 k3 k6 k7 rfl (by rw [xup_q (by omega), k3]) rfl
      generalize (if any = true then (if f < 0 then true else decide (nu * M 0 16 < M 0 15 * nl)) else false) = c at *
      rw [it, show m + 1 - 1 = m by omega]
      cases c with
      | true =>
        rw [if_pos rfl, if_pos rfl]
        rw [if_pos rfl, if_pos rfl, if_pos rfl] at hz
        obtain ⟨M', f', e1, e2, e3⟩ := nxt_l X σ hs hR hS hL hN hK h40 ok6 m (nI (m + 1)) (xup (xup M1 0 15 nu) 0 16 nl) (by omega) (by funext b; rw [xup_q (by omega), xup_q (by omega), k5]) (by rw [xup_q (by omega), xup_same, xup_same]; exact hz)
        exact ⟨M', f', e1, zMf_t k4 (zMf_t (fun a b hab => by rw [xup_q (by omega), xup_q (by omega)]) e2), e3⟩
      | false =>
        rw [if_neg (by decide), if_neg (by decide)]
        rw [if_neg (by decide), if_neg (by decide), if_neg (by decide)] at hz
        obtain ⟨M', f', e1, e2, e3⟩ := nxt_l X σ hs hR hS hL hN hK h40 ok6 m f M1 (by omega) k5 (by rw [k6, k7]; exact hz)
        exact ⟨M', f', e1, zMf_t k4 e2, e3⟩
    rcases ok6 (m + 1) (by omega) m8 with z | ⟨w, w8, z⟩
    · refine go M (M 0 13) (M 0 14) false (by rw [z]; exact x157n X xshM σ M xmod_M (m + 1) (-6) m6_l) rfl rfl zMf_r hM rfl rfl ?_
      rw [if_neg (show ¬ false = true by decide), if_neg (show ¬ false = true by decide), if_neg (show ¬ false = true by decide), if_neg (show ¬ false = true by decide)]
      exact skip _ _ _ h (fun w r c => by
        have := c.1
        rw [z] at this
        exact nI_n6' (by have := c.2.1; omega) this.symm)
    · have q2 := k157 X xshM σ M xmod_M (m + 1) w m8 (by omega) w8 hP
      rw [← z] at q2
      rcases lay_c (m := m + 1) (a0 := M 0 13) (b0 := M 0 14) hS hL hN w8 8 (Nat.le_refl 8) with ⟨a1, a2⟩ | ⟨r, r1, r2, r3, r4⟩
      · have eLN : rLN M (m + 1) w = (false, M 0 13, M 0 14) := by unfold rLN; rw [hM]; exact a1
        rw [eLN] at q2
        refine go _ _ _ false q2 rL2_13 rL2_14 (fun a b hab => rL2_q (by omega)) (by rw [rL2_2, hM]) (rL2_q (by omega)) (rL2_q (by omega)) ?_
        rw [if_neg (show ¬ false = true by decide), if_neg (show ¬ false = true by decide), if_neg (show ¬ false = true by decide), if_neg (show ¬ false = true by decide)]
        exact skip _ _ _ h (fun w' r' c => by
          have e : w' = w := nI_inj (by have := c.2.1; omega) (by omega) (by rw [← c.1, z])
          subst e
          exact a2 r' c.2.2.1 ⟨c.2.2.2.1, c.2.2.2.2⟩)
      · have eLN : rLN M (m + 1) w = (true, A 3 w - A 3 r, A 4 r - A 4 w) := by unfold rLN; rw [hM]; exact r3
        rw [eLN] at q2
        refine go _ _ _ true q2 rL2_13 rL2_14 (fun a b hab => rL2_q (by omega)) (by rw [rL2_2, hM]) (rL2_q (by omega)) (rL2_q (by omega)) ?_
        refine nxt_s hS hL m8 h ⟨z, w8, r1, r2.1, r2.2⟩ (fun w' r' c => ?_) _ (if_pos rfl)
        have e : w' = w := nI_inj (by have := c.2.1; omega) (by omega) (by rw [← c.1, z])
        subst e
        exact r4 r' c.2.2.1 ⟨c.2.2.2.1, c.2.2.2.2⟩
