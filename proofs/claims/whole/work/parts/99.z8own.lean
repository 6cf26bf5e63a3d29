theorem tc_i {A : Nat → Nat → Int32} {x y : Nat} {p q : Int} : zGp A x y * q ≤ p * zGn A x y ↔ zVal A x p q ≤ zVal A y p q := by
  unfold zGp zGn zVal
  rw [Int.sub_mul, Int.mul_sub, Int.mul_comm p, Int.mul_comm p]
  omega
theorem tc_s {A : Nat → Nat → Int32} {w r : Nat} {s : Int} (h : zVal A r s 1 ≤ zVal A w s 1) : s * zGn A w r ≤ zGp A w r := by
  unfold zVal at h
  unfold zGp zGn
  rw [Int.mul_sub, Int.mul_comm s, Int.mul_comm s]
  omega
theorem tc_q {A : Nat → Nat → Int32} {w r : Nat} : zVal A w (zGp A w r) (zGn A w r) = zVal A r (zGp A w r) (zGn A w r) := by
  unfold zVal zGp zGn
  generalize (A 3 w).toInt = a
  generalize (A 3 r).toInt = b
  generalize (A 4 w).toInt = c
  generalize (A 4 r).toInt = d
  rw [Int.mul_sub, Int.mul_sub, Int.mul_sub, Int.mul_sub, Int.mul_comm c a, Int.mul_comm d a, Int.mul_comm d b, Int.mul_comm c b]
  omega
theorem val_m {A : Nat → Nat → Int32} {i j : Nat} {s p q : Int} (hv : zVal A j s 1 ≤ zVal A i s 1) (hq : 0 < q) (hp : s * q ≤ p) (hs : (A 4 j).toInt ≤ (A 4 i).toInt) : zVal A j p q ≤ zVal A i p q := by
  have x := int_lin (b := (A 3 i).toInt) (c := (A 3 j).toInt) (p := s) (q := 1) (u := p) (l := q) (by omega) hq hs (by omega)
  have y := int_nn (by omega) hq x (by unfold zVal at hv; omega)
  unfold zVal
  omega
theorem zO_f {A : Nat → Nat → Int32} {m i j i' j' : Nat} (h : zO A m i j) (h' : zO A m i' j') : i' = i ∧ j' = j := by
  obtain ⟨i8, j8, e6, hc, sl⟩ := h
  obtain ⟨i8', j8', e6', hc', sl'⟩ := h'
  have ei : i' = i := nI_inj (by omega) (by omega) (by rw [← e6, e6'])
  subst ei
  refine ⟨rfl, ?_⟩
  rcases hc with ⟨a, b⟩ | ⟨a, b⟩
  · rcases hc' with ⟨a', b'⟩ | ⟨a', b'⟩
    · exact nI_inj (by omega) (by omega) (by rw [← b, b'])
    · have : j' = i' := nI_inj (by omega) (by omega) (by rw [← a, a'])
      subst this
      omega
  · rcases hc' with ⟨a', b'⟩ | ⟨a', b'⟩
    · have : j' = i' := nI_inj (by omega) (by omega) (by rw [← b, b'])
      subst this
      omega
    · exact nI_inj (by omega) (by omega) (by rw [← a, a'])
theorem zO_Mp {A : Nat → Nat → Int32} {N : Nat → Int32} {s n m i j : Nat} (hR : zR A) (hN : zN A N) (hK : zKv A s n) (m1 : 1 ≤ m) (m8 : m < 8) (h : zO A m i j) : zMp A N m i j := by
  have hb : ∀ f, 1 ≤ f → f < 8 → zLb A s f (A 6 f) := fun f h1 h2 => mat_a hR hK 7 1 (by omega) (by omega) f h1 h2
  obtain ⟨i8, j8, e6, hc, sl⟩ := h
  refine ⟨e6, i8, j8, ?_, sl⟩
  have key : ∀ f, f = 2 * m ∨ f = 2 * m + 1 → uCom A (nI f) = nI j → rTo N m j = true := by
    intro f hf hj
    rcases com_b (f := f) hR (by omega) (by omega) (fun h => hb f (by omega) h) with ⟨a1, -⟩ | ⟨c, qc, c8, qc8, a1, a2, a3, a4, -⟩
    · rw [hj] at a1
      exact absurd a1 (nI_n6' (by omega))
    · have e : c = j := nI_inj (by omega) (by omega) (by rw [← a1, hj])
      subst e
      refine (to_u hN c8 a3 qc8 m8).mpr ⟨a2, ?_⟩
      have eu := und_s m m8 qc qc8 m1
      unfold und
      rw [if_pos m8, eu]
      rcases hf with e | e
      · rw [← e, a4, Bool.true_or]
      · rw [← e, a4, Bool.or_true]
  rcases hc with ⟨-, b⟩ | ⟨a, -⟩
  · exact key (2 * m + 1) (Or.inr rfl) b
  · exact key (2 * m) (Or.inl rfl) a
/-- who passes a winner is not before a certificate of a match's own -/
theorem own_p {A : Nat → Nat → Int32} {N : Nat → Int32} {s n : Nat} (hR : zR A) (hN : zN A N) (hK : zKv A s n) : ∀ d m w r, 8 ≤ m + d → 1 ≤ m → m < 8 → zMp A N m w r → ∃ m' i j, m ≤ m' ∧ m' < 8 ∧ zO A m' i j ∧ zGp A i j * zGn A w r ≤ zGp A w r * zGn A i j
  | 0, m, w, r, h, m1, m8, hp => by omega
  | d + 1, m, w, r, h, m1, m8, hp => by
    have hb : ∀ f, 1 ≤ f → f < 8 → zLb A s f (A 6 f) := fun f h1 h2 => mat_a hR hK 7 1 (by omega) (by omega) f h1 h2
    obtain ⟨e6, w8, r8, to, sl⟩ := hp
    obtain ⟨-, -, p, p8, ep⟩ := hR.1 r r8
    obtain ⟨r5, ru⟩ := (to_u hN r8 ep p8 m8).mp to
    have hrw : ¬ r = w := by
      intro e
      rw [e] at sl
      omega
    have hQ : 0 < zGn A w r := by unfold zGn; omega
    have zw : zAh A s 1 w r := by
      rcases hb m m1 m8 with ⟨b1, -⟩ | ⟨w', q', w8', q8, b1, b2, b3, b4, b5⟩
      · rw [e6] at b1
        exact absurd b1 (nI_n6' (by omega))
      · have e : w' = w := nI_inj (by omega) (by omega) (by rw [← b1, e6])
        subst e
        exact b5 r p r8 p8 ep r5 ru hrw
    have hsP : (s : Int) * zGn A w r ≤ zGp A w r := tc_s (by unfold zAh at zw; omega)
    have hWR := tc_q (A := A) (w := w) (r := r)
    generalize eP : zGp A w r = P at *
    generalize eQ : zGn A w r = Q at *
    have key : ∀ f, f = 2 * m ∨ f = 2 * m + 1 → und f p = true → ∃ m' i j, m ≤ m' ∧ m' < 8 ∧ zO A m' i j ∧ zGp A i j * Q ≤ P * zGn A i j := by
      intro f hf hu
      rcases com_b (f := f) hR (by omega) (by omega) (fun h => hb f (by omega) h) with ⟨a1, a2⟩ | ⟨c, qc, c8, qc8, a1, a2, a3, a4, a5⟩
      · rw [a2 r p r8 p8 ep r5] at hu
        exact absurd hu (by decide)
      · have down : (A 4 c).toInt < (A 4 r).toInt → zGp A c r * Q ≤ P * zGn A c r → ∃ m' i j, m ≤ m' ∧ m' < 8 ∧ zO A m' i j ∧ zGp A i j * Q ≤ P * zGn A i j := by
          intro hs hle
          have f8 : f < 8 := by
            by_cases g : f < 8
            · exact g
            · unfold und at hu a4
              rw [if_neg g, decide_eq_true_eq] at hu a4
              have := hR.2 r c r8 c8 (by rw [ep, a3, hu, a4])
              rw [this] at hs
              omega
          have e6f : A 6 f = nI c := (com_lo (A := A) (f := f) (by omega) f8).symm.trans a1
          obtain ⟨m', i, j, h1, h2, h3, h4⟩ := own_p hR hN hK d f c r (by omega) (by omega) f8 ⟨e6f, c8, r8, (to_u hN r8 ep p8 f8).mpr ⟨r5, hu⟩, hs⟩
          exact ⟨m', i, j, by omega, h2, h3, int_tr (by have := h3.2.2.2.2; unfold zGn; omega) (by unfold zGn; omega) hQ h4 hle⟩
        by_cases cw : c = w
        · subst cw
          exact down sl (by rw [eP, eQ]; exact Int.le_refl _)
        · obtain ⟨w1, -, -⟩ := hK.2.2 m m1 m8 (fun c => c)
          have hpr : zPr A m w c := by
            refine ⟨w8, c8, e6, ?_⟩
            have ncw : ¬ nI c = nI w := fun e => cw (nI_inj (by omega) (by omega) e)
            rw [e6] at w1
            rcases hf with e | e
            · rw [e] at a1
              rcases w1 with z | z
              · rw [a1] at z
                exact absurd z.symm ncw
              · exact Or.inr ⟨a1, z.symm⟩
            · rw [e] at a1
              rcases w1 with z | z
              · exact Or.inl ⟨z.symm, a1⟩
              · rw [a1] at z
                exact absurd z.symm ncw
          have z2 := hK.1 m w c m1 m8 hpr (fun e => cw e.symm)
          by_cases g : (A 4 w).toInt < (A 4 c).toInt
          · by_cases g2 : zVal A w P Q ≤ zVal A c P Q
            · exact ⟨m, w, c, Nat.le_refl m, m8, zPr_O hpr g, tc_i.mpr g2⟩
            · have hrc : ¬ r = c := by
                intro e
                rw [e] at hWR
                omega
              have z3 := a5 r p r8 p8 ep r5 hu hrc
              have hs : (A 4 c).toInt < (A 4 r).toInt := by
                by_cases g3 : (A 4 c).toInt < (A 4 r).toInt
                · exact g3
                · have := val_m (A := A) (i := c) (j := r) (s := s) (p := P) (q := Q) (by unfold zAh at z3; omega) hQ hsP (by omega)
                  omega
              exact down hs (tc_i.mpr (by omega))
          · have := val_m (A := A) (i := w) (j := c) (s := s) (p := P) (q := Q) (by unfold zAh at z2; omega) hQ hsP (by omega)
            exact down (by omega) (tc_i.mpr (by omega))
    have eu := und_s m m8 p p8 m1
    unfold und at ru
    rw [if_pos m8, eu, Bool.or_eq_true] at ru
    rcases ru with ru | ru
    · exact key (2 * m) (Or.inl rfl) ru
    · exact key (2 * m + 1) (Or.inr rfl) ru
theorem own_d {A : Nat → Nat → Int32} {n k m : Nat} (hn : A 7 5 = nI n) (hn32 : n ≤ 32) (hk : k < n) (m1 : 1 ≤ m) (m8 : m < 8) (e8 : A 8 k = nI m) : uOwn A (nI k) = decide (A 11 k = A 12 m) := by
  unfold uOwn
  rw [uHere_n hn hn32 hk, nI_cl (by omega), e8, uM_n m1 m8, nI_cl (by omega), Bool.true_and, Bool.true_and]
theorem here_6 {A : Nat → Nat → Int32} : uHere A (-6) = false := by
  unfold uHere
  rw [decide_eq_false (show ¬ (0 : Int32) ≤ -6 by decide), Bool.false_and, Bool.false_and]
/-- what the reference finds is the earliest of the queue's own -/
theorem nx_e {A : Nat → Nat → Int32} {N : Nat → Int32} {s n mk : Nat} {f fu fl : Int32} (hR : zR A) (hS : zS A) (hL : zL A) (hN : zN A N) (hK : zKv A s n) (hQ : zQa A n mk) (hB : zQb A n (fun _ => False)) (hn32 : n ≤ 32) (h : zNx A N 0 f fu fl) : f = uMat A (uE A 1 n) ∧ ((f < 0 ∧ uE A 1 n = -6) ∨ (¬ f < 0 ∧ ¬ uE A 1 n = -6 ∧ fu.toInt ≠ -2147483648 ∧ 0 < fl.toInt ∧ ∀ p, uLt fu fl p = uLt (uUpp A (uE A 1 n)) (uLow A (uE A 1 n)) p)) := by
  rcases own_c hQ hn32 n (Nat.le_refl n) with ⟨a1, a2⟩ | ⟨k0, k1, a1, a2, a3⟩
  · rw [a1]
    unfold uMat
    rw [here_6, if_neg (by decide)]
    rcases h with ⟨h1, -⟩ | ⟨m0, w0, r0, b1, b2, b3, b4, -⟩
    · exact ⟨h1, Or.inl ⟨by rw [h1]; exact m6_l, rfl⟩⟩
    · obtain ⟨m', i, j, h1, h2, h3, -⟩ := own_p hR hN hK 8 m0 w0 r0 (by omega) (by omega) b2 b4
      obtain ⟨-, x2, x3⟩ := hB m' (by omega) h2 (fun c => c)
      obtain ⟨k, y1, y2, y3⟩ := x2 (x3 i j h3)
      have := a2 k y1
      rw [own_d hQ.1 hn32 y1 (by omega) h2 y2, decide_eq_true y3] at this
      exact absurd this (by decide)
  · obtain ⟨⟨mm, mm1, mm8, e8⟩, -, -⟩ := hQ.2.2.2.1 k0 k1
    have eo := own_d hQ.1 hn32 k1 mm1 mm8 e8
    rw [a2] at eo
    have eo' := (decide_eq_true_eq.mp eo.symm)
    obtain ⟨x1, x2, x3⟩ := hB mm mm1 mm8 (fun c => c)
    obtain ⟨i0, j0, o1, o2, o3⟩ := x1 k0 k1 e8 eo'
    have mp0 := zO_Mp hR hN hK mm1 mm8 o1
    rcases h with ⟨-, h2⟩ | ⟨m0, w0, r0, b1, b2, b3, b4, b5, b6, b7⟩
    · exact absurd mp0 (h2 mm i0 j0 (by omega) mm8)
    · obtain ⟨m1, i1, j1, h1, h2, h3, H1⟩ := own_p hR hN hK 8 m0 w0 r0 (by omega) (by omega) b2 b4
      have mp1 := zO_Mp hR hN hK (by omega) h2 h3
      obtain ⟨y1, y2, y3⟩ := hB m1 (by omega) h2 (fun c => c)
      obtain ⟨kk, z1, z2, z3⟩ := y2 (y3 i1 j1 h3)
      have ow1 : uOwn A (nI kk) = true := by rw [own_d hQ.1 hn32 z1 (by omega) h2 z2]; exact decide_eq_true z3
      obtain ⟨i2, j2, p1, p2, p3⟩ := y1 kk z1 z2 z3
      obtain ⟨q1, q2⟩ := zO_f h3 p1
      subst q1
      subst q2
      have H2 := b7 m1 _ _ (by omega) h2 mp1
      have H3 := b7 mm _ _ (by omega) mm8 mp0
      have H4 := a3 kk z1 ow1
      obtain ⟨g1, g2, g3, g4, g5, g6⟩ := gp_b hS hL o1.1 o1.2.1
      obtain ⟨l1, l2, l3, l4, l5, l6⟩ := gp_b hS hL p1.1 p1.2.1
      obtain ⟨v1, v2, v3, v4, v5, v6⟩ := gp_b hS hL b4.2.1 b4.2.2.1
      unfold zFi at H4
      rw [o2, o3, p2, p3, g1, g2, l1, l2, e8, z2, ti_nI (by omega), ti_nI (by omega)] at H4
      have pd : 0 < zGn A i0 j0 := by have := o1.2.2.2.2; unfold zGn; omega
      have pf : 0 < zGn A i2 j2 := by have := p1.2.2.2.2; unfold zGn; omega
      have pb : 0 < zGn A w0 r0 := by have := b4.2.2.2.2; unfold zGn; omega
      have E1 : zGp A w0 r0 * zGn A i2 j2 = zGp A i2 j2 * zGn A w0 r0 := by omega
      have E2 := int_tr pd pf pb (show zGp A i0 j0 * zGn A i2 j2 ≤ zGp A i2 j2 * zGn A i0 j0 by omega) (Int.le_of_eq E1.symm)
      have E3 : zGp A w0 r0 * zGn A i0 j0 = zGp A i0 j0 * zGn A w0 r0 := by omega
      have em : mm = m0 := by
        by_cases q : zGp A i0 j0 * zGn A i2 j2 < zGp A i2 j2 * zGn A i0 j0
        · have := int_trs pd pf pb q (Int.le_of_eq E1.symm)
          omega
        · omega
      subst em
      have hh := uHere_n hQ.1 hn32 k1
      rw [a1]
      unfold uMat uUpp uLow
      rw [hh, if_pos rfl, if_pos rfl, if_pos rfl, nI_cl (by omega), e8]
      refine ⟨b3, Or.inr ⟨by rw [b3]; exact nI_nn (j := mm) (by omega), nI_n6' (by omega), by rw [b5, v1]; omega, by rw [b6, v2]; omega, fun p => ?_⟩⟩
      refine low_fr (by rw [b5, v1]; omega) (by rw [b6, v2]; omega) (by rw [o2, g1]; omega) (by rw [o3, g2]; omega) ?_
      rw [b5, b6, o2, o3, v1, v2, g1, g2]
      exact E3
theorem nxt_M (X : xX) (σ : Nat → Nat → Int32) (h : Rel σ) : ∃ n M' f, xget σ 1 7 5 = nI n ∧ n ≤ 32 ∧ xK X 156 [.ref 78] (xshM, xput 8 σ 78 (rNow (xget σ 78))) = some (some (.int f), (xshM, xput 8 σ 78 M')) ∧ zMf (xget σ 78) M' ∧ f = uMat (xget σ 1) (uE (xget σ 1) 1 n) ∧ ((f < 0 ∧ uE (xget σ 1) 1 n = -6) ∨ (¬ f < 0 ∧ ¬ uE (xget σ 1) 1 n = -6 ∧ (M' 0 15).toInt ≠ -2147483648 ∧ 0 < (M' 0 16).toInt ∧ ∀ p, uLt (M' 0 15) (M' 0 16) p = uLt (uUpp (xget σ 1) (uE (xget σ 1) 1 n)) (uLow (xget σ 1) (uE (xget σ 1) 1 n)) p)) := by
  obtain ⟨n, mk', s, hI, hK, hV⟩ := h.1
  have hR := hI.1.1
  have hS := hI.1.2.1
  have hL := hI.2.2.2.1
  have hQ := hI.2.1
  have hB := hI.2.2.1
  have hN := zN_now (M := xget σ 78) hI.1.2.2.1
  have e40 : rNow (xget σ 78) 2 40 = nI s := by rw [← hN.2]; exact hV.2.1
  have n32 : n ≤ 32 := by have := hQ.2.2.1; have := hI.2.2.2.2; omega
  obtain ⟨M', f, e1, e2, e3⟩ := nxt_l X σ hV.1 hR hS hL hN hK e40 (fun k h1 h2 => (hI.1.2.2.2.1.2.2.2.2 k h1 h2 trivial).2.2) 7 (-6) (rNow (xget σ 78)) (by omega) rfl (Or.inl ⟨rfl, fun m' w r h1 h2 => by omega⟩)
  obtain ⟨f1, f2⟩ := nx_e hR hS hL hN hK hQ hB n32 e3
  exact ⟨n, M', f, hQ.1, n32, h156 X xshM σ _ xmod_M _ _ e1, zMf_t zMf_now e2, f1, f2⟩
/-- next -/
theorem c_10 (X : xX) (σ : Nat → Nat → Int32) (w : Int32) (h : Rel σ) : zCl X 101 155 [.int w] σ := by
  obtain ⟨n, M', f, h1, h2, h3, h4, h5, h6⟩ := nxt_M X σ h
  have k1 := k101 X xshM σ xkin_M w n h1 h2
  have qq := k155 X xshM σ (xget σ 78) xmod_M (rNow (xget σ 78)) M' w f _ _ _ _ (uLt (M' 0 15) (M' 0 16) w) (bP w) (by rw [bP_e]; exact k130 X w 0 1 _) (k131 X xshM σ (xget σ 78) xmod_M) h3 rfl rfl rfl rfl (fun hf => by
    rcases h6 with ⟨g1, -⟩ | ⟨-, -, g1, g2, -⟩
    · exact absurd g1 hf
    · exact low_k X _ g1 g2)
  rw [mget] at qq
  have ev : (if bP w = true then (if f < 0 then (-1000000000000000003 : Int64) else uLt (M' 0 15) (M' 0 16) w) else (-1000000000000000002 : Int64)) = (if bP w = true then (if uE (xget σ 1) 1 n = -6 then (-1000000000000000003 : Int64) else uLt (uUpp (xget σ 1) (uE (xget σ 1) 1 n)) (uLow (xget σ 1) (uE (xget σ 1) 1 n)) w) else (-1000000000000000002 : Int64)) := by
    rcases h6 with ⟨g1, g2⟩ | ⟨g1, g2, -, -, g3⟩
    · rw [if_pos g1, if_pos g2]
    · rw [if_neg g1, if_neg g2, g3]
  rw [ev] at qq
  refine ⟨_, _, _, k1, qq, Rel_eq ?_ h⟩
  split
  · exact zEq_M h4
  · exact zEq_M zMf_r
/-- where -/
theorem c_11 (X : xX) (σ : Nat → Nat → Int32) (h : Rel σ) : zCi X 104 159 [] σ := by
  obtain ⟨n, M', f, h1, h2, h3, h4, h5, -⟩ := nxt_M X σ h
  have k1 := k104 X xshM σ xkin_M n h1 h2
  have qq := k159 X xshM σ (xget σ 78) xmod_M (rNow (xget σ 78)) M' f (k131 X xshM σ (xget σ 78) xmod_M) h3
  rw [mget, h5] at qq
  exact ⟨_, _, _, k1, qq, Rel_eq (zEq_M h4) h⟩
