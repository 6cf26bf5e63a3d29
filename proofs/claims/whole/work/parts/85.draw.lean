theorem nI_dv {a d : Nat} (ha : a < 2147483648) (hd : d < 2147483648) (h0 : 0 < d) : nI a / nI d = nI (a / d) := pk_div (a := a) (d := d) (by omega) (by omega) (by omega)
theorem nI_md {a d : Nat} (ha : a < 2147483648) (hd : d < 2147483648) (h0 : 0 < d) : nI a - nI a / nI d * nI d = nI (a % d) := by
  rw [nI_dv ha hd h0, nI_mu, nI_sb (by
    have := Nat.div_mul_le_self a d
    omega)]
  have e : a - a / d * d = a % d := by
    have := Nat.div_add_mod a d
    rw [Nat.mul_comm] at this
    omega
  rw [e]
theorem and7_n {a : Nat} (h : a < 2147483648) : nI a &&& 7 = nI (a % 8) := pk_andN (by omega) 3 (by decide)
theorem uX_n {a : Nat} (h : a ≤ 65536) : uX (nI a) = nI ((75 * a + 74) % 65537) := by
  unfold uX
  have e : 75 * nI a + 74 = nI (75 * a + 74) := by
    rw [show (75 : Int32) = nI 75 from rfl, show (74 : Int32) = nI 74 from rfl, nI_mu, nI_ad]
  rw [e, show (65537 : Int32) = nI 65537 from rfl]
  exact nI_md (by omega) (by omega) (by omega)
def dL (d : Nat) : Int32 := ([43, 45, 33, 35, 37, 46, 46, 46] : List Int32).getD d 0
/-- a draw: the same -/
theorem drw_sim (X : xX) (sh : List (Nat × Nat × List Value)) (σ : Nat → Nat → Int32) (hm : xmod sh) (sd w : Int32) (m : Nat) (hm9 : m ≤ 99) : ∀ f act a A M s e, act + f = m → a ≤ 65536 → e + 1000 * f < 10000000 → zA A M s e → ∃ M' s' e', (∀ u6, xV X 177 (43, [.ref 78, .int sd, .int (nI m), .int w, .int (nI a), .int (nI act), u6], [], (sh, xput 8 σ 78 M)) = some (some (.int (if w = 0 then M' 2 42 else if w = 1 then M' 0 8 else M' 0 7)), (sh, xput 8 σ 78 M'))) ∧ zA (uDw f act (nI a) A) M' s' e' ∧ zFr M M'
  | 0, act, a, A, M, s, e, h1, h2, he, h => by
    have ea : act = m := by omega
    subst ea
    exact ⟨M, s, e, fun u6 => x177 X sh σ M hm (nI a) sd w act u6 hm9, h, fun _ _ _ _ => rfl⟩
  | f + 1, act, a, A, M, s, e, h1, h2, he, h => by
    have hx : 75 * nI a + 74 - (75 * nI a + 74) / 65537 * 65537 = nI ((75 * a + 74) % 65537) := uX_n h2
    have hb : (75 * a + 74) % 65537 < 65537 := Nat.mod_lt _ (by omega)
    generalize hbb : (75 * a + 74) % 65537 = b at hx hb
    have hr : nI b - nI b / 8 * 8 = nI (b % 8) := nI_md (d := 8) (by omega) (by omega) (by omega)
    have e8 : nI b / 8 = nI (b / 8) := nI_dv (d := 8) (by omega) (by omega) (by omega)
    have e64 : nI b / 64 = nI (b / 64) := nI_dv (d := 64) (by omega) (by omega) (by omega)
    have hd : nI b / 8 - nI b / 8 / 8 * 8 = nI (b / 8 % 8) := by rw [e8]; exact nI_md (d := 8) (by omega) (by omega) (by omega)
    have hj : nI b / 64 - nI b / 64 / 8 * 8 = nI (b / 64 % 8) := by rw [e64]; exact nI_md (d := 8) (by omega) (by omega) (by omega)
    have i8 : b % 8 < 8 := Nat.mod_lt _ (by omega)
    have d8 : b / 8 % 8 < 8 := Nat.mod_lt _ (by omega)
    have j8 : b / 64 % 8 < 8 := Nat.mod_lt _ (by omega)
    have eS : uDs act (nI a) A = (if uHin A (dL (b / 8 % 8)) (nI (b % 8)) (nI (b / 64 % 8)) = 0 then uPerf A (nI act) (dL (b / 8 % 8)) (nI (b % 8)) (nI (b / 64 % 8)) else A) := by
      unfold uDs uDl
      rw [uX_n h2, hbb, and7_n (by omega), e8, e64, and7_n (by omega), and7_n (by omega), nI_cl (by omega)]
      rfl
    have eW : uDw (f + 1) act (nI a) A = uDw f (act + 1) (nI b) (uDs act (nI a) A) := by
      rw [uDw, if_neg (by
        have := ti_nI (n := a) (by omega)
        rw [ti_lt, this, q_0]
        omega), uX_n h2, hbb]
    rw [eW, eS]
    -- one act
    have key : ∃ M1 rs s' e', (∀ u6, xV X 177 (43, [.ref 78, .int sd, .int (nI m), .int w, .int (nI a), .int (nI act), u6], [], (sh, xput 8 σ 78 M)) = xV X 177 (43, [.ref 78, .int sd, .int (nI m), .int w, .int (nI b), .int (nI (act + 1)), .int (nI (b % 8))], [], (sh, xput 8 σ 78 (xup M1 0 11 rs)))) ∧ zA (if uHin A (dL (b / 8 % 8)) (nI (b % 8)) (nI (b / 64 % 8)) = 0 then uPerf A (nI act) (dL (b / 8 % 8)) (nI (b % 8)) (nI (b / 64 % 8)) else A) M1 s' e' ∧ e' ≤ e + 1000 ∧ ∀ a b, ¬ a = 2 → (a = 0 → b < 6 ∨ 10 < b) → M1 a b = M a b := by
      rcases (show b / 8 % 8 = 0 ∨ b / 8 % 8 = 1 ∨ b / 8 % 8 = 2 ∨ b / 8 % 8 = 3 ∨ b / 8 % 8 = 4 ∨ b / 8 % 8 = 5 ∨ b / 8 % 8 = 6 ∨ b / 8 % 8 = 7 by omega) with g | g | g | g | g | g | g | g
      · rw [g] at hd ⊢
        obtain ⟨c1, c2, c3⟩ := bend_sim (d := 43) (y := 1) (act := nI act) (o := nI (b / 64 % 8)) h i8 (Or.inl ⟨rfl, rfl⟩)
        refine ⟨_, _, s, e, fun u6 => i177_0 X sh σ M hm _ _ (nI a) (nI b) _ sd w (b % 8) act m u6 hm9 (by omega) hx hr hd (k143 X sh σ M hm _ i8 1) rfl, ?_, by omega, fun a b h3 _ => tBd_rw h3⟩
        rw [show dL 0 = 43 from rfl]
        split
        · rename_i z; exact c2 z
        · rename_i z; rw [c3 z]; exact h
      · rw [g] at hd ⊢
        obtain ⟨c1, c2, c3⟩ := bend_sim (d := 45) (y := -1) (act := nI act) (o := nI (b / 64 % 8)) h i8 (Or.inr ⟨rfl, rfl⟩)
        refine ⟨_, _, s, e, fun u6 => i177_1 X sh σ M hm _ _ (nI a) (nI b) _ sd w (b % 8) act m u6 hm9 (by omega) hx hr hd (k143 X sh σ M hm _ i8 (-1)) rfl, ?_, by omega, fun a b h3 _ => tBd_rw h3⟩
        rw [show dL 1 = 45 from rfl]
        split
        · rename_i z; exact c2 z
        · rename_i z; rw [c3 z]; exact h
      · rw [g] at hd ⊢
        obtain ⟨c1, c2, c3⟩ := out_sim (d := 33) (t := true) (act := nI act) (o := nI (b / 64 % 8)) h i8 (Or.inl ⟨rfl, rfl⟩)
        refine ⟨_, _, s, e, fun u6 => i177_2 X sh σ M hm _ _ (nI a) (nI b) _ sd w (b % 8) act m u6 hm9 (by omega) hx hr hd (k144 X sh σ M hm _ i8 true) rfl, ?_, by omega, fun a b h3 _ => tGo_rw h3⟩
        rw [show dL 2 = 33 from rfl]
        split
        · rename_i z; exact c2 z
        · rename_i z; rw [c3 z]; exact h
      · rw [g] at hd ⊢
        obtain ⟨c1, c2, c3⟩ := out_sim (d := 35) (t := false) (act := nI act) (o := nI (b / 64 % 8)) h i8 (Or.inr ⟨rfl, rfl⟩)
        refine ⟨_, _, s, e, fun u6 => i177_3 X sh σ M hm _ _ (nI a) (nI b) _ sd w (b % 8) act m u6 hm9 (by omega) hx hr hd (k144 X sh σ M hm _ i8 false) rfl, ?_, by omega, fun a b h3 _ => tGo_rw h3⟩
        rw [show dL 3 = 35 from rfl]
        split
        · rename_i z; exact c2 z
        · rename_i z; rw [c3 z]; exact h
      · rw [g] at hd ⊢
        obtain ⟨c1, c2, c3⟩ := exch_sim (act := nI act) h i8 j8
        refine ⟨_, _, s, e, fun u6 => i177_4 X sh σ M hm _ _ (nI a) (nI b) _ sd w (b % 8) act m u6 hm9 (by omega) hx hr hd _ hj (k145 X sh σ M hm _ _ i8 j8) rfl, ?_, by omega, fun a b h3 _ => tEx_rw h3⟩
        rw [show dL 4 = 37 from rfl]
        split
        · rename_i z; exact c2 z
        · rename_i z; rw [c3 z]; exact h
      all_goals
        rw [g] at hd ⊢
        have eP : ∀ r o, uPerf A (nI act) 46 r o = uPerf A (nI act) 46 0 0 := by
          intro r o
          unfold uPerf
          rw [if_pos rfl, if_pos rfl]
        have eH : ∀ r o, uHin A 46 r o = (if A 0 8 < 99 then 0 else 7) := by
          intro r o
          unfold uHin
          rw [if_pos rfl]
        have e08 := h.2.1.2.1
        have s99 := h.2.1.1
        have ts := ti_nI (n := s) (by omega)
        rw [show dL _ = 46 from rfl, eP, eH]
        rcases sec_sim X sh σ A M hm (act := nI act) (nI_nn (by omega)) (by omega) h with ⟨g1, g2⟩ | ⟨g1, M1, e', g2, g3, g4, g5⟩
        · rw [if_neg (show ¬ A 0 8 < 99 by rw [e08, ti_lt, ts, q_99]; omega), if_neg (by decide)]
          first | exact ⟨_, _, s, e, fun u6 => i177_5 X sh σ M hm _ _ (nI a) (nI b) _ sd w (b % 8) act m u6 hm9 (by omega) hx hr hd g2 rfl, h, by omega, fun _ _ _ _ => rfl⟩ | exact ⟨_, _, s, e, fun u6 => i177_6 X sh σ M hm _ _ (nI a) (nI b) _ sd w (b % 8) act m u6 hm9 (by omega) hx hr hd g2 rfl, h, by omega, fun _ _ _ _ => rfl⟩ | exact ⟨_, _, s, e, fun u6 => i177_7 X sh σ M hm _ _ (nI a) (nI b) _ sd w (b % 8) act m u6 hm9 (by omega) hx hr hd g2 rfl, h, by omega, fun _ _ _ _ => rfl⟩
        · rw [if_pos (show A 0 8 < 99 by rw [e08, ti_lt, ts, q_99]; omega), if_pos rfl]
          first | exact ⟨_, _, s + 1, e', fun u6 => i177_5 X sh σ M hm _ _ (nI a) (nI b) _ sd w (b % 8) act m u6 hm9 (by omega) hx hr hd g2 rfl, g4, g3, g5⟩ | exact ⟨_, _, s + 1, e', fun u6 => i177_6 X sh σ M hm _ _ (nI a) (nI b) _ sd w (b % 8) act m u6 hm9 (by omega) hx hr hd g2 rfl, g4, g3, g5⟩ | exact ⟨_, _, s + 1, e', fun u6 => i177_7 X sh σ M hm _ _ (nI a) (nI b) _ sd w (b % 8) act m u6 hm9 (by omega) hx hr hd g2 rfl, g4, g3, g5⟩
    obtain ⟨M1, rs, s', e', k1, k2, k3, k4⟩ := key
    have hA2 := zA_r (M' := xup M1 0 11 rs) (fun b => xup_q (by omega)) (fun b h1 h2 => xup_q (by omega)) k2
    obtain ⟨M', s2, e2, r1, r2, r3⟩ := drw_sim X sh σ hm sd w m hm9 f (act + 1) b _ (xup M1 0 11 rs) s' e' (by omega) (by omega) (by omega) hA2
    refine ⟨M', s2, e2, fun u6 => by rw [k1 u6]; exact r1 _, r2, fun x y h3 h4 => ?_⟩
    rw [r3 x y h3 h4, xup_q (by omega), k4 x y h3 (by omega)]
theorem drw_all (X : xX) (sh : List (Nat × Nat × List Value)) (σ : Nat → Nat → Int32) (hm : xmod sh) (sd w : Int32) (m : Nat) (hm9 : m ≤ 99) (h1 : 1 ≤ m) (a : Nat) (A M : Nat → Nat → Int32) (s : Nat) (ha : a ≤ 65536) (h : zA A M s 0) : ∃ M' s' e', (∀ u6, xV X 177 (43, [.ref 78, .int sd, .int (nI m), .int w, .int (nI a), .int (nI 0), u6], [], (sh, xput 8 σ 78 M)) = some (some (.int (if w = 0 then M' 2 42 else if w = 1 then M' 0 8 else M' 0 7)), (sh, xput 8 σ 78 M'))) ∧ zA (uDw m 0 (nI a) A) M' s' e' ∧ zFr M M' := drw_sim X sh σ hm sd w m hm9 m 0 a A M s 0 (by omega) ha (by omega) h
