def rlv (a b : Nat) : Prop := (1 ≤ a ∧ a ≤ 6 ∧ b < 8) ∨ (8 ≤ a ∧ a ≤ 11 ∧ b < 32) ∨ (a = 12 ∧ b < 8) ∨ (a = 7 ∧ (b = 5 ∨ b = 6)) ∨ (a = 0 ∧ b = 8)
/-- a cup as it is kept -/
def zK (A : Nat → Nat → Int32) (N : Nat → Int32) : Prop := ∃ n mk s, zI A (fun _ => N) n mk ∧ zKv A s n ∧ zV A s
theorem who_cb {A B : Nat → Nat → Int32} {pl : Int32} (h : ∀ a b, rlv a b → B a b = A a b) : ∀ d i, i + d = 8 → uWhoF B pl i d = uWhoF A pl i d
  | 0, _, _ => rfl
  | d + 1, i, hi => by
    rw [uWhoF, uWhoF, h 2 i (Or.inl (by omega)), uW, uW, h 5 i (Or.inl (by omega)), who_cb h d (i + 1) (by omega)]
theorem com_cb {A B : Nat → Nat → Int32} {f : Nat} (h : ∀ a b, rlv a b → B a b = A a b) (h1 : 1 ≤ f) (hf : f < 16) : uCom B (nI f) = uCom A (nI f) := by
  by_cases g : f < 8
  · rw [com_lo h1 g, com_lo h1 g, h 6 f (Or.inl (by omega))]
  · rw [com_hi (by omega) hf, com_hi (by omega) hf, who_cb h 8 0 (by omega)]
theorem zPr_cb {A B : Nat → Nat → Int32} {m i j : Nat} (h : ∀ a b, rlv a b → B a b = A a b) (h1 : 1 ≤ m) (h2 : m < 8) : zPr B m i j ↔ zPr A m i j := zPr_c (h 6 m (Or.inl (by omega))) (com_cb h (by omega) (by omega)) (com_cb h (by omega) (by omega))
theorem zO_cb {A B : Nat → Nat → Int32} {m i j : Nat} (h : ∀ a b, rlv a b → B a b = A a b) (h1 : 1 ≤ m) (h2 : m < 8) : zO B m i j ↔ zO A m i j := by
  unfold zO
  rw [h 6 m (Or.inl (by omega)), com_cb h (by omega) (by omega), com_cb h (by omega) (by omega)]
  constructor
  · rintro ⟨a1, a2, a3, a4, a5⟩
    rw [h 4 i (Or.inl (by omega)), h 4 j (Or.inl (by omega))] at a5
    exact ⟨a1, a2, a3, a4, a5⟩
  · rintro ⟨a1, a2, a3, a4, a5⟩
    refine ⟨a1, a2, a3, a4, ?_⟩
    rw [h 4 i (Or.inl (by omega)), h 4 j (Or.inl (by omega))]
    exact a5
theorem zI_cb {A B M M' : Nat → Nat → Int32} {n mk : Nat} (h : ∀ a b, rlv a b → B a b = A a b) (hN : ∀ k, k < 331 → M' 2 k = M 2 k) (hI : zI A M n mk) : zI B M' n mk := by
  have n21 := zI_n hI
  obtain ⟨⟨f1, f2, f3, ⟨p1, p2, p3, p4, p5⟩, f5⟩, i2, i3, i4, i5⟩ := hI
  refine ⟨⟨⟨fun i hi => ?_, fun i j hi hj => ?_⟩, fun i hi => ?_, ⟨fun i hi => ?_, ?_⟩, ⟨?_, ?_, ?_, fun k hk => ?_, fun m h1 h2 h3 => ?_⟩, fun k h1 h2 h3 => ?_⟩, ⟨?_, ?_, i2.2.2.1, fun k hk => ?_, fun j k hj hk => ?_, fun m h1 h2 => ?_⟩, fun m h1 h2 h3 => ?_, fun i hi => ?_, ?_⟩
  · rw [h 5 i (Or.inl (by omega)), h 1 i (Or.inl (by omega)), h 2 i (Or.inl (by omega))]
    exact f1.1 i hi
  · rw [h 2 i (Or.inl (by omega)), h 2 j (Or.inl (by omega))]
    exact f1.2 i j hi hj
  · rw [h 4 i (Or.inl (by omega))]
    exact f2 i hi
  · rw [h 1 i (Or.inl (by omega)), h 2 i (Or.inl (by omega)), h 3 i (Or.inl (by omega)), h 4 i (Or.inl (by omega)), h 5 i (Or.inl (by omega)), hN _ (by omega), hN _ (by omega), hN _ (by omega), hN _ (by omega), hN _ (by omega)]
    exact f3.1 i hi
  · rw [h 0 8 (Or.inr (Or.inr (Or.inr (Or.inr ⟨rfl, rfl⟩)))), hN 40 (by omega)]
    exact f3.2
  · rw [h 7 5 (Or.inr (Or.inr (Or.inr (Or.inl ⟨rfl, Or.inl rfl⟩)))), p1]
  · rw [hN 73 (by omega), p2]
  · rw [h 7 6 (Or.inr (Or.inr (Or.inr (Or.inl ⟨rfl, Or.inr rfl⟩)))), hN 74 (by omega), p3]
  · rw [h 8 k (Or.inr (Or.inl (by omega))), h 9 k (Or.inr (Or.inl (by omega))), h 10 k (Or.inr (Or.inl (by omega))), h 11 k (Or.inr (Or.inl (by omega))), hN _ (by omega), hN _ (by omega), hN _ (by omega), hN _ (by omega)]
    exact p4 k hk
  · rw [h 12 m (Or.inr (Or.inr (Or.inl ⟨rfl, h2⟩))), h 6 m (Or.inl (by omega)), hN _ (by omega), hN _ (by omega)]
    exact p5 m h1 h2 h3
  · rw [hN _ (by omega), hN _ (by omega), com_cb h (by omega) (by omega), com_cb h (by omega) (by omega)]
    exact f5 k h1 h2 h3
  · rw [h 7 5 (Or.inr (Or.inr (Or.inr (Or.inl ⟨rfl, Or.inl rfl⟩)))), i2.1]
  · rw [h 7 6 (Or.inr (Or.inr (Or.inr (Or.inl ⟨rfl, Or.inr rfl⟩)))), i2.2.1]
  · rw [h 8 k (Or.inr (Or.inl (by omega))), h 9 k (Or.inr (Or.inl (by omega))), h 10 k (Or.inr (Or.inl (by omega))), h 11 k (Or.inr (Or.inl (by omega)))]
    exact i2.2.2.2.1 k hk
  · rw [h 11 j (Or.inr (Or.inl (by omega))), h 11 k (Or.inr (Or.inl (by omega)))]
    exact i2.2.2.2.2.1 j k hj hk
  · rw [h 12 m (Or.inr (Or.inr (Or.inl ⟨rfl, h2⟩)))]
    exact i2.2.2.2.2.2 m h1 h2
  · obtain ⟨b1, b2, b3⟩ := i3 m h1 h2 h3
    rw [h 12 m (Or.inr (Or.inr (Or.inl ⟨rfl, h2⟩)))]
    refine ⟨fun k hk c1 c2 => ?_, fun c => ?_, fun i j c => b3 i j ((zO_cb h h1 h2).mp c)⟩
    · rw [h 8 k (Or.inr (Or.inl (by omega)))] at c1
      rw [h 11 k (Or.inr (Or.inl (by omega)))] at c2
      obtain ⟨i, j, g1, g2, g3⟩ := b1 k hk c1 c2
      have gi := g1.1
      have gj := g1.2.1
      exact ⟨i, j, (zO_cb h h1 h2).mpr g1, by rw [h 9 k (Or.inr (Or.inl (by omega))), h 3 i (Or.inl (by omega)), h 3 j (Or.inl (by omega)), g2], by rw [h 10 k (Or.inr (Or.inl (by omega))), h 4 i (Or.inl (by omega)), h 4 j (Or.inl (by omega)), g3]⟩
    · obtain ⟨k, g1, g2, g3⟩ := b2 c
      exact ⟨k, g1, by rw [h 8 k (Or.inr (Or.inl (by omega))), g2], by rw [h 11 k (Or.inr (Or.inl (by omega))), g3]⟩
  · rw [h 3 i (Or.inl (by omega))]
    exact i4 i hi
  · have e : zPhi B = zPhi A := by
      unfold zPhi cW
      rw [h 12 2 (Or.inr (Or.inr (Or.inl ⟨rfl, by omega⟩))), h 12 3 (Or.inr (Or.inr (Or.inl ⟨rfl, by omega⟩))), h 12 4 (Or.inr (Or.inr (Or.inl ⟨rfl, by omega⟩))), h 12 5 (Or.inr (Or.inr (Or.inl ⟨rfl, by omega⟩))), h 12 6 (Or.inr (Or.inr (Or.inl ⟨rfl, by omega⟩))), h 12 7 (Or.inr (Or.inr (Or.inl ⟨rfl, by omega⟩)))]
    rw [e]
    exact i5
theorem zKv_cb {A B : Nat → Nat → Int32} {s n : Nat} (hn : n ≤ 32) (h : ∀ a b, rlv a b → B a b = A a b) (hK : zKv A s n) : zKv B s n := by
  refine ⟨fun m i j h1 h2 hp hij => ?_, fun k hk => ?_, fun m h1 h2 h3 => ?_⟩
  · have hp' := (zPr_cb h h1 h2).mp hp
    have z := hK.1 m i j h1 h2 hp' hij
    have i8 := hp.1
    have j8 := hp.2.1
    unfold zAh zVal at z ⊢
    rw [h 3 i (Or.inl (by omega)), h 3 j (Or.inl (by omega)), h 4 i (Or.inl (by omega)), h 4 j (Or.inl (by omega))]
    exact z
  · rw [h 10 k (Or.inr (Or.inl (by omega))), h 9 k (Or.inr (Or.inl (by omega)))]
    exact hK.2.1 k hk
  · rw [h 6 m (Or.inl (by omega)), com_cb h (by omega) (by omega), com_cb h (by omega) (by omega)]
    exact hK.2.2 m h1 h2 h3
theorem zV_cb {A B : Nat → Nat → Int32} {s : Nat} (h : ∀ a b, rlv a b → B a b = A a b) (hV : zV A s) : zV B s := by
  refine ⟨hV.1, by rw [h 0 8 (Or.inr (Or.inr (Or.inr (Or.inr ⟨rfl, rfl⟩)))), hV.2.1], fun i hi => ?_⟩
  rw [h 3 i (Or.inl (by omega)), h 4 i (Or.inl (by omega))]
  exact hV.2.2 i hi
theorem zK_cb {A B : Nat → Nat → Int32} {N N' : Nat → Int32} (h : ∀ a b, rlv a b → B a b = A a b) (hN : ∀ k, k < 331 → N' k = N k) (hK : zK A N) : zK B N' := by
  obtain ⟨n, mk, s, hI, hKv, hV⟩ := hK
  have n21 := zI_n hI
  exact ⟨n, mk, s, zI_cb (M := fun _ => N) (M' := fun _ => N') h hN hI, zKv_cb (by omega) h hKv, zV_cb h hV⟩
theorem zA_K {A M : Nat → Nat → Int32} {s e : Nat} (h : zA A M s e) : zK A (M 2) := by
  obtain ⟨⟨n, mk, hI, hKv⟩, hV, -⟩ := h
  exact ⟨n, mk, s, hI, hKv, hV⟩
theorem cpy_r {A B : Nat → Nat → Int32} (a b : Nat) (h : rlv a b) : uCpy A B a b = B a b := by
  unfold uCpy
  unfold rlv at h
  rw [if_pos h]
theorem beg_r {A B : Nat → Nat → Int32} (a b : Nat) (h : rlv a b) : uBeg A B a b = B a b := by
  have ha : ¬ a = 13 := by
    unfold rlv at h
    omega
  unfold uBeg uTc
  rw [xup_q (by omega), xup_q (by omega), xup_q (by omega), xup_q (by omega), xup_q (by omega), cpy_r a b h]
theorem now_2 {M : Nat → Nat → Int32} {k : Nat} (hk : k < 331) : rNow M 2 k = M 1 k := by
  unfold rNow rCpy
  rw [xup_q (by omega), xup_q (by omega), xup_q (by omega), xup_q (by omega), xup_q (by omega), if_pos ⟨rfl, hk⟩]
theorem now_q {M : Nat → Nat → Int32} {a b : Nat} (h : ¬ a = 2) (h0 : a = 0 → b < 6 ∨ 10 < b) : rNow M a b = M a b := by
  unfold rNow rCpy
  rw [xup_q (by omega), xup_q (by omega), xup_q (by omega), xup_q (by omega), xup_q (by omega), if_neg (by omega)]
/-- acts begin on a copy: the same -/
theorem beg_A {A B M : Nat → Nat → Int32} (h : zK B (M 1)) : ∃ s, zA (uBeg A B) (rNow M) s 0 := by
  obtain ⟨n, mk, s, hI, hKv, hV⟩ := h
  have n21 := zI_n hI
  refine ⟨s, ⟨n, mk, zI_cb (M := fun _ => M 1) (M' := rNow M) beg_r (fun k hk => now_2 hk) hI, zKv_cb (by omega) beg_r hKv⟩, zV_cb beg_r hV, ?_⟩
  unfold uBeg uTc rNow
  refine ⟨?_, ?_, ?_, ?_, ?_, ?_, ?_, ?_⟩
  · rw [xup_q (by omega), xup_q (by omega), xup_q (by omega), xup_q (by omega), xup_same, xup_q (by omega), xup_q (by omega), xup_q (by omega), xup_q (by omega), xup_same]
  · rw [xup_q (by omega), xup_q (by omega), xup_q (by omega), xup_same, xup_q (by omega), xup_q (by omega), xup_q (by omega), xup_same]
  · rw [xup_q (by omega), xup_q (by omega), xup_same, xup_q (by omega), xup_q (by omega), xup_same]
  · rw [xup_q (by omega), xup_same, xup_q (by omega), xup_same]
  · rw [xup_same, xup_same]
  · rw [xup_q (by omega), xup_q (by omega), xup_same, nI_0]
  · intro _
    rw [xup_q (by omega), xup_same]
    decide
  · intro c
    exact absurd rfl c
theorem keep_1 {M : Nat → Nat → Int32} {k : Nat} (hk : k < 331) : rKeep M 1 k = M 2 k := by
  unfold rKeep rCpy
  rw [if_pos ⟨rfl, hk⟩]
theorem keep_q {M : Nat → Nat → Int32} {a b : Nat} (h : ¬ a = 1) : rKeep M a b = M a b := by
  unfold rKeep rCpy
  rw [if_neg (by omega)]
theorem zI_M {A M : Nat → Nat → Int32} {n mk : Nat} (h : zI A M n mk) : zI A (fun _ => M 2) n mk := h
/-- a cup begun anew, as kept -/
theorem anew_zK {A M : Nat → Nat → Int32} {s : Nat} (hR : zR A) (hS : zS A) (hV : zV A s) (hN : zN A (M 2)) : zK (uAnew A) (rAnew M 2) := by
  have hL := zV_L hS hV
  obtain ⟨n, -, hI⟩ := anew_I hR hS hL hN
  obtain ⟨n2, k1, k2, k3⟩ := anew_K hV.1 hV.2.1 hR hS hL
  have en : n2 = n := by
    have a1 := hI.2.1.1
    have a2 := zI_n hI
    rw [k1] at a1
    exact nI_inj (by omega) (by omega) a1
  subst en
  refine ⟨n2, n2, s, zI_M hI, k3, hV.1, by rw [anew_q hR hS hL (by omega), hV.2.1], fun i hi => ?_⟩
  rw [anew_q hR hS hL (by omega), anew_q hR hS hL (by omega)]
  exact hV.2.2 i hi
