theorem rSh_at {M : Nat → Nat → Int32} {i : Nat} (hi : i < 63) : ∀ k, k < 64 → rSh M i 2 (75 + k) = (if k = i then M 2 (75 + (k + 1)) else M 2 (75 + k)) ∧ rSh M i 2 (139 + k) = (if k = i then M 2 (139 + (k + 1)) else M 2 (139 + k)) ∧ rSh M i 2 (203 + k) = (if k = i then M 2 (203 + (k + 1)) else M 2 (203 + k)) ∧ rSh M i 2 (267 + k) = (if k = i then M 2 (267 + (k + 1)) else M 2 (267 + k)) := by
  intro k hk
  unfold rSh rS4 rS3 rS2 rS1
  by_cases e : k = i
  · subst e
    rw [if_pos rfl, if_pos rfl, if_pos rfl, if_pos rfl]
    refine ⟨?_, ?_, ?_, ?_⟩
    · rw [xup_q (by omega), xup_q (by omega), xup_q (by omega), xup_same, show 76 + k = 75 + (k + 1) by omega]
    · rw [xup_q (by omega), xup_q (by omega), xup_same, xup_q (by omega), show 140 + k = 139 + (k + 1) by omega]
    · rw [xup_q (by omega), xup_same, xup_q (by omega), xup_q (by omega), show 204 + k = 203 + (k + 1) by omega]
    · rw [xup_same, xup_q (by omega), xup_q (by omega), xup_q (by omega), show 268 + k = 267 + (k + 1) by omega]
  · rw [if_neg e, if_neg e, if_neg e, if_neg e]
    refine ⟨?_, ?_, ?_, ?_⟩
    · rw [xup_q (by omega), xup_q (by omega), xup_q (by omega), xup_q (by omega)]
    · rw [xup_q (by omega), xup_q (by omega), xup_q (by omega), xup_q (by omega)]
    · rw [xup_q (by omega), xup_q (by omega), xup_q (by omega), xup_q (by omega)]
    · rw [xup_q (by omega), xup_q (by omega), xup_q (by omega), xup_q (by omega)]
theorem if_col {i d k : Nat} {z y w : Int32} : (if i + 1 ≤ k ∧ k < i + 1 + d then (if k + 1 = i then z else y) else (if k = i then y else w)) = (if i ≤ k ∧ k < i + (d + 1) then y else w) := by
  repeat' split
  all_goals first | rfl | (exfalso; omega)
theorem rSl_at : ∀ d i M, i + d ≤ 63 → ∀ k, k < 63 → rSl d i M 2 (75 + k) = (if i ≤ k ∧ k < i + d then M 2 (75 + (k + 1)) else M 2 (75 + k)) ∧ rSl d i M 2 (139 + k) = (if i ≤ k ∧ k < i + d then M 2 (139 + (k + 1)) else M 2 (139 + k)) ∧ rSl d i M 2 (203 + k) = (if i ≤ k ∧ k < i + d then M 2 (203 + (k + 1)) else M 2 (203 + k)) ∧ rSl d i M 2 (267 + k) = (if i ≤ k ∧ k < i + d then M 2 (267 + (k + 1)) else M 2 (267 + k))
  | 0, i, M, h, k, hk => by
    rw [if_neg (by omega), if_neg (by omega), if_neg (by omega), if_neg (by omega)]
    exact ⟨rfl, rfl, rfl, rfl⟩
  | d + 1, i, M, h, k, hk => by
    obtain ⟨a1, a2, a3, a4⟩ := rSl_at d (i + 1) (rSh M i) (by omega) k hk
    obtain ⟨b1, b2, b3, b4⟩ := rSh_at (M := M) (i := i) (by omega) k (by omega)
    obtain ⟨c1, c2, c3, c4⟩ := rSh_at (M := M) (i := i) (by omega) (k + 1) (by omega)
    rw [rSl, a1, a2, a3, a4, b1, b2, b3, b4, c1, c2, c3, c4]
    exact ⟨if_col, if_col, if_col, if_col⟩
/-- where a certificate lay before one was taken out -/
def zJ (f k : Nat) : Nat := if k < f then k else k + 1
theorem zJ_n {f k n : Nat} (hf : f < n) (h : k < n - 1) : zJ f k < n ∧ ¬ zJ f k = f := by
  unfold zJ
  split <;> omega
theorem zJ_s {f j k : Nat} (h : j < k) : zJ f j < zJ f k := by
  unfold zJ
  split <;> split <;> omega
theorem zJ_i {f k n : Nat} (hf : f < n) (h : k < n) (hk : ¬ k = f) : ∃ j, j < n - 1 ∧ zJ f j = k := by
  by_cases g : k < f
  · exact ⟨k, by omega, by unfold zJ; rw [if_pos g]⟩
  · exact ⟨k - 1, by omega, by unfold zJ; rw [if_neg (by omega)]; omega⟩
theorem rem_at {A : Nat → Nat → Int32} {f n a k : Nat} (hf : f < n) (h1 : 8 ≤ a) (h2 : a ≤ 11) (hk : k < n - 1) : uRem A f n a k = A a (zJ f k) := by
  unfold uRem zJ
  rw [xup_q (by omega), uShs_at]
  by_cases g : k < f
  · rw [if_neg (by omega), if_pos g]
  · rw [if_pos (by omega), if_neg g]
theorem rem_q {A : Nat → Nat → Int32} {f n a b : Nat} (h : (a < 8 ∨ 11 < a) ∧ ¬ (a = 7 ∧ b = 5)) : uRem A f n a b = A a b := by
  unfold uRem
  rw [xup_q (by omega), uShs_at, if_neg (by omega)]
theorem rem_75 {A : Nat → Nat → Int32} {f n : Nat} (hn : A 7 5 = nI n) (h : 1 ≤ n) : uRem A f n 7 5 = nI (n - 1) := by
  unfold uRem
  rw [xup_same, hn, show (1 : Int32) = nI 1 from rfl, nI_sb h]
theorem rTS_at {M : Nat → Nat → Int32} {f n k : Nat} (hf : f < n) (hn : n ≤ 62) (hk : k < n - 1) : rTS M f n 2 (75 + k) = M 2 (75 + zJ f k) ∧ rTS M f n 2 (139 + k) = M 2 (139 + zJ f k) ∧ rTS M f n 2 (203 + k) = M 2 (203 + zJ f k) ∧ rTS M f n 2 (267 + k) = M 2 (267 + zJ f k) := by
  obtain ⟨a1, a2, a3, a4⟩ := rSl_at (n - 1 - f) f (xup M 2 73 (nI (n - 1))) (by omega) k (by omega)
  unfold rTS zJ
  rw [a1, a2, a3, a4]
  by_cases g : k < f
  · have g1 : ¬ (f ≤ k ∧ k < f + (n - 1 - f)) := by omega
    rw [if_neg g1, if_neg g1, if_neg g1, if_neg g1, if_pos g, xup_q (by omega), xup_q (by omega), xup_q (by omega), xup_q (by omega)]
    exact ⟨rfl, rfl, rfl, rfl⟩
  · have g1 : f ≤ k ∧ k < f + (n - 1 - f) := by omega
    rw [if_pos g1, if_pos g1, if_pos g1, if_pos g1, if_neg g, xup_q (by omega), xup_q (by omega), xup_q (by omega), xup_q (by omega)]
    exact ⟨rfl, rfl, rfl, rfl⟩
/-- rows that a removal leaves: only places in the queue move -/
def zRm (A B : Nat → Nat → Int32) (f n : Nat) : Prop := (∀ a b, a ≤ 6 → B a b = A a b) ∧ B 7 5 = nI (n - 1) ∧ B 7 6 = A 7 6 ∧ (∀ a k, 8 ≤ a → a ≤ 11 → k < n - 1 → B a k = A a (zJ f k)) ∧ ∀ b, B 12 b = A 12 b
theorem zRm_qa {A B : Nat → Nat → Int32} {f n mk : Nat} (hf : f < n) (h : zRm A B f n) (hQ : zQa A n mk) : zQa B (n - 1) mk := by
  obtain ⟨r1, r2, r3, r4, r5⟩ := h
  obtain ⟨a1, a2, a3, a4, a5, a6⟩ := hQ
  refine ⟨r2, by rw [r3, a2], by omega, fun k hk => ?_, fun j k hj hk => ?_, fun m h1 h2 => ?_⟩
  · rw [r4 8 k (by omega) (by omega) hk, r4 9 k (by omega) (by omega) hk, r4 10 k (by omega) (by omega) hk, r4 11 k (by omega) (by omega) hk]
    exact a4 _ (zJ_n hf hk).1
  · rw [r4 11 j (by omega) (by omega) (by omega), r4 11 k (by omega) (by omega) hk]
    exact a5 _ _ (zJ_s hj) (zJ_n hf hk).1
  · rw [r5]
    exact a6 m h1 h2
theorem zRm_qb {A B : Nat → Nat → Int32} {f n m0 : Nat} {E : Nat → Prop} (hf : f < n) (h : zRm A B f n) (h8 : A 8 f = nI m0) (hm0 : m0 < 8) (hE : ¬ E m0 → ¬ A 11 f = A 12 m0) (hB : zQb A n (fun _ => False)) : zQb B (n - 1) E := by
  obtain ⟨r1, r2, r3, r4, r5⟩ := h
  intro m h1 h2 hx
  obtain ⟨b1, b2, b3⟩ := hB m h1 h2 (fun c => c)
  have hO : ∀ i j, zO B m i j ↔ zO A m i j := fun i j => zO_c h1 h2 (r1 6 m (by omega)) (fun i => r1 4 i (by omega)) (com_c (fun i => r1 2 i (by omega)) (fun i => r1 5 i (by omega)) (fun _ => r1 6 _ (by omega)) (by omega) (by omega)) (com_c (fun i => r1 2 i (by omega)) (fun i => r1 5 i (by omega)) (fun _ => r1 6 _ (by omega)) (by omega) (by omega))
  refine ⟨fun k hk c1 c2 => ?_, fun c => ?_, fun i j c => ?_⟩
  · rw [r4 8 k (by omega) (by omega) hk] at c1
    rw [r4 11 k (by omega) (by omega) hk, r5] at c2
    obtain ⟨i, j, f1, f2, f3⟩ := b1 _ (zJ_n hf hk).1 c1 c2
    exact ⟨i, j, (hO i j).mpr f1, by rw [r4 9 k (by omega) (by omega) hk, r1 3 i (by omega), r1 3 j (by omega), f2], by rw [r4 10 k (by omega) (by omega) hk, r1 4 i (by omega), r1 4 j (by omega), f3]⟩
  · rw [r5] at c
    obtain ⟨k, k1, k2, k3⟩ := b2 c
    have hkf : ¬ k = f := by
      intro e
      subst e
      have : m = m0 := nI_inj (by omega) (by omega) (by rw [← k2, h8])
      subst this
      exact hE hx k3
    obtain ⟨j, j1, j2⟩ := zJ_i hf k1 hkf
    exact ⟨j, j1, by rw [r4 8 j (by omega) (by omega) j1, j2, k2], by rw [r4 11 j (by omega) (by omega) j1, j2, r5, k3]⟩
  · rw [r5]
    exact b3 i j ((hO i j).mp c)
theorem zRm_F {A B M M1 : Nat → Nat → Int32} {f n : Nat} {T C : Nat → Prop} (hf : f < n) (hn : n ≤ 62) (h : zRm A B f n) (h0 : ∀ b, B 0 b = A 0 b) (hM : ∀ k, M1 2 k = rTS M f n 2 k) (hF : zF A (M 2) n T C) : zF B (M1 2) (n - 1) T C := by
  obtain ⟨r1, r2, r3, r4, r5⟩ := h
  obtain ⟨f1, f2, f3, ⟨p1, p2, p3, p4, p5⟩, f5⟩ := hF
  have hlo : ∀ k, k < 75 → ¬ k = 73 → M1 2 k = M 2 k := fun k h1 h2 => by rw [hM, rTS_q (Or.inr ⟨h1, h2⟩)]
  refine ⟨zR_c (fun a b _ h2 => r1 a b (by omega)) f1, zS_c (fun b => r1 4 b (by omega)) f2, zN_c (fun a b h2 => r1 a b (by omega)) (fun k hk => hlo k (by omega) (by omega)) f3, ⟨r2, by rw [hM, rTS_73], by rw [r3, hlo 74 (by omega) (by omega), p3], fun k hk => ?_, fun m h1 h2 hm => ?_⟩, fun k h1 h2 hk => ?_⟩
  · obtain ⟨t1, t2, t3, t4⟩ := rTS_at (M := M) hf hn hk
    rw [r4 8 k (by omega) (by omega) hk, r4 9 k (by omega) (by omega) hk, r4 10 k (by omega) (by omega) hk, r4 11 k (by omega) (by omega) hk, hM, hM, hM, hM, t1, t2, t3, t4]
    exact p4 _ (zJ_n hf hk).1
  · rw [r5, r1 6 m (by omega), hlo _ (by omega) (by omega), hlo _ (by omega) (by omega)]
    exact p5 m h1 h2 hm
  · rw [hlo _ (by omega) (by omega), hlo _ (by omega) (by omega), com_c (fun i => r1 2 i (by omega)) (fun i => r1 5 i (by omega)) (fun _ => r1 6 _ (by omega)) (by omega) (by omega), com_c (fun i => r1 2 i (by omega)) (fun i => r1 5 i (by omega)) (fun _ => r1 6 _ (by omega)) (by omega) (by omega)]
    exact f5 k h1 h2 hk
/-- tallies alike -/
def zT (A M : Nat → Nat → Int32) (e : Nat) : Prop := A 13 0 = M 0 6 ∧ A 13 1 = M 0 7 ∧ A 13 2 = M 0 8 ∧ A 13 3 = M 0 9 ∧ A 13 4 = M 0 10 ∧ A 13 2 = nI e ∧ (e = 0 → A 13 3 < 0) ∧ (¬ e = 0 → ¬ A 13 3 < 0)
theorem cnt_q {A : Nat → Nat → Int32} {ev act m : Int32} {a b : Nat} (h : ¬ a = 13) : uCnt A ev act m a b = A a b := by
  unfold uCnt
  split
  · rw [xup_q (by omega), xup_q (by omega)]
  · split
    · rw [xup_q (by omega), xup_q (by omega), xup_q (by omega), xup_q (by omega)]
    · rw [xup_q (by omega), xup_q (by omega)]
theorem cnt_rm {A : Nat → Nat → Int32} {f n : Nat} {ev act m : Int32} (hn : A 7 5 = nI n) (hf : f < n) : zRm A (uCnt (uRem A f n) ev act m) f n := by
  refine ⟨fun a b h => ?_, ?_, ?_, fun a k h1 h2 hk => ?_, fun b => ?_⟩
  · rw [cnt_q (by omega), rem_q (by omega)]
  · rw [cnt_q (by omega), rem_75 hn (by omega)]
  · rw [cnt_q (by omega), rem_q (by omega)]
  · rw [cnt_q (by omega), rem_at hf h1 h2 hk]
  · rw [cnt_q (by omega), rem_q (by omega)]
theorem nI_s0 {e : Nat} (h : e < 100000000) : ¬ nI (e + 1) = 0 := by
  intro c
  have := ti_nI (n := e + 1) (by omega)
  rw [c, q_0] at this
  omega
/-- the tally of one that is stale -/
theorem cnt_0 {A M : Nat → Nat → Int32} {f n e : Nat} {act m : Int32} (h : zT A M e) : zT (uCnt (uRem A f n) 0 act m) (rTs (rTc (rTS M f n))) e := by
  have rq : ∀ b, uRem A f n 13 b = A 13 b := fun b => rem_q (by omega)
  have sq : ∀ b, rTS M f n 0 b = M 0 b := fun b => rTS_q (Or.inl (by omega))
  obtain ⟨t1, t2, t3, t4, t5, t6, t7, t8⟩ := h
  unfold uCnt rTs rTc
  rw [if_pos rfl]
  refine ⟨?_, ?_, ?_, ?_, ?_, ?_, ?_, ?_⟩
  · rw [xup_q (by omega), xup_same, xup_q (by omega), xup_same, rq, sq, t1]
  · rw [xup_same, xup_same, rq, xup_q (by omega), sq, t2]
  · rw [xup_q (by omega), xup_q (by omega), xup_q (by omega), xup_q (by omega), rq, sq, t3]
  · rw [xup_q (by omega), xup_q (by omega), xup_q (by omega), xup_q (by omega), rq, sq, t4]
  · rw [xup_q (by omega), xup_q (by omega), xup_q (by omega), xup_q (by omega), rq, sq, t5]
  · rw [xup_q (by omega), xup_q (by omega), rq, t6]
  · intro h
    rw [xup_q (by omega), xup_q (by omega), rq]
    exact t7 h
  · intro h
    rw [xup_q (by omega), xup_q (by omega), rq]
    exact t8 h
/-- the tally of an event -/
theorem cnt_1 {A M : Nat → Nat → Int32} {f n e m : Nat} {act : Int32} (he : e < 100000000) (ha : ¬ act < 0) (h : zT A M e) : zT (uCnt (uRem A f n) 1 act (nI m)) (rEv (rTe (rTc (rTS M f n))) act m) (e + 1) := by
  have rq : ∀ b, uRem A f n 13 b = A 13 b := fun b => rem_q (by omega)
  have sq : ∀ b, rTS M f n 0 b = M 0 b := fun b => rTS_q (Or.inl (by omega))
  obtain ⟨t1, t2, t3, t4, t5, t6, t7, t8⟩ := h
  have e9 : rTe (rTc (rTS M f n)) 0 9 = M 0 9 := by
    unfold rTe rTc
    rw [xup_q (by omega), xup_q (by omega), sq]
  unfold uCnt rEv
  rw [if_neg (by decide), rq, rq, e9]
  by_cases z : A 13 2 = 0
  · have e0 : e = 0 := by
      rw [z] at t6
      exact Classical.byContradiction (fun c => by
        have := ti_nI (n := e) (by omega)
        rw [← t6, q_0] at this
        omega)
    rw [if_pos z, if_pos (by rw [← t4]; exact t7 e0)]
    unfold rTe rTc
    refine ⟨?_, ?_, ?_, ?_, ?_, ?_, ?_, ?_⟩
    · rw [xup_q (by omega), xup_q (by omega), xup_q (by omega), xup_same, xup_q (by omega), xup_q (by omega), xup_q (by omega), xup_same, sq, t1]
    · rw [xup_q (by omega), xup_q (by omega), xup_q (by omega), xup_q (by omega), xup_q (by omega), xup_q (by omega), xup_q (by omega), xup_q (by omega), rq, sq, t2]
    · rw [xup_same, xup_q (by omega), xup_q (by omega), xup_same, xup_q (by omega), sq, t3]
    · rw [xup_q (by omega), xup_q (by omega), xup_same, xup_q (by omega), xup_same]
    · rw [xup_q (by omega), xup_same, xup_same]
    · rw [xup_same, t6, nI_1]
    · intro c
      omega
    · intro _
      rw [xup_q (by omega), xup_q (by omega), xup_same]
      exact ha
  · have e0 : ¬ e = 0 := by
      intro c
      rw [c, nI_0] at t6
      exact z t6
    rw [if_neg z, if_neg (by rw [← t4]; exact t8 e0)]
    unfold rTe rTc
    refine ⟨?_, ?_, ?_, ?_, ?_, ?_, ?_, ?_⟩
    · rw [xup_q (by omega), xup_same, xup_q (by omega), xup_same, sq, t1]
    · rw [xup_q (by omega), xup_q (by omega), xup_q (by omega), xup_q (by omega), rq, sq, t2]
    · rw [xup_same, xup_same, xup_q (by omega), sq, t3]
    · rw [xup_q (by omega), xup_q (by omega), xup_q (by omega), xup_q (by omega), rq, sq, t4]
    · rw [xup_q (by omega), xup_q (by omega), xup_q (by omega), xup_q (by omega), rq, sq, t5]
    · rw [xup_same, t6, nI_1]
    · intro c
      omega
    · intro _
      rw [xup_q (by omega), xup_q (by omega), rq]
      exact t8 e0
