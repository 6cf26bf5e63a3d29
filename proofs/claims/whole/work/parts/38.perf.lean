def uLUf (A : Nat → Nat → Int32) (p q : Int32) : Nat → Int32 → Int32 → Int32
  | 0, _, s => s
  | f + 1, ld, s => if xin ld 8 = true then uLUf A p q f (uSuc A ld p q) (s ||| (1 <<< (ld &&& 31))) else s
def uLU (A : Nat → Nat → Int32) (p q : Int32) : Int32 := uLUf A p q 8 (uLd A (A 0 8) 1 8) 0
set_option maxRecDepth 100000 in
set_option maxHeartbeats 4000000 in
theorem i29 (X : xX) (sh : List (Nat × Nat × List Value)) (σ A : Nat → Nat → Int32) (c : Nat) (hc : xcup sh c) (p q ld s : Int32) (r : Nat) (hr : r < 8) : xV X 29 (16, [.ref c, .int p, .int q, .int ld, .int s, .int (nI r)], [], (sh, xput 14 σ c A)) = if xin ld 8 = true then xV X 29 (16, [.ref c, .int p, .int q, .int (uSuc A ld p q), .int (s ||| (1 <<< (ld &&& 31))), .int (nI (r + 1))], [], (sh, xput 14 σ c A)) else some (some (.int s), (sh, xput 14 σ c A)) := by
  have hC := hc
  obtain ⟨h0, h1, h2, h3, h4, h5, h6, h7, h8, h9, h10, h11, h12, h13⟩ := hc
  have g1 : ¬ 8 ≤ nI r := nI_lt' (a := r) (b := 8) hr (by omega)
  rw [xV_d X 29 [16] 40]
  by_cases hl : xin ld 8 = true
  · simp [xent, xsl, Value.category, xr_d, xr_0, xg_nx, xg_n, xg_o, xg_c, xth_s, xth_v, xth_ite, xth_n, xd_iconst, xd_bipush, xd_sipush, xd_lconst, xd_iload, xd_iload_n, xd_lload, xd_lload_n, xd_aload, xd_aload_n, xd_istore, xd_istore_n, xd_astore, xd_astore_n, xd_lstore, xd_lstore_n, xd_iadd, xd_isub, xd_imul, xd_iand, xd_ior, xd_ishl, xd_ishr, xd_ladd, xd_lsub, xd_lmul, xd_land, xd_lor, xd_idiv, xd_irem, xd_ldiv, xd_lrem, xd_ineg, xd_lneg, xd_lshl, xd_lshr, xd_lcmp, xd_i2l, xd_l2i, xd_dup_int, xd_dup_ref, xd_pop, xd_dup2, xd_goto, xd_ifC, xd_ifI, xd_getf, xd_putI, xd_putR, xd_iald, xd_ialdX, xd_bald, xd_iast, xd_bast, xd_aald, xd_aast, xd_alen, xd_alenX, xd_newI, xd_newZ, xd_newQ, xd_newO, xd_invS, xd_invV, xd_invI, xd_iret, xd_lret, xd_vret, xd_ldc, xd_ldc2, xd_iinc, xd_aret, xd_tsw, xd_lsw, xC_d, xld, xisI, xisL, xisA, xgo_ite, xjp, xcmp, xrt, xinv, xcall, xpop, xcat, xgf, xal, xas, xpf, xle, xaq, xbite, xbite2, xsto, xsto2, xst1, xst2, xkl, xtt, xnum, xi0, xzf, v3, List.getElem?_cons_zero, List.getElem?_cons_succ, List.set_cons_zero, List.set_cons_succ, d29_0, d29_1, d29_2, d29_5, d29_6, d29_9, d29_10, d29_11, d29_13, d29_14, d29_16, d29_18, d29_20, d29_23, d29_24, d29_27, d29_30, d29_32, d29_33, d29_34, d29_35, d29_36, d29_38, d29_39, d29_40, d29_41, d29_42, d29_45, d29_46, d29_49, d29_52, d29_54, wo29, wm29, wr29, f0_45, m0_160, m0_163, m0_62, r29_27, r29_30, r29_88, wm27, wm30, wm88, wo27, wo30, b8_8, hC, h0, h1, h2, h3, h4, h5, h6, h7, h8, h9, h10, h11, h12, h13, xput_at, xput_at0, xput_up, xput_up0, g1, hl, nI_1, k88, k30]
  · simp only [Bool.not_eq_true] at hl
    simp [xent, xsl, Value.category, xr_d, xr_0, xg_nx, xg_n, xg_o, xg_c, xth_s, xth_v, xth_ite, xth_n, xd_iconst, xd_bipush, xd_sipush, xd_lconst, xd_iload, xd_iload_n, xd_lload, xd_lload_n, xd_aload, xd_aload_n, xd_istore, xd_istore_n, xd_astore, xd_astore_n, xd_lstore, xd_lstore_n, xd_iadd, xd_isub, xd_imul, xd_iand, xd_ior, xd_ishl, xd_ishr, xd_ladd, xd_lsub, xd_lmul, xd_land, xd_lor, xd_idiv, xd_irem, xd_ldiv, xd_lrem, xd_ineg, xd_lneg, xd_lshl, xd_lshr, xd_lcmp, xd_i2l, xd_l2i, xd_dup_int, xd_dup_ref, xd_pop, xd_dup2, xd_goto, xd_ifC, xd_ifI, xd_getf, xd_putI, xd_putR, xd_iald, xd_ialdX, xd_bald, xd_iast, xd_bast, xd_aald, xd_aast, xd_alen, xd_alenX, xd_newI, xd_newZ, xd_newQ, xd_newO, xd_invS, xd_invV, xd_invI, xd_iret, xd_lret, xd_vret, xd_ldc, xd_ldc2, xd_iinc, xd_aret, xd_tsw, xd_lsw, xC_d, xld, xisI, xisL, xisA, xgo_ite, xjp, xcmp, xrt, xinv, xcall, xpop, xcat, xgf, xal, xas, xpf, xle, xaq, xbite, xbite2, xsto, xsto2, xst1, xst2, xkl, xtt, xnum, xi0, xzf, v3, List.getElem?_cons_zero, List.getElem?_cons_succ, List.set_cons_zero, List.set_cons_succ, d29_0, d29_1, d29_2, d29_5, d29_6, d29_9, d29_10, d29_11, d29_13, d29_14, d29_16, d29_18, d29_20, d29_23, d29_24, d29_27, d29_30, d29_32, d29_33, d29_34, d29_35, d29_36, d29_38, d29_39, d29_40, d29_41, d29_42, d29_45, d29_46, d29_49, d29_52, d29_54, wo29, wm29, wr29, f0_45, m0_160, m0_163, m0_62, r29_27, r29_30, r29_88, wm27, wm30, wm88, wo27, wo30, b8_8, hC, h0, h1, h2, h3, h4, h5, h6, h7, h8, h9, h10, h11, h12, h13, xput_at, xput_at0, xput_up, xput_up0, g1, hl, nI_1, k88, k30]
set_option maxRecDepth 100000 in
set_option maxHeartbeats 4000000 in
theorem x29 (X : xX) (sh : List (Nat × Nat × List Value)) (σ A : Nat → Nat → Int32) (c : Nat) (hc : xcup sh c) (p q ld s : Int32) : xV X 29 (16, [.ref c, .int p, .int q, .int ld, .int s, .int (nI 8)], [], (sh, xput 14 σ c A)) = some (some (.int s), (sh, xput 14 σ c A)) := by
  have hC := hc
  obtain ⟨h0, h1, h2, h3, h4, h5, h6, h7, h8, h9, h10, h11, h12, h13⟩ := hc
  have g1 : 8 ≤ nI 8 := nI_le' (a := 8) (b := 8) (by omega) (by omega)
  rw [xV_d X 29 [16] 40]
  simp [xent, xsl, Value.category, xr_d, xr_0, xg_nx, xg_n, xg_o, xg_c, xth_s, xth_v, xth_ite, xth_n, xd_iconst, xd_bipush, xd_sipush, xd_lconst, xd_iload, xd_iload_n, xd_lload, xd_lload_n, xd_aload, xd_aload_n, xd_istore, xd_istore_n, xd_astore, xd_astore_n, xd_lstore, xd_lstore_n, xd_iadd, xd_isub, xd_imul, xd_iand, xd_ior, xd_ishl, xd_ishr, xd_ladd, xd_lsub, xd_lmul, xd_land, xd_lor, xd_idiv, xd_irem, xd_ldiv, xd_lrem, xd_ineg, xd_lneg, xd_lshl, xd_lshr, xd_lcmp, xd_i2l, xd_l2i, xd_dup_int, xd_dup_ref, xd_pop, xd_dup2, xd_goto, xd_ifC, xd_ifI, xd_getf, xd_putI, xd_putR, xd_iald, xd_ialdX, xd_bald, xd_iast, xd_bast, xd_aald, xd_aast, xd_alen, xd_alenX, xd_newI, xd_newZ, xd_newQ, xd_newO, xd_invS, xd_invV, xd_invI, xd_iret, xd_lret, xd_vret, xd_ldc, xd_ldc2, xd_iinc, xd_aret, xd_tsw, xd_lsw, xC_d, xld, xisI, xisL, xisA, xgo_ite, xjp, xcmp, xrt, xinv, xcall, xpop, xcat, xgf, xal, xas, xpf, xle, xaq, xbite, xbite2, xsto, xsto2, xst1, xst2, xkl, xtt, xnum, xi0, xzf, v3, List.getElem?_cons_zero, List.getElem?_cons_succ, List.set_cons_zero, List.set_cons_succ, d29_0, d29_1, d29_2, d29_5, d29_6, d29_9, d29_10, d29_11, d29_13, d29_14, d29_16, d29_18, d29_20, d29_23, d29_24, d29_27, d29_30, d29_32, d29_33, d29_34, d29_35, d29_36, d29_38, d29_39, d29_40, d29_41, d29_42, d29_45, d29_46, d29_49, d29_52, d29_54, wo29, wm29, wr29, f0_45, m0_160, m0_163, m0_62, r29_27, r29_30, r29_88, wm27, wm30, wm88, wo27, wo30, b8_8, hC, h0, h1, h2, h3, h4, h5, h6, h7, h8, h9, h10, h11, h12, h13, xput_at, xput_at0, xput_up, xput_up0, g1]
theorem l29 (X : xX) (sh : List (Nat × Nat × List Value)) (σ A : Nat → Nat → Int32) (c : Nat) (hc : xcup sh c) (p q : Int32) : ∀ d r ld s, r + d = 8 → xV X 29 (16, [.ref c, .int p, .int q, .int ld, .int s, .int (nI r)], [], (sh, xput 14 σ c A)) = some (some (.int (uLUf A p q d ld s)), (sh, xput 14 σ c A))
  | 0, r, ld, s, h => by
    have e : r = 8 := by omega
    subst e
    exact x29 X sh σ A c hc p q ld s
  | d + 1, r, ld, s, h => by
    rw [i29 X sh σ A c hc p q ld s r (by omega), l29 X sh σ A c hc p q d (r + 1) _ _ (by omega), uLUf]
    by_cases hl : xin ld 8 = true <;> simp [hl]
set_option maxRecDepth 100000 in
set_option maxHeartbeats 4000000 in
theorem k29 (X : xX) (sh : List (Nat × Nat × List Value)) (σ A : Nat → Nat → Int32) (c : Nat) (hc : xcup sh c) (p q : Int32) : xK X 29 [.ref (c), .int p, .int q] (sh, xput 14 σ c A) = some (some (.int (uLU A p q)), (sh, xput 14 σ c A)) := by
  have hC := hc
  obtain ⟨h0, h1, h2, h3, h4, h5, h6, h7, h8, h9, h10, h11, h12, h13⟩ := hc
  rw [xK_d X 29 _ _ [16] 20]
  simp [xent, xsl, Value.category, xr_d, xr_0, xg_nx, xg_n, xg_o, xg_c, xth_s, xth_v, xth_ite, xth_n, xd_iconst, xd_bipush, xd_sipush, xd_lconst, xd_iload, xd_iload_n, xd_lload, xd_lload_n, xd_aload, xd_aload_n, xd_istore, xd_istore_n, xd_astore, xd_astore_n, xd_lstore, xd_lstore_n, xd_iadd, xd_isub, xd_imul, xd_iand, xd_ior, xd_ishl, xd_ishr, xd_ladd, xd_lsub, xd_lmul, xd_land, xd_lor, xd_idiv, xd_irem, xd_ldiv, xd_lrem, xd_ineg, xd_lneg, xd_lshl, xd_lshr, xd_lcmp, xd_i2l, xd_l2i, xd_dup_int, xd_dup_ref, xd_pop, xd_dup2, xd_goto, xd_ifC, xd_ifI, xd_getf, xd_putI, xd_putR, xd_iald, xd_ialdX, xd_bald, xd_iast, xd_bast, xd_aald, xd_aast, xd_alen, xd_alenX, xd_newI, xd_newZ, xd_newQ, xd_newO, xd_invS, xd_invV, xd_invI, xd_iret, xd_lret, xd_vret, xd_ldc, xd_ldc2, xd_iinc, xd_aret, xd_tsw, xd_lsw, xC_d, xld, xisI, xisL, xisA, xgo_ite, xjp, xcmp, xrt, xinv, xcall, xpop, xcat, xgf, xal, xas, xpf, xle, xaq, xbite, xbite2, xsto, xsto2, xst1, xst2, xkl, xtt, xnum, xi0, xzf, v3, List.getElem?_cons_zero, List.getElem?_cons_succ, List.set_cons_zero, List.set_cons_succ, d29_0, d29_1, d29_2, d29_5, d29_6, d29_9, d29_10, d29_11, d29_13, d29_14, d29_16, d29_18, d29_20, d29_23, d29_24, d29_27, d29_30, d29_32, d29_33, d29_34, d29_35, d29_36, d29_38, d29_39, d29_40, d29_41, d29_42, d29_45, d29_46, d29_49, d29_52, d29_54, wo29, wm29, wr29, f0_45, m0_160, m0_163, m0_62, r29_27, r29_30, r29_88, wm27, wm30, wm88, wo27, wo30, b8_8, hC, h0, h1, h2, h3, h4, h5, h6, h7, h8, h9, h10, h11, h12, h13, xput_at, xput_at0, xput_up, xput_up0, k27]
  have h := l29 X sh σ A c hC p q 8 0 (uLd A (A 0 8) 1 8) 0 (by omega)
  rw [nI_0] at h
  exact h
theorem uShs_at : ∀ (d k : Nat) (A : Nat → Nat → Int32) (a b : Nat), uShs A k d a b = if 8 ≤ a ∧ a ≤ 11 ∧ k ≤ b ∧ b < k + d then A a (b + 1) else A a b
  | 0, k, A, a, b => by rw [uShs, if_neg (by omega)]
  | d + 1, k, A, a, b => by
    rw [uShs, uShs_at d (k + 1) (uSh A k) a b]
    have hs : ∀ x, uSh A k a x = if 8 ≤ a ∧ a ≤ 11 ∧ x = k then A a (k + 1) else A a x := by
      intro x
      unfold uSh xup
      by_cases h8 : a = 8
      · subst h8; by_cases hx : x = k <;> simp [hx]
      · by_cases h9 : a = 9
        · subst h9; by_cases hx : x = k <;> simp [hx]
        · by_cases h10 : a = 10
          · subst h10; by_cases hx : x = k <;> simp [hx]
          · by_cases h11 : a = 11
            · subst h11; by_cases hx : x = k <;> simp [hx]
            · rw [if_neg (show ¬ (8 ≤ a ∧ a ≤ 11 ∧ x = k) by omega)]
              simp [h8, h9, h10, h11]
    rw [hs, hs]
    by_cases h1 : 8 ≤ a ∧ a ≤ 11
    · by_cases h2 : b = k
      · subst h2
        rw [if_neg (show ¬ (8 ≤ a ∧ a ≤ 11 ∧ b + 1 ≤ b ∧ b < b + 1 + d) by omega), if_pos (show 8 ≤ a ∧ a ≤ 11 ∧ b = b by omega), if_pos (by omega)]
      · by_cases h3 : k + 1 ≤ b ∧ b < k + 1 + d
        · rw [if_pos (show 8 ≤ a ∧ a ≤ 11 ∧ k + 1 ≤ b ∧ b < k + 1 + d by omega), if_neg (show ¬ (8 ≤ a ∧ a ≤ 11 ∧ b + 1 = k) by omega), if_pos (by omega)]
        · rw [if_neg (show ¬ (8 ≤ a ∧ a ≤ 11 ∧ k + 1 ≤ b ∧ b < k + 1 + d) by omega), if_neg (show ¬ (8 ≤ a ∧ a ≤ 11 ∧ b = k) by omega), if_neg (by omega)]
    · rw [if_neg (show ¬ (8 ≤ a ∧ a ≤ 11 ∧ k + 1 ≤ b ∧ b < k + 1 + d) by omega), if_neg (show ¬ (8 ≤ a ∧ a ≤ 11 ∧ b = k) by omega), if_neg (by omega)]
theorem uRem_8 {A : Nat → Nat → Int32} {k n b : Nat} (hk : k < n) : uRem A k n 8 b = if k ≤ b ∧ b < n - 1 then A 8 (b + 1) else A 8 b := by
  have e : uRem A k n 8 b = uShs A k (n - 1 - k) 8 b := by simp [uRem, xup]
  rw [e, uShs_at]
  by_cases h : k ≤ b ∧ b < n - 1
  · rw [if_pos h, if_pos (by omega)]
  · rw [if_neg h, if_neg (by omega)]
theorem uRem_75 {A : Nat → Nat → Int32} {k n : Nat} : uRem A k n 7 5 = A 7 5 - 1 := by simp [uRem, xup]
theorem uWF_rem {A : Nat → Nat → Int32} {k n : Nat} (hn32 : n ≤ 32) (hn : A 7 5 = nI n) (hm : ∀ k, k < n → ∃ m, 1 ≤ m ∧ m ≤ 7 ∧ A 8 k = nI m) (hk : k < n) : uWF (uRem A k n) := by
  refine ⟨n - 1, by omega, ?_, fun b hb => ?_⟩
  · rw [uRem_75, hn]
    have : n = (n - 1) + 1 := by omega
    rw [this, nI_pred]
    rfl
  · rw [uRem_8 hk]
    split
    · exact hm (b + 1) (by omega)
    · exact hm b (by omega)
theorem uWF_of {A B : Nat → Nat → Int32} (h7 : B 7 5 = A 7 5) (h8 : ∀ b, B 8 b = A 8 b) (h : uWF A) : uWF B := by
  obtain ⟨n, h1, h2, h3⟩ := h
  exact ⟨n, h1, by rw [h7]; exact h2, fun k hk => by rw [h8]; exact h3 k hk⟩
theorem uWF_cnt {A : Nat → Nat → Int32} {ev act m : Int32} (h : uWF A) : uWF (uCnt A ev act m) := by
  refine uWF_of ?_ (fun b => ?_) h
  · unfold uCnt; repeat' split
    all_goals simp [xup]
  · unfold uCnt; repeat' split
    all_goals simp [xup]
theorem uM_nI {m : Int32} (h : uM m = true) : ∃ k, 1 ≤ k ∧ k ≤ 7 ∧ m = nI k := by
  obtain ⟨k, hk, rfl⟩ := xin_of (uM_in h) (by omega)
  refine ⟨k, ?_, by omega, rfl⟩
  rcases Nat.eq_zero_or_pos k with h0 | h0
  · subst h0; exact absurd h (by decide)
  · exact h0
theorem uWF_put {A : Nat → Nat → Int32} {m u l : Int32} (h : uWF A) : uWF (uPut A m u l) := by
  unfold uPut
  by_cases hr : uRoom A m = true
  · rw [if_pos hr]
    obtain ⟨n, h1, h2, h3⟩ := h
    obtain ⟨hi, hm⟩ := uRoom_in hr
    obtain ⟨m', hm1, hm7, rfl⟩ := uM_nI hm
    rw [h2, xin_nI (by omega)] at hi
    have hn : n < 32 := by simpa using hi
    have hc := nI_cl (n := n) (by omega)
    refine ⟨n + 1, by omega, ?_, fun k hk => ?_⟩
    · simp [xup, h2, nI_1]
    · by_cases hkn : k = n
      · exact ⟨m', hm1, hm7, by simp [xup, h2, hc, hkn]⟩
      · obtain ⟨m2, a1, a2, a3⟩ := h3 k (by omega)
        exact ⟨m2, a1, a2, by simp [xup, h2, hc, hkn, a3]⟩
  · rw [if_neg hr]; exact h
theorem uWF_dis {A : Nat → Nat → Int32} {m : Int32} (h : uWF A) : uWF (uDis A m) := uWF_of (uDis_r (by omega)) (fun b => uDis_r (by omega)) h
theorem uWF_cert {A : Nat → Nat → Int32} {m w l : Int32} (h : uWF A) : uWF (uCert A m w l) := by
  unfold uCert
  split
  · exact uWF_put (uWF_dis h)
  · exact uWF_dis h
theorem uWF_dec {A : Nat → Nat → Int32} {m p q : Int32} (h : uWF A) : uWF (uDecA A m p q) := by
  unfold uDecA
  split
  · exact uWF_cert (uWF_of (by simp [xup]) (fun b => by simp [xup]) h)
  · exact h
theorem uWF_ch {p q : Int32} : ∀ (f : Nat) (A : Nat → Nat → Int32) (m : Nat) (ch : Int32), uWF A → uWF (uCh p q f A m ch)
  | 0, A, m, ch, h => h
  | f + 1, A, m, ch, h => by
    rw [uCh]
    split
    · exact h
    · exact uWF_ch f _ _ _ (uWF_dec h)
theorem uDue_k {A : Nat → Nat → Int32} {un : Int32} (h : uWF A) (hd : uDue A un = true) : ∃ n, n ≤ 32 ∧ A 7 5 = nI n ∧ uN A = n ∧ uF A < n ∧ uE A 0 n = nI (uF A) ∧ ∀ k, k < n → ∃ m, 1 ≤ m ∧ m ≤ 7 ∧ A 8 k = nI m := by
  obtain ⟨n, h1, h2, h3⟩ := h
  have eN : uN A = n := by rw [uN, h2, nI_cl (by omega)]
  simp only [uDue, Bool.and_eq_true, decide_eq_true_eq, eN] at hd
  rcases uE_c A 0 n with he | ⟨k, hk, he⟩
  · exact absurd he hd.1
  · have eF : uF A = k := by rw [uF, eN, he, nI_cl (by omega)]
    exact ⟨n, h1, h2, eN, by rw [eF]; exact hk, by rw [eF]; exact he, h3⟩
theorem uWF_tk {A : Nat → Nat → Int32} {un act : Int32} (h : uWF A) (hd : uDue A un = true) : uWF (uTk A act) := by
  obtain ⟨n, h1, h2, eN, hF, -, h3⟩ := uDue_k h hd
  rw [uTk, eN]
  exact uWF_ch _ _ _ _ (uWF_cnt (uWF_rem h1 h2 h3 hF))
def uLp (un act : Int32) : Nat → (Nat → Nat → Int32) → Nat → Nat → Int32
  | 0, A => A
  | f + 1, A => if uDue A un = true then uLp un act f (uTk A act) else A
theorem uWF_lp {un act : Int32} : ∀ (f : Nat) (A : Nat → Nat → Int32), uWF A → uWF (uLp un act f A)
  | 0, A, h => h
  | f + 1, A, h => by
    rw [uLp]
    split
    · rename_i hd
      exact uWF_lp f _ (uWF_tk h hd)
    · exact h
set_option maxRecDepth 100000 in
set_option maxHeartbeats 4000000 in
theorem i20 (X : xX) (sh : List (Nat × Nat × List Value)) (σ A : Nat → Nat → Int32) (c : Nat) (hc : xcup sh c) (hw : uWF A) (act d r s un : Int32) (i : Nat) (hi : i < 1000) : xV X 20 (33, [.ref c, .int act, .int d, .int r, .int s, .int un, .int 1, .int (nI i)], [], (sh, xput 14 σ c A)) = xV X 20 (33, [.ref c, .int act, .int d, .int r, .int s, .int un, .int (xi (uDue A un)), .int (nI (i + 1))], [], (sh, xput 14 σ c (if uDue A un = true then uTk A act else A))) := by
  have hC := hc
  obtain ⟨h0, h1, h2, h3, h4, h5, h6, h7, h8, h9, h10, h11, h12, h13⟩ := hc
  have g1 : ¬ 1000 ≤ nI i := nI_lt' (a := i) (b := 1000) hi (by omega)
  rw [xV_d X 20 [33] 40]
  simp [xent, xsl, Value.category, xr_d, xr_0, xg_nx, xg_n, xg_o, xg_c, xth_s, xth_v, xth_ite, xth_n, xd_iconst, xd_bipush, xd_sipush, xd_lconst, xd_iload, xd_iload_n, xd_lload, xd_lload_n, xd_aload, xd_aload_n, xd_istore, xd_istore_n, xd_astore, xd_astore_n, xd_lstore, xd_lstore_n, xd_iadd, xd_isub, xd_imul, xd_iand, xd_ior, xd_ishl, xd_ishr, xd_ladd, xd_lsub, xd_lmul, xd_land, xd_lor, xd_idiv, xd_irem, xd_ldiv, xd_lrem, xd_ineg, xd_lneg, xd_lshl, xd_lshr, xd_lcmp, xd_i2l, xd_l2i, xd_dup_int, xd_dup_ref, xd_pop, xd_dup2, xd_goto, xd_ifC, xd_ifI, xd_getf, xd_putI, xd_putR, xd_iald, xd_ialdX, xd_bald, xd_iast, xd_bast, xd_aald, xd_aast, xd_alen, xd_alenX, xd_newI, xd_newZ, xd_newQ, xd_newO, xd_invS, xd_invV, xd_invI, xd_iret, xd_lret, xd_vret, xd_ldc, xd_ldc2, xd_iinc, xd_aret, xd_tsw, xd_lsw, xC_d, xld, xisI, xisL, xisA, xgo_ite, xjp, xcmp, xrt, xinv, xcall, xpop, xcat, xgf, xal, xas, xpf, xle, xaq, xbite, xbite2, xsto, xsto2, xst1, xst2, xkl, xtt, xnum, xi0, xzf, v3, List.getElem?_cons_zero, List.getElem?_cons_succ, List.set_cons_zero, List.set_cons_succ, d20_0, d20_1, d20_3, d20_6, d20_7, d20_8, d20_9, d20_11, d20_14, d20_15, d20_18, d20_19, d20_20, d20_23, d20_24, d20_25, d20_27, d20_28, d20_30, d20_31, d20_33, d20_35, d20_38, d20_41, d20_43, d20_46, d20_47, d20_49, d20_50, d20_53, d20_55, d20_58, d20_61, d20_62, d20_64, d20_67, wo20, wm20, wr20, f0_45, m0_49, m0_90, m0_94, r20_2, r20_21, r20_24, wm2, wm21, wm24, wo2, wo21, wo24, b16_1000, b8_46, hC, h0, h1, h2, h3, h4, h5, h6, h7, h8, h9, h10, h11, h12, h13, xput_at, xput_at0, xput_up, xput_up0, g1, hw, nI_1, k24]
set_option maxRecDepth 100000 in
set_option maxHeartbeats 4000000 in
theorem x20 (X : xX) (sh : List (Nat × Nat × List Value)) (σ A : Nat → Nat → Int32) (c : Nat) (hc : xcup sh c) (act d r s un mo : Int32) (i : Nat) (hi : i ≤ 1000) (hm : i = 1000 ∨ mo = 0) : xV X 20 (33, [.ref c, .int act, .int d, .int r, .int s, .int un, .int mo, .int (nI i)], [], (sh, xput 14 σ c A)) = some (none, (sh, xput 14 σ c (xup A 0 8 un))) := by
  have hC := hc
  obtain ⟨h0, h1, h2, h3, h4, h5, h6, h7, h8, h9, h10, h11, h12, h13⟩ := hc
  by_cases hz : i = 1000
  · subst hz
    have g1 : 1000 ≤ nI 1000 := nI_le' (a := 1000) (b := 1000) (by omega) (by omega)
    rw [xV_d X 20 [33] 40]
    simp [xent, xsl, Value.category, xr_d, xr_0, xg_nx, xg_n, xg_o, xg_c, xth_s, xth_v, xth_ite, xth_n, xd_iconst, xd_bipush, xd_sipush, xd_lconst, xd_iload, xd_iload_n, xd_lload, xd_lload_n, xd_aload, xd_aload_n, xd_istore, xd_istore_n, xd_astore, xd_astore_n, xd_lstore, xd_lstore_n, xd_iadd, xd_isub, xd_imul, xd_iand, xd_ior, xd_ishl, xd_ishr, xd_ladd, xd_lsub, xd_lmul, xd_land, xd_lor, xd_idiv, xd_irem, xd_ldiv, xd_lrem, xd_ineg, xd_lneg, xd_lshl, xd_lshr, xd_lcmp, xd_i2l, xd_l2i, xd_dup_int, xd_dup_ref, xd_pop, xd_dup2, xd_goto, xd_ifC, xd_ifI, xd_getf, xd_putI, xd_putR, xd_iald, xd_ialdX, xd_bald, xd_iast, xd_bast, xd_aald, xd_aast, xd_alen, xd_alenX, xd_newI, xd_newZ, xd_newQ, xd_newO, xd_invS, xd_invV, xd_invI, xd_iret, xd_lret, xd_vret, xd_ldc, xd_ldc2, xd_iinc, xd_aret, xd_tsw, xd_lsw, xC_d, xld, xisI, xisL, xisA, xgo_ite, xjp, xcmp, xrt, xinv, xcall, xpop, xcat, xgf, xal, xas, xpf, xle, xaq, xbite, xbite2, xsto, xsto2, xst1, xst2, xkl, xtt, xnum, xi0, xzf, v3, List.getElem?_cons_zero, List.getElem?_cons_succ, List.set_cons_zero, List.set_cons_succ, d20_0, d20_1, d20_3, d20_6, d20_7, d20_8, d20_9, d20_11, d20_14, d20_15, d20_18, d20_19, d20_20, d20_23, d20_24, d20_25, d20_27, d20_28, d20_30, d20_31, d20_33, d20_35, d20_38, d20_41, d20_43, d20_46, d20_47, d20_49, d20_50, d20_53, d20_55, d20_58, d20_61, d20_62, d20_64, d20_67, wo20, wm20, wr20, f0_45, m0_49, m0_90, m0_94, r20_2, r20_21, r20_24, wm2, wm21, wm24, wo2, wo21, wo24, b16_1000, b8_46, hC, h0, h1, h2, h3, h4, h5, h6, h7, h8, h9, h10, h11, h12, h13, xput_at, xput_at0, xput_up, xput_up0, g1]
  · have hmo : mo = 0 := by rcases hm with h | h; exact absurd h hz; exact h
    have g1 : ¬ 1000 ≤ nI i := nI_lt' (a := i) (b := 1000) (by omega) (by omega)
    rw [xV_d X 20 [33] 40]
    simp [xent, xsl, Value.category, xr_d, xr_0, xg_nx, xg_n, xg_o, xg_c, xth_s, xth_v, xth_ite, xth_n, xd_iconst, xd_bipush, xd_sipush, xd_lconst, xd_iload, xd_iload_n, xd_lload, xd_lload_n, xd_aload, xd_aload_n, xd_istore, xd_istore_n, xd_astore, xd_astore_n, xd_lstore, xd_lstore_n, xd_iadd, xd_isub, xd_imul, xd_iand, xd_ior, xd_ishl, xd_ishr, xd_ladd, xd_lsub, xd_lmul, xd_land, xd_lor, xd_idiv, xd_irem, xd_ldiv, xd_lrem, xd_ineg, xd_lneg, xd_lshl, xd_lshr, xd_lcmp, xd_i2l, xd_l2i, xd_dup_int, xd_dup_ref, xd_pop, xd_dup2, xd_goto, xd_ifC, xd_ifI, xd_getf, xd_putI, xd_putR, xd_iald, xd_ialdX, xd_bald, xd_iast, xd_bast, xd_aald, xd_aast, xd_alen, xd_alenX, xd_newI, xd_newZ, xd_newQ, xd_newO, xd_invS, xd_invV, xd_invI, xd_iret, xd_lret, xd_vret, xd_ldc, xd_ldc2, xd_iinc, xd_aret, xd_tsw, xd_lsw, xC_d, xld, xisI, xisL, xisA, xgo_ite, xjp, xcmp, xrt, xinv, xcall, xpop, xcat, xgf, xal, xas, xpf, xle, xaq, xbite, xbite2, xsto, xsto2, xst1, xst2, xkl, xtt, xnum, xi0, xzf, v3, List.getElem?_cons_zero, List.getElem?_cons_succ, List.set_cons_zero, List.set_cons_succ, d20_0, d20_1, d20_3, d20_6, d20_7, d20_8, d20_9, d20_11, d20_14, d20_15, d20_18, d20_19, d20_20, d20_23, d20_24, d20_25, d20_27, d20_28, d20_30, d20_31, d20_33, d20_35, d20_38, d20_41, d20_43, d20_46, d20_47, d20_49, d20_50, d20_53, d20_55, d20_58, d20_61, d20_62, d20_64, d20_67, wo20, wm20, wr20, f0_45, m0_49, m0_90, m0_94, r20_2, r20_21, r20_24, wm2, wm21, wm24, wo2, wo21, wo24, b16_1000, b8_46, hC, h0, h1, h2, h3, h4, h5, h6, h7, h8, h9, h10, h11, h12, h13, xput_at, xput_at0, xput_up, xput_up0, g1, hmo]
theorem l20 (X : xX) (sh : List (Nat × Nat × List Value)) (σ : Nat → Nat → Int32) (c : Nat) (hc : xcup sh c) (act d r s un : Int32) : ∀ (f i : Nat) (A : Nat → Nat → Int32), uWF A → i + f = 1000 → xV X 20 (33, [.ref c, .int act, .int d, .int r, .int s, .int un, .int 1, .int (nI i)], [], (sh, xput 14 σ c A)) = some (none, (sh, xput 14 σ c (xup (uLp un act f A) 0 8 un)))
  | 0, i, A, hw, h => x20 X sh σ A c hc act d r s un 1 i (by omega) (Or.inl (by omega))
  | f + 1, i, A, hw, h => by
    rw [i20 X sh σ A c hc hw act d r s un i (by omega), uLp]
    by_cases hd : uDue A un = true
    · rw [if_pos hd, if_pos hd, hd]
      exact l20 X sh σ c hc act d r s un f (i + 1) _ (uWF_tk hw hd) (by omega)
    · rw [if_neg hd, if_neg hd]
      simp only [Bool.not_eq_true] at hd
      rw [hd]
      exact x20 X sh σ A c hc act d r s un (xi false) (i + 1) (by omega) (Or.inr rfl)
def uPerf (A : Nat → Nat → Int32) (act d r s : Int32) : Nat → Nat → Int32 := if d = 46 then xup (uLp (A 0 8 + 1) act 1000 A) 0 8 (A 0 8 + 1) else uAnew (uChg A d r s)
set_option maxRecDepth 100000 in
set_option maxHeartbeats 4000000 in
theorem k20 (X : xX) (sh : List (Nat × Nat × List Value)) (σ A : Nat → Nat → Int32) (c : Nat) (hc : xcup sh c) (hw : uWF A) (act d r s : Int32) : xK X 20 [.ref (c), .int act, .int d, .int r, .int s] (sh, xput 14 σ c A) = some (none, (sh, xput 14 σ c (uPerf A act d r s))) := by
  have hC := hc
  obtain ⟨h0, h1, h2, h3, h4, h5, h6, h7, h8, h9, h10, h11, h12, h13⟩ := hc
  by_cases hd : d = 46
  · have h := l20 X sh σ c hC act d r s (A 0 8 + 1) 1000 0 A hw (by omega)
    rw [nI_0] at h
    rw [uPerf, if_pos hd]
    subst hd
    rw [xK_d X 20 _ _ [33] 40]; simp [xent, xsl, Value.category, xr_d, xr_0, xg_nx, xg_n, xg_o, xg_c, xth_s, xth_v, xth_ite, xth_n, xd_iconst, xd_bipush, xd_sipush, xd_lconst, xd_iload, xd_iload_n, xd_lload, xd_lload_n, xd_aload, xd_aload_n, xd_istore, xd_istore_n, xd_astore, xd_astore_n, xd_lstore, xd_lstore_n, xd_iadd, xd_isub, xd_imul, xd_iand, xd_ior, xd_ishl, xd_ishr, xd_ladd, xd_lsub, xd_lmul, xd_land, xd_lor, xd_idiv, xd_irem, xd_ldiv, xd_lrem, xd_ineg, xd_lneg, xd_lshl, xd_lshr, xd_lcmp, xd_i2l, xd_l2i, xd_dup_int, xd_dup_ref, xd_pop, xd_dup2, xd_goto, xd_ifC, xd_ifI, xd_getf, xd_putI, xd_putR, xd_iald, xd_ialdX, xd_bald, xd_iast, xd_bast, xd_aald, xd_aast, xd_alen, xd_alenX, xd_newI, xd_newZ, xd_newQ, xd_newO, xd_invS, xd_invV, xd_invI, xd_iret, xd_lret, xd_vret, xd_ldc, xd_ldc2, xd_iinc, xd_aret, xd_tsw, xd_lsw, xC_d, xld, xisI, xisL, xisA, xgo_ite, xjp, xcmp, xrt, xinv, xcall, xpop, xcat, xgf, xal, xas, xpf, xle, xaq, xbite, xbite2, xsto, xsto2, xst1, xst2, xkl, xtt, xnum, xi0, xzf, v3, List.getElem?_cons_zero, List.getElem?_cons_succ, List.set_cons_zero, List.set_cons_succ, d20_0, d20_1, d20_3, d20_6, d20_7, d20_8, d20_9, d20_11, d20_14, d20_15, d20_18, d20_19, d20_20, d20_23, d20_24, d20_25, d20_27, d20_28, d20_30, d20_31, d20_33, d20_35, d20_38, d20_41, d20_43, d20_46, d20_47, d20_49, d20_50, d20_53, d20_55, d20_58, d20_61, d20_62, d20_64, d20_67, wo20, wm20, wr20, f0_45, m0_49, m0_90, m0_94, r20_2, r20_21, r20_24, wm2, wm21, wm24, wo2, wo21, wo24, b16_1000, b8_46, hC, h0, h1, h2, h3, h4, h5, h6, h7, h8, h9, h10, h11, h12, h13, xput_at, xput_at0, xput_up, xput_up0, k21, k2, hw]
    exact h
  · rw [uPerf, if_neg hd]
    rw [xK_d X 20 _ _ [33] 40]; simp [xent, xsl, Value.category, xr_d, xr_0, xg_nx, xg_n, xg_o, xg_c, xth_s, xth_v, xth_ite, xth_n, xd_iconst, xd_bipush, xd_sipush, xd_lconst, xd_iload, xd_iload_n, xd_lload, xd_lload_n, xd_aload, xd_aload_n, xd_istore, xd_istore_n, xd_astore, xd_astore_n, xd_lstore, xd_lstore_n, xd_iadd, xd_isub, xd_imul, xd_iand, xd_ior, xd_ishl, xd_ishr, xd_ladd, xd_lsub, xd_lmul, xd_land, xd_lor, xd_idiv, xd_irem, xd_ldiv, xd_lrem, xd_ineg, xd_lneg, xd_lshl, xd_lshr, xd_lcmp, xd_i2l, xd_l2i, xd_dup_int, xd_dup_ref, xd_pop, xd_dup2, xd_goto, xd_ifC, xd_ifI, xd_getf, xd_putI, xd_putR, xd_iald, xd_ialdX, xd_bald, xd_iast, xd_bast, xd_aald, xd_aast, xd_alen, xd_alenX, xd_newI, xd_newZ, xd_newQ, xd_newO, xd_invS, xd_invV, xd_invI, xd_iret, xd_lret, xd_vret, xd_ldc, xd_ldc2, xd_iinc, xd_aret, xd_tsw, xd_lsw, xC_d, xld, xisI, xisL, xisA, xgo_ite, xjp, xcmp, xrt, xinv, xcall, xpop, xcat, xgf, xal, xas, xpf, xle, xaq, xbite, xbite2, xsto, xsto2, xst1, xst2, xkl, xtt, xnum, xi0, xzf, v3, List.getElem?_cons_zero, List.getElem?_cons_succ, List.set_cons_zero, List.set_cons_succ, d20_0, d20_1, d20_3, d20_6, d20_7, d20_8, d20_9, d20_11, d20_14, d20_15, d20_18, d20_19, d20_20, d20_23, d20_24, d20_25, d20_27, d20_28, d20_30, d20_31, d20_33, d20_35, d20_38, d20_41, d20_43, d20_46, d20_47, d20_49, d20_50, d20_53, d20_55, d20_58, d20_61, d20_62, d20_64, d20_67, wo20, wm20, wr20, f0_45, m0_49, m0_90, m0_94, r20_2, r20_21, r20_24, wm2, wm21, wm24, wo2, wo21, wo24, b16_1000, b8_46, hC, h0, h1, h2, h3, h4, h5, h6, h7, h8, h9, h10, h11, h12, h13, xput_at, xput_at0, xput_up, xput_up0, k21, k2, hd]
