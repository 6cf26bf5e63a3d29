theorem t_0 : (0 : Int32).toNatClampNeg = 0 := by decide
theorem t_8 : (8 : Int32).toNatClampNeg = 8 := by decide
theorem t_32 : (32 : Int32).toNatClampNeg = 32 := by decide
def uCpQ (A B : Nat → Nat → Int32) : Nat → Nat → Int32 := fun a b => if (8 ≤ a ∧ a ≤ 11 ∧ b < 32) ∨ (a = 12 ∧ b < 8) ∨ (a = 7 ∧ (b = 5 ∨ b = 6)) then B a b else A a b
def uCpy (A B : Nat → Nat → Int32) : Nat → Nat → Int32 := fun a b => if (1 ≤ a ∧ a ≤ 6 ∧ b < 8) ∨ (8 ≤ a ∧ a ≤ 11 ∧ b < 32) ∨ (a = 12 ∧ b < 8) ∨ (a = 7 ∧ (b = 5 ∨ b = 6)) ∨ (a = 0 ∧ b = 8) then B a b else A a b
/-- a row of the one cup taken over from the other -/
def uRow (A B : Nat → Nat → Int32) (k n : Nat) : Nat → Nat → Int32 := fun a b => if a = k ∧ b < n then B k b else A a b
theorem xput_out {w : Nat} {σ : Nat → Nat → Int32} {c : Nat} {A : Nat → Nat → Int32} {a b : Nat} (h : a < c ∨ c + w ≤ a) : xput w σ c A a b = σ a b := by
  unfold xput
  rw [if_neg (by omega)]
theorem xcp_row {σ A : Nat → Nat → Int32} {c d k n : Nat} (hk : k < 14) (hcd : c + 14 ≤ d ∨ d + 14 ≤ c) : xcp (xput 14 σ c A) (d + k) (c + k) 0 0 n = xput 14 σ c (uRow A (xget σ d) k n) := by
  funext a b
  unfold xcp
  by_cases h : a = c + k ∧ 0 ≤ b ∧ b < 0 + n
  · rw [if_pos h, Nat.zero_add, Nat.sub_zero, xput_out (by omega), h.1, xput_at hk]
    unfold uRow xget
    rw [if_pos (by omega)]
  · rw [if_neg h]
    unfold xput uRow
    by_cases h1 : c ≤ a ∧ a < c + 14
    · rw [if_pos h1, if_pos h1]
      rw [if_neg (by omega)]
    · rw [if_neg h1, if_neg h1]
set_option maxRecDepth 100000 in
set_option maxHeartbeats 4000000 in
theorem k51 (X : xX) (sh : List (Nat × Nat × List Value)) (σ A : Nat → Nat → Int32) (c d : Nat) (hc : xcup sh c) (hd : xcup sh d) (hcd : c + 14 ≤ d ∨ d + 14 ≤ c) : xK X 51 [.ref (c + 7), .ref (d + 7)] (sh, xput 14 σ c A) = some (none, (sh, xput 14 σ c (uCpQ A (xget σ d)))) := by
  have hC := hc
  obtain ⟨h0, h1, h2, h3, h4, h5, h6, h7, h8, h9, h10, h11, h12, h13⟩ := hc
  have hD := hd
  obtain ⟨e0, e1, e2, e3, e4, e5, e6, e7, e8, e9, e10, e11, e12, e13⟩ := hd
  have o5 : ∀ (B : Nat → Nat → Int32) (b : Nat), xput 14 σ c B (d + 7) b = xget σ d 7 b := fun B b => by rw [xput_out (by omega)]; rfl
  have ef : xup (xup (uRow (uRow (uRow (uRow (uRow A (xget σ d) 8 32) (xget σ d) 9 32) (xget σ d) 10 32) (xget σ d) 11 32) (xget σ d) 12 8) 7 5 (xget σ d 7 5)) 7 6 (xget σ d 7 6) = uCpQ A (xget σ d) := by
    funext a b
    unfold xup uCpQ uRow
    rcases (by omega : a = 7 ∨ a = 8 ∨ a = 9 ∨ a = 10 ∨ a = 11 ∨ a = 12 ∨ (a < 7 ∨ 12 < a)) with rfl | rfl | rfl | rfl | rfl | rfl | h
    · by_cases h5 : b = 5
      · subst h5; simp
      · by_cases h6 : b = 6
        · subst h6; simp
        · simp [h5, h6]
    · simp
    · simp
    · simp
    · simp
    · simp
    · have h1 : ¬ a = 7 := by omega
      have h2 : ¬ a = 8 := by omega
      have h3 : ¬ a = 9 := by omega
      have h4 : ¬ a = 10 := by omega
      have h5 : ¬ a = 11 := by omega
      have h6 : ¬ a = 12 := by omega
      have h7 : ¬ (8 ≤ a ∧ a ≤ 11 ∧ b < 32) := by omega
      simp [h1, h2, h3, h4, h5, h6, h7]
  rw [← ef]
  rw [xK_d X 51 _ _ [] 80]
  simp [xent, xsl, Value.category, xr_d, xr_0, xg_nx, xg_n, xg_o, xg_c, xth_s, xth_v, xth_ite, xth_n, xd_iconst, xd_bipush, xd_sipush, xd_lconst, xd_iload, xd_iload_n, xd_lload, xd_lload_n, xd_aload, xd_aload_n, xd_istore, xd_istore_n, xd_astore, xd_astore_n, xd_lstore, xd_lstore_n, xd_iadd, xd_isub, xd_imul, xd_iand, xd_ior, xd_ishl, xd_ishr, xd_ladd, xd_lsub, xd_lmul, xd_land, xd_lor, xd_idiv, xd_irem, xd_ldiv, xd_lrem, xd_ineg, xd_lneg, xd_lshl, xd_lshr, xd_lcmp, xd_i2l, xd_l2i, xd_dup_int, xd_dup_ref, xd_pop, xd_dup2, xd_goto, xd_ifC, xd_ifI, xd_getf, xd_putI, xd_putR, xd_iald, xd_ialdX, xd_bald, xd_iast, xd_bast, xd_aald, xd_aast, xd_alen, xd_alenX, xd_newI, xd_newZ, xd_newQ, xd_newO, xd_invS, xd_invV, xd_invI, xd_iret, xd_lret, xd_vret, xd_ldc, xd_ldc2, xd_iinc, xd_aret, xd_tsw, xd_lsw, xC_d, xld, xisI, xisL, xisA, xgo_ite, xjp, xcmp, xrt, xinv, xcall, xpop, xcat, xgf, xal, xas, xpf, xle, xaq, xbite, xbite2, xsto, xsto2, xst1, xst2, xkl, xtt, xnum, xi0, xzf, v3, List.getElem?_cons_zero, List.getElem?_cons_succ, List.set_cons_zero, List.set_cons_succ, d51_0, d51_1, d51_4, d51_5, d51_6, d51_9, d51_10, d51_12, d51_15, d51_16, d51_19, d51_20, d51_21, d51_24, d51_25, d51_27, d51_30, d51_31, d51_34, d51_35, d51_36, d51_39, d51_40, d51_42, d51_45, d51_46, d51_49, d51_50, d51_51, d51_54, d51_55, d51_57, d51_60, d51_61, d51_64, d51_65, d51_66, d51_69, d51_70, d51_72, d51_75, d51_76, d51_77, d51_80, d51_83, d51_84, d51_85, d51_88, d51_91, wo51, wm51, wr51, f3_11, f3_15, f3_18, f3_21, f3_24, f3_27, f3_31, m3_34, qf51, ql51, b8_32, b8_8, hC, h0, h1, h2, h3, h4, h5, h6, h7, h8, h9, h10, h11, h12, h13, xput_at, xput_at0, xput_up, xput_up0, hD, e0, e1, e2, e3, e4, e5, e6, e7, e8, e9, e10, e11, e12, e13, t_0, t_8, t_32, xcp_row, hcd, o5, xacp]
theorem uRow_0 (A B : Nat → Nat → Int32) (k : Nat) : uRow A B k 0 = A := by funext a b; simp [uRow]
theorem uRow_s (A B : Nat → Nat → Int32) (k n : Nat) : xup (uRow A B k n) k n (B k n) = uRow A B k (n + 1) := by
  funext a b
  unfold xup uRow
  by_cases h : a = k
  · subst h
    by_cases h2 : b = n
    · subst h2; simp
    · by_cases h3 : b < n
      · simp [h2, h3, Nat.lt_succ_of_lt h3]
      · have h4 : ¬ b < n + 1 := by omega
        simp [h2, h3, h4]
  · simp [h]
set_option maxRecDepth 100000 in
set_option maxHeartbeats 4000000 in
theorem i14 (X : xX) (sh : List (Nat × Nat × List Value)) (σ A : Nat → Nat → Int32) (c d : Nat) (hc : xcup sh c) (hd : xcup sh d) (hcd : c + 14 ≤ d ∨ d + 14 ≤ c) (i : Nat) (hi : i < 8) : xV X 14 (77, [.ref c, .ref d, .int (nI i)], [], (sh, xput 14 σ c (uRow A (xget σ d) 5 i))) = xV X 14 (77, [.ref c, .ref d, .int (nI (i + 1))], [], (sh, xput 14 σ c (uRow A (xget σ d) 5 (i + 1)))) := by
  have hC := hc
  obtain ⟨h0, h1, h2, h3, h4, h5, h6, h7, h8, h9, h10, h11, h12, h13⟩ := hc
  have hD := hd
  obtain ⟨e0, e1, e2, e3, e4, e5, e6, e7, e8, e9, e10, e11, e12, e13⟩ := hd
  have g1 : ¬ 8 ≤ nI i := nI_lt' (a := i) (b := 8) hi (by omega)
  have g2 : xin (nI i) 8 = true := by rw [xin_nI (by omega)]; simp [hi]
  have g3 := nI_cl (n := i) (by omega)
  have o5 : xput 14 σ c (uRow A (xget σ d) 5 i) (d + 5) i = xget σ d 5 i := by rw [xput_out (by omega)]; rfl
  have o6 : xbk (sh, xput 14 σ c (uRow A (xget σ d) 5 i)) (xget σ d 5 i) = true := by
    have h := xbk_of (σ := xput 14 σ c (uRow A (xget σ d) 5 i)) e5 hi
    rw [o5] at h
    exact h
  rw [xV_d X 14 [77] 60]
  simp [xent, xsl, Value.category, xr_d, xr_0, xg_nx, xg_n, xg_o, xg_c, xth_s, xth_v, xth_ite, xth_n, xd_iconst, xd_bipush, xd_sipush, xd_lconst, xd_iload, xd_iload_n, xd_lload, xd_lload_n, xd_aload, xd_aload_n, xd_istore, xd_istore_n, xd_astore, xd_astore_n, xd_lstore, xd_lstore_n, xd_iadd, xd_isub, xd_imul, xd_iand, xd_ior, xd_ishl, xd_ishr, xd_ladd, xd_lsub, xd_lmul, xd_land, xd_lor, xd_idiv, xd_irem, xd_ldiv, xd_lrem, xd_ineg, xd_lneg, xd_lshl, xd_lshr, xd_lcmp, xd_i2l, xd_l2i, xd_dup_int, xd_dup_ref, xd_pop, xd_dup2, xd_goto, xd_ifC, xd_ifI, xd_getf, xd_putI, xd_putR, xd_iald, xd_ialdX, xd_bald, xd_iast, xd_bast, xd_aald, xd_aast, xd_alen, xd_alenX, xd_newI, xd_newZ, xd_newQ, xd_newO, xd_invS, xd_invV, xd_invI, xd_iret, xd_lret, xd_vret, xd_ldc, xd_ldc2, xd_iinc, xd_aret, xd_tsw, xd_lsw, xC_d, xld, xisI, xisL, xisA, xgo_ite, xjp, xcmp, xrt, xinv, xcall, xpop, xcat, xgf, xal, xas, xpf, xle, xaq, xbite, xbite2, xsto, xsto2, xst1, xst2, xkl, xtt, xnum, xi0, xzf, v3, List.getElem?_cons_zero, List.getElem?_cons_succ, List.set_cons_zero, List.set_cons_succ, d14_0, d14_1, d14_4, d14_5, d14_6, d14_9, d14_10, d14_12, d14_15, d14_16, d14_19, d14_20, d14_21, d14_24, d14_25, d14_27, d14_30, d14_31, d14_34, d14_35, d14_36, d14_39, d14_40, d14_42, d14_45, d14_46, d14_49, d14_50, d14_51, d14_54, d14_55, d14_57, d14_60, d14_61, d14_64, d14_65, d14_66, d14_69, d14_70, d14_72, d14_75, d14_76, d14_77, d14_78, d14_80, d14_83, d14_84, d14_87, d14_88, d14_89, d14_92, d14_93, d14_94, d14_95, d14_98, d14_101, d14_102, d14_105, d14_106, d14_109, d14_112, d14_113, d14_114, d14_117, d14_120, wo14, wm14, wr14, f0_15, f0_18, f0_21, f0_24, f0_28, f0_34, f0_45, f0_9, m0_52, m0_58, qf14, ql14, r14_51, wm51, wo51, b8_8, hC, h0, h1, h2, h3, h4, h5, h6, h7, h8, h9, h10, h11, h12, h13, xput_at, xput_at0, xput_up, xput_up0, hD, e0, e1, e2, e3, e4, e5, e6, e7, e8, e9, e10, e11, e12, e13, g1, g2, g3, o5, o6, nI_1, uRow_s]
set_option maxRecDepth 100000 in
set_option maxHeartbeats 4000000 in
theorem x14 (X : xX) (sh : List (Nat × Nat × List Value)) (σ A : Nat → Nat → Int32) (c d : Nat) (hc : xcup sh c) (hd : xcup sh d) (hcd : c + 14 ≤ d ∨ d + 14 ≤ c) (i : Nat) (hi : i = 8) : xV X 14 (77, [.ref c, .ref d, .int (nI i)], [], (sh, xput 14 σ c A)) = some (none, (sh, xput 14 σ c (xup (uCpQ (A) (xget σ d)) 0 8 (xget σ d 0 8)))) := by
  have hC := hc
  obtain ⟨h0, h1, h2, h3, h4, h5, h6, h7, h8, h9, h10, h11, h12, h13⟩ := hc
  have hD := hd
  obtain ⟨e0, e1, e2, e3, e4, e5, e6, e7, e8, e9, e10, e11, e12, e13⟩ := hd
  have o5 : ∀ (B : Nat → Nat → Int32) (b : Nat), xput 14 σ c B d b = xget σ d 0 b := fun B b => by rw [xput_out (by omega)]; rfl
  have g1 : 8 ≤ nI i := nI_le' (a := 8) (b := i) (by omega) (by omega)
  rw [xV_d X 14 [77] 60]
  simp [xent, xsl, Value.category, xr_d, xr_0, xg_nx, xg_n, xg_o, xg_c, xth_s, xth_v, xth_ite, xth_n, xd_iconst, xd_bipush, xd_sipush, xd_lconst, xd_iload, xd_iload_n, xd_lload, xd_lload_n, xd_aload, xd_aload_n, xd_istore, xd_istore_n, xd_astore, xd_astore_n, xd_lstore, xd_lstore_n, xd_iadd, xd_isub, xd_imul, xd_iand, xd_ior, xd_ishl, xd_ishr, xd_ladd, xd_lsub, xd_lmul, xd_land, xd_lor, xd_idiv, xd_irem, xd_ldiv, xd_lrem, xd_ineg, xd_lneg, xd_lshl, xd_lshr, xd_lcmp, xd_i2l, xd_l2i, xd_dup_int, xd_dup_ref, xd_pop, xd_dup2, xd_goto, xd_ifC, xd_ifI, xd_getf, xd_putI, xd_putR, xd_iald, xd_ialdX, xd_bald, xd_iast, xd_bast, xd_aald, xd_aast, xd_alen, xd_alenX, xd_newI, xd_newZ, xd_newQ, xd_newO, xd_invS, xd_invV, xd_invI, xd_iret, xd_lret, xd_vret, xd_ldc, xd_ldc2, xd_iinc, xd_aret, xd_tsw, xd_lsw, xC_d, xld, xisI, xisL, xisA, xgo_ite, xjp, xcmp, xrt, xinv, xcall, xpop, xcat, xgf, xal, xas, xpf, xle, xaq, xbite, xbite2, xsto, xsto2, xst1, xst2, xkl, xtt, xnum, xi0, xzf, v3, List.getElem?_cons_zero, List.getElem?_cons_succ, List.set_cons_zero, List.set_cons_succ, d14_0, d14_1, d14_4, d14_5, d14_6, d14_9, d14_10, d14_12, d14_15, d14_16, d14_19, d14_20, d14_21, d14_24, d14_25, d14_27, d14_30, d14_31, d14_34, d14_35, d14_36, d14_39, d14_40, d14_42, d14_45, d14_46, d14_49, d14_50, d14_51, d14_54, d14_55, d14_57, d14_60, d14_61, d14_64, d14_65, d14_66, d14_69, d14_70, d14_72, d14_75, d14_76, d14_77, d14_78, d14_80, d14_83, d14_84, d14_87, d14_88, d14_89, d14_92, d14_93, d14_94, d14_95, d14_98, d14_101, d14_102, d14_105, d14_106, d14_109, d14_112, d14_113, d14_114, d14_117, d14_120, wo14, wm14, wr14, f0_15, f0_18, f0_21, f0_24, f0_28, f0_34, f0_45, f0_9, m0_52, m0_58, qf14, ql14, r14_51, wm51, wo51, b8_8, hC, h0, h1, h2, h3, h4, h5, h6, h7, h8, h9, h10, h11, h12, h13, xput_at, xput_at0, xput_up, xput_up0, hD, e0, e1, e2, e3, e4, e5, e6, e7, e8, e9, e10, e11, e12, e13, g1, hcd, o5, k51]
theorem l14 (X : xX) (sh : List (Nat × Nat × List Value)) (σ A : Nat → Nat → Int32) (c d : Nat) (hc : xcup sh c) (hd : xcup sh d) (hcd : c + 14 ≤ d ∨ d + 14 ≤ c) : ∀ m i, i + m = 8 → xV X 14 (77, [.ref c, .ref d, .int (nI i)], [], (sh, xput 14 σ c (uRow A (xget σ d) 5 i))) = some (none, (sh, xput 14 σ c (xup (uCpQ (uRow A (xget σ d) 5 8) (xget σ d)) 0 8 (xget σ d 0 8))))
  | 0, i, h => by
    have e : i = 8 := by omega
    subst e
    exact x14 X sh σ _ c d hc hd hcd 8 rfl
  | m + 1, i, h => by
    rw [i14 X sh σ A c d hc hd hcd i (by omega)]
    exact l14 X sh σ A c d hc hd hcd m (i + 1) (by omega)
set_option maxRecDepth 100000 in
set_option maxHeartbeats 4000000 in
theorem k14 (X : xX) (sh : List (Nat × Nat × List Value)) (σ A : Nat → Nat → Int32) (c d : Nat) (hc : xcup sh c) (hd : xcup sh d) (hcd : c + 14 ≤ d ∨ d + 14 ≤ c) : xK X 14 [.ref c, .ref d] (sh, xput 14 σ c A) = some (none, (sh, xput 14 σ c (uCpy A (xget σ d)))) := by
  have hC := hc
  obtain ⟨h0, h1, h2, h3, h4, h5, h6, h7, h8, h9, h10, h11, h12, h13⟩ := hc
  have hD := hd
  obtain ⟨e0, e1, e2, e3, e4, e5, e6, e7, e8, e9, e10, e11, e12, e13⟩ := hd
  have ef : xup (uCpQ (uRow (uRow (uRow (uRow (uRow (uRow A (xget σ d) 1 8) (xget σ d) 2 8) (xget σ d) 3 8) (xget σ d) 4 8) (xget σ d) 6 8) (xget σ d) 5 8) (xget σ d)) 0 8 (xget σ d 0 8) = uCpy A (xget σ d) := by
    funext a b
    unfold xup uCpQ uRow uCpy
    rcases (by omega : a = 0 ∨ a = 1 ∨ a = 2 ∨ a = 3 ∨ a = 4 ∨ a = 5 ∨ a = 6 ∨ 7 ≤ a) with rfl | rfl | rfl | rfl | rfl | rfl | rfl | h
    · by_cases h5 : b = 8
      · subst h5; simp
      · simp [h5]
    · simp
    · simp
    · simp
    · simp
    · simp
    · simp
    · have h0 : ¬ a = 0 := by omega
      have h1 : ¬ a = 1 := by omega
      have h2 : ¬ a = 2 := by omega
      have h3 : ¬ a = 3 := by omega
      have h4 : ¬ a = 4 := by omega
      have h5 : ¬ a = 5 := by omega
      have h6 : ¬ a = 6 := by omega
      have h7 : ¬ (1 ≤ a ∧ a ≤ 6 ∧ b < 8) := by omega
      simp [h0, h1, h2, h3, h4, h5, h6, h7]
  rw [← ef]
  have el := l14 X sh σ (uRow (uRow (uRow (uRow (uRow A (xget σ d) 1 8) (xget σ d) 2 8) (xget σ d) 3 8) (xget σ d) 4 8) (xget σ d) 6 8) c d hC hD hcd 8 0 (by omega)
  rw [nI_0, uRow_0] at el
  rw [xK_d X 14 _ _ [77] 90]
  simp [xent, xsl, Value.category, xr_d, xr_0, xg_nx, xg_n, xg_o, xg_c, xth_s, xth_v, xth_ite, xth_n, xd_iconst, xd_bipush, xd_sipush, xd_lconst, xd_iload, xd_iload_n, xd_lload, xd_lload_n, xd_aload, xd_aload_n, xd_istore, xd_istore_n, xd_astore, xd_astore_n, xd_lstore, xd_lstore_n, xd_iadd, xd_isub, xd_imul, xd_iand, xd_ior, xd_ishl, xd_ishr, xd_ladd, xd_lsub, xd_lmul, xd_land, xd_lor, xd_idiv, xd_irem, xd_ldiv, xd_lrem, xd_ineg, xd_lneg, xd_lshl, xd_lshr, xd_lcmp, xd_i2l, xd_l2i, xd_dup_int, xd_dup_ref, xd_pop, xd_dup2, xd_goto, xd_ifC, xd_ifI, xd_getf, xd_putI, xd_putR, xd_iald, xd_ialdX, xd_bald, xd_iast, xd_bast, xd_aald, xd_aast, xd_alen, xd_alenX, xd_newI, xd_newZ, xd_newQ, xd_newO, xd_invS, xd_invV, xd_invI, xd_iret, xd_lret, xd_vret, xd_ldc, xd_ldc2, xd_iinc, xd_aret, xd_tsw, xd_lsw, xC_d, xld, xisI, xisL, xisA, xgo_ite, xjp, xcmp, xrt, xinv, xcall, xpop, xcat, xgf, xal, xas, xpf, xle, xaq, xbite, xbite2, xsto, xsto2, xst1, xst2, xkl, xtt, xnum, xi0, xzf, v3, List.getElem?_cons_zero, List.getElem?_cons_succ, List.set_cons_zero, List.set_cons_succ, d14_0, d14_1, d14_4, d14_5, d14_6, d14_9, d14_10, d14_12, d14_15, d14_16, d14_19, d14_20, d14_21, d14_24, d14_25, d14_27, d14_30, d14_31, d14_34, d14_35, d14_36, d14_39, d14_40, d14_42, d14_45, d14_46, d14_49, d14_50, d14_51, d14_54, d14_55, d14_57, d14_60, d14_61, d14_64, d14_65, d14_66, d14_69, d14_70, d14_72, d14_75, d14_76, d14_77, d14_78, d14_80, d14_83, d14_84, d14_87, d14_88, d14_89, d14_92, d14_93, d14_94, d14_95, d14_98, d14_101, d14_102, d14_105, d14_106, d14_109, d14_112, d14_113, d14_114, d14_117, d14_120, wo14, wm14, wr14, f0_15, f0_18, f0_21, f0_24, f0_28, f0_34, f0_45, f0_9, m0_52, m0_58, qf14, ql14, r14_51, wm51, wo51, b8_8, hC, h0, h1, h2, h3, h4, h5, h6, h7, h8, h9, h10, h11, h12, h13, xput_at, xput_at0, xput_up, xput_up0, hD, e0, e1, e2, e3, e4, e5, e6, e7, e8, e9, e10, e11, e12, e13, t_0, t_8, t_32, xcp_row, hcd, xacp, el]
