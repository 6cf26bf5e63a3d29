theorem xand7 (y : Int32) : 0 ≤ (y &&& 7).toInt ∧ (y &&& 7).toInt < 8 := by
  have h1 : (y &&& 7).toBitVec = y.toBitVec &&& 7#32 := rfl
  have h2 : ((y &&& 7).toBitVec).toNat ≤ 7 := by rw [h1, BitVec.toNat_and]; exact Nat.and_le_right
  have h3 : (y &&& 7).toInt = (y &&& 7).toBitVec.toInt := rfl
  rw [h3, BitVec.toInt_eq_toNat_of_lt (by omega)]
  omega
theorem xand7i (y : Int32) : xin (y &&& 7) 8 = true := by
  have h := xand7 y
  simp only [xin, Bool.and_eq_true, decide_eq_true_eq]
  omega
def uX (x : Int32) : Int32 := 75 * x + 74 - (75 * x + 74) / 65537 * 65537
def uDl (x : Int32) : Int32 := ([43, 45, 33, 35, 37, 46, 46, 46] : List Int32).getD (x / 8 &&& 7).toNatClampNeg 0
def uDs (act : Nat) (x : Int32) (A : Nat → Nat → Int32) : Nat → Nat → Int32 := if uHin A (uDl (uX x)) (uX x &&& 7) (uX x / 64 &&& 7) = 0 then uPerf A (nI act) (uDl (uX x)) (uX x &&& 7) (uX x / 64 &&& 7) else A
def uDw : Nat → Nat → Int32 → (Nat → Nat → Int32) → Nat → Nat → Int32
  | 0, _, _, A => A
  | f + 1, act, x, A => if x < 0 then A else uDw f (act + 1) (uX x) (uDs act x A)
theorem xchr_a (y : Int32) : xchr (y &&& 7) = some (([43, 45, 33, 35, 37, 46, 46, 46] : List Int32).getD (y &&& 7).toNatClampNeg 0) := by rw [xchr, if_pos (xand7i y)]
set_option maxRecDepth 100000 in
set_option maxHeartbeats 4000000 in
theorem g68 (X : xX) (sh : List (Nat × Nat × List Value)) (σ A : Nat → Nat → Int32) (hr : xreh sh) (hw : uWF A) (seed : Value) (x y d r s w : Int32) (act m : Nat) (v6 v7 v8 : Value) (hm : m < 2147483648) (ha : act < m) (hx : ¬ x < 0) (hy : y = 75 * x + 74 - (75 * x + 74) / 65537 * 65537) (hd : xchr (y / 8 &&& 7) = some d) (hrr : y &&& 7 = r) (hss : y / 64 &&& 7 = s) (e16 : xK X 16 [.ref 22, .int d, .int r, .int s] (sh, xput 14 σ 22 A) = some (some (.int w), (sh, xput 14 σ 22 A))) :
    xV X 68 (11, [.ref 21, .ref 1, seed, .int (nI m), .int x, .int (nI act), v6, v7, v8], [], (sh, xput 14 σ 22 A)) = xV X 68 (11, [.ref 21, .ref 1, seed, .int (nI m), .int y, .int (nI (act + 1)), .int d, .int r, .int s], [], (sh, xput 14 σ 22 (if w = 0 then uPerf A (nI act) d r s else A))) := by
  have hR := hr
  obtain ⟨c1, c22, pd, r0⟩ := hr
  have s22 := c22.1
  have s35 := c22.2.2.2.2.2.2.2.2.2.2.2.2.2
  have s15 := pd.1
  have s1 := c1.1
  have g1 : ¬ nI m ≤ nI act := nI_lt' (a := act) (b := m) ha (by omega)
  have e20 := k20 X sh σ A 22 c22 hw (nI act) d r s
  rw [xV_d X 68 [11] 60]
  by_cases h2 : w = 0
  · subst h2
    simp [xent, xsl, Value.category, xr_d, xr_0, xg_nx, xg_n, xg_o, xg_c, xth_s, xth_v, xth_ite, xth_n, xd_iconst, xd_bipush, xd_sipush, xd_lconst, xd_iload, xd_iload_n, xd_lload, xd_lload_n, xd_aload, xd_aload_n, xd_istore, xd_istore_n, xd_astore, xd_astore_n, xd_lstore, xd_lstore_n, xd_iadd, xd_isub, xd_imul, xd_iand, xd_ior, xd_ishl, xd_ishr, xd_ladd, xd_lsub, xd_lmul, xd_land, xd_lor, xd_idiv, xd_irem, xd_ldiv, xd_lrem, xd_ineg, xd_lneg, xd_lshl, xd_lshr, xd_lcmp, xd_i2l, xd_l2i, xd_dup_int, xd_dup_ref, xd_pop, xd_dup2, xd_goto, xd_ifC, xd_ifI, xd_getf, xd_putI, xd_putR, xd_iald, xd_ialdX, xd_bald, xd_iast, xd_bast, xd_aald, xd_aast, xd_alen, xd_alenX, xd_newI, xd_newZ, xd_newQ, xd_newO, xd_invS, xd_invV, xd_invI, xd_iret, xd_lret, xd_vret, xd_ldc, xd_ldc2, xd_iinc, xd_aret, xd_tsw, xd_lsw, xC_d, xld, xisI, xisL, xisA, xgo_ite, xjp, xcmp, xrt, xinv, xcall, xpop, xcat, xgf, xal, xas, xpf, xle, xaq, xbite, xbite2, xsto, xsto2, xst1, xst2, xkl, xtt, xnum, xi0, xzf, v3, List.getElem?_cons_zero, List.getElem?_cons_succ, List.set_cons_zero, List.set_cons_succ, d68_0, d68_1, d68_2, d68_5, d68_6, d68_8, d68_9, d68_11, d68_13, d68_14, d68_17, d68_19, d68_22, d68_24, d68_26, d68_27, d68_29, d68_30, d68_32, d68_33, d68_35, d68_37, d68_39, d68_41, d68_42, d68_44, d68_45, d68_48, d68_50, d68_52, d68_54, d68_55, d68_57, d68_59, d68_61, d68_62, d68_64, d68_65, d68_67, d68_68, d68_71, d68_73, d68_75, d68_77, d68_80, d68_83, d68_84, d68_87, d68_89, d68_91, d68_93, d68_95, d68_98, d68_101, d68_104, wo68, wm68, wr68, c4_74, c4_75, f4_12, m4_41, m4_63, m4_67, m4_77, qf68, ql68, r68_16, r68_20, r68_63, wm16, wm20, wm63, wo16, wo20, wo63, b8_64, b8_7, b8_74, b8_75, b8_8, c1, c22, pd, r0, s22, s35, s15, s1, xput_upo, g1, hx, hd, hrr, hss, e16, e20, nI_1, ← hy, xput_out]
  · simp [xent, xsl, Value.category, xr_d, xr_0, xg_nx, xg_n, xg_o, xg_c, xth_s, xth_v, xth_ite, xth_n, xd_iconst, xd_bipush, xd_sipush, xd_lconst, xd_iload, xd_iload_n, xd_lload, xd_lload_n, xd_aload, xd_aload_n, xd_istore, xd_istore_n, xd_astore, xd_astore_n, xd_lstore, xd_lstore_n, xd_iadd, xd_isub, xd_imul, xd_iand, xd_ior, xd_ishl, xd_ishr, xd_ladd, xd_lsub, xd_lmul, xd_land, xd_lor, xd_idiv, xd_irem, xd_ldiv, xd_lrem, xd_ineg, xd_lneg, xd_lshl, xd_lshr, xd_lcmp, xd_i2l, xd_l2i, xd_dup_int, xd_dup_ref, xd_pop, xd_dup2, xd_goto, xd_ifC, xd_ifI, xd_getf, xd_putI, xd_putR, xd_iald, xd_ialdX, xd_bald, xd_iast, xd_bast, xd_aald, xd_aast, xd_alen, xd_alenX, xd_newI, xd_newZ, xd_newQ, xd_newO, xd_invS, xd_invV, xd_invI, xd_iret, xd_lret, xd_vret, xd_ldc, xd_ldc2, xd_iinc, xd_aret, xd_tsw, xd_lsw, xC_d, xld, xisI, xisL, xisA, xgo_ite, xjp, xcmp, xrt, xinv, xcall, xpop, xcat, xgf, xal, xas, xpf, xle, xaq, xbite, xbite2, xsto, xsto2, xst1, xst2, xkl, xtt, xnum, xi0, xzf, v3, List.getElem?_cons_zero, List.getElem?_cons_succ, List.set_cons_zero, List.set_cons_succ, d68_0, d68_1, d68_2, d68_5, d68_6, d68_8, d68_9, d68_11, d68_13, d68_14, d68_17, d68_19, d68_22, d68_24, d68_26, d68_27, d68_29, d68_30, d68_32, d68_33, d68_35, d68_37, d68_39, d68_41, d68_42, d68_44, d68_45, d68_48, d68_50, d68_52, d68_54, d68_55, d68_57, d68_59, d68_61, d68_62, d68_64, d68_65, d68_67, d68_68, d68_71, d68_73, d68_75, d68_77, d68_80, d68_83, d68_84, d68_87, d68_89, d68_91, d68_93, d68_95, d68_98, d68_101, d68_104, wo68, wm68, wr68, c4_74, c4_75, f4_12, m4_41, m4_63, m4_67, m4_77, qf68, ql68, r68_16, r68_20, r68_63, wm16, wm20, wm63, wo16, wo20, wo63, b8_64, b8_7, b8_74, b8_75, b8_8, c1, c22, pd, r0, s22, s35, s15, s1, xput_upo, g1, hx, h2, hd, hrr, hss, e16, nI_1, ← hy, xput_out]
set_option maxRecDepth 100000 in
set_option maxHeartbeats 4000000 in
theorem x68 (X : xX) (sh : List (Nat × Nat × List Value)) (σ A : Nat → Nat → Int32) (hr : xreh sh) (seed : Value) (x : Int32) (act m : Nat) (v6 v7 v8 : Value) (hm : m < 2147483648) (ha : act < 2147483648) (hx : x < 0 ∨ m ≤ act) :
    xV X 68 (11, [.ref 21, .ref 1, seed, .int (nI m), .int x, .int (nI act), v6, v7, v8], [], (sh, xput 14 σ 22 A)) = some (none, (sh, xput 14 σ 22 A)) := by
  have hR := hr
  obtain ⟨c1, c22, pd, r0⟩ := hr
  have s22 := c22.1
  have s35 := c22.2.2.2.2.2.2.2.2.2.2.2.2.2
  have s15 := pd.1
  have s1 := c1.1
  rw [xV_d X 68 [11] 60]
  by_cases h : m ≤ act
  · have g1 : nI m ≤ nI act := nI_le' (a := m) (b := act) h (by omega)
    simp [xent, xsl, Value.category, xr_d, xr_0, xg_nx, xg_n, xg_o, xg_c, xth_s, xth_v, xth_ite, xth_n, xd_iconst, xd_bipush, xd_sipush, xd_lconst, xd_iload, xd_iload_n, xd_lload, xd_lload_n, xd_aload, xd_aload_n, xd_istore, xd_istore_n, xd_astore, xd_astore_n, xd_lstore, xd_lstore_n, xd_iadd, xd_isub, xd_imul, xd_iand, xd_ior, xd_ishl, xd_ishr, xd_ladd, xd_lsub, xd_lmul, xd_land, xd_lor, xd_idiv, xd_irem, xd_ldiv, xd_lrem, xd_ineg, xd_lneg, xd_lshl, xd_lshr, xd_lcmp, xd_i2l, xd_l2i, xd_dup_int, xd_dup_ref, xd_pop, xd_dup2, xd_goto, xd_ifC, xd_ifI, xd_getf, xd_putI, xd_putR, xd_iald, xd_ialdX, xd_bald, xd_iast, xd_bast, xd_aald, xd_aast, xd_alen, xd_alenX, xd_newI, xd_newZ, xd_newQ, xd_newO, xd_invS, xd_invV, xd_invI, xd_iret, xd_lret, xd_vret, xd_ldc, xd_ldc2, xd_iinc, xd_aret, xd_tsw, xd_lsw, xC_d, xld, xisI, xisL, xisA, xgo_ite, xjp, xcmp, xrt, xinv, xcall, xpop, xcat, xgf, xal, xas, xpf, xle, xaq, xbite, xbite2, xsto, xsto2, xst1, xst2, xkl, xtt, xnum, xi0, xzf, v3, List.getElem?_cons_zero, List.getElem?_cons_succ, List.set_cons_zero, List.set_cons_succ, d68_0, d68_1, d68_2, d68_5, d68_6, d68_8, d68_9, d68_11, d68_13, d68_14, d68_17, d68_19, d68_22, d68_24, d68_26, d68_27, d68_29, d68_30, d68_32, d68_33, d68_35, d68_37, d68_39, d68_41, d68_42, d68_44, d68_45, d68_48, d68_50, d68_52, d68_54, d68_55, d68_57, d68_59, d68_61, d68_62, d68_64, d68_65, d68_67, d68_68, d68_71, d68_73, d68_75, d68_77, d68_80, d68_83, d68_84, d68_87, d68_89, d68_91, d68_93, d68_95, d68_98, d68_101, d68_104, wo68, wm68, wr68, c4_74, c4_75, f4_12, m4_41, m4_63, m4_67, m4_77, qf68, ql68, r68_16, r68_20, r68_63, wm16, wm20, wm63, wo16, wo20, wo63, b8_64, b8_7, b8_74, b8_75, b8_8, c1, c22, pd, r0, s22, s35, s15, s1, xput_upo, g1]
  · have g1 : ¬ nI m ≤ nI act := nI_lt' (a := act) (b := m) (by omega) (by omega)
    have hx : x < 0 := by
      rcases hx with hx | hx
      · exact hx
      · omega
    simp [xent, xsl, Value.category, xr_d, xr_0, xg_nx, xg_n, xg_o, xg_c, xth_s, xth_v, xth_ite, xth_n, xd_iconst, xd_bipush, xd_sipush, xd_lconst, xd_iload, xd_iload_n, xd_lload, xd_lload_n, xd_aload, xd_aload_n, xd_istore, xd_istore_n, xd_astore, xd_astore_n, xd_lstore, xd_lstore_n, xd_iadd, xd_isub, xd_imul, xd_iand, xd_ior, xd_ishl, xd_ishr, xd_ladd, xd_lsub, xd_lmul, xd_land, xd_lor, xd_idiv, xd_irem, xd_ldiv, xd_lrem, xd_ineg, xd_lneg, xd_lshl, xd_lshr, xd_lcmp, xd_i2l, xd_l2i, xd_dup_int, xd_dup_ref, xd_pop, xd_dup2, xd_goto, xd_ifC, xd_ifI, xd_getf, xd_putI, xd_putR, xd_iald, xd_ialdX, xd_bald, xd_iast, xd_bast, xd_aald, xd_aast, xd_alen, xd_alenX, xd_newI, xd_newZ, xd_newQ, xd_newO, xd_invS, xd_invV, xd_invI, xd_iret, xd_lret, xd_vret, xd_ldc, xd_ldc2, xd_iinc, xd_aret, xd_tsw, xd_lsw, xC_d, xld, xisI, xisL, xisA, xgo_ite, xjp, xcmp, xrt, xinv, xcall, xpop, xcat, xgf, xal, xas, xpf, xle, xaq, xbite, xbite2, xsto, xsto2, xst1, xst2, xkl, xtt, xnum, xi0, xzf, v3, List.getElem?_cons_zero, List.getElem?_cons_succ, List.set_cons_zero, List.set_cons_succ, d68_0, d68_1, d68_2, d68_5, d68_6, d68_8, d68_9, d68_11, d68_13, d68_14, d68_17, d68_19, d68_22, d68_24, d68_26, d68_27, d68_29, d68_30, d68_32, d68_33, d68_35, d68_37, d68_39, d68_41, d68_42, d68_44, d68_45, d68_48, d68_50, d68_52, d68_54, d68_55, d68_57, d68_59, d68_61, d68_62, d68_64, d68_65, d68_67, d68_68, d68_71, d68_73, d68_75, d68_77, d68_80, d68_83, d68_84, d68_87, d68_89, d68_91, d68_93, d68_95, d68_98, d68_101, d68_104, wo68, wm68, wr68, c4_74, c4_75, f4_12, m4_41, m4_63, m4_67, m4_77, qf68, ql68, r68_16, r68_20, r68_63, wm16, wm20, wm63, wo16, wo20, wo63, b8_64, b8_7, b8_74, b8_75, b8_8, c1, c22, pd, r0, s22, s35, s15, s1, xput_upo, g1, hx]
theorem uWF_ds {A : Nat → Nat → Int32} {act : Nat} {x : Int32} (h : uWF A) : uWF (uDs act x A) := by
  unfold uDs
  split
  · exact uWF_perf h
  · exact h
theorem l68 (X : xX) (sh : List (Nat × Nat × List Value)) (σ : Nat → Nat → Int32) (hr : xreh sh) (seed : Value) (m : Nat) (hm : m < 2147483648) : ∀ (f act : Nat) (x : Int32) (A : Nat → Nat → Int32) (v6 v7 v8 : Value), uWF A → act + f = m → xV X 68 (11, [.ref 21, .ref 1, seed, .int (nI m), .int x, .int (nI act), v6, v7, v8], [], (sh, xput 14 σ 22 A)) = some (none, (sh, xput 14 σ 22 (uDw f act x A)))
  | 0, act, x, A, v6, v7, v8, hw, h => x68 X sh σ A hr seed x act m v6 v7 v8 hm (by omega) (Or.inr (by omega))
  | f + 1, act, x, A, v6, v7, v8, hw, h => by
    by_cases hx : x < 0
    · rw [uDw, if_pos hx]
      exact x68 X sh σ A hr seed x act m v6 v7 v8 hm (by omega) (Or.inl hx)
    · rw [uDw, if_neg hx]
      rw [g68 X sh σ A hr hw seed x (uX x) _ _ _ _ act m v6 v7 v8 hm (by omega) hx rfl (xchr_a _) rfl rfl (k16 X sh σ A 22 hr.2.1 _ _ _)]
      exact l68 X sh σ hr seed m hm f (act + 1) _ _ _ _ _ (uWF_ds hw) (by omega)
set_option maxRecDepth 100000 in
set_option maxHeartbeats 4000000 in
theorem k68 (X : xX) (sh : List (Nat × Nat × List Value)) (σ A : Nat → Nat → Int32) (hr : xreh sh) (hw : uWF (xget σ 1)) (x : Int32) (m : Nat) (hm : m < 2147483648) : xK X 68 [.ref 21, .ref 1, .int x, .int (nI m)] (sh, xput 14 σ 22 A) = some (none, (sh, xput 14 (uRh σ 0 (-6) (-6)) 22 (uDw m 0 x (uBeg A (xget σ 1))))) := by
  have hR := hr
  obtain ⟨c1, c22, pd, r0⟩ := hr
  have s22 := c22.1
  have s35 := c22.2.2.2.2.2.2.2.2.2.2.2.2.2
  have s15 := pd.1
  have s1 := c1.1
  have e63 := k63 X sh σ A hR
  have el := l68 X sh (uRh σ 0 (-6) (-6)) hR (.int x) m hm m 0 x (uBeg A (xget σ 1)) (.float 0) (.float 0) (.float 0) (uWF_beg hw) (by omega)
  rw [nI_0] at el
  rw [xK_d X 68 _ _ [11] 60]
  simp [xent, xsl, Value.category, xr_d, xr_0, xg_nx, xg_n, xg_o, xg_c, xth_s, xth_v, xth_ite, xth_n, xd_iconst, xd_bipush, xd_sipush, xd_lconst, xd_iload, xd_iload_n, xd_lload, xd_lload_n, xd_aload, xd_aload_n, xd_istore, xd_istore_n, xd_astore, xd_astore_n, xd_lstore, xd_lstore_n, xd_iadd, xd_isub, xd_imul, xd_iand, xd_ior, xd_ishl, xd_ishr, xd_ladd, xd_lsub, xd_lmul, xd_land, xd_lor, xd_idiv, xd_irem, xd_ldiv, xd_lrem, xd_ineg, xd_lneg, xd_lshl, xd_lshr, xd_lcmp, xd_i2l, xd_l2i, xd_dup_int, xd_dup_ref, xd_pop, xd_dup2, xd_goto, xd_ifC, xd_ifI, xd_getf, xd_putI, xd_putR, xd_iald, xd_ialdX, xd_bald, xd_iast, xd_bast, xd_aald, xd_aast, xd_alen, xd_alenX, xd_newI, xd_newZ, xd_newQ, xd_newO, xd_invS, xd_invV, xd_invI, xd_iret, xd_lret, xd_vret, xd_ldc, xd_ldc2, xd_iinc, xd_aret, xd_tsw, xd_lsw, xC_d, xld, xisI, xisL, xisA, xgo_ite, xjp, xcmp, xrt, xinv, xcall, xpop, xcat, xgf, xal, xas, xpf, xle, xaq, xbite, xbite2, xsto, xsto2, xst1, xst2, xkl, xtt, xnum, xi0, xzf, v3, List.getElem?_cons_zero, List.getElem?_cons_succ, List.set_cons_zero, List.set_cons_succ, d68_0, d68_1, d68_2, d68_5, d68_6, d68_8, d68_9, d68_11, d68_13, d68_14, d68_17, d68_19, d68_22, d68_24, d68_26, d68_27, d68_29, d68_30, d68_32, d68_33, d68_35, d68_37, d68_39, d68_41, d68_42, d68_44, d68_45, d68_48, d68_50, d68_52, d68_54, d68_55, d68_57, d68_59, d68_61, d68_62, d68_64, d68_65, d68_67, d68_68, d68_71, d68_73, d68_75, d68_77, d68_80, d68_83, d68_84, d68_87, d68_89, d68_91, d68_93, d68_95, d68_98, d68_101, d68_104, wo68, wm68, wr68, c4_74, c4_75, f4_12, m4_41, m4_63, m4_67, m4_77, qf68, ql68, r68_16, r68_20, r68_63, wm16, wm20, wm63, wo16, wo20, wo63, b8_64, b8_7, b8_74, b8_75, b8_8, c1, c22, pd, r0, s22, s35, s15, s1, xput_upo, e63, el]
