def xsig (sh : List (Nat × Nat × List Value)) (c : Nat) : Prop := sh[c]? = some (9, 4, [.ref (c + 1), .ref (c + 2), .ref (c + 3), .int 0]) ∧ sh[c + 1]? = some (0, 8, []) ∧ sh[c + 2]? = some (0, 8, []) ∧ sh[c + 3]? = some (1, 8, [])
def vAl (T : Nat → Nat → Int32) (a b : Int32) : Nat → Nat → Bool
  | 0, _ => true
  | d + 1, i => if nI i < T 0 3 then (if xi (decide (T 2 i ≤ a + b * T 1 i)) = T 3 i then vAl T a b d (i + 1) else false) else true
def vAdd (T : Nat → Nat → Int32) (t v b : Int32) : Nat → Nat → Int32 := if T 0 3 < 8 then xup (xup (xup (xup T 1 (T 0 3).toNatClampNeg t) 2 (T 0 3).toNatClampNeg v) 3 (T 0 3).toNatClampNeg b) 0 3 (T 0 3 + 1) else T
set_option maxRecDepth 100000 in
set_option maxHeartbeats 4000000 in
theorem k79 (X : xX) (sh : List (Nat × Nat × List Value)) (σ T : Nat → Nat → Int32) (c : Nat) (hc : xsig sh c)  : xK X 79 [.ref c] (sh, xput 4 σ c T) = some (some (.int (T 0 3)), (sh, xput 4 σ c T)) := by
  have hC := hc
  obtain ⟨h0, h1, h2, h3⟩ := hc
  rw [xK_d X 79 _ _ [] 90]
  simp [xent, xsl, Value.category, xr_d, xr_0, xg_nx, xg_n, xg_o, xg_c, xth_s, xth_v, xth_ite, xth_n, xd_iconst, xd_bipush, xd_sipush, xd_lconst, xd_iload, xd_iload_n, xd_lload, xd_lload_n, xd_aload, xd_aload_n, xd_istore, xd_istore_n, xd_astore, xd_astore_n, xd_lstore, xd_lstore_n, xd_iadd, xd_isub, xd_imul, xd_iand, xd_ior, xd_ishl, xd_ishr, xd_ladd, xd_lsub, xd_lmul, xd_land, xd_lor, xd_idiv, xd_irem, xd_ldiv, xd_lrem, xd_ineg, xd_lneg, xd_lshl, xd_lshr, xd_lcmp, xd_i2l, xd_l2i, xd_dup_int, xd_dup_ref, xd_pop, xd_dup2, xd_goto, xd_ifC, xd_ifI, xd_getf, xd_putI, xd_putR, xd_iald, xd_ialdX, xd_bald, xd_iast, xd_bast, xd_aald, xd_aast, xd_alen, xd_alenX, xd_newI, xd_newZ, xd_newQ, xd_newO, xd_invS, xd_invV, xd_invI, xd_iret, xd_lret, xd_vret, xd_ldc, xd_ldc2, xd_iinc, xd_aret, xd_tsw, xd_lsw, xC_d, xld, xisI, xisL, xisA, xgo_ite, xjp, xcmp, xrt, xinv, xcall, xpop, xcat, xgf, xal, xas, xpf, xle, xaq, xbite, xbite2, xsto, xsto2, xst1, xst2, xkl, xtt, xnum, xi0, xzf, v3, List.getElem?_cons_zero, List.getElem?_cons_succ, List.set_cons_zero, List.set_cons_succ, d79_0, d79_1, d79_4, wo79, wm79, wr79, f6_20, hC, h0, h1, h2, h3, xput_at, xput_at0, xput_up, xput_up0]

set_option maxRecDepth 100000 in
set_option maxHeartbeats 4000000 in
theorem k80 (X : xX) (sh : List (Nat × Nat × List Value)) (σ T : Nat → Nat → Int32) (c : Nat) (hc : xsig sh c)  : xK X 80 [.ref c] (sh, xput 4 σ c T) = some (none, (sh, xput 4 σ c (xup T 0 3 0))) := by
  have hC := hc
  obtain ⟨h0, h1, h2, h3⟩ := hc
  rw [xK_d X 80 _ _ [] 90]
  simp [xent, xsl, Value.category, xr_d, xr_0, xg_nx, xg_n, xg_o, xg_c, xth_s, xth_v, xth_ite, xth_n, xd_iconst, xd_bipush, xd_sipush, xd_lconst, xd_iload, xd_iload_n, xd_lload, xd_lload_n, xd_aload, xd_aload_n, xd_istore, xd_istore_n, xd_astore, xd_astore_n, xd_lstore, xd_lstore_n, xd_iadd, xd_isub, xd_imul, xd_iand, xd_ior, xd_ishl, xd_ishr, xd_ladd, xd_lsub, xd_lmul, xd_land, xd_lor, xd_idiv, xd_irem, xd_ldiv, xd_lrem, xd_ineg, xd_lneg, xd_lshl, xd_lshr, xd_lcmp, xd_i2l, xd_l2i, xd_dup_int, xd_dup_ref, xd_pop, xd_dup2, xd_goto, xd_ifC, xd_ifI, xd_getf, xd_putI, xd_putR, xd_iald, xd_ialdX, xd_bald, xd_iast, xd_bast, xd_aald, xd_aast, xd_alen, xd_alenX, xd_newI, xd_newZ, xd_newQ, xd_newO, xd_invS, xd_invV, xd_invI, xd_iret, xd_lret, xd_vret, xd_ldc, xd_ldc2, xd_iinc, xd_aret, xd_tsw, xd_lsw, xC_d, xld, xisI, xisL, xisA, xgo_ite, xjp, xcmp, xrt, xinv, xcall, xpop, xcat, xgf, xal, xas, xpf, xle, xaq, xbite, xbite2, xsto, xsto2, xst1, xst2, xkl, xtt, xnum, xi0, xzf, v3, List.getElem?_cons_zero, List.getElem?_cons_succ, List.set_cons_zero, List.set_cons_succ, d80_0, d80_1, d80_2, d80_5, wo80, wm80, wr80, f6_20, hC, h0, h1, h2, h3, xput_at, xput_at0, xput_up, xput_up0]

set_option maxRecDepth 100000 in
set_option maxHeartbeats 4000000 in
theorem k78 (X : xX) (sh : List (Nat × Nat × List Value)) (σ T : Nat → Nat → Int32) (c : Nat) (hc : xsig sh c) (t v b : Int32) (hb : b = 0 ∨ b = 1) (hl : xin (T 0 3) 9 = true) : xK X 78 [.ref c, .int t, .int v, .int b] (sh, xput 4 σ c T) = some (some (.int (xi (decide (T 0 3 < 8)))), (sh, xput 4 σ c (vAdd T t v b))) := by
  have hC := hc
  obtain ⟨h0, h1, h2, h3⟩ := hc
  have hl2 : 0 ≤ (T 0 3).toInt ∧ (T 0 3).toInt < 9 := by simpa [xin] using hl
  have h60 : (8 : Int32).toInt = 8 := by decide
  have g1 : ¬ T 0 3 < 0 := by rw [Int32.lt_iff_toInt_lt, Int32.toInt_zero]; omega
  unfold vAdd
  by_cases hs : T 0 3 < 8
  · have g2 : xin (T 0 3) 8 = true := by
      rw [Int32.lt_iff_toInt_lt, h60] at hs
      simp only [xin, Bool.and_eq_true, decide_eq_true_eq]; omega
    rw [xK_d X 78 _ _ [] 90]; simp [xent, xsl, Value.category, xr_d, xr_0, xg_nx, xg_n, xg_o, xg_c, xth_s, xth_v, xth_ite, xth_n, xd_iconst, xd_bipush, xd_sipush, xd_lconst, xd_iload, xd_iload_n, xd_lload, xd_lload_n, xd_aload, xd_aload_n, xd_istore, xd_istore_n, xd_astore, xd_astore_n, xd_lstore, xd_lstore_n, xd_iadd, xd_isub, xd_imul, xd_iand, xd_ior, xd_ishl, xd_ishr, xd_ladd, xd_lsub, xd_lmul, xd_land, xd_lor, xd_idiv, xd_irem, xd_ldiv, xd_lrem, xd_ineg, xd_lneg, xd_lshl, xd_lshr, xd_lcmp, xd_i2l, xd_l2i, xd_dup_int, xd_dup_ref, xd_pop, xd_dup2, xd_goto, xd_ifC, xd_ifI, xd_getf, xd_putI, xd_putR, xd_iald, xd_ialdX, xd_bald, xd_iast, xd_bast, xd_aald, xd_aast, xd_alen, xd_alenX, xd_newI, xd_newZ, xd_newQ, xd_newO, xd_invS, xd_invV, xd_invI, xd_iret, xd_lret, xd_vret, xd_ldc, xd_ldc2, xd_iinc, xd_aret, xd_tsw, xd_lsw, xC_d, xld, xisI, xisL, xisA, xgo_ite, xjp, xcmp, xrt, xinv, xcall, xpop, xcat, xgf, xal, xas, xpf, xle, xaq, xbite, xbite2, xsto, xsto2, xst1, xst2, xkl, xtt, xnum, xi0, xzf, v3, List.getElem?_cons_zero, List.getElem?_cons_succ, List.set_cons_zero, List.set_cons_succ, d78_0, d78_1, d78_4, d78_7, d78_8, d78_11, d78_13, d78_16, d78_17, d78_18, d78_19, d78_22, d78_23, d78_26, d78_27, d78_28, d78_29, d78_32, d78_33, d78_36, d78_37, d78_38, d78_39, d78_42, d78_43, d78_46, d78_47, d78_48, d78_49, d78_50, d78_53, d78_54, d78_55, d78_58, d78_59, wo78, wm78, wr78, f6_13, f6_16, f6_20, f6_9, b8_8, hC, h0, h1, h2, h3, xput_at, xput_at0, xput_up, xput_up0, g1, g2, hs, xi, xup, hb]
  · rw [xK_d X 78 _ _ [] 90]; simp [xent, xsl, Value.category, xr_d, xr_0, xg_nx, xg_n, xg_o, xg_c, xth_s, xth_v, xth_ite, xth_n, xd_iconst, xd_bipush, xd_sipush, xd_lconst, xd_iload, xd_iload_n, xd_lload, xd_lload_n, xd_aload, xd_aload_n, xd_istore, xd_istore_n, xd_astore, xd_astore_n, xd_lstore, xd_lstore_n, xd_iadd, xd_isub, xd_imul, xd_iand, xd_ior, xd_ishl, xd_ishr, xd_ladd, xd_lsub, xd_lmul, xd_land, xd_lor, xd_idiv, xd_irem, xd_ldiv, xd_lrem, xd_ineg, xd_lneg, xd_lshl, xd_lshr, xd_lcmp, xd_i2l, xd_l2i, xd_dup_int, xd_dup_ref, xd_pop, xd_dup2, xd_goto, xd_ifC, xd_ifI, xd_getf, xd_putI, xd_putR, xd_iald, xd_ialdX, xd_bald, xd_iast, xd_bast, xd_aald, xd_aast, xd_alen, xd_alenX, xd_newI, xd_newZ, xd_newQ, xd_newO, xd_invS, xd_invV, xd_invI, xd_iret, xd_lret, xd_vret, xd_ldc, xd_ldc2, xd_iinc, xd_aret, xd_tsw, xd_lsw, xC_d, xld, xisI, xisL, xisA, xgo_ite, xjp, xcmp, xrt, xinv, xcall, xpop, xcat, xgf, xal, xas, xpf, xle, xaq, xbite, xbite2, xsto, xsto2, xst1, xst2, xkl, xtt, xnum, xi0, xzf, v3, List.getElem?_cons_zero, List.getElem?_cons_succ, List.set_cons_zero, List.set_cons_succ, d78_0, d78_1, d78_4, d78_7, d78_8, d78_11, d78_13, d78_16, d78_17, d78_18, d78_19, d78_22, d78_23, d78_26, d78_27, d78_28, d78_29, d78_32, d78_33, d78_36, d78_37, d78_38, d78_39, d78_42, d78_43, d78_46, d78_47, d78_48, d78_49, d78_50, d78_53, d78_54, d78_55, d78_58, d78_59, wo78, wm78, wr78, f6_13, f6_16, f6_20, f6_9, b8_8, hC, h0, h1, h2, h3, xput_at, xput_at0, xput_up, xput_up0, g1, hs, xi]
set_option maxRecDepth 100000 in
set_option maxHeartbeats 4000000 in
theorem i81 (X : xX) (sh : List (Nat × Nat × List Value)) (σ T : Nat → Nat → Int32) (c : Nat) (hc : xsig sh c) (a b : Int32) (i : Nat) (hi : i < 8) : xV X 81 (2, [.ref c, .int a, .int b, .int (nI i)], [], (sh, xput 4 σ c T)) = if nI i < T 0 3 then (if xi (decide (T 2 i ≤ a + b * T 1 i)) = T 3 i then xV X 81 (2, [.ref c, .int a, .int b, .int (nI (i + 1))], [], (sh, xput 4 σ c T)) else some (some (.int 0), (sh, xput 4 σ c T))) else some (some (.int 1), (sh, xput 4 σ c T)) := by
  have hC := hc
  obtain ⟨h0, h1, h2, h3⟩ := hc
  have g1 : ¬ 8 ≤ nI i := nI_lt' (a := i) (b := 8) hi (by omega)
  have g2 : xin (nI i) 8 = true := by rw [xin_nI (by omega)]; simp [hi]
  have g3 := nI_cl (n := i) (by omega)
  rw [xV_d X 81 [2] 60]
  by_cases h : nI i < T 0 3
  · have h' : ¬ T 0 3 ≤ nI i := Int32.not_le.mpr h
    by_cases hk : T 2 i ≤ a + b * T 1 i
    · have hk' : ¬ a + b * T 1 i < T 2 i := Int32.not_lt.mpr hk
      by_cases he : 1 = T 3 i
      · simp [xent, xsl, Value.category, xr_d, xr_0, xg_nx, xg_n, xg_o, xg_c, xth_s, xth_v, xth_ite, xth_n, xd_iconst, xd_bipush, xd_sipush, xd_lconst, xd_iload, xd_iload_n, xd_lload, xd_lload_n, xd_aload, xd_aload_n, xd_istore, xd_istore_n, xd_astore, xd_astore_n, xd_lstore, xd_lstore_n, xd_iadd, xd_isub, xd_imul, xd_iand, xd_ior, xd_ishl, xd_ishr, xd_ladd, xd_lsub, xd_lmul, xd_land, xd_lor, xd_idiv, xd_irem, xd_ldiv, xd_lrem, xd_ineg, xd_lneg, xd_lshl, xd_lshr, xd_lcmp, xd_i2l, xd_l2i, xd_dup_int, xd_dup_ref, xd_pop, xd_dup2, xd_goto, xd_ifC, xd_ifI, xd_getf, xd_putI, xd_putR, xd_iald, xd_ialdX, xd_bald, xd_iast, xd_bast, xd_aald, xd_aast, xd_alen, xd_alenX, xd_newI, xd_newZ, xd_newQ, xd_newO, xd_invS, xd_invV, xd_invI, xd_iret, xd_lret, xd_vret, xd_ldc, xd_ldc2, xd_iinc, xd_aret, xd_tsw, xd_lsw, xC_d, xld, xisI, xisL, xisA, xgo_ite, xjp, xcmp, xrt, xinv, xcall, xpop, xcat, xgf, xal, xas, xpf, xle, xaq, xbite, xbite2, xsto, xsto2, xst1, xst2, xkl, xtt, xnum, xi0, xzf, v3, List.getElem?_cons_zero, List.getElem?_cons_succ, List.set_cons_zero, List.set_cons_succ, d81_0, d81_1, d81_2, d81_3, d81_4, d81_7, d81_10, d81_11, d81_13, d81_16, d81_17, d81_18, d81_19, d81_22, d81_23, d81_24, d81_25, d81_26, d81_27, d81_30, d81_31, d81_32, d81_35, d81_36, d81_39, d81_40, d81_41, d81_44, d81_45, d81_46, d81_49, d81_50, d81_51, d81_54, d81_57, d81_58, wo81, wm81, wr81, f6_13, f6_16, f6_20, f6_9, b8_8, hC, h0, h1, h2, h3, xput_at, xput_at0, xput_up, xput_up0, g1, g2, g3, h, h', hk, hk', he, xi, nI_1]
      · simp [xent, xsl, Value.category, xr_d, xr_0, xg_nx, xg_n, xg_o, xg_c, xth_s, xth_v, xth_ite, xth_n, xd_iconst, xd_bipush, xd_sipush, xd_lconst, xd_iload, xd_iload_n, xd_lload, xd_lload_n, xd_aload, xd_aload_n, xd_istore, xd_istore_n, xd_astore, xd_astore_n, xd_lstore, xd_lstore_n, xd_iadd, xd_isub, xd_imul, xd_iand, xd_ior, xd_ishl, xd_ishr, xd_ladd, xd_lsub, xd_lmul, xd_land, xd_lor, xd_idiv, xd_irem, xd_ldiv, xd_lrem, xd_ineg, xd_lneg, xd_lshl, xd_lshr, xd_lcmp, xd_i2l, xd_l2i, xd_dup_int, xd_dup_ref, xd_pop, xd_dup2, xd_goto, xd_ifC, xd_ifI, xd_getf, xd_putI, xd_putR, xd_iald, xd_ialdX, xd_bald, xd_iast, xd_bast, xd_aald, xd_aast, xd_alen, xd_alenX, xd_newI, xd_newZ, xd_newQ, xd_newO, xd_invS, xd_invV, xd_invI, xd_iret, xd_lret, xd_vret, xd_ldc, xd_ldc2, xd_iinc, xd_aret, xd_tsw, xd_lsw, xC_d, xld, xisI, xisL, xisA, xgo_ite, xjp, xcmp, xrt, xinv, xcall, xpop, xcat, xgf, xal, xas, xpf, xle, xaq, xbite, xbite2, xsto, xsto2, xst1, xst2, xkl, xtt, xnum, xi0, xzf, v3, List.getElem?_cons_zero, List.getElem?_cons_succ, List.set_cons_zero, List.set_cons_succ, d81_0, d81_1, d81_2, d81_3, d81_4, d81_7, d81_10, d81_11, d81_13, d81_16, d81_17, d81_18, d81_19, d81_22, d81_23, d81_24, d81_25, d81_26, d81_27, d81_30, d81_31, d81_32, d81_35, d81_36, d81_39, d81_40, d81_41, d81_44, d81_45, d81_46, d81_49, d81_50, d81_51, d81_54, d81_57, d81_58, wo81, wm81, wr81, f6_13, f6_16, f6_20, f6_9, b8_8, hC, h0, h1, h2, h3, xput_at, xput_at0, xput_up, xput_up0, g1, g2, g3, h, h', hk, hk', he, xi]
    · have hk' : a + b * T 1 i < T 2 i := Int32.not_le.mp hk
      by_cases he : 0 = T 3 i
      · simp [xent, xsl, Value.category, xr_d, xr_0, xg_nx, xg_n, xg_o, xg_c, xth_s, xth_v, xth_ite, xth_n, xd_iconst, xd_bipush, xd_sipush, xd_lconst, xd_iload, xd_iload_n, xd_lload, xd_lload_n, xd_aload, xd_aload_n, xd_istore, xd_istore_n, xd_astore, xd_astore_n, xd_lstore, xd_lstore_n, xd_iadd, xd_isub, xd_imul, xd_iand, xd_ior, xd_ishl, xd_ishr, xd_ladd, xd_lsub, xd_lmul, xd_land, xd_lor, xd_idiv, xd_irem, xd_ldiv, xd_lrem, xd_ineg, xd_lneg, xd_lshl, xd_lshr, xd_lcmp, xd_i2l, xd_l2i, xd_dup_int, xd_dup_ref, xd_pop, xd_dup2, xd_goto, xd_ifC, xd_ifI, xd_getf, xd_putI, xd_putR, xd_iald, xd_ialdX, xd_bald, xd_iast, xd_bast, xd_aald, xd_aast, xd_alen, xd_alenX, xd_newI, xd_newZ, xd_newQ, xd_newO, xd_invS, xd_invV, xd_invI, xd_iret, xd_lret, xd_vret, xd_ldc, xd_ldc2, xd_iinc, xd_aret, xd_tsw, xd_lsw, xC_d, xld, xisI, xisL, xisA, xgo_ite, xjp, xcmp, xrt, xinv, xcall, xpop, xcat, xgf, xal, xas, xpf, xle, xaq, xbite, xbite2, xsto, xsto2, xst1, xst2, xkl, xtt, xnum, xi0, xzf, v3, List.getElem?_cons_zero, List.getElem?_cons_succ, List.set_cons_zero, List.set_cons_succ, d81_0, d81_1, d81_2, d81_3, d81_4, d81_7, d81_10, d81_11, d81_13, d81_16, d81_17, d81_18, d81_19, d81_22, d81_23, d81_24, d81_25, d81_26, d81_27, d81_30, d81_31, d81_32, d81_35, d81_36, d81_39, d81_40, d81_41, d81_44, d81_45, d81_46, d81_49, d81_50, d81_51, d81_54, d81_57, d81_58, wo81, wm81, wr81, f6_13, f6_16, f6_20, f6_9, b8_8, hC, h0, h1, h2, h3, xput_at, xput_at0, xput_up, xput_up0, g1, g2, g3, h, h', hk, hk', he, xi, nI_1]
      · simp [xent, xsl, Value.category, xr_d, xr_0, xg_nx, xg_n, xg_o, xg_c, xth_s, xth_v, xth_ite, xth_n, xd_iconst, xd_bipush, xd_sipush, xd_lconst, xd_iload, xd_iload_n, xd_lload, xd_lload_n, xd_aload, xd_aload_n, xd_istore, xd_istore_n, xd_astore, xd_astore_n, xd_lstore, xd_lstore_n, xd_iadd, xd_isub, xd_imul, xd_iand, xd_ior, xd_ishl, xd_ishr, xd_ladd, xd_lsub, xd_lmul, xd_land, xd_lor, xd_idiv, xd_irem, xd_ldiv, xd_lrem, xd_ineg, xd_lneg, xd_lshl, xd_lshr, xd_lcmp, xd_i2l, xd_l2i, xd_dup_int, xd_dup_ref, xd_pop, xd_dup2, xd_goto, xd_ifC, xd_ifI, xd_getf, xd_putI, xd_putR, xd_iald, xd_ialdX, xd_bald, xd_iast, xd_bast, xd_aald, xd_aast, xd_alen, xd_alenX, xd_newI, xd_newZ, xd_newQ, xd_newO, xd_invS, xd_invV, xd_invI, xd_iret, xd_lret, xd_vret, xd_ldc, xd_ldc2, xd_iinc, xd_aret, xd_tsw, xd_lsw, xC_d, xld, xisI, xisL, xisA, xgo_ite, xjp, xcmp, xrt, xinv, xcall, xpop, xcat, xgf, xal, xas, xpf, xle, xaq, xbite, xbite2, xsto, xsto2, xst1, xst2, xkl, xtt, xnum, xi0, xzf, v3, List.getElem?_cons_zero, List.getElem?_cons_succ, List.set_cons_zero, List.set_cons_succ, d81_0, d81_1, d81_2, d81_3, d81_4, d81_7, d81_10, d81_11, d81_13, d81_16, d81_17, d81_18, d81_19, d81_22, d81_23, d81_24, d81_25, d81_26, d81_27, d81_30, d81_31, d81_32, d81_35, d81_36, d81_39, d81_40, d81_41, d81_44, d81_45, d81_46, d81_49, d81_50, d81_51, d81_54, d81_57, d81_58, wo81, wm81, wr81, f6_13, f6_16, f6_20, f6_9, b8_8, hC, h0, h1, h2, h3, xput_at, xput_at0, xput_up, xput_up0, g1, g2, g3, h, h', hk, hk', he, xi]
  · have h' : T 0 3 ≤ nI i := Int32.not_lt.mp h
    simp [xent, xsl, Value.category, xr_d, xr_0, xg_nx, xg_n, xg_o, xg_c, xth_s, xth_v, xth_ite, xth_n, xd_iconst, xd_bipush, xd_sipush, xd_lconst, xd_iload, xd_iload_n, xd_lload, xd_lload_n, xd_aload, xd_aload_n, xd_istore, xd_istore_n, xd_astore, xd_astore_n, xd_lstore, xd_lstore_n, xd_iadd, xd_isub, xd_imul, xd_iand, xd_ior, xd_ishl, xd_ishr, xd_ladd, xd_lsub, xd_lmul, xd_land, xd_lor, xd_idiv, xd_irem, xd_ldiv, xd_lrem, xd_ineg, xd_lneg, xd_lshl, xd_lshr, xd_lcmp, xd_i2l, xd_l2i, xd_dup_int, xd_dup_ref, xd_pop, xd_dup2, xd_goto, xd_ifC, xd_ifI, xd_getf, xd_putI, xd_putR, xd_iald, xd_ialdX, xd_bald, xd_iast, xd_bast, xd_aald, xd_aast, xd_alen, xd_alenX, xd_newI, xd_newZ, xd_newQ, xd_newO, xd_invS, xd_invV, xd_invI, xd_iret, xd_lret, xd_vret, xd_ldc, xd_ldc2, xd_iinc, xd_aret, xd_tsw, xd_lsw, xC_d, xld, xisI, xisL, xisA, xgo_ite, xjp, xcmp, xrt, xinv, xcall, xpop, xcat, xgf, xal, xas, xpf, xle, xaq, xbite, xbite2, xsto, xsto2, xst1, xst2, xkl, xtt, xnum, xi0, xzf, v3, List.getElem?_cons_zero, List.getElem?_cons_succ, List.set_cons_zero, List.set_cons_succ, d81_0, d81_1, d81_2, d81_3, d81_4, d81_7, d81_10, d81_11, d81_13, d81_16, d81_17, d81_18, d81_19, d81_22, d81_23, d81_24, d81_25, d81_26, d81_27, d81_30, d81_31, d81_32, d81_35, d81_36, d81_39, d81_40, d81_41, d81_44, d81_45, d81_46, d81_49, d81_50, d81_51, d81_54, d81_57, d81_58, wo81, wm81, wr81, f6_13, f6_16, f6_20, f6_9, b8_8, hC, h0, h1, h2, h3, xput_at, xput_at0, xput_up, xput_up0, g1, h, h']
set_option maxRecDepth 100000 in
set_option maxHeartbeats 4000000 in
theorem x81 (X : xX) (sh : List (Nat × Nat × List Value)) (σ T : Nat → Nat → Int32) (c : Nat) (hc : xsig sh c) (a b : Int32) (i : Nat) (hi : i = 8) : xV X 81 (2, [.ref c, .int a, .int b, .int (nI i)], [], (sh, xput 4 σ c T)) = some (some (.int 1), (sh, xput 4 σ c T)) := by
  have hC := hc
  obtain ⟨h0, h1, h2, h3⟩ := hc
  have g1 : 8 ≤ nI i := nI_le' (a := 8) (b := i) (by omega) (by omega)
  rw [xV_d X 81 [2] 60]
  by_cases h : nI i < T 0 3
  · have h' : ¬ T 0 3 ≤ nI i := Int32.not_le.mpr h
    simp [xent, xsl, Value.category, xr_d, xr_0, xg_nx, xg_n, xg_o, xg_c, xth_s, xth_v, xth_ite, xth_n, xd_iconst, xd_bipush, xd_sipush, xd_lconst, xd_iload, xd_iload_n, xd_lload, xd_lload_n, xd_aload, xd_aload_n, xd_istore, xd_istore_n, xd_astore, xd_astore_n, xd_lstore, xd_lstore_n, xd_iadd, xd_isub, xd_imul, xd_iand, xd_ior, xd_ishl, xd_ishr, xd_ladd, xd_lsub, xd_lmul, xd_land, xd_lor, xd_idiv, xd_irem, xd_ldiv, xd_lrem, xd_ineg, xd_lneg, xd_lshl, xd_lshr, xd_lcmp, xd_i2l, xd_l2i, xd_dup_int, xd_dup_ref, xd_pop, xd_dup2, xd_goto, xd_ifC, xd_ifI, xd_getf, xd_putI, xd_putR, xd_iald, xd_ialdX, xd_bald, xd_iast, xd_bast, xd_aald, xd_aast, xd_alen, xd_alenX, xd_newI, xd_newZ, xd_newQ, xd_newO, xd_invS, xd_invV, xd_invI, xd_iret, xd_lret, xd_vret, xd_ldc, xd_ldc2, xd_iinc, xd_aret, xd_tsw, xd_lsw, xC_d, xld, xisI, xisL, xisA, xgo_ite, xjp, xcmp, xrt, xinv, xcall, xpop, xcat, xgf, xal, xas, xpf, xle, xaq, xbite, xbite2, xsto, xsto2, xst1, xst2, xkl, xtt, xnum, xi0, xzf, v3, List.getElem?_cons_zero, List.getElem?_cons_succ, List.set_cons_zero, List.set_cons_succ, d81_0, d81_1, d81_2, d81_3, d81_4, d81_7, d81_10, d81_11, d81_13, d81_16, d81_17, d81_18, d81_19, d81_22, d81_23, d81_24, d81_25, d81_26, d81_27, d81_30, d81_31, d81_32, d81_35, d81_36, d81_39, d81_40, d81_41, d81_44, d81_45, d81_46, d81_49, d81_50, d81_51, d81_54, d81_57, d81_58, wo81, wm81, wr81, f6_13, f6_16, f6_20, f6_9, b8_8, hC, h0, h1, h2, h3, xput_at, xput_at0, xput_up, xput_up0, g1, h, h']
  · have h' : T 0 3 ≤ nI i := Int32.not_lt.mp h
    simp [xent, xsl, Value.category, xr_d, xr_0, xg_nx, xg_n, xg_o, xg_c, xth_s, xth_v, xth_ite, xth_n, xd_iconst, xd_bipush, xd_sipush, xd_lconst, xd_iload, xd_iload_n, xd_lload, xd_lload_n, xd_aload, xd_aload_n, xd_istore, xd_istore_n, xd_astore, xd_astore_n, xd_lstore, xd_lstore_n, xd_iadd, xd_isub, xd_imul, xd_iand, xd_ior, xd_ishl, xd_ishr, xd_ladd, xd_lsub, xd_lmul, xd_land, xd_lor, xd_idiv, xd_irem, xd_ldiv, xd_lrem, xd_ineg, xd_lneg, xd_lshl, xd_lshr, xd_lcmp, xd_i2l, xd_l2i, xd_dup_int, xd_dup_ref, xd_pop, xd_dup2, xd_goto, xd_ifC, xd_ifI, xd_getf, xd_putI, xd_putR, xd_iald, xd_ialdX, xd_bald, xd_iast, xd_bast, xd_aald, xd_aast, xd_alen, xd_alenX, xd_newI, xd_newZ, xd_newQ, xd_newO, xd_invS, xd_invV, xd_invI, xd_iret, xd_lret, xd_vret, xd_ldc, xd_ldc2, xd_iinc, xd_aret, xd_tsw, xd_lsw, xC_d, xld, xisI, xisL, xisA, xgo_ite, xjp, xcmp, xrt, xinv, xcall, xpop, xcat, xgf, xal, xas, xpf, xle, xaq, xbite, xbite2, xsto, xsto2, xst1, xst2, xkl, xtt, xnum, xi0, xzf, v3, List.getElem?_cons_zero, List.getElem?_cons_succ, List.set_cons_zero, List.set_cons_succ, d81_0, d81_1, d81_2, d81_3, d81_4, d81_7, d81_10, d81_11, d81_13, d81_16, d81_17, d81_18, d81_19, d81_22, d81_23, d81_24, d81_25, d81_26, d81_27, d81_30, d81_31, d81_32, d81_35, d81_36, d81_39, d81_40, d81_41, d81_44, d81_45, d81_46, d81_49, d81_50, d81_51, d81_54, d81_57, d81_58, wo81, wm81, wr81, f6_13, f6_16, f6_20, f6_9, b8_8, hC, h0, h1, h2, h3, xput_at, xput_at0, xput_up, xput_up0, g1, h, h']
theorem l81 (X : xX) (sh : List (Nat × Nat × List Value)) (σ T : Nat → Nat → Int32) (c : Nat) (hc : xsig sh c) (a b : Int32) : ∀ d i, i + d = 8 → xV X 81 (2, [.ref c, .int a, .int b, .int (nI i)], [], (sh, xput 4 σ c T)) = some (some (.int (xi (vAl T a b d i))), (sh, xput 4 σ c T))
  | 0, i, h => by rw [x81 X sh σ T c hc a b i (by omega)]; rfl
  | d + 1, i, h => by
    rw [i81 X sh σ T c hc a b i (by omega), l81 X sh σ T c hc a b d (i + 1) (by omega), vAl]
    by_cases h1 : nI i < T 0 3
    · rw [if_pos h1, if_pos h1]
      split <;> rfl
    · rw [if_neg h1, if_neg h1]; rfl
set_option maxRecDepth 100000 in
set_option maxHeartbeats 4000000 in
theorem k81 (X : xX) (sh : List (Nat × Nat × List Value)) (σ T : Nat → Nat → Int32) (c : Nat) (hc : xsig sh c) (a b : Int32) : xK X 81 [.ref c, .int a, .int b] (sh, xput 4 σ c T) = some (some (.int (xi (vAl T a b 8 0))), (sh, xput 4 σ c T)) := by
  have hC := hc
  obtain ⟨h0, h1, h2, h3⟩ := hc
  have el := l81 X sh σ T c hC a b 8 0 (by omega)
  rw [nI_0] at el
  rw [xK_d X 81 _ _ [2] 90]; simp [xent, xsl, Value.category, xr_d, xr_0, xg_nx, xg_n, xg_o, xg_c, xth_s, xth_v, xth_ite, xth_n, xd_iconst, xd_bipush, xd_sipush, xd_lconst, xd_iload, xd_iload_n, xd_lload, xd_lload_n, xd_aload, xd_aload_n, xd_istore, xd_istore_n, xd_astore, xd_astore_n, xd_lstore, xd_lstore_n, xd_iadd, xd_isub, xd_imul, xd_iand, xd_ior, xd_ishl, xd_ishr, xd_ladd, xd_lsub, xd_lmul, xd_land, xd_lor, xd_idiv, xd_irem, xd_ldiv, xd_lrem, xd_ineg, xd_lneg, xd_lshl, xd_lshr, xd_lcmp, xd_i2l, xd_l2i, xd_dup_int, xd_dup_ref, xd_pop, xd_dup2, xd_goto, xd_ifC, xd_ifI, xd_getf, xd_putI, xd_putR, xd_iald, xd_ialdX, xd_bald, xd_iast, xd_bast, xd_aald, xd_aast, xd_alen, xd_alenX, xd_newI, xd_newZ, xd_newQ, xd_newO, xd_invS, xd_invV, xd_invI, xd_iret, xd_lret, xd_vret, xd_ldc, xd_ldc2, xd_iinc, xd_aret, xd_tsw, xd_lsw, xC_d, xld, xisI, xisL, xisA, xgo_ite, xjp, xcmp, xrt, xinv, xcall, xpop, xcat, xgf, xal, xas, xpf, xle, xaq, xbite, xbite2, xsto, xsto2, xst1, xst2, xkl, xtt, xnum, xi0, xzf, v3, List.getElem?_cons_zero, List.getElem?_cons_succ, List.set_cons_zero, List.set_cons_succ, d81_0, d81_1, d81_2, d81_3, d81_4, d81_7, d81_10, d81_11, d81_13, d81_16, d81_17, d81_18, d81_19, d81_22, d81_23, d81_24, d81_25, d81_26, d81_27, d81_30, d81_31, d81_32, d81_35, d81_36, d81_39, d81_40, d81_41, d81_44, d81_45, d81_46, d81_49, d81_50, d81_51, d81_54, d81_57, d81_58, wo81, wm81, wr81, f6_13, f6_16, f6_20, f6_9, b8_8, hC, h0, h1, h2, h3, xput_at, xput_at0, xput_up, xput_up0, el]
def vCp (T U : Nat → Nat → Int32) : Nat → Nat → Int32 := fun a b => if (1 ≤ a ∧ a ≤ 3 ∧ b < 8) ∨ (a = 0 ∧ b = 3) then U a b else T a b
theorem xcp_row4 {σ A : Nat → Nat → Int32} {c d k n : Nat} (hk : k < 4) (hcd : c + 4 ≤ d ∨ d + 4 ≤ c) : xcp (xput 4 σ c A) (d + k) (c + k) 0 0 n = xput 4 σ c (uRow A (xget σ d) k n) := by
  funext a b
  unfold xcp
  by_cases h : a = c + k ∧ 0 ≤ b ∧ b < 0 + n
  · rw [if_pos h, Nat.zero_add, Nat.sub_zero, xput_out (by omega), h.1, xput_at hk]
    unfold uRow xget
    rw [if_pos (by omega)]
  · rw [if_neg h]
    unfold xput uRow
    by_cases h1 : c ≤ a ∧ a < c + 4
    · rw [if_pos h1, if_pos h1]
      rw [if_neg (by omega)]
    · rw [if_neg h1, if_neg h1]
set_option maxRecDepth 100000 in
set_option maxHeartbeats 4000000 in
theorem i82 (X : xX) (sh : List (Nat × Nat × List Value)) (σ T : Nat → Nat → Int32) (c d : Nat) (hc : xsig sh c) (hd : xsig sh d) (hcd : c + 4 ≤ d ∨ d + 4 ≤ c) (i : Nat) (hi : i < 8) : xV X 82 (32, [.ref c, .ref d, .int (nI i)], [], (sh, xput 4 σ c (uRow T (xget σ d) 3 i))) = xV X 82 (32, [.ref c, .ref d, .int (nI (i + 1))], [], (sh, xput 4 σ c (uRow T (xget σ d) 3 (i + 1)))) := by
  have hC := hc
  obtain ⟨h0, h1, h2, h3⟩ := hc
  have hD := hd
  obtain ⟨e0, e1, e2, e3⟩ := hd
  have g1 : ¬ 8 ≤ nI i := nI_lt' (a := i) (b := 8) hi (by omega)
  have g2 : xin (nI i) 8 = true := by rw [xin_nI (by omega)]; simp [hi]
  have g3 := nI_cl (n := i) (by omega)
  have o5 : xput 4 σ c (uRow T (xget σ d) 3 i) (d + 3) i = xget σ d 3 i := by rw [xput_out (by omega)]; rfl
  have o6 : xbk (sh, xput 4 σ c (uRow T (xget σ d) 3 i)) (xget σ d 3 i) = true := by
    have h := xbk_of (σ := xput 4 σ c (uRow T (xget σ d) 3 i)) e3 hi
    rw [o5] at h
    exact h
  rw [xV_d X 82 [32] 60]
  simp [xent, xsl, Value.category, xr_d, xr_0, xg_nx, xg_n, xg_o, xg_c, xth_s, xth_v, xth_ite, xth_n, xd_iconst, xd_bipush, xd_sipush, xd_lconst, xd_iload, xd_iload_n, xd_lload, xd_lload_n, xd_aload, xd_aload_n, xd_istore, xd_istore_n, xd_astore, xd_astore_n, xd_lstore, xd_lstore_n, xd_iadd, xd_isub, xd_imul, xd_iand, xd_ior, xd_ishl, xd_ishr, xd_ladd, xd_lsub, xd_lmul, xd_land, xd_lor, xd_idiv, xd_irem, xd_ldiv, xd_lrem, xd_ineg, xd_lneg, xd_lshl, xd_lshr, xd_lcmp, xd_i2l, xd_l2i, xd_dup_int, xd_dup_ref, xd_pop, xd_dup2, xd_goto, xd_ifC, xd_ifI, xd_getf, xd_putI, xd_putR, xd_iald, xd_ialdX, xd_bald, xd_iast, xd_bast, xd_aald, xd_aast, xd_alen, xd_alenX, xd_newI, xd_newZ, xd_newQ, xd_newO, xd_invS, xd_invV, xd_invI, xd_iret, xd_lret, xd_vret, xd_ldc, xd_ldc2, xd_iinc, xd_aret, xd_tsw, xd_lsw, xC_d, xld, xisI, xisL, xisA, xgo_ite, xjp, xcmp, xrt, xinv, xcall, xpop, xcat, xgf, xal, xas, xpf, xle, xaq, xbite, xbite2, xsto, xsto2, xst1, xst2, xkl, xtt, xnum, xi0, xzf, v3, List.getElem?_cons_zero, List.getElem?_cons_succ, List.set_cons_zero, List.set_cons_succ, d82_0, d82_1, d82_4, d82_5, d82_6, d82_9, d82_10, d82_12, d82_15, d82_16, d82_19, d82_20, d82_21, d82_24, d82_25, d82_27, d82_30, d82_31, d82_32, d82_33, d82_35, d82_38, d82_39, d82_42, d82_43, d82_44, d82_47, d82_48, d82_49, d82_50, d82_53, d82_56, d82_57, d82_58, d82_61, d82_64, wo82, wm82, wr82, f6_13, f6_16, f6_20, f6_9, m6_24, qf82, ql82, b8_8, hC, h0, h1, h2, h3, xput_at, xput_at0, xput_up, xput_up0, hD, e0, e1, e2, e3, g1, g2, g3, o5, o6, nI_1, uRow_s]
set_option maxRecDepth 100000 in
set_option maxHeartbeats 4000000 in
theorem x82 (X : xX) (sh : List (Nat × Nat × List Value)) (σ T : Nat → Nat → Int32) (c d : Nat) (hc : xsig sh c) (hd : xsig sh d) (hcd : c + 4 ≤ d ∨ d + 4 ≤ c) (i : Nat) (hi : i = 8) : xV X 82 (32, [.ref c, .ref d, .int (nI i)], [], (sh, xput 4 σ c T)) = some (none, (sh, xput 4 σ c (xup (T) 0 3 (xget σ d 0 3)))) := by
  have hC := hc
  obtain ⟨h0, h1, h2, h3⟩ := hc
  have hD := hd
  obtain ⟨e0, e1, e2, e3⟩ := hd
  have o5 : ∀ (B : Nat → Nat → Int32) (b : Nat), xput 4 σ c B d b = xget σ d 0 b := fun B b => by rw [xput_out (by omega)]; rfl
  have g1 : 8 ≤ nI i := nI_le' (a := 8) (b := i) (by omega) (by omega)
  rw [xV_d X 82 [32] 60]
  simp [xent, xsl, Value.category, xr_d, xr_0, xg_nx, xg_n, xg_o, xg_c, xth_s, xth_v, xth_ite, xth_n, xd_iconst, xd_bipush, xd_sipush, xd_lconst, xd_iload, xd_iload_n, xd_lload, xd_lload_n, xd_aload, xd_aload_n, xd_istore, xd_istore_n, xd_astore, xd_astore_n, xd_lstore, xd_lstore_n, xd_iadd, xd_isub, xd_imul, xd_iand, xd_ior, xd_ishl, xd_ishr, xd_ladd, xd_lsub, xd_lmul, xd_land, xd_lor, xd_idiv, xd_irem, xd_ldiv, xd_lrem, xd_ineg, xd_lneg, xd_lshl, xd_lshr, xd_lcmp, xd_i2l, xd_l2i, xd_dup_int, xd_dup_ref, xd_pop, xd_dup2, xd_goto, xd_ifC, xd_ifI, xd_getf, xd_putI, xd_putR, xd_iald, xd_ialdX, xd_bald, xd_iast, xd_bast, xd_aald, xd_aast, xd_alen, xd_alenX, xd_newI, xd_newZ, xd_newQ, xd_newO, xd_invS, xd_invV, xd_invI, xd_iret, xd_lret, xd_vret, xd_ldc, xd_ldc2, xd_iinc, xd_aret, xd_tsw, xd_lsw, xC_d, xld, xisI, xisL, xisA, xgo_ite, xjp, xcmp, xrt, xinv, xcall, xpop, xcat, xgf, xal, xas, xpf, xle, xaq, xbite, xbite2, xsto, xsto2, xst1, xst2, xkl, xtt, xnum, xi0, xzf, v3, List.getElem?_cons_zero, List.getElem?_cons_succ, List.set_cons_zero, List.set_cons_succ, d82_0, d82_1, d82_4, d82_5, d82_6, d82_9, d82_10, d82_12, d82_15, d82_16, d82_19, d82_20, d82_21, d82_24, d82_25, d82_27, d82_30, d82_31, d82_32, d82_33, d82_35, d82_38, d82_39, d82_42, d82_43, d82_44, d82_47, d82_48, d82_49, d82_50, d82_53, d82_56, d82_57, d82_58, d82_61, d82_64, wo82, wm82, wr82, f6_13, f6_16, f6_20, f6_9, m6_24, qf82, ql82, b8_8, hC, h0, h1, h2, h3, xput_at, xput_at0, xput_up, xput_up0, hD, e0, e1, e2, e3, g1, o5]
theorem l82 (X : xX) (sh : List (Nat × Nat × List Value)) (σ T : Nat → Nat → Int32) (c d : Nat) (hc : xsig sh c) (hd : xsig sh d) (hcd : c + 4 ≤ d ∨ d + 4 ≤ c) : ∀ m i, i + m = 8 → xV X 82 (32, [.ref c, .ref d, .int (nI i)], [], (sh, xput 4 σ c (uRow T (xget σ d) 3 i))) = some (none, (sh, xput 4 σ c (xup (uRow T (xget σ d) 3 8) 0 3 (xget σ d 0 3))))
  | 0, i, h => by
    have e : i = 8 := by omega
    subst e
    exact x82 X sh σ _ c d hc hd hcd 8 rfl
  | m + 1, i, h => by
    rw [i82 X sh σ T c d hc hd hcd i (by omega)]
    exact l82 X sh σ T c d hc hd hcd m (i + 1) (by omega)
set_option maxRecDepth 100000 in
set_option maxHeartbeats 4000000 in
theorem k82 (X : xX) (sh : List (Nat × Nat × List Value)) (σ T : Nat → Nat → Int32) (c d : Nat) (hc : xsig sh c) (hd : xsig sh d) (hcd : c + 4 ≤ d ∨ d + 4 ≤ c) : xK X 82 [.ref c, .ref d] (sh, xput 4 σ c T) = some (none, (sh, xput 4 σ c (vCp T (xget σ d)))) := by
  have hC := hc
  obtain ⟨h0, h1, h2, h3⟩ := hc
  have hD := hd
  obtain ⟨e0, e1, e2, e3⟩ := hd
  have ef : xup (uRow (uRow (uRow T (xget σ d) 1 8) (xget σ d) 2 8) (xget σ d) 3 8) 0 3 (xget σ d 0 3) = vCp T (xget σ d) := by
    funext a b
    unfold xup vCp uRow
    rcases (by omega : a = 0 ∨ a = 1 ∨ a = 2 ∨ a = 3 ∨ 4 ≤ a) with rfl | rfl | rfl | rfl | h
    · by_cases h5 : b = 3
      · subst h5; simp
      · simp [h5]
    · simp
    · simp
    · simp
    · have q0 : ¬ a = 0 := by omega
      have q1 : ¬ a = 1 := by omega
      have q2 : ¬ a = 2 := by omega
      have q3 : ¬ a = 3 := by omega
      have q7 : ¬ (1 ≤ a ∧ a ≤ 3 ∧ b < 8) := by omega
      simp [q0, q1, q2, q3, q7]
  rw [← ef]
  have el := l82 X sh σ (uRow (uRow T (xget σ d) 1 8) (xget σ d) 2 8) c d hC hD hcd 8 0 (by omega)
  rw [nI_0, uRow_0] at el
  rw [xK_d X 82 _ _ [32] 60]
  simp [xent, xsl, Value.category, xr_d, xr_0, xg_nx, xg_n, xg_o, xg_c, xth_s, xth_v, xth_ite, xth_n, xd_iconst, xd_bipush, xd_sipush, xd_lconst, xd_iload, xd_iload_n, xd_lload, xd_lload_n, xd_aload, xd_aload_n, xd_istore, xd_istore_n, xd_astore, xd_astore_n, xd_lstore, xd_lstore_n, xd_iadd, xd_isub, xd_imul, xd_iand, xd_ior, xd_ishl, xd_ishr, xd_ladd, xd_lsub, xd_lmul, xd_land, xd_lor, xd_idiv, xd_irem, xd_ldiv, xd_lrem, xd_ineg, xd_lneg, xd_lshl, xd_lshr, xd_lcmp, xd_i2l, xd_l2i, xd_dup_int, xd_dup_ref, xd_pop, xd_dup2, xd_goto, xd_ifC, xd_ifI, xd_getf, xd_putI, xd_putR, xd_iald, xd_ialdX, xd_bald, xd_iast, xd_bast, xd_aald, xd_aast, xd_alen, xd_alenX, xd_newI, xd_newZ, xd_newQ, xd_newO, xd_invS, xd_invV, xd_invI, xd_iret, xd_lret, xd_vret, xd_ldc, xd_ldc2, xd_iinc, xd_aret, xd_tsw, xd_lsw, xC_d, xld, xisI, xisL, xisA, xgo_ite, xjp, xcmp, xrt, xinv, xcall, xpop, xcat, xgf, xal, xas, xpf, xle, xaq, xbite, xbite2, xsto, xsto2, xst1, xst2, xkl, xtt, xnum, xi0, xzf, v3, List.getElem?_cons_zero, List.getElem?_cons_succ, List.set_cons_zero, List.set_cons_succ, d82_0, d82_1, d82_4, d82_5, d82_6, d82_9, d82_10, d82_12, d82_15, d82_16, d82_19, d82_20, d82_21, d82_24, d82_25, d82_27, d82_30, d82_31, d82_32, d82_33, d82_35, d82_38, d82_39, d82_42, d82_43, d82_44, d82_47, d82_48, d82_49, d82_50, d82_53, d82_56, d82_57, d82_58, d82_61, d82_64, wo82, wm82, wr82, f6_13, f6_16, f6_20, f6_9, m6_24, qf82, ql82, b8_8, hC, h0, h1, h2, h3, xput_at, xput_at0, xput_up, xput_up0, e0, e1, e2, e3, t_0, t_8, xcp_row4, hcd, xacp, el]
