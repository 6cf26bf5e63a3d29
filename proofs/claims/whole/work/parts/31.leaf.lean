set_option maxRecDepth 100000 in
set_option maxHeartbeats 4000000 in
theorem k88 (X : xX) (x : Int32) (S : xS) : xK X 88 [.int x] S = some (some (.int (xi (xin x 8))), S) := by
  rw [xK_d X 88 _ S [] 60]
  simp [xent, xsl, Value.category, xr_d, xr_0, xg_nx, xg_n, xg_o, xg_c, xth_s, xth_v, xth_ite, xth_n, xd_iconst, xd_bipush, xd_sipush, xd_lconst, xd_iload, xd_iload_n, xd_lload, xd_lload_n, xd_aload, xd_aload_n, xd_istore, xd_istore_n, xd_astore, xd_astore_n, xd_lstore, xd_lstore_n, xd_iadd, xd_isub, xd_imul, xd_iand, xd_ior, xd_ishl, xd_ishr, xd_ladd, xd_lsub, xd_lmul, xd_land, xd_lor, xd_idiv, xd_irem, xd_ldiv, xd_lrem, xd_ineg, xd_lneg, xd_lshl, xd_lshr, xd_lcmp, xd_i2l, xd_l2i, xd_dup_int, xd_dup_ref, xd_pop, xd_dup2, xd_goto, xd_ifC, xd_ifI, xd_getf, xd_putI, xd_putR, xd_iald, xd_ialdX, xd_bald, xd_iast, xd_bast, xd_aald, xd_aast, xd_alen, xd_alenX, xd_newI, xd_newZ, xd_newQ, xd_newO, xd_invS, xd_invV, xd_invI, xd_iret, xd_lret, xd_vret, xd_ldc, xd_ldc2, xd_iinc, xd_aret, xd_tsw, xd_lsw, xC_d, xld, xisI, xisL, xisA, xgo_ite, xjp, xcmp, xrt, xinv, xcall, xpop, xcat, xgf, xal, xas, xpf, xle, xaq, xbite, xbite2, xsto, xsto2, xst1, xst2, xkl, xtt, xnum, xi0, xzf, v3, List.getElem?_cons_zero, List.getElem?_cons_succ, List.set_cons_zero, List.set_cons_succ, d88_0, d88_1, d88_4, d88_5, d88_7, d88_10, d88_11, d88_14, d88_15, wo88, wm88, wr88, b8_8]
  have h8 : (8 : Int32).toInt = 8 := by decide
  simp only [xin, xi, Int32.lt_iff_toInt_lt, Int32.le_iff_toInt_le, h8, Int32.toInt_zero]
  repeat' split
  all_goals simp_all
  all_goals omega
set_option maxRecDepth 100000 in
set_option maxHeartbeats 4000000 in
theorem k87 (X : xX) (x : Int32) (S : xS) : xK X 87 [.int x] S = some (some (.int (xi (decide (1 ≤ x) && decide (x ≤ 7)))), S) := by
  rw [xK_d X 87 _ S [] 60]
  simp [xent, xsl, Value.category, xr_d, xr_0, xg_nx, xg_n, xg_o, xg_c, xth_s, xth_v, xth_ite, xth_n, xd_iconst, xd_bipush, xd_sipush, xd_lconst, xd_iload, xd_iload_n, xd_lload, xd_lload_n, xd_aload, xd_aload_n, xd_istore, xd_istore_n, xd_astore, xd_astore_n, xd_lstore, xd_lstore_n, xd_iadd, xd_isub, xd_imul, xd_iand, xd_ior, xd_ishl, xd_ishr, xd_ladd, xd_lsub, xd_lmul, xd_land, xd_lor, xd_idiv, xd_irem, xd_ldiv, xd_lrem, xd_ineg, xd_lneg, xd_lshl, xd_lshr, xd_lcmp, xd_i2l, xd_l2i, xd_dup_int, xd_dup_ref, xd_pop, xd_dup2, xd_goto, xd_ifC, xd_ifI, xd_getf, xd_putI, xd_putR, xd_iald, xd_ialdX, xd_bald, xd_iast, xd_bast, xd_aald, xd_aast, xd_alen, xd_alenX, xd_newI, xd_newZ, xd_newQ, xd_newO, xd_invS, xd_invV, xd_invI, xd_iret, xd_lret, xd_vret, xd_ldc, xd_ldc2, xd_iinc, xd_aret, xd_tsw, xd_lsw, xC_d, xld, xisI, xisL, xisA, xgo_ite, xjp, xcmp, xrt, xinv, xcall, xpop, xcat, xgf, xal, xas, xpf, xle, xaq, xbite, xbite2, xsto, xsto2, xst1, xst2, xkl, xtt, xnum, xi0, xzf, v3, List.getElem?_cons_zero, List.getElem?_cons_succ, List.set_cons_zero, List.set_cons_succ, d87_0, d87_1, d87_2, d87_5, d87_6, d87_8, d87_11, d87_12, d87_15, d87_16, wo87, wm87, wr87, b8_7]
  simp only [← Int32.not_lt, xi]
  repeat' split
  all_goals simp_all
set_option maxRecDepth 100000 in
set_option maxHeartbeats 4000000 in
theorem k90 (X : xX) (x y : Int32) (S : xS) : xK X 90 [.int x, .int y] S = some (some (.int (xi (decide (-y ≤ x) && decide (x ≤ y)))), S) := by
  rw [xK_d X 90 _ S [] 60]
  simp [xent, xsl, Value.category, xr_d, xr_0, xg_nx, xg_n, xg_o, xg_c, xth_s, xth_v, xth_ite, xth_n, xd_iconst, xd_bipush, xd_sipush, xd_lconst, xd_iload, xd_iload_n, xd_lload, xd_lload_n, xd_aload, xd_aload_n, xd_istore, xd_istore_n, xd_astore, xd_astore_n, xd_lstore, xd_lstore_n, xd_iadd, xd_isub, xd_imul, xd_iand, xd_ior, xd_ishl, xd_ishr, xd_ladd, xd_lsub, xd_lmul, xd_land, xd_lor, xd_idiv, xd_irem, xd_ldiv, xd_lrem, xd_ineg, xd_lneg, xd_lshl, xd_lshr, xd_lcmp, xd_i2l, xd_l2i, xd_dup_int, xd_dup_ref, xd_pop, xd_dup2, xd_goto, xd_ifC, xd_ifI, xd_getf, xd_putI, xd_putR, xd_iald, xd_ialdX, xd_bald, xd_iast, xd_bast, xd_aald, xd_aast, xd_alen, xd_alenX, xd_newI, xd_newZ, xd_newQ, xd_newO, xd_invS, xd_invV, xd_invI, xd_iret, xd_lret, xd_vret, xd_ldc, xd_ldc2, xd_iinc, xd_aret, xd_tsw, xd_lsw, xC_d, xld, xisI, xisL, xisA, xgo_ite, xjp, xcmp, xrt, xinv, xcall, xpop, xcat, xgf, xal, xas, xpf, xle, xaq, xbite, xbite2, xsto, xsto2, xst1, xst2, xkl, xtt, xnum, xi0, xzf, v3, List.getElem?_cons_zero, List.getElem?_cons_succ, List.set_cons_zero, List.set_cons_succ, d90_0, d90_1, d90_2, d90_3, d90_6, d90_7, d90_8, d90_11, d90_12, d90_15, d90_16, wo90, wm90, wr90]
  simp only [← Int32.not_lt, xi]
  repeat' split
  all_goals simp_all
set_option maxRecDepth 100000 in
set_option maxHeartbeats 4000000 in
theorem k100 (X : xX) (x y : Int32) (S : xS) : xK X 100 [.int x, .int y] S = some (some (.int (xi (decide (0 ≤ x) && decide (x ≤ 9999) && (decide (1 ≤ y) && decide (y ≤ 100))))), S) := by
  rw [xK_d X 100 _ S [] 60]
  simp [xent, xsl, Value.category, xr_d, xr_0, xg_nx, xg_n, xg_o, xg_c, xth_s, xth_v, xth_ite, xth_n, xd_iconst, xd_bipush, xd_sipush, xd_lconst, xd_iload, xd_iload_n, xd_lload, xd_lload_n, xd_aload, xd_aload_n, xd_istore, xd_istore_n, xd_astore, xd_astore_n, xd_lstore, xd_lstore_n, xd_iadd, xd_isub, xd_imul, xd_iand, xd_ior, xd_ishl, xd_ishr, xd_ladd, xd_lsub, xd_lmul, xd_land, xd_lor, xd_idiv, xd_irem, xd_ldiv, xd_lrem, xd_ineg, xd_lneg, xd_lshl, xd_lshr, xd_lcmp, xd_i2l, xd_l2i, xd_dup_int, xd_dup_ref, xd_pop, xd_dup2, xd_goto, xd_ifC, xd_ifI, xd_getf, xd_putI, xd_putR, xd_iald, xd_ialdX, xd_bald, xd_iast, xd_bast, xd_aald, xd_aast, xd_alen, xd_alenX, xd_newI, xd_newZ, xd_newQ, xd_newO, xd_invS, xd_invV, xd_invI, xd_iret, xd_lret, xd_vret, xd_ldc, xd_ldc2, xd_iinc, xd_aret, xd_tsw, xd_lsw, xC_d, xld, xisI, xisL, xisA, xgo_ite, xjp, xcmp, xrt, xinv, xcall, xpop, xcat, xgf, xal, xas, xpf, xle, xaq, xbite, xbite2, xsto, xsto2, xst1, xst2, xkl, xtt, xnum, xi0, xzf, v3, List.getElem?_cons_zero, List.getElem?_cons_succ, List.set_cons_zero, List.set_cons_succ, d100_0, d100_1, d100_4, d100_5, d100_8, d100_11, d100_12, d100_13, d100_16, d100_17, d100_19, d100_22, d100_23, d100_26, d100_27, wo100, wm100, wr100, b16_9999, b8_100]
  simp only [← Int32.not_lt, xi]
  repeat' split
  all_goals simp_all
set_option maxRecDepth 100000 in
set_option maxHeartbeats 4000000 in
theorem k102 (X : xX) (x : Int32) (S : xS) : xK X 102 [.int x] S = some (some (.int (xi (decide (x = 0) || decide (x = 1)))), S) := by
  rw [xK_d X 102 _ S [] 60]
  simp [xent, xsl, Value.category, xr_d, xr_0, xg_nx, xg_n, xg_o, xg_c, xth_s, xth_v, xth_ite, xth_n, xd_iconst, xd_bipush, xd_sipush, xd_lconst, xd_iload, xd_iload_n, xd_lload, xd_lload_n, xd_aload, xd_aload_n, xd_istore, xd_istore_n, xd_astore, xd_astore_n, xd_lstore, xd_lstore_n, xd_iadd, xd_isub, xd_imul, xd_iand, xd_ior, xd_ishl, xd_ishr, xd_ladd, xd_lsub, xd_lmul, xd_land, xd_lor, xd_idiv, xd_irem, xd_ldiv, xd_lrem, xd_ineg, xd_lneg, xd_lshl, xd_lshr, xd_lcmp, xd_i2l, xd_l2i, xd_dup_int, xd_dup_ref, xd_pop, xd_dup2, xd_goto, xd_ifC, xd_ifI, xd_getf, xd_putI, xd_putR, xd_iald, xd_ialdX, xd_bald, xd_iast, xd_bast, xd_aald, xd_aast, xd_alen, xd_alenX, xd_newI, xd_newZ, xd_newQ, xd_newO, xd_invS, xd_invV, xd_invI, xd_iret, xd_lret, xd_vret, xd_ldc, xd_ldc2, xd_iinc, xd_aret, xd_tsw, xd_lsw, xC_d, xld, xisI, xisL, xisA, xgo_ite, xjp, xcmp, xrt, xinv, xcall, xpop, xcat, xgf, xal, xas, xpf, xle, xaq, xbite, xbite2, xsto, xsto2, xst1, xst2, xkl, xtt, xnum, xi0, xzf, v3, List.getElem?_cons_zero, List.getElem?_cons_succ, List.set_cons_zero, List.set_cons_succ, d102_0, d102_1, d102_4, d102_5, d102_6, d102_9, d102_10, d102_13, d102_14, wo102, wm102, wr102]
  simp only [← Int32.not_lt, xi]
  repeat' split
  all_goals simp_all
set_option maxRecDepth 100000 in
set_option maxHeartbeats 4000000 in
theorem k130 (X : xX) (x y z : Int32) (S : xS) : xK X 130 [.int x, .int y, .int z] S = some (some (.int (xi (decide (y ≤ x) && decide (x ≤ z)))), S) := by
  rw [xK_d X 130 _ S [] 60]
  simp [xent, xsl, Value.category, xr_d, xr_0, xg_nx, xg_n, xg_o, xg_c, xth_s, xth_v, xth_ite, xth_n, xd_iconst, xd_bipush, xd_sipush, xd_lconst, xd_iload, xd_iload_n, xd_lload, xd_lload_n, xd_aload, xd_aload_n, xd_istore, xd_istore_n, xd_astore, xd_astore_n, xd_lstore, xd_lstore_n, xd_iadd, xd_isub, xd_imul, xd_iand, xd_ior, xd_ishl, xd_ishr, xd_ladd, xd_lsub, xd_lmul, xd_land, xd_lor, xd_idiv, xd_irem, xd_ldiv, xd_lrem, xd_ineg, xd_lneg, xd_lshl, xd_lshr, xd_lcmp, xd_i2l, xd_l2i, xd_dup_int, xd_dup_ref, xd_pop, xd_dup2, xd_goto, xd_ifC, xd_ifI, xd_getf, xd_putI, xd_putR, xd_iald, xd_ialdX, xd_bald, xd_iast, xd_bast, xd_aald, xd_aast, xd_alen, xd_alenX, xd_newI, xd_newZ, xd_newQ, xd_newO, xd_invS, xd_invV, xd_invI, xd_iret, xd_lret, xd_vret, xd_ldc, xd_ldc2, xd_iinc, xd_aret, xd_tsw, xd_lsw, xC_d, xld, xisI, xisL, xisA, xgo_ite, xjp, xcmp, xrt, xinv, xcall, xpop, xcat, xgf, xal, xas, xpf, xle, xaq, xbite, xbite2, xsto, xsto2, xst1, xst2, xkl, xtt, xnum, xi0, xzf, v3, List.getElem?_cons_zero, List.getElem?_cons_succ, List.set_cons_zero, List.set_cons_succ, d130_0, d130_1, d130_2, d130_5, d130_6, d130_7, d130_10, d130_11, d130_14, d130_15, wo130, wm130, wr130]
  simp only [← Int32.not_lt, xi]
  repeat' split
  all_goals simp_all
