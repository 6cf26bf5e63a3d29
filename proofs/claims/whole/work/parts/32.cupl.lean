def uKind (A : Nat → Nat → Int32) (r : Int32) : Int32 := if xin r 8 = true then A 1 r.toNatClampNeg else -6
def uPlace (A : Nat → Nat → Int32) (r : Int32) : Int32 := if xin r 8 = true then A 2 r.toNatClampNeg else -6
def uBase (A : Nat → Nat → Int32) (r : Int32) : Int32 := if xin r 8 = true then A 3 r.toNatClampNeg else 0
def uSlope (A : Nat → Nat → Int32) (r : Int32) : Int32 := if xin r 8 = true then A 4 r.toNatClampNeg else 0
def uIn (A : Nat → Nat → Int32) (r : Int32) : Int32 := if xin r 8 = true then (if A 5 r.toNatClampNeg = 0 then 0 else 1) else 0
def uM (m : Int32) : Bool := decide (1 ≤ m) && decide (m ≤ 7)
def uBest (A : Nat → Nat → Int32) (m : Int32) : Int32 := if uM m = true then A 6 m.toNatClampNeg else -6
theorem uM_in {m : Int32} (h : uM m = true) : xin m 8 = true := by
  have h1 : (1 : Int32).toInt = 1 := by decide
  have h7 : (7 : Int32).toInt = 7 := by decide
  simp only [uM, Bool.and_eq_true, decide_eq_true_eq, Int32.le_iff_toInt_le, h1, h7] at h
  simp only [xin, Bool.and_eq_true, decide_eq_true_eq]
  omega
set_option maxRecDepth 100000 in
set_option maxHeartbeats 4000000 in
theorem k9 (X : xX) (sh : List (Nat × Nat × List Value)) (σ A : Nat → Nat → Int32) (c : Nat) (hc : xcup sh c) (r : Int32) : xK X 9 [.ref (c), .int r] (sh, xput 14 σ c A) = some (some (.int (uPlace A r)), (sh, xput 14 σ c A)) := by
  obtain ⟨h0, h1, h2, h3, h4, h5, h6, h7, h8, h9, h10, h11, h12, h13⟩ := hc
  rw [xK_d X 9 _ _ [] 90]
  simp [xent, xsl, Value.category, xr_d, xr_0, xg_nx, xg_n, xg_o, xg_c, xth_s, xth_v, xth_ite, xth_n, xd_iconst, xd_bipush, xd_sipush, xd_lconst, xd_iload, xd_iload_n, xd_lload, xd_lload_n, xd_aload, xd_aload_n, xd_istore, xd_istore_n, xd_astore, xd_astore_n, xd_lstore, xd_lstore_n, xd_iadd, xd_isub, xd_imul, xd_iand, xd_ior, xd_ishl, xd_ishr, xd_ladd, xd_lsub, xd_lmul, xd_land, xd_lor, xd_idiv, xd_irem, xd_ldiv, xd_lrem, xd_ineg, xd_lneg, xd_lshl, xd_lshr, xd_lcmp, xd_i2l, xd_l2i, xd_dup_int, xd_dup_ref, xd_pop, xd_dup2, xd_goto, xd_ifC, xd_ifI, xd_getf, xd_putI, xd_putR, xd_iald, xd_ialdX, xd_bald, xd_iast, xd_bast, xd_aald, xd_aast, xd_alen, xd_alenX, xd_newI, xd_newZ, xd_newQ, xd_newO, xd_invS, xd_invV, xd_invI, xd_iret, xd_lret, xd_vret, xd_ldc, xd_ldc2, xd_iinc, xd_aret, xd_tsw, xd_lsw, xC_d, xld, xisI, xisL, xisA, xgo_ite, xjp, xcmp, xrt, xinv, xcall, xpop, xcat, xgf, xal, xas, xpf, xle, xaq, xbite, xbite2, xsto, xsto2, xst1, xst2, xkl, xtt, xnum, xi0, xzf, v3, List.getElem?_cons_zero, List.getElem?_cons_succ, List.set_cons_zero, List.set_cons_succ, d9_0, d9_1, d9_4, d9_7, d9_8, d9_11, d9_12, d9_13, d9_16, d9_18, wo9, wm9, wr9, f0_15, m0_62, r9_88, wm88, b8_m6, h0, h1, h2, h3, h4, h5, h6, h7, h8, h9, h10, h11, h12, h13, xput_at, xput_at0, xput_up, xput_up0, k88]
  by_cases hr : xin r 8 = true
  · simp [hr, uPlace]
  · simp only [Bool.not_eq_true] at hr
    simp [hr, uPlace]
set_option maxRecDepth 100000 in
set_option maxHeartbeats 4000000 in
theorem k11 (X : xX) (sh : List (Nat × Nat × List Value)) (σ A : Nat → Nat → Int32) (c : Nat) (hc : xcup sh c) (r : Int32) : xK X 11 [.ref (c), .int r] (sh, xput 14 σ c A) = some (some (.int (uKind A r)), (sh, xput 14 σ c A)) := by
  obtain ⟨h0, h1, h2, h3, h4, h5, h6, h7, h8, h9, h10, h11, h12, h13⟩ := hc
  rw [xK_d X 11 _ _ [] 90]
  simp [xent, xsl, Value.category, xr_d, xr_0, xg_nx, xg_n, xg_o, xg_c, xth_s, xth_v, xth_ite, xth_n, xd_iconst, xd_bipush, xd_sipush, xd_lconst, xd_iload, xd_iload_n, xd_lload, xd_lload_n, xd_aload, xd_aload_n, xd_istore, xd_istore_n, xd_astore, xd_astore_n, xd_lstore, xd_lstore_n, xd_iadd, xd_isub, xd_imul, xd_iand, xd_ior, xd_ishl, xd_ishr, xd_ladd, xd_lsub, xd_lmul, xd_land, xd_lor, xd_idiv, xd_irem, xd_ldiv, xd_lrem, xd_ineg, xd_lneg, xd_lshl, xd_lshr, xd_lcmp, xd_i2l, xd_l2i, xd_dup_int, xd_dup_ref, xd_pop, xd_dup2, xd_goto, xd_ifC, xd_ifI, xd_getf, xd_putI, xd_putR, xd_iald, xd_ialdX, xd_bald, xd_iast, xd_bast, xd_aald, xd_aast, xd_alen, xd_alenX, xd_newI, xd_newZ, xd_newQ, xd_newO, xd_invS, xd_invV, xd_invI, xd_iret, xd_lret, xd_vret, xd_ldc, xd_ldc2, xd_iinc, xd_aret, xd_tsw, xd_lsw, xC_d, xld, xisI, xisL, xisA, xgo_ite, xjp, xcmp, xrt, xinv, xcall, xpop, xcat, xgf, xal, xas, xpf, xle, xaq, xbite, xbite2, xsto, xsto2, xst1, xst2, xkl, xtt, xnum, xi0, xzf, v3, List.getElem?_cons_zero, List.getElem?_cons_succ, List.set_cons_zero, List.set_cons_succ, d11_0, d11_1, d11_4, d11_7, d11_8, d11_11, d11_12, d11_13, d11_16, d11_18, wo11, wm11, wr11, f0_9, m0_62, r11_88, wm88, b8_m6, h0, h1, h2, h3, h4, h5, h6, h7, h8, h9, h10, h11, h12, h13, xput_at, xput_at0, xput_up, xput_up0, k88]
  by_cases hr : xin r 8 = true
  · simp [hr, uKind]
  · simp only [Bool.not_eq_true] at hr
    simp [hr, uKind]
set_option maxRecDepth 100000 in
set_option maxHeartbeats 4000000 in
theorem k25 (X : xX) (sh : List (Nat × Nat × List Value)) (σ A : Nat → Nat → Int32) (c : Nat) (hc : xcup sh c) (r : Int32) : xK X 25 [.ref (c), .int r] (sh, xput 14 σ c A) = some (some (.int (uBase A r)), (sh, xput 14 σ c A)) := by
  obtain ⟨h0, h1, h2, h3, h4, h5, h6, h7, h8, h9, h10, h11, h12, h13⟩ := hc
  rw [xK_d X 25 _ _ [] 90]
  simp [xent, xsl, Value.category, xr_d, xr_0, xg_nx, xg_n, xg_o, xg_c, xth_s, xth_v, xth_ite, xth_n, xd_iconst, xd_bipush, xd_sipush, xd_lconst, xd_iload, xd_iload_n, xd_lload, xd_lload_n, xd_aload, xd_aload_n, xd_istore, xd_istore_n, xd_astore, xd_astore_n, xd_lstore, xd_lstore_n, xd_iadd, xd_isub, xd_imul, xd_iand, xd_ior, xd_ishl, xd_ishr, xd_ladd, xd_lsub, xd_lmul, xd_land, xd_lor, xd_idiv, xd_irem, xd_ldiv, xd_lrem, xd_ineg, xd_lneg, xd_lshl, xd_lshr, xd_lcmp, xd_i2l, xd_l2i, xd_dup_int, xd_dup_ref, xd_pop, xd_dup2, xd_goto, xd_ifC, xd_ifI, xd_getf, xd_putI, xd_putR, xd_iald, xd_ialdX, xd_bald, xd_iast, xd_bast, xd_aald, xd_aast, xd_alen, xd_alenX, xd_newI, xd_newZ, xd_newQ, xd_newO, xd_invS, xd_invV, xd_invI, xd_iret, xd_lret, xd_vret, xd_ldc, xd_ldc2, xd_iinc, xd_aret, xd_tsw, xd_lsw, xC_d, xld, xisI, xisL, xisA, xgo_ite, xjp, xcmp, xrt, xinv, xcall, xpop, xcat, xgf, xal, xas, xpf, xle, xaq, xbite, xbite2, xsto, xsto2, xst1, xst2, xkl, xtt, xnum, xi0, xzf, v3, List.getElem?_cons_zero, List.getElem?_cons_succ, List.set_cons_zero, List.set_cons_succ, d25_0, d25_1, d25_4, d25_7, d25_8, d25_11, d25_12, d25_13, d25_16, d25_17, wo25, wm25, wr25, f0_18, m0_62, r25_88, wm88, h0, h1, h2, h3, h4, h5, h6, h7, h8, h9, h10, h11, h12, h13, xput_at, xput_at0, xput_up, xput_up0, k88]
  by_cases hr : xin r 8 = true
  · simp [hr, uBase]
  · simp only [Bool.not_eq_true] at hr
    simp [hr, uBase]
set_option maxRecDepth 100000 in
set_option maxHeartbeats 4000000 in
theorem k19 (X : xX) (sh : List (Nat × Nat × List Value)) (σ A : Nat → Nat → Int32) (c : Nat) (hc : xcup sh c) (r : Int32) : xK X 19 [.ref (c), .int r] (sh, xput 14 σ c A) = some (some (.int (uSlope A r)), (sh, xput 14 σ c A)) := by
  obtain ⟨h0, h1, h2, h3, h4, h5, h6, h7, h8, h9, h10, h11, h12, h13⟩ := hc
  rw [xK_d X 19 _ _ [] 90]
  simp [xent, xsl, Value.category, xr_d, xr_0, xg_nx, xg_n, xg_o, xg_c, xth_s, xth_v, xth_ite, xth_n, xd_iconst, xd_bipush, xd_sipush, xd_lconst, xd_iload, xd_iload_n, xd_lload, xd_lload_n, xd_aload, xd_aload_n, xd_istore, xd_istore_n, xd_astore, xd_astore_n, xd_lstore, xd_lstore_n, xd_iadd, xd_isub, xd_imul, xd_iand, xd_ior, xd_ishl, xd_ishr, xd_ladd, xd_lsub, xd_lmul, xd_land, xd_lor, xd_idiv, xd_irem, xd_ldiv, xd_lrem, xd_ineg, xd_lneg, xd_lshl, xd_lshr, xd_lcmp, xd_i2l, xd_l2i, xd_dup_int, xd_dup_ref, xd_pop, xd_dup2, xd_goto, xd_ifC, xd_ifI, xd_getf, xd_putI, xd_putR, xd_iald, xd_ialdX, xd_bald, xd_iast, xd_bast, xd_aald, xd_aast, xd_alen, xd_alenX, xd_newI, xd_newZ, xd_newQ, xd_newO, xd_invS, xd_invV, xd_invI, xd_iret, xd_lret, xd_vret, xd_ldc, xd_ldc2, xd_iinc, xd_aret, xd_tsw, xd_lsw, xC_d, xld, xisI, xisL, xisA, xgo_ite, xjp, xcmp, xrt, xinv, xcall, xpop, xcat, xgf, xal, xas, xpf, xle, xaq, xbite, xbite2, xsto, xsto2, xst1, xst2, xkl, xtt, xnum, xi0, xzf, v3, List.getElem?_cons_zero, List.getElem?_cons_succ, List.set_cons_zero, List.set_cons_succ, d19_0, d19_1, d19_4, d19_7, d19_8, d19_11, d19_12, d19_13, d19_16, d19_17, wo19, wm19, wr19, f0_21, m0_62, r19_88, wm88, h0, h1, h2, h3, h4, h5, h6, h7, h8, h9, h10, h11, h12, h13, xput_at, xput_at0, xput_up, xput_up0, k88]
  by_cases hr : xin r 8 = true
  · simp [hr, uSlope]
  · simp only [Bool.not_eq_true] at hr
    simp [hr, uSlope]
set_option maxRecDepth 100000 in
set_option maxHeartbeats 4000000 in
theorem k12 (X : xX) (sh : List (Nat × Nat × List Value)) (σ A : Nat → Nat → Int32) (c : Nat) (hc : xcup sh c) (r : Int32) : xK X 12 [.ref (c), .int r] (sh, xput 14 σ c A) = some (some (.int (uIn A r)), (sh, xput 14 σ c A)) := by
  obtain ⟨h0, h1, h2, h3, h4, h5, h6, h7, h8, h9, h10, h11, h12, h13⟩ := hc
  rw [xK_d X 12 _ _ [] 90]
  simp [xent, xsl, Value.category, xr_d, xr_0, xg_nx, xg_n, xg_o, xg_c, xth_s, xth_v, xth_ite, xth_n, xd_iconst, xd_bipush, xd_sipush, xd_lconst, xd_iload, xd_iload_n, xd_lload, xd_lload_n, xd_aload, xd_aload_n, xd_istore, xd_istore_n, xd_astore, xd_astore_n, xd_lstore, xd_lstore_n, xd_iadd, xd_isub, xd_imul, xd_iand, xd_ior, xd_ishl, xd_ishr, xd_ladd, xd_lsub, xd_lmul, xd_land, xd_lor, xd_idiv, xd_irem, xd_ldiv, xd_lrem, xd_ineg, xd_lneg, xd_lshl, xd_lshr, xd_lcmp, xd_i2l, xd_l2i, xd_dup_int, xd_dup_ref, xd_pop, xd_dup2, xd_goto, xd_ifC, xd_ifI, xd_getf, xd_putI, xd_putR, xd_iald, xd_ialdX, xd_bald, xd_iast, xd_bast, xd_aald, xd_aast, xd_alen, xd_alenX, xd_newI, xd_newZ, xd_newQ, xd_newO, xd_invS, xd_invV, xd_invI, xd_iret, xd_lret, xd_vret, xd_ldc, xd_ldc2, xd_iinc, xd_aret, xd_tsw, xd_lsw, xC_d, xld, xisI, xisL, xisA, xgo_ite, xjp, xcmp, xrt, xinv, xcall, xpop, xcat, xgf, xal, xas, xpf, xle, xaq, xbite, xbite2, xsto, xsto2, xst1, xst2, xkl, xtt, xnum, xi0, xzf, v3, List.getElem?_cons_zero, List.getElem?_cons_succ, List.set_cons_zero, List.set_cons_succ, d12_0, d12_1, d12_4, d12_7, d12_8, d12_11, d12_12, d12_13, d12_16, d12_17, d12_20, d12_21, wo12, wm12, wr12, f0_24, m0_62, r12_88, wm88, h0, h1, h2, h3, h4, h5, h6, h7, h8, h9, h10, h11, h12, h13, xput_at, xput_at0, xput_up, xput_up0, k88]
  by_cases hr : xin r 8 = true
  · by_cases hi : A 5 r.toNatClampNeg = 0 <;> simp [hr, uIn, hi]
  · simp only [Bool.not_eq_true] at hr
    simp [hr, uIn]
theorem uM_m6 : uM (-6) = false := by decide
theorem k87' (X : xX) (x : Int32) (S : xS) : xK X 87 [.int x] S = some (some (.int (xi (uM x))), S) := k87 X x S
set_option maxRecDepth 100000 in
set_option maxHeartbeats 4000000 in
theorem k5 (X : xX) (sh : List (Nat × Nat × List Value)) (σ A : Nat → Nat → Int32) (c : Nat) (hc : xcup sh c) (m : Int32) : xK X 5 [.ref (c), .int m] (sh, xput 14 σ c A) = some (some (.int (uBest A m)), (sh, xput 14 σ c A)) := by
  obtain ⟨h0, h1, h2, h3, h4, h5, h6, h7, h8, h9, h10, h11, h12, h13⟩ := hc
  rw [xK_d X 5 _ _ [] 90]
  simp [xent, xsl, Value.category, xr_d, xr_0, xg_nx, xg_n, xg_o, xg_c, xth_s, xth_v, xth_ite, xth_n, xd_iconst, xd_bipush, xd_sipush, xd_lconst, xd_iload, xd_iload_n, xd_lload, xd_lload_n, xd_aload, xd_aload_n, xd_istore, xd_istore_n, xd_astore, xd_astore_n, xd_lstore, xd_lstore_n, xd_iadd, xd_isub, xd_imul, xd_iand, xd_ior, xd_ishl, xd_ishr, xd_ladd, xd_lsub, xd_lmul, xd_land, xd_lor, xd_idiv, xd_irem, xd_ldiv, xd_lrem, xd_ineg, xd_lneg, xd_lshl, xd_lshr, xd_lcmp, xd_i2l, xd_l2i, xd_dup_int, xd_dup_ref, xd_pop, xd_dup2, xd_goto, xd_ifC, xd_ifI, xd_getf, xd_putI, xd_putR, xd_iald, xd_ialdX, xd_bald, xd_iast, xd_bast, xd_aald, xd_aast, xd_alen, xd_alenX, xd_newI, xd_newZ, xd_newQ, xd_newO, xd_invS, xd_invV, xd_invI, xd_iret, xd_lret, xd_vret, xd_ldc, xd_ldc2, xd_iinc, xd_aret, xd_tsw, xd_lsw, xC_d, xld, xisI, xisL, xisA, xgo_ite, xjp, xcmp, xrt, xinv, xcall, xpop, xcat, xgf, xal, xas, xpf, xle, xaq, xbite, xbite2, xsto, xsto2, xst1, xst2, xkl, xtt, xnum, xi0, xzf, v3, List.getElem?_cons_zero, List.getElem?_cons_succ, List.set_cons_zero, List.set_cons_succ, d5_0, d5_1, d5_4, d5_7, d5_8, d5_11, d5_12, d5_13, d5_16, d5_18, wo5, wm5, wr5, f0_28, m0_66, r5_87, wm87, b8_m6, h0, h1, h2, h3, h4, h5, h6, h7, h8, h9, h10, h11, h12, h13, xput_at, xput_at0, xput_up, xput_up0, k87']
  by_cases hr : uM m = true
  · have h8 := uM_in hr
    simp [uBest, hr, h8]
  · simp only [Bool.not_eq_true] at hr
    simp [uBest, hr]
set_option maxRecDepth 100000 in
set_option maxHeartbeats 4000000 in
theorem k26 (X : xX) (sh : List (Nat × Nat × List Value)) (σ A : Nat → Nat → Int32) (c : Nat) (hc : xcup sh c)  : xK X 26 [.ref (c)] (sh, xput 14 σ c A) = some (some (.int (A 0 8)), (sh, xput 14 σ c A)) := by
  obtain ⟨h0, h1, h2, h3, h4, h5, h6, h7, h8, h9, h10, h11, h12, h13⟩ := hc
  rw [xK_d X 26 _ _ [] 90]
  simp [xent, xsl, Value.category, xr_d, xr_0, xg_nx, xg_n, xg_o, xg_c, xth_s, xth_v, xth_ite, xth_n, xd_iconst, xd_bipush, xd_sipush, xd_lconst, xd_iload, xd_iload_n, xd_lload, xd_lload_n, xd_aload, xd_aload_n, xd_istore, xd_istore_n, xd_astore, xd_astore_n, xd_lstore, xd_lstore_n, xd_iadd, xd_isub, xd_imul, xd_iand, xd_ior, xd_ishl, xd_ishr, xd_ladd, xd_lsub, xd_lmul, xd_land, xd_lor, xd_idiv, xd_irem, xd_ldiv, xd_lrem, xd_ineg, xd_lneg, xd_lshl, xd_lshr, xd_lcmp, xd_i2l, xd_l2i, xd_dup_int, xd_dup_ref, xd_pop, xd_dup2, xd_goto, xd_ifC, xd_ifI, xd_getf, xd_putI, xd_putR, xd_iald, xd_ialdX, xd_bald, xd_iast, xd_bast, xd_aald, xd_aast, xd_alen, xd_alenX, xd_newI, xd_newZ, xd_newQ, xd_newO, xd_invS, xd_invV, xd_invI, xd_iret, xd_lret, xd_vret, xd_ldc, xd_ldc2, xd_iinc, xd_aret, xd_tsw, xd_lsw, xC_d, xld, xisI, xisL, xisA, xgo_ite, xjp, xcmp, xrt, xinv, xcall, xpop, xcat, xgf, xal, xas, xpf, xle, xaq, xbite, xbite2, xsto, xsto2, xst1, xst2, xkl, xtt, xnum, xi0, xzf, v3, List.getElem?_cons_zero, List.getElem?_cons_succ, List.set_cons_zero, List.set_cons_succ, d26_0, d26_1, d26_4, wo26, wm26, wr26, f0_45, h0, h1, h2, h3, h4, h5, h6, h7, h8, h9, h10, h11, h12, h13, xput_at, xput_at0, xput_up, xput_up0]

set_option maxRecDepth 100000 in
set_option maxHeartbeats 4000000 in
theorem k28 (X : xX) (sh : List (Nat × Nat × List Value)) (σ A : Nat → Nat → Int32) (c : Nat) (hc : xcup sh c)  : xK X 28 [.ref (c)] (sh, xput 14 σ c A) = some (some (.ref (c + 7)), (sh, xput 14 σ c A)) := by
  obtain ⟨h0, h1, h2, h3, h4, h5, h6, h7, h8, h9, h10, h11, h12, h13⟩ := hc
  rw [xK_d X 28 _ _ [] 90]
  simp [xent, xsl, Value.category, xr_d, xr_0, xg_nx, xg_n, xg_o, xg_c, xth_s, xth_v, xth_ite, xth_n, xd_iconst, xd_bipush, xd_sipush, xd_lconst, xd_iload, xd_iload_n, xd_lload, xd_lload_n, xd_aload, xd_aload_n, xd_istore, xd_istore_n, xd_astore, xd_astore_n, xd_lstore, xd_lstore_n, xd_iadd, xd_isub, xd_imul, xd_iand, xd_ior, xd_ishl, xd_ishr, xd_ladd, xd_lsub, xd_lmul, xd_land, xd_lor, xd_idiv, xd_irem, xd_ldiv, xd_lrem, xd_ineg, xd_lneg, xd_lshl, xd_lshr, xd_lcmp, xd_i2l, xd_l2i, xd_dup_int, xd_dup_ref, xd_pop, xd_dup2, xd_goto, xd_ifC, xd_ifI, xd_getf, xd_putI, xd_putR, xd_iald, xd_ialdX, xd_bald, xd_iast, xd_bast, xd_aald, xd_aast, xd_alen, xd_alenX, xd_newI, xd_newZ, xd_newQ, xd_newO, xd_invS, xd_invV, xd_invI, xd_iret, xd_lret, xd_vret, xd_ldc, xd_ldc2, xd_iinc, xd_aret, xd_tsw, xd_lsw, xC_d, xld, xisI, xisL, xisA, xgo_ite, xjp, xcmp, xrt, xinv, xcall, xpop, xcat, xgf, xal, xas, xpf, xle, xaq, xbite, xbite2, xsto, xsto2, xst1, xst2, xkl, xtt, xnum, xi0, xzf, v3, List.getElem?_cons_zero, List.getElem?_cons_succ, List.set_cons_zero, List.set_cons_succ, d28_0, d28_1, d28_4, wo28, wm28, wr28, f0_34, h0, h1, h2, h3, h4, h5, h6, h7, h8, h9, h10, h11, h12, h13, xput_at, xput_at0, xput_up, xput_up0]

set_option maxRecDepth 100000 in
set_option maxHeartbeats 4000000 in
theorem k15 (X : xX) (sh : List (Nat × Nat × List Value)) (σ A : Nat → Nat → Int32) (c : Nat) (hc : xcup sh c)  : xK X 15 [.ref (c)] (sh, xput 14 σ c A) = some (some (.ref (c + 13)), (sh, xput 14 σ c A)) := by
  obtain ⟨h0, h1, h2, h3, h4, h5, h6, h7, h8, h9, h10, h11, h12, h13⟩ := hc
  rw [xK_d X 15 _ _ [] 90]
  simp [xent, xsl, Value.category, xr_d, xr_0, xg_nx, xg_n, xg_o, xg_c, xth_s, xth_v, xth_ite, xth_n, xd_iconst, xd_bipush, xd_sipush, xd_lconst, xd_iload, xd_iload_n, xd_lload, xd_lload_n, xd_aload, xd_aload_n, xd_istore, xd_istore_n, xd_astore, xd_astore_n, xd_lstore, xd_lstore_n, xd_iadd, xd_isub, xd_imul, xd_iand, xd_ior, xd_ishl, xd_ishr, xd_ladd, xd_lsub, xd_lmul, xd_land, xd_lor, xd_idiv, xd_irem, xd_ldiv, xd_lrem, xd_ineg, xd_lneg, xd_lshl, xd_lshr, xd_lcmp, xd_i2l, xd_l2i, xd_dup_int, xd_dup_ref, xd_pop, xd_dup2, xd_goto, xd_ifC, xd_ifI, xd_getf, xd_putI, xd_putR, xd_iald, xd_ialdX, xd_bald, xd_iast, xd_bast, xd_aald, xd_aast, xd_alen, xd_alenX, xd_newI, xd_newZ, xd_newQ, xd_newO, xd_invS, xd_invV, xd_invI, xd_iret, xd_lret, xd_vret, xd_ldc, xd_ldc2, xd_iinc, xd_aret, xd_tsw, xd_lsw, xC_d, xld, xisI, xisL, xisA, xgo_ite, xjp, xcmp, xrt, xinv, xcall, xpop, xcat, xgf, xal, xas, xpf, xle, xaq, xbite, xbite2, xsto, xsto2, xst1, xst2, xkl, xtt, xnum, xi0, xzf, v3, List.getElem?_cons_zero, List.getElem?_cons_succ, List.set_cons_zero, List.set_cons_succ, d15_0, d15_1, d15_4, wo15, wm15, wr15, f0_41, h0, h1, h2, h3, h4, h5, h6, h7, h8, h9, h10, h11, h12, h13, xput_at, xput_at0, xput_up, xput_up0]

set_option maxRecDepth 100000 in
set_option maxHeartbeats 4000000 in
theorem k10 (X : xX) (p k : Int32) (S : xS) : xK X 10 [.int p, .int k] S = some (some (.int (xi (decide (4 ≤ p) || decide (k = 0)))), S) := by
  rw [xK_d X 10 _ S [] 60]
  simp [xent, xsl, Value.category, xr_d, xr_0, xg_nx, xg_n, xg_o, xg_c, xth_s, xth_v, xth_ite, xth_n, xd_iconst, xd_bipush, xd_sipush, xd_lconst, xd_iload, xd_iload_n, xd_lload, xd_lload_n, xd_aload, xd_aload_n, xd_istore, xd_istore_n, xd_astore, xd_astore_n, xd_lstore, xd_lstore_n, xd_iadd, xd_isub, xd_imul, xd_iand, xd_ior, xd_ishl, xd_ishr, xd_ladd, xd_lsub, xd_lmul, xd_land, xd_lor, xd_idiv, xd_irem, xd_ldiv, xd_lrem, xd_ineg, xd_lneg, xd_lshl, xd_lshr, xd_lcmp, xd_i2l, xd_l2i, xd_dup_int, xd_dup_ref, xd_pop, xd_dup2, xd_goto, xd_ifC, xd_ifI, xd_getf, xd_putI, xd_putR, xd_iald, xd_ialdX, xd_bald, xd_iast, xd_bast, xd_aald, xd_aast, xd_alen, xd_alenX, xd_newI, xd_newZ, xd_newQ, xd_newO, xd_invS, xd_invV, xd_invI, xd_iret, xd_lret, xd_vret, xd_ldc, xd_ldc2, xd_iinc, xd_aret, xd_tsw, xd_lsw, xC_d, xld, xisI, xisL, xisA, xgo_ite, xjp, xcmp, xrt, xinv, xcall, xpop, xcat, xgf, xal, xas, xpf, xle, xaq, xbite, xbite2, xsto, xsto2, xst1, xst2, xkl, xtt, xnum, xi0, xzf, v3, List.getElem?_cons_zero, List.getElem?_cons_succ, List.set_cons_zero, List.set_cons_succ, d10_0, d10_1, d10_2, d10_5, d10_6, d10_9, d10_10, d10_13, d10_14, wo10, wm10, wr10]
  simp only [← Int32.not_lt, xi]
  repeat' split
  all_goals simp_all
set_option maxRecDepth 100000 in
set_option maxHeartbeats 4000000 in
theorem k31 (X : xX) (sh : List (Nat × Nat × List Value)) (σ A : Nat → Nat → Int32) (c : Nat) (hc : xcup sh c) (r p q : Int32) : xK X 31 [.ref (c), .int r, .int p, .int q] (sh, xput 14 σ c A) = some (some (.int (uBase A r * q + uSlope A r * p)), (sh, xput 14 σ c A)) := by
  obtain ⟨h0, h1, h2, h3, h4, h5, h6, h7, h8, h9, h10, h11, h12, h13⟩ := hc
  rw [xK_d X 31 _ _ [] 90]
  simp [xent, xsl, Value.category, xr_d, xr_0, xg_nx, xg_n, xg_o, xg_c, xth_s, xth_v, xth_ite, xth_n, xd_iconst, xd_bipush, xd_sipush, xd_lconst, xd_iload, xd_iload_n, xd_lload, xd_lload_n, xd_aload, xd_aload_n, xd_istore, xd_istore_n, xd_astore, xd_astore_n, xd_lstore, xd_lstore_n, xd_iadd, xd_isub, xd_imul, xd_iand, xd_ior, xd_ishl, xd_ishr, xd_ladd, xd_lsub, xd_lmul, xd_land, xd_lor, xd_idiv, xd_irem, xd_ldiv, xd_lrem, xd_ineg, xd_lneg, xd_lshl, xd_lshr, xd_lcmp, xd_i2l, xd_l2i, xd_dup_int, xd_dup_ref, xd_pop, xd_dup2, xd_goto, xd_ifC, xd_ifI, xd_getf, xd_putI, xd_putR, xd_iald, xd_ialdX, xd_bald, xd_iast, xd_bast, xd_aald, xd_aast, xd_alen, xd_alenX, xd_newI, xd_newZ, xd_newQ, xd_newO, xd_invS, xd_invV, xd_invI, xd_iret, xd_lret, xd_vret, xd_ldc, xd_ldc2, xd_iinc, xd_aret, xd_tsw, xd_lsw, xC_d, xld, xisI, xisL, xisA, xgo_ite, xjp, xcmp, xrt, xinv, xcall, xpop, xcat, xgf, xal, xas, xpf, xle, xaq, xbite, xbite2, xsto, xsto2, xst1, xst2, xkl, xtt, xnum, xi0, xzf, v3, List.getElem?_cons_zero, List.getElem?_cons_succ, List.set_cons_zero, List.set_cons_succ, d31_0, d31_1, d31_2, d31_5, d31_6, d31_7, d31_8, d31_9, d31_12, d31_13, d31_14, d31_15, wo31, wm31, wr31, m0_157, m0_87, r31_19, r31_25, wm19, wm25, wo19, wo25, h0, h1, h2, h3, h4, h5, h6, h7, h8, h9, h10, h11, h12, h13, xput_at, xput_at0, xput_up, xput_up0, k25 X sh σ A c ⟨h0, h1, h2, h3, h4, h5, h6, h7, h8, h9, h10, h11, h12, h13⟩, k19 X sh σ A c ⟨h0, h1, h2, h3, h4, h5, h6, h7, h8, h9, h10, h11, h12, h13⟩]

