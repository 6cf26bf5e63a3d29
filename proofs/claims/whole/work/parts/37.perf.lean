def uPush (A : Nat → Nat → Int32) (r y : Int32) : Nat → Nat → Int32 := if xin r 8 = true then xup (xup A 4 r.toNatClampNeg (A 4 r.toNatClampNeg + y)) 3 r.toNatClampNeg (A 3 r.toNatClampNeg - y * A 0 8) else A
def uSwap (A : Nat → Nat → Int32) (r s : Int32) : Nat → Nat → Int32 := if xin r 8 = true ∧ xin s 8 = true then xup (xup A 2 r.toNatClampNeg (A 2 s.toNatClampNeg)) 2 s.toNatClampNeg (A 2 r.toNatClampNeg) else A
def uChg (A : Nat → Nat → Int32) (d r s : Int32) : Nat → Nat → Int32 := if xin r 8 = true then (if d.toInt = 33 then xup A 5 r.toNatClampNeg 0 else if d.toInt = 35 then xup A 5 r.toNatClampNeg 1 else if d.toInt = 43 then uPush A r 1 else if d.toInt = 45 then uPush A r (-1) else uSwap A r s) else A
set_option maxRecDepth 100000 in
set_option maxHeartbeats 4000000 in
theorem k22 (X : xX) (sh : List (Nat × Nat × List Value)) (σ A : Nat → Nat → Int32) (c : Nat) (hc : xcup sh c) (r y : Int32) : xK X 22 [.ref (c), .int r, .int y] (sh, xput 14 σ c A) = some (none, (sh, xput 14 σ c (uPush A r y))) := by
  have hC := hc
  obtain ⟨h0, h1, h2, h3, h4, h5, h6, h7, h8, h9, h10, h11, h12, h13⟩ := hc
  rw [xK_d X 22 _ _ [] 90]
  simp [xent, xsl, Value.category, xr_d, xr_0, xg_nx, xg_n, xg_o, xg_c, xth_s, xth_v, xth_ite, xth_n, xd_iconst, xd_bipush, xd_sipush, xd_lconst, xd_iload, xd_iload_n, xd_lload, xd_lload_n, xd_aload, xd_aload_n, xd_istore, xd_istore_n, xd_astore, xd_astore_n, xd_lstore, xd_lstore_n, xd_iadd, xd_isub, xd_imul, xd_iand, xd_ior, xd_ishl, xd_ishr, xd_ladd, xd_lsub, xd_lmul, xd_land, xd_lor, xd_idiv, xd_irem, xd_ldiv, xd_lrem, xd_ineg, xd_lneg, xd_lshl, xd_lshr, xd_lcmp, xd_i2l, xd_l2i, xd_dup_int, xd_dup_ref, xd_pop, xd_dup2, xd_goto, xd_ifC, xd_ifI, xd_getf, xd_putI, xd_putR, xd_iald, xd_ialdX, xd_bald, xd_iast, xd_bast, xd_aald, xd_aast, xd_alen, xd_alenX, xd_newI, xd_newZ, xd_newQ, xd_newO, xd_invS, xd_invV, xd_invI, xd_iret, xd_lret, xd_vret, xd_ldc, xd_ldc2, xd_iinc, xd_aret, xd_tsw, xd_lsw, xC_d, xld, xisI, xisL, xisA, xgo_ite, xjp, xcmp, xrt, xinv, xcall, xpop, xcat, xgf, xal, xas, xpf, xle, xaq, xbite, xbite2, xsto, xsto2, xst1, xst2, xkl, xtt, xnum, xi0, xzf, v3, List.getElem?_cons_zero, List.getElem?_cons_succ, List.set_cons_zero, List.set_cons_succ, d22_0, d22_1, d22_4, d22_7, d22_8, d22_11, d22_12, d22_13, d22_14, d22_15, d22_16, d22_17, d22_18, d22_21, d22_22, d22_23, d22_24, d22_25, d22_26, d22_29, d22_30, d22_31, d22_32, wo22, wm22, wr22, f0_18, f0_21, f0_45, m0_62, r22_88, wm88, hC, h0, h1, h2, h3, h4, h5, h6, h7, h8, h9, h10, h11, h12, h13, xput_at, xput_at0, xput_up, xput_up0, k88]
  by_cases hr : xin r 8 = true
  · simp [hr, uPush, xup]
  · simp only [Bool.not_eq_true] at hr
    simp [hr, uPush]
set_option maxRecDepth 100000 in
set_option maxHeartbeats 4000000 in
theorem k23 (X : xX) (sh : List (Nat × Nat × List Value)) (σ A : Nat → Nat → Int32) (c : Nat) (hc : xcup sh c) (r s : Int32) : xK X 23 [.ref (c), .int r, .int s] (sh, xput 14 σ c A) = some (none, (sh, xput 14 σ c (uSwap A r s))) := by
  have hC := hc
  obtain ⟨h0, h1, h2, h3, h4, h5, h6, h7, h8, h9, h10, h11, h12, h13⟩ := hc
  rw [xK_d X 23 _ _ [] 90]
  simp [xent, xsl, Value.category, xr_d, xr_0, xg_nx, xg_n, xg_o, xg_c, xth_s, xth_v, xth_ite, xth_n, xd_iconst, xd_bipush, xd_sipush, xd_lconst, xd_iload, xd_iload_n, xd_lload, xd_lload_n, xd_aload, xd_aload_n, xd_istore, xd_istore_n, xd_astore, xd_astore_n, xd_lstore, xd_lstore_n, xd_iadd, xd_isub, xd_imul, xd_iand, xd_ior, xd_ishl, xd_ishr, xd_ladd, xd_lsub, xd_lmul, xd_land, xd_lor, xd_idiv, xd_irem, xd_ldiv, xd_lrem, xd_ineg, xd_lneg, xd_lshl, xd_lshr, xd_lcmp, xd_i2l, xd_l2i, xd_dup_int, xd_dup_ref, xd_pop, xd_dup2, xd_goto, xd_ifC, xd_ifI, xd_getf, xd_putI, xd_putR, xd_iald, xd_ialdX, xd_bald, xd_iast, xd_bast, xd_aald, xd_aast, xd_alen, xd_alenX, xd_newI, xd_newZ, xd_newQ, xd_newO, xd_invS, xd_invV, xd_invI, xd_iret, xd_lret, xd_vret, xd_ldc, xd_ldc2, xd_iinc, xd_aret, xd_tsw, xd_lsw, xC_d, xld, xisI, xisL, xisA, xgo_ite, xjp, xcmp, xrt, xinv, xcall, xpop, xcat, xgf, xal, xas, xpf, xle, xaq, xbite, xbite2, xsto, xsto2, xst1, xst2, xkl, xtt, xnum, xi0, xzf, v3, List.getElem?_cons_zero, List.getElem?_cons_succ, List.set_cons_zero, List.set_cons_succ, d23_0, d23_1, d23_4, d23_7, d23_8, d23_11, d23_14, d23_15, d23_18, d23_19, d23_20, d23_21, d23_22, d23_25, d23_26, d23_27, d23_30, d23_31, d23_32, d23_33, d23_34, d23_37, d23_38, d23_39, d23_40, wo23, wm23, wr23, f0_15, m0_62, r23_88, wm88, hC, h0, h1, h2, h3, h4, h5, h6, h7, h8, h9, h10, h11, h12, h13, xput_at, xput_at0, xput_up, xput_up0, k88]
  by_cases hr : xin r 8 = true
  · by_cases hs : xin s 8 = true
    · simp [hr, hs, uSwap]
    · simp only [Bool.not_eq_true] at hs
      simp [hr, hs, uSwap]
  · simp only [Bool.not_eq_true] at hr
    simp [hr, uSwap]
set_option maxRecDepth 100000 in
set_option maxHeartbeats 4000000 in
theorem k21 (X : xX) (sh : List (Nat × Nat × List Value)) (σ A : Nat → Nat → Int32) (c : Nat) (hc : xcup sh c) (d r s : Int32) : xK X 21 [.ref (c), .int d, .int r, .int s] (sh, xput 14 σ c A) = some (none, (sh, xput 14 σ c (uChg A d r s))) := by
  have hC := hc
  obtain ⟨h0, h1, h2, h3, h4, h5, h6, h7, h8, h9, h10, h11, h12, h13⟩ := hc
  rw [xK_d X 21 _ _ [] 90]
  simp [xent, xsl, Value.category, xr_d, xr_0, xg_nx, xg_n, xg_o, xg_c, xth_s, xth_v, xth_ite, xth_n, xd_iconst, xd_bipush, xd_sipush, xd_lconst, xd_iload, xd_iload_n, xd_lload, xd_lload_n, xd_aload, xd_aload_n, xd_istore, xd_istore_n, xd_astore, xd_astore_n, xd_lstore, xd_lstore_n, xd_iadd, xd_isub, xd_imul, xd_iand, xd_ior, xd_ishl, xd_ishr, xd_ladd, xd_lsub, xd_lmul, xd_land, xd_lor, xd_idiv, xd_irem, xd_ldiv, xd_lrem, xd_ineg, xd_lneg, xd_lshl, xd_lshr, xd_lcmp, xd_i2l, xd_l2i, xd_dup_int, xd_dup_ref, xd_pop, xd_dup2, xd_goto, xd_ifC, xd_ifI, xd_getf, xd_putI, xd_putR, xd_iald, xd_ialdX, xd_bald, xd_iast, xd_bast, xd_aald, xd_aast, xd_alen, xd_alenX, xd_newI, xd_newZ, xd_newQ, xd_newO, xd_invS, xd_invV, xd_invI, xd_iret, xd_lret, xd_vret, xd_ldc, xd_ldc2, xd_iinc, xd_aret, xd_tsw, xd_lsw, xC_d, xld, xisI, xisL, xisA, xgo_ite, xjp, xcmp, xrt, xinv, xcall, xpop, xcat, xgf, xal, xas, xpf, xle, xaq, xbite, xbite2, xsto, xsto2, xst1, xst2, xkl, xtt, xnum, xi0, xzf, v3, List.getElem?_cons_zero, List.getElem?_cons_succ, List.set_cons_zero, List.set_cons_succ, d21_0, d21_1, d21_4, d21_7, d21_8, d21_9, d21_52, d21_53, d21_54, d21_55, d21_58, d21_61, d21_62, d21_63, d21_64, d21_67, d21_70, d21_71, d21_74, d21_75, d21_76, d21_77, d21_80, d21_81, d21_84, d21_85, d21_86, d21_87, d21_90, d21_91, d21_92, d21_93, d21_96, wo21, wm21, wr21, f0_24, m0_101, m0_62, m0_97, r21_22, r21_23, r21_88, wm22, wm23, wm88, wo22, wo23, hC, h0, h1, h2, h3, h4, h5, h6, h7, h8, h9, h10, h11, h12, h13, xput_at, xput_at0, xput_up, xput_up0, k88, k22, k23]
  by_cases hr : xin r 8 = true
  · simp only [hr, uChg, if_true, Bool.true_eq_false, if_false]
    clear hC h0 h1 h2 h3 h4 h5 h6 h7 h8 h9 h10 h11 h12 h13
    repeat' split
    all_goals simp_all
  · simp only [Bool.not_eq_true] at hr
    simp [hr, uChg]
def uPH (A : Nat → Nat → Int32) (d r : Int32) : Int32 := if uKind A r = 0 then 2 else if d = 43 then (if uSlope A r = 50 then 3 else 0) else (if uSlope A r = -50 then 3 else 0)
def uLane (p k : Int32) : Bool := decide (4 ≤ p) || decide (k = 0)
def uSwH (A : Nat → Nat → Int32) (r s : Int32) : Int32 := if r = s then 5 else if uLane (uPlace A r) (uKind A s) = true then (if uLane (uPlace A s) (uKind A r) = true then 0 else 6) else 6
theorem k10' (X : xX) (p k : Int32) (S : xS) : xK X 10 [.int p, .int k] S = some (some (.int (xi (uLane p k))), S) := k10 X p k S
def uHin (A : Nat → Nat → Int32) (d r s : Int32) : Int32 := if d = 46 then (if A 0 8 < 99 then 0 else 7) else if xin r 8 = true then (if d = 35 then (if A 5 r.toNatClampNeg = 0 then 0 else 4) else if d = 37 then uSwH A r s else if A 5 r.toNatClampNeg = 0 then 1 else if d = 33 then 0 else uPH A d r) else 1
set_option maxRecDepth 100000 in
set_option maxHeartbeats 4000000 in
theorem k18 (X : xX) (sh : List (Nat × Nat × List Value)) (σ A : Nat → Nat → Int32) (c : Nat) (hc : xcup sh c) (d r : Int32) : xK X 18 [.ref (c), .int d, .int r] (sh, xput 14 σ c A) = some (some (.int (uPH A d r)), (sh, xput 14 σ c A)) := by
  have hC := hc
  obtain ⟨h0, h1, h2, h3, h4, h5, h6, h7, h8, h9, h10, h11, h12, h13⟩ := hc
  rw [xK_d X 18 _ _ [] 90]
  simp [xent, xsl, Value.category, xr_d, xr_0, xg_nx, xg_n, xg_o, xg_c, xth_s, xth_v, xth_ite, xth_n, xd_iconst, xd_bipush, xd_sipush, xd_lconst, xd_iload, xd_iload_n, xd_lload, xd_lload_n, xd_aload, xd_aload_n, xd_istore, xd_istore_n, xd_astore, xd_astore_n, xd_lstore, xd_lstore_n, xd_iadd, xd_isub, xd_imul, xd_iand, xd_ior, xd_ishl, xd_ishr, xd_ladd, xd_lsub, xd_lmul, xd_land, xd_lor, xd_idiv, xd_irem, xd_ldiv, xd_lrem, xd_ineg, xd_lneg, xd_lshl, xd_lshr, xd_lcmp, xd_i2l, xd_l2i, xd_dup_int, xd_dup_ref, xd_pop, xd_dup2, xd_goto, xd_ifC, xd_ifI, xd_getf, xd_putI, xd_putR, xd_iald, xd_ialdX, xd_bald, xd_iast, xd_bast, xd_aald, xd_aast, xd_alen, xd_alenX, xd_newI, xd_newZ, xd_newQ, xd_newO, xd_invS, xd_invV, xd_invI, xd_iret, xd_lret, xd_vret, xd_ldc, xd_ldc2, xd_iinc, xd_aret, xd_tsw, xd_lsw, xC_d, xld, xisI, xisL, xisA, xgo_ite, xjp, xcmp, xrt, xinv, xcall, xpop, xcat, xgf, xal, xas, xpf, xle, xaq, xbite, xbite2, xsto, xsto2, xst1, xst2, xkl, xtt, xnum, xi0, xzf, v3, List.getElem?_cons_zero, List.getElem?_cons_succ, List.set_cons_zero, List.set_cons_succ, d18_0, d18_1, d18_2, d18_5, d18_8, d18_9, d18_10, d18_11, d18_13, d18_16, d18_18, d18_21, d18_23, d18_24, d18_25, d18_26, d18_29, d18_30, d18_33, d18_34, d18_37, d18_38, wo18, wm18, wr18, m0_80, m0_87, r18_11, r18_19, wm11, wm19, wo11, wo19, b8_43, b8_50, b8_m50, hC, h0, h1, h2, h3, h4, h5, h6, h7, h8, h9, h10, h11, h12, h13, xput_at, xput_at0, xput_up, xput_up0, k11, k19]
  unfold uPH
  clear hC h0 h1 h2 h3 h4 h5 h6 h7 h8 h9 h10 h11 h12 h13
  repeat' split
  all_goals simp_all
set_option maxRecDepth 100000 in
set_option maxHeartbeats 4000000 in
theorem g17 (X : xX) (sh : List (Nat × Nat × List Value)) (σ A : Nat → Nat → Int32) (c : Nat) (hc : xcup sh c) (r s pr ps kr ks : Int32) (e1 : xK X 9 [.ref c, .int r] (sh, xput 14 σ c A) = some (some (.int pr), (sh, xput 14 σ c A))) (e2 : xK X 9 [.ref c, .int s] (sh, xput 14 σ c A) = some (some (.int ps), (sh, xput 14 σ c A))) (e3 : xK X 11 [.ref c, .int r] (sh, xput 14 σ c A) = some (some (.int kr), (sh, xput 14 σ c A))) (e4 : xK X 11 [.ref c, .int s] (sh, xput 14 σ c A) = some (some (.int ks), (sh, xput 14 σ c A))) : xK X 17 [.ref c, .int r, .int s] (sh, xput 14 σ c A) = some (some (.int (if r = s then 5 else if uLane pr ks = true then (if uLane ps kr = true then 0 else 6) else 6)), (sh, xput 14 σ c A)) := by
  have hC := hc
  obtain ⟨h0, h1, h2, h3, h4, h5, h6, h7, h8, h9, h10, h11, h12, h13⟩ := hc
  rw [xK_d X 17 _ _ [] 90]
  simp [xent, xsl, Value.category, xr_d, xr_0, xg_nx, xg_n, xg_o, xg_c, xth_s, xth_v, xth_ite, xth_n, xd_iconst, xd_bipush, xd_sipush, xd_lconst, xd_iload, xd_iload_n, xd_lload, xd_lload_n, xd_aload, xd_aload_n, xd_istore, xd_istore_n, xd_astore, xd_astore_n, xd_lstore, xd_lstore_n, xd_iadd, xd_isub, xd_imul, xd_iand, xd_ior, xd_ishl, xd_ishr, xd_ladd, xd_lsub, xd_lmul, xd_land, xd_lor, xd_idiv, xd_irem, xd_ldiv, xd_lrem, xd_ineg, xd_lneg, xd_lshl, xd_lshr, xd_lcmp, xd_i2l, xd_l2i, xd_dup_int, xd_dup_ref, xd_pop, xd_dup2, xd_goto, xd_ifC, xd_ifI, xd_getf, xd_putI, xd_putR, xd_iald, xd_ialdX, xd_bald, xd_iast, xd_bast, xd_aald, xd_aast, xd_alen, xd_alenX, xd_newI, xd_newZ, xd_newQ, xd_newO, xd_invS, xd_invV, xd_invI, xd_iret, xd_lret, xd_vret, xd_ldc, xd_ldc2, xd_iinc, xd_aret, xd_tsw, xd_lsw, xC_d, xld, xisI, xisL, xisA, xgo_ite, xjp, xcmp, xrt, xinv, xcall, xpop, xcat, xgf, xal, xas, xpf, xle, xaq, xbite, xbite2, xsto, xsto2, xst1, xst2, xkl, xtt, xnum, xi0, xzf, v3, List.getElem?_cons_zero, List.getElem?_cons_succ, List.set_cons_zero, List.set_cons_succ, d17_0, d17_1, d17_2, d17_5, d17_6, d17_7, d17_8, d17_9, d17_12, d17_13, d17_14, d17_17, d17_20, d17_23, d17_24, d17_25, d17_28, d17_29, d17_30, d17_33, d17_36, d17_39, d17_40, d17_43, d17_44, d17_45, d17_46, d17_49, d17_50, d17_53, d17_55, wo17, wm17, wr17, m0_76, m0_80, m0_83, r17_10, r17_11, r17_9, wm10, wm11, wm9, wo11, wo9, b8_6, hC, h0, h1, h2, h3, h4, h5, h6, h7, h8, h9, h10, h11, h12, h13, xput_at, xput_at0, xput_up, xput_up0, e1, e2, e3, e4, k10']
  clear hC h0 h1 h2 h3 h4 h5 h6 h7 h8 h9 h10 h11 h12 h13
  repeat' split
  all_goals simp_all
theorem k17 (X : xX) (sh : List (Nat × Nat × List Value)) (σ A : Nat → Nat → Int32) (c : Nat) (hc : xcup sh c) (r s : Int32) : xK X 17 [.ref c, .int r, .int s] (sh, xput 14 σ c A) = some (some (.int (uSwH A r s)), (sh, xput 14 σ c A)) := g17 X sh σ A c hc r s _ _ _ _ (k9 X sh σ A c hc r) (k9 X sh σ A c hc s) (k11 X sh σ A c hc r) (k11 X sh σ A c hc s)
set_option maxRecDepth 100000 in
set_option maxHeartbeats 4000000 in
theorem k16 (X : xX) (sh : List (Nat × Nat × List Value)) (σ A : Nat → Nat → Int32) (c : Nat) (hc : xcup sh c) (d r s : Int32) : xK X 16 [.ref (c), .int d, .int r, .int s] (sh, xput 14 σ c A) = some (some (.int (uHin A d r s)), (sh, xput 14 σ c A)) := by
  have hC := hc
  obtain ⟨h0, h1, h2, h3, h4, h5, h6, h7, h8, h9, h10, h11, h12, h13⟩ := hc
  rw [xK_d X 16 _ _ [] 90]
  simp [xent, xsl, Value.category, xr_d, xr_0, xg_nx, xg_n, xg_o, xg_c, xth_s, xth_v, xth_ite, xth_n, xd_iconst, xd_bipush, xd_sipush, xd_lconst, xd_iload, xd_iload_n, xd_lload, xd_lload_n, xd_aload, xd_aload_n, xd_istore, xd_istore_n, xd_astore, xd_astore_n, xd_lstore, xd_lstore_n, xd_iadd, xd_isub, xd_imul, xd_iand, xd_ior, xd_ishl, xd_ishr, xd_ladd, xd_lsub, xd_lmul, xd_land, xd_lor, xd_idiv, xd_irem, xd_ldiv, xd_lrem, xd_ineg, xd_lneg, xd_lshl, xd_lshr, xd_lcmp, xd_i2l, xd_l2i, xd_dup_int, xd_dup_ref, xd_pop, xd_dup2, xd_goto, xd_ifC, xd_ifI, xd_getf, xd_putI, xd_putR, xd_iald, xd_ialdX, xd_bald, xd_iast, xd_bast, xd_aald, xd_aast, xd_alen, xd_alenX, xd_newI, xd_newZ, xd_newQ, xd_newO, xd_invS, xd_invV, xd_invI, xd_iret, xd_lret, xd_vret, xd_ldc, xd_ldc2, xd_iinc, xd_aret, xd_tsw, xd_lsw, xC_d, xld, xisI, xisL, xisA, xgo_ite, xjp, xcmp, xrt, xinv, xcall, xpop, xcat, xgf, xal, xas, xpf, xle, xaq, xbite, xbite2, xsto, xsto2, xst1, xst2, xkl, xtt, xnum, xi0, xzf, v3, List.getElem?_cons_zero, List.getElem?_cons_succ, List.set_cons_zero, List.set_cons_succ, d16_0, d16_1, d16_3, d16_6, d16_7, d16_10, d16_12, d16_15, d16_17, d16_20, d16_21, d16_22, d16_23, d16_26, d16_29, d16_30, d16_31, d16_32, d16_34, d16_37, d16_38, d16_41, d16_42, d16_43, d16_46, d16_47, d16_50, d16_51, d16_52, d16_53, d16_55, d16_58, d16_59, d16_60, d16_61, d16_64, d16_65, d16_66, d16_69, d16_70, d16_71, d16_74, d16_75, d16_76, d16_77, d16_79, d16_82, d16_83, d16_86, d16_87, d16_88, d16_89, d16_92, wo16, wm16, wr16, f0_24, f0_45, m0_62, m0_69, m0_73, r16_17, r16_18, r16_88, wm17, wm18, wm88, wo17, wo18, b8_33, b8_35, b8_37, b8_46, b8_7, b8_99, hC, h0, h1, h2, h3, h4, h5, h6, h7, h8, h9, h10, h11, h12, h13, xput_at, xput_at0, xput_up, xput_up0, k88, k17, k18]
  by_cases hr : xin r 8 = true
  · simp only [hr, uHin, if_true, Bool.true_eq_false, if_false]
    clear hC h0 h1 h2 h3 h4 h5 h6 h7 h8 h9 h10 h11 h12 h13
    repeat' split
    all_goals simp_all
    all_goals (simp only [Int32.lt_iff_toInt_lt, Int32.le_iff_toInt_le] at *; omega)
  · simp only [Bool.not_eq_true] at hr
    simp only [hr, uHin, Bool.false_eq_true, if_true, if_false]
    clear hC h0 h1 h2 h3 h4 h5 h6 h7 h8 h9 h10 h11 h12 h13
    repeat' split
    all_goals simp_all
    all_goals (simp only [Int32.lt_iff_toInt_lt, Int32.le_iff_toInt_le] at *; omega)
def uEnr (A : Nat → Nat → Int32) (r k a b : Int32) : Nat → Nat → Int32 := if xin r 8 = true then uAnew (xup (xup (xup (xup A 1 r.toNatClampNeg k) 3 r.toNatClampNeg a) 4 r.toNatClampNeg b) 5 r.toNatClampNeg 1) else A
set_option maxRecDepth 100000 in
set_option maxHeartbeats 4000000 in
theorem k13 (X : xX) (sh : List (Nat × Nat × List Value)) (σ A : Nat → Nat → Int32) (c : Nat) (hc : xcup sh c) (r k a b : Int32) : xK X 13 [.ref (c), .int r, .int k, .int a, .int b] (sh, xput 14 σ c A) = some (none, (sh, xput 14 σ c (uEnr A r k a b))) := by
  have hC := hc
  obtain ⟨h0, h1, h2, h3, h4, h5, h6, h7, h8, h9, h10, h11, h12, h13⟩ := hc
  rw [xK_d X 13 _ _ [] 90]
  simp [xent, xsl, Value.category, xr_d, xr_0, xg_nx, xg_n, xg_o, xg_c, xth_s, xth_v, xth_ite, xth_n, xd_iconst, xd_bipush, xd_sipush, xd_lconst, xd_iload, xd_iload_n, xd_lload, xd_lload_n, xd_aload, xd_aload_n, xd_istore, xd_istore_n, xd_astore, xd_astore_n, xd_lstore, xd_lstore_n, xd_iadd, xd_isub, xd_imul, xd_iand, xd_ior, xd_ishl, xd_ishr, xd_ladd, xd_lsub, xd_lmul, xd_land, xd_lor, xd_idiv, xd_irem, xd_ldiv, xd_lrem, xd_ineg, xd_lneg, xd_lshl, xd_lshr, xd_lcmp, xd_i2l, xd_l2i, xd_dup_int, xd_dup_ref, xd_pop, xd_dup2, xd_goto, xd_ifC, xd_ifI, xd_getf, xd_putI, xd_putR, xd_iald, xd_ialdX, xd_bald, xd_iast, xd_bast, xd_aald, xd_aast, xd_alen, xd_alenX, xd_newI, xd_newZ, xd_newQ, xd_newO, xd_invS, xd_invV, xd_invI, xd_iret, xd_lret, xd_vret, xd_ldc, xd_ldc2, xd_iinc, xd_aret, xd_tsw, xd_lsw, xC_d, xld, xisI, xisL, xisA, xgo_ite, xjp, xcmp, xrt, xinv, xcall, xpop, xcat, xgf, xal, xas, xpf, xle, xaq, xbite, xbite2, xsto, xsto2, xst1, xst2, xkl, xtt, xnum, xi0, xzf, v3, List.getElem?_cons_zero, List.getElem?_cons_succ, List.set_cons_zero, List.set_cons_succ, d13_0, d13_1, d13_4, d13_7, d13_8, d13_9, d13_12, d13_13, d13_14, d13_15, d13_16, d13_19, d13_20, d13_21, d13_22, d13_23, d13_26, d13_27, d13_29, d13_30, d13_31, d13_34, d13_35, d13_36, d13_37, d13_38, d13_41, wo13, wm13, wr13, f0_18, f0_21, f0_24, f0_9, m0_49, m0_62, r13_2, r13_88, wm2, wm88, wo2, hC, h0, h1, h2, h3, h4, h5, h6, h7, h8, h9, h10, h11, h12, h13, xput_at, xput_at0, xput_up, xput_up0, k88, k2]
  by_cases hr : xin r 8 = true
  · simp [hr, uEnr]
  · simp only [Bool.not_eq_true] at hr
    simp [hr, uEnr]
def uLd (A : Nat → Nat → Int32) (p q : Int32) : Nat → Int32
  | 0 => -6
  | r + 1 => if A 5 r = 0 then uLd A p q r else uAhead A (uLd A p q r) (nI r) p q
set_option maxRecDepth 100000 in
set_option maxHeartbeats 4000000 in
theorem i27 (X : xX) (sh : List (Nat × Nat × List Value)) (σ A : Nat → Nat → Int32) (c : Nat) (hc : xcup sh c) (p q f : Int32) (r : Nat) (hr : r < 8) : xV X 27 (6, [.ref c, .int p, .int q, .int f, .int (nI r)], [], (sh, xput 14 σ c A)) = xV X 27 (6, [.ref c, .int p, .int q, .int (if A 5 r = 0 then f else uAhead A f (nI r) p q), .int (nI (r + 1))], [], (sh, xput 14 σ c A)) := by
  have hC := hc
  obtain ⟨h0, h1, h2, h3, h4, h5, h6, h7, h8, h9, h10, h11, h12, h13⟩ := hc
  have g1 : ¬ 8 ≤ nI r := nI_lt' (a := r) (b := 8) hr (by omega)
  have g2 : xin (nI r) 8 = true := by rw [xin_nI (by omega)]; simp; omega
  have g4 := nI_cl (n := r) (by omega)
  rw [xV_d X 27 [6] 40]
  simp [xent, xsl, Value.category, xr_d, xr_0, xg_nx, xg_n, xg_o, xg_c, xth_s, xth_v, xth_ite, xth_n, xd_iconst, xd_bipush, xd_sipush, xd_lconst, xd_iload, xd_iload_n, xd_lload, xd_lload_n, xd_aload, xd_aload_n, xd_istore, xd_istore_n, xd_astore, xd_astore_n, xd_lstore, xd_lstore_n, xd_iadd, xd_isub, xd_imul, xd_iand, xd_ior, xd_ishl, xd_ishr, xd_ladd, xd_lsub, xd_lmul, xd_land, xd_lor, xd_idiv, xd_irem, xd_ldiv, xd_lrem, xd_ineg, xd_lneg, xd_lshl, xd_lshr, xd_lcmp, xd_i2l, xd_l2i, xd_dup_int, xd_dup_ref, xd_pop, xd_dup2, xd_goto, xd_ifC, xd_ifI, xd_getf, xd_putI, xd_putR, xd_iald, xd_ialdX, xd_bald, xd_iast, xd_bast, xd_aald, xd_aast, xd_alen, xd_alenX, xd_newI, xd_newZ, xd_newQ, xd_newO, xd_invS, xd_invV, xd_invI, xd_iret, xd_lret, xd_vret, xd_ldc, xd_ldc2, xd_iinc, xd_aret, xd_tsw, xd_lsw, xC_d, xld, xisI, xisL, xisA, xgo_ite, xjp, xcmp, xrt, xinv, xcall, xpop, xcat, xgf, xal, xas, xpf, xle, xaq, xbite, xbite2, xsto, xsto2, xst1, xst2, xkl, xtt, xnum, xi0, xzf, v3, List.getElem?_cons_zero, List.getElem?_cons_succ, List.set_cons_zero, List.set_cons_succ, d27_0, d27_2, d27_3, d27_4, d27_6, d27_8, d27_10, d27_13, d27_14, d27_17, d27_19, d27_20, d27_23, d27_24, d27_25, d27_27, d27_28, d27_29, d27_32, d27_33, d27_36, d27_39, d27_40, wo27, wm27, wr27, f0_24, m0_138, r27_7, wm7, wo7, b8_8, b8_m6, hC, h0, h1, h2, h3, h4, h5, h6, h7, h8, h9, h10, h11, h12, h13, xput_at, xput_at0, xput_up, xput_up0, g1, g2, g4, nI_1, k7]
  clear hC h0 h1 h2 h3 h4 h5 h6 h7 h8 h9 h10 h11 h12 h13
  repeat' split
  all_goals simp_all
set_option maxRecDepth 100000 in
set_option maxHeartbeats 4000000 in
theorem x27 (X : xX) (sh : List (Nat × Nat × List Value)) (σ A : Nat → Nat → Int32) (c : Nat) (hc : xcup sh c) (p q f : Int32) : xV X 27 (6, [.ref c, .int p, .int q, .int f, .int (nI 8)], [], (sh, xput 14 σ c A)) = some (some (.int f), (sh, xput 14 σ c A)) := by
  have hC := hc
  obtain ⟨h0, h1, h2, h3, h4, h5, h6, h7, h8, h9, h10, h11, h12, h13⟩ := hc
  have g1 : 8 ≤ nI 8 := nI_le' (a := 8) (b := 8) (by omega) (by omega)
  rw [xV_d X 27 [6] 40]
  simp [xent, xsl, Value.category, xr_d, xr_0, xg_nx, xg_n, xg_o, xg_c, xth_s, xth_v, xth_ite, xth_n, xd_iconst, xd_bipush, xd_sipush, xd_lconst, xd_iload, xd_iload_n, xd_lload, xd_lload_n, xd_aload, xd_aload_n, xd_istore, xd_istore_n, xd_astore, xd_astore_n, xd_lstore, xd_lstore_n, xd_iadd, xd_isub, xd_imul, xd_iand, xd_ior, xd_ishl, xd_ishr, xd_ladd, xd_lsub, xd_lmul, xd_land, xd_lor, xd_idiv, xd_irem, xd_ldiv, xd_lrem, xd_ineg, xd_lneg, xd_lshl, xd_lshr, xd_lcmp, xd_i2l, xd_l2i, xd_dup_int, xd_dup_ref, xd_pop, xd_dup2, xd_goto, xd_ifC, xd_ifI, xd_getf, xd_putI, xd_putR, xd_iald, xd_ialdX, xd_bald, xd_iast, xd_bast, xd_aald, xd_aast, xd_alen, xd_alenX, xd_newI, xd_newZ, xd_newQ, xd_newO, xd_invS, xd_invV, xd_invI, xd_iret, xd_lret, xd_vret, xd_ldc, xd_ldc2, xd_iinc, xd_aret, xd_tsw, xd_lsw, xC_d, xld, xisI, xisL, xisA, xgo_ite, xjp, xcmp, xrt, xinv, xcall, xpop, xcat, xgf, xal, xas, xpf, xle, xaq, xbite, xbite2, xsto, xsto2, xst1, xst2, xkl, xtt, xnum, xi0, xzf, v3, List.getElem?_cons_zero, List.getElem?_cons_succ, List.set_cons_zero, List.set_cons_succ, d27_0, d27_2, d27_3, d27_4, d27_6, d27_8, d27_10, d27_13, d27_14, d27_17, d27_19, d27_20, d27_23, d27_24, d27_25, d27_27, d27_28, d27_29, d27_32, d27_33, d27_36, d27_39, d27_40, wo27, wm27, wr27, f0_24, m0_138, r27_7, wm7, wo7, b8_8, b8_m6, hC, h0, h1, h2, h3, h4, h5, h6, h7, h8, h9, h10, h11, h12, h13, xput_at, xput_at0, xput_up, xput_up0, g1]

theorem l27 (X : xX) (sh : List (Nat × Nat × List Value)) (σ A : Nat → Nat → Int32) (c : Nat) (hc : xcup sh c) (p q : Int32) : ∀ d r, r + d = 8 → xV X 27 (6, [.ref c, .int p, .int q, .int (uLd A p q r), .int (nI r)], [], (sh, xput 14 σ c A)) = some (some (.int (uLd A p q 8)), (sh, xput 14 σ c A))
  | 0, r, h => by
    have e : r = 8 := by omega
    subst e
    exact x27 X sh σ A c hc p q _
  | d + 1, r, h => by
    rw [i27 X sh σ A c hc p q _ r (by omega)]
    exact l27 X sh σ A c hc p q d (r + 1) (by omega)
set_option maxRecDepth 100000 in
set_option maxHeartbeats 4000000 in
theorem k27 (X : xX) (sh : List (Nat × Nat × List Value)) (σ A : Nat → Nat → Int32) (c : Nat) (hc : xcup sh c) (p q : Int32) : xK X 27 [.ref (c), .int p, .int q] (sh, xput 14 σ c A) = some (some (.int (uLd A p q 8)), (sh, xput 14 σ c A)) := by
  have hC := hc
  obtain ⟨h0, h1, h2, h3, h4, h5, h6, h7, h8, h9, h10, h11, h12, h13⟩ := hc
  rw [xK_d X 27 _ _ [6] 20]
  simp [xent, xsl, Value.category, xr_d, xr_0, xg_nx, xg_n, xg_o, xg_c, xth_s, xth_v, xth_ite, xth_n, xd_iconst, xd_bipush, xd_sipush, xd_lconst, xd_iload, xd_iload_n, xd_lload, xd_lload_n, xd_aload, xd_aload_n, xd_istore, xd_istore_n, xd_astore, xd_astore_n, xd_lstore, xd_lstore_n, xd_iadd, xd_isub, xd_imul, xd_iand, xd_ior, xd_ishl, xd_ishr, xd_ladd, xd_lsub, xd_lmul, xd_land, xd_lor, xd_idiv, xd_irem, xd_ldiv, xd_lrem, xd_ineg, xd_lneg, xd_lshl, xd_lshr, xd_lcmp, xd_i2l, xd_l2i, xd_dup_int, xd_dup_ref, xd_pop, xd_dup2, xd_goto, xd_ifC, xd_ifI, xd_getf, xd_putI, xd_putR, xd_iald, xd_ialdX, xd_bald, xd_iast, xd_bast, xd_aald, xd_aast, xd_alen, xd_alenX, xd_newI, xd_newZ, xd_newQ, xd_newO, xd_invS, xd_invV, xd_invI, xd_iret, xd_lret, xd_vret, xd_ldc, xd_ldc2, xd_iinc, xd_aret, xd_tsw, xd_lsw, xC_d, xld, xisI, xisL, xisA, xgo_ite, xjp, xcmp, xrt, xinv, xcall, xpop, xcat, xgf, xal, xas, xpf, xle, xaq, xbite, xbite2, xsto, xsto2, xst1, xst2, xkl, xtt, xnum, xi0, xzf, v3, List.getElem?_cons_zero, List.getElem?_cons_succ, List.set_cons_zero, List.set_cons_succ, d27_0, d27_2, d27_3, d27_4, d27_6, d27_8, d27_10, d27_13, d27_14, d27_17, d27_19, d27_20, d27_23, d27_24, d27_25, d27_27, d27_28, d27_29, d27_32, d27_33, d27_36, d27_39, d27_40, wo27, wm27, wr27, f0_24, m0_138, r27_7, wm7, wo7, b8_8, b8_m6, hC, h0, h1, h2, h3, h4, h5, h6, h7, h8, h9, h10, h11, h12, h13, xput_at, xput_at0, xput_up, xput_up0]
  have h := l27 X sh σ A c hC p q 8 0 (by omega)
  rw [nI_0] at h
  exact h
def uS1 (A : Nat → Nat → Int32) (ld : Int32) (r : Nat) (s : Int32 × Int32 × Int32) : Int32 × Int32 × Int32 :=
  if ¬ A 5 r = 0 ∧ 0 < uSlope A (nI r) - uSlope A ld ∧ (uBase A ld - uBase A (nI r)) * s.2.1 ≤ s.1 * (uSlope A (nI r) - uSlope A ld) then (uBase A ld - uBase A (nI r), uSlope A (nI r) - uSlope A ld, 1) else s
def uSs (A : Nat → Nat → Int32) (ld p q : Int32) : Nat → Int32 × Int32 × Int32
  | 0 => (p, q, 0)
  | r + 1 => uS1 A ld r (uSs A ld p q r)
def uSuc (A : Nat → Nat → Int32) (ld p q : Int32) : Int32 := if (uSs A ld p q 8).2.2 = 0 then -6 else uLd A (uSs A ld p q 8).1 (uSs A ld p q 8).2.1 8
set_option maxRecDepth 100000 in
set_option maxHeartbeats 4000000 in
theorem i30 (X : xX) (sh : List (Nat × Nat × List Value)) (σ A : Nat → Nat → Int32) (c : Nat) (hc : xcup sh c) (ld p q : Int32) (s : Int32 × Int32 × Int32) (v w : Value) (r : Nat) (hr : r < 8) : ∃ v' w', xV X 30 (12, [.ref c, .int ld, .int p, .int q, .int s.1, .int s.2.1, .int s.2.2, .int (nI r), v, w], [], (sh, xput 14 σ c A)) = xV X 30 (12, [.ref c, .int ld, .int p, .int q, .int (uS1 A ld r s).1, .int (uS1 A ld r s).2.1, .int (uS1 A ld r s).2.2, .int (nI (r + 1)), v', w'], [], (sh, xput 14 σ c A)) := by
  have hC := hc
  obtain ⟨h0, h1, h2, h3, h4, h5, h6, h7, h8, h9, h10, h11, h12, h13⟩ := hc
  have g1 : ¬ 8 ≤ nI r := nI_lt' (a := r) (b := 8) hr (by omega)
  have g2 : xin (nI r) 8 = true := by rw [xin_nI (by omega)]; simp; omega
  have g4 := nI_cl (n := r) (by omega)
  refine ⟨.int (uSlope A (nI r) - uSlope A ld), .int (uBase A ld - uBase A (nI r)), ?_⟩
  rw [xV_d X 30 [12] 80]
  simp [xent, xsl, Value.category, xr_d, xr_0, xg_nx, xg_n, xg_o, xg_c, xth_s, xth_v, xth_ite, xth_n, xd_iconst, xd_bipush, xd_sipush, xd_lconst, xd_iload, xd_iload_n, xd_lload, xd_lload_n, xd_aload, xd_aload_n, xd_istore, xd_istore_n, xd_astore, xd_astore_n, xd_lstore, xd_lstore_n, xd_iadd, xd_isub, xd_imul, xd_iand, xd_ior, xd_ishl, xd_ishr, xd_ladd, xd_lsub, xd_lmul, xd_land, xd_lor, xd_idiv, xd_irem, xd_ldiv, xd_lrem, xd_ineg, xd_lneg, xd_lshl, xd_lshr, xd_lcmp, xd_i2l, xd_l2i, xd_dup_int, xd_dup_ref, xd_pop, xd_dup2, xd_goto, xd_ifC, xd_ifI, xd_getf, xd_putI, xd_putR, xd_iald, xd_ialdX, xd_bald, xd_iast, xd_bast, xd_aald, xd_aast, xd_alen, xd_alenX, xd_newI, xd_newZ, xd_newQ, xd_newO, xd_invS, xd_invV, xd_invI, xd_iret, xd_lret, xd_vret, xd_ldc, xd_ldc2, xd_iinc, xd_aret, xd_tsw, xd_lsw, xC_d, xld, xisI, xisL, xisA, xgo_ite, xjp, xcmp, xrt, xinv, xcall, xpop, xcat, xgf, xal, xas, xpf, xle, xaq, xbite, xbite2, xsto, xsto2, xst1, xst2, xkl, xtt, xnum, xi0, xzf, v3, List.getElem?_cons_zero, List.getElem?_cons_succ, List.set_cons_zero, List.set_cons_succ, d30_0, d30_1, d30_3, d30_4, d30_6, d30_7, d30_9, d30_10, d30_12, d30_14, d30_16, d30_19, d30_20, d30_22, d30_25, d30_26, d30_27, d30_30, d30_31, d30_33, d30_34, d30_35, d30_38, d30_39, d30_41, d30_44, d30_45, d30_47, d30_48, d30_51, d30_53, d30_54, d30_57, d30_59, d30_62, d30_64, d30_66, d30_67, d30_69, d30_71, d30_72, d30_75, d30_77, d30_79, d30_81, d30_83, d30_84, d30_86, d30_89, d30_92, d30_94, d30_97, d30_98, d30_100, d30_102, d30_105, d30_108, d30_110, wo30, wm30, wr30, f0_24, m0_157, m0_160, m0_87, r30_19, r30_25, r30_27, wm19, wm25, wm27, wo19, wo25, wo27, b8_8, b8_m6, hC, h0, h1, h2, h3, h4, h5, h6, h7, h8, h9, h10, h11, h12, h13, xput_at, xput_at0, xput_up, xput_up0, g1, g2, g4, nI_1, k19, k25, uS1]
  clear hC h0 h1 h2 h3 h4 h5 h6 h7 h8 h9 h10 h11 h12 h13
  generalize uSlope A (nI r) - uSlope A ld = g
  generalize uBase A ld - uBase A (nI r) = h
  by_cases h1 : A 5 r = 0
  · simp [h1]
  · by_cases h2 : g ≤ 0
    · have h2' : ¬ 0 < g := Int32.not_lt.mpr h2
      simp [h1, h2, h2']
    · have h2' : 0 < g := Int32.not_le.mp h2
      by_cases h3 : s.1 * g < h * s.2.1
      · have h3' : ¬ h * s.2.1 ≤ s.1 * g := Int32.not_le.mpr h3
        simp [h1, h2, h2', h3, h3']
      · have h3' : h * s.2.1 ≤ s.1 * g := Int32.not_lt.mp h3
        simp [h1, h2, h2', h3, h3']
set_option maxRecDepth 100000 in
set_option maxHeartbeats 4000000 in
theorem x30 (X : xX) (sh : List (Nat × Nat × List Value)) (σ A : Nat → Nat → Int32) (c : Nat) (hc : xcup sh c) (ld p q : Int32) (s : Int32 × Int32 × Int32) (v w : Value) : xV X 30 (12, [.ref c, .int ld, .int p, .int q, .int s.1, .int s.2.1, .int s.2.2, .int (nI 8), v, w], [], (sh, xput 14 σ c A)) = some (some (.int (if s.2.2 = 0 then -6 else uLd A s.1 s.2.1 8)), (sh, xput 14 σ c A)) := by
  have hC := hc
  obtain ⟨h0, h1, h2, h3, h4, h5, h6, h7, h8, h9, h10, h11, h12, h13⟩ := hc
  have g1 : 8 ≤ nI 8 := nI_le' (a := 8) (b := 8) (by omega) (by omega)
  rw [xV_d X 30 [12] 80]
  simp [xent, xsl, Value.category, xr_d, xr_0, xg_nx, xg_n, xg_o, xg_c, xth_s, xth_v, xth_ite, xth_n, xd_iconst, xd_bipush, xd_sipush, xd_lconst, xd_iload, xd_iload_n, xd_lload, xd_lload_n, xd_aload, xd_aload_n, xd_istore, xd_istore_n, xd_astore, xd_astore_n, xd_lstore, xd_lstore_n, xd_iadd, xd_isub, xd_imul, xd_iand, xd_ior, xd_ishl, xd_ishr, xd_ladd, xd_lsub, xd_lmul, xd_land, xd_lor, xd_idiv, xd_irem, xd_ldiv, xd_lrem, xd_ineg, xd_lneg, xd_lshl, xd_lshr, xd_lcmp, xd_i2l, xd_l2i, xd_dup_int, xd_dup_ref, xd_pop, xd_dup2, xd_goto, xd_ifC, xd_ifI, xd_getf, xd_putI, xd_putR, xd_iald, xd_ialdX, xd_bald, xd_iast, xd_bast, xd_aald, xd_aast, xd_alen, xd_alenX, xd_newI, xd_newZ, xd_newQ, xd_newO, xd_invS, xd_invV, xd_invI, xd_iret, xd_lret, xd_vret, xd_ldc, xd_ldc2, xd_iinc, xd_aret, xd_tsw, xd_lsw, xC_d, xld, xisI, xisL, xisA, xgo_ite, xjp, xcmp, xrt, xinv, xcall, xpop, xcat, xgf, xal, xas, xpf, xle, xaq, xbite, xbite2, xsto, xsto2, xst1, xst2, xkl, xtt, xnum, xi0, xzf, v3, List.getElem?_cons_zero, List.getElem?_cons_succ, List.set_cons_zero, List.set_cons_succ, d30_0, d30_1, d30_3, d30_4, d30_6, d30_7, d30_9, d30_10, d30_12, d30_14, d30_16, d30_19, d30_20, d30_22, d30_25, d30_26, d30_27, d30_30, d30_31, d30_33, d30_34, d30_35, d30_38, d30_39, d30_41, d30_44, d30_45, d30_47, d30_48, d30_51, d30_53, d30_54, d30_57, d30_59, d30_62, d30_64, d30_66, d30_67, d30_69, d30_71, d30_72, d30_75, d30_77, d30_79, d30_81, d30_83, d30_84, d30_86, d30_89, d30_92, d30_94, d30_97, d30_98, d30_100, d30_102, d30_105, d30_108, d30_110, wo30, wm30, wr30, f0_24, m0_157, m0_160, m0_87, r30_19, r30_25, r30_27, wm19, wm25, wm27, wo19, wo25, wo27, b8_8, b8_m6, hC, h0, h1, h2, h3, h4, h5, h6, h7, h8, h9, h10, h11, h12, h13, xput_at, xput_at0, xput_up, xput_up0, g1, k27]
  clear hC h0 h1 h2 h3 h4 h5 h6 h7 h8 h9 h10 h11 h12 h13
  repeat' split
  all_goals simp_all
theorem l30 (X : xX) (sh : List (Nat × Nat × List Value)) (σ A : Nat → Nat → Int32) (c : Nat) (hc : xcup sh c) (ld p q : Int32) : ∀ d r v w, r + d = 8 → xV X 30 (12, [.ref c, .int ld, .int p, .int q, .int (uSs A ld p q r).1, .int (uSs A ld p q r).2.1, .int (uSs A ld p q r).2.2, .int (nI r), v, w], [], (sh, xput 14 σ c A)) = some (some (.int (uSuc A ld p q)), (sh, xput 14 σ c A))
  | 0, r, v, w, h => by
    have e : r = 8 := by omega
    subst e
    exact x30 X sh σ A c hc ld p q _ v w
  | d + 1, r, v, w, h => by
    obtain ⟨v', w', e⟩ := i30 X sh σ A c hc ld p q (uSs A ld p q r) v w r (by omega)
    rw [e]
    exact l30 X sh σ A c hc ld p q d (r + 1) v' w' (by omega)
set_option maxRecDepth 100000 in
set_option maxHeartbeats 4000000 in
theorem k30 (X : xX) (sh : List (Nat × Nat × List Value)) (σ A : Nat → Nat → Int32) (c : Nat) (hc : xcup sh c) (ld p q : Int32) : xK X 30 [.ref (c), .int ld, .int p, .int q] (sh, xput 14 σ c A) = some (some (.int (uSuc A ld p q)), (sh, xput 14 σ c A)) := by
  have hC := hc
  obtain ⟨h0, h1, h2, h3, h4, h5, h6, h7, h8, h9, h10, h11, h12, h13⟩ := hc
  rw [xK_d X 30 _ _ [12] 20]
  simp [xent, xsl, Value.category, xr_d, xr_0, xg_nx, xg_n, xg_o, xg_c, xth_s, xth_v, xth_ite, xth_n, xd_iconst, xd_bipush, xd_sipush, xd_lconst, xd_iload, xd_iload_n, xd_lload, xd_lload_n, xd_aload, xd_aload_n, xd_istore, xd_istore_n, xd_astore, xd_astore_n, xd_lstore, xd_lstore_n, xd_iadd, xd_isub, xd_imul, xd_iand, xd_ior, xd_ishl, xd_ishr, xd_ladd, xd_lsub, xd_lmul, xd_land, xd_lor, xd_idiv, xd_irem, xd_ldiv, xd_lrem, xd_ineg, xd_lneg, xd_lshl, xd_lshr, xd_lcmp, xd_i2l, xd_l2i, xd_dup_int, xd_dup_ref, xd_pop, xd_dup2, xd_goto, xd_ifC, xd_ifI, xd_getf, xd_putI, xd_putR, xd_iald, xd_ialdX, xd_bald, xd_iast, xd_bast, xd_aald, xd_aast, xd_alen, xd_alenX, xd_newI, xd_newZ, xd_newQ, xd_newO, xd_invS, xd_invV, xd_invI, xd_iret, xd_lret, xd_vret, xd_ldc, xd_ldc2, xd_iinc, xd_aret, xd_tsw, xd_lsw, xC_d, xld, xisI, xisL, xisA, xgo_ite, xjp, xcmp, xrt, xinv, xcall, xpop, xcat, xgf, xal, xas, xpf, xle, xaq, xbite, xbite2, xsto, xsto2, xst1, xst2, xkl, xtt, xnum, xi0, xzf, v3, List.getElem?_cons_zero, List.getElem?_cons_succ, List.set_cons_zero, List.set_cons_succ, d30_0, d30_1, d30_3, d30_4, d30_6, d30_7, d30_9, d30_10, d30_12, d30_14, d30_16, d30_19, d30_20, d30_22, d30_25, d30_26, d30_27, d30_30, d30_31, d30_33, d30_34, d30_35, d30_38, d30_39, d30_41, d30_44, d30_45, d30_47, d30_48, d30_51, d30_53, d30_54, d30_57, d30_59, d30_62, d30_64, d30_66, d30_67, d30_69, d30_71, d30_72, d30_75, d30_77, d30_79, d30_81, d30_83, d30_84, d30_86, d30_89, d30_92, d30_94, d30_97, d30_98, d30_100, d30_102, d30_105, d30_108, d30_110, wo30, wm30, wr30, f0_24, m0_157, m0_160, m0_87, r30_19, r30_25, r30_27, wm19, wm25, wm27, wo19, wo25, wo27, b8_8, b8_m6, hC, h0, h1, h2, h3, h4, h5, h6, h7, h8, h9, h10, h11, h12, h13, xput_at, xput_at0, xput_up, xput_up0]
  have h := l30 X sh σ A c hC ld p q 8 0 (.float 0) (.float 0) (by omega)
  rw [nI_0] at h
  exact h
