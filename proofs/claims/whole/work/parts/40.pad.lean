def xpad (sh : List (Nat × Nat × List Value)) : Prop := sh[15]? = some (5, 2, [.ref 16, .int 0]) ∧ sh[16]? = some (0, 60, [])
def vIn (σ : Nat → Nat → Int32) (i : Int32) : Bool := decide (0 ≤ i) && decide (i < σ 15 1) && decide (i < 60)
theorem vIn_in {σ : Nat → Nat → Int32} {i : Int32} (h : vIn σ i = true) : xin i 60 = true := by
  have h1 : (60 : Int32).toInt = 60 := by decide
  simp only [vIn, Bool.and_eq_true, decide_eq_true_eq, Int32.le_iff_toInt_le, Int32.lt_iff_toInt_lt, h1, Int32.toInt_zero] at h
  simp only [xin, Bool.and_eq_true, decide_eq_true_eq]
  omega
def vSign (σ : Nat → Nat → Int32) (i : Int32) : Int32 := if vIn σ i = true then σ 16 i.toNatClampNeg else -6
def vLet (σ : Nat → Nat → Int32) (i : Int32) : Bool := xin (vSign σ i - 97) 8
def vDeed (σ : Nat → Nat → Int32) (i : Int32) : Int32 := if vSign σ i = 46 then 46 else vSign σ (i + 1)
def vLen (σ : Nat → Nat → Int32) (i : Int32) : Int32 := if (vDeed σ i).toInt = 37 then 3 else if (vDeed σ i).toInt = 46 then 1 else 2
def vFA (σ : Nat → Nat → Int32) (i : Int32) : Int32 := if vSign σ i = 46 then -6 else if vLet σ i = true then (if (vSign σ (i + 1)).toInt = 33 ∨ (vSign σ (i + 1)).toInt = 35 ∨ (vSign σ (i + 1)).toInt = 43 ∨ (vSign σ (i + 1)).toInt = 45 then -6 else if (vSign σ (i + 1)).toInt = 37 then (if vLet σ (i + 2) = true then -6 else i + 2) else i + 1) else i
set_option maxRecDepth 100000 in
set_option maxHeartbeats 4000000 in
theorem k37 (X : xX) (sh : List (Nat × Nat × List Value)) (σ : Nat → Nat → Int32) (hp : xpad sh)  : xK X 37 [.ref 15] (sh, σ) = some (some (.int (σ 15 1)), (sh, σ)) := by
  have hP := hp
  obtain ⟨h0, h1⟩ := hp
  rw [xK_d X 37 _ _ [] 90]
  simp [xent, xsl, Value.category, xr_d, xr_0, xg_nx, xg_n, xg_o, xg_c, xth_s, xth_v, xth_ite, xth_n, xd_iconst, xd_bipush, xd_sipush, xd_lconst, xd_iload, xd_iload_n, xd_lload, xd_lload_n, xd_aload, xd_aload_n, xd_istore, xd_istore_n, xd_astore, xd_astore_n, xd_lstore, xd_lstore_n, xd_iadd, xd_isub, xd_imul, xd_iand, xd_ior, xd_ishl, xd_ishr, xd_ladd, xd_lsub, xd_lmul, xd_land, xd_lor, xd_idiv, xd_irem, xd_ldiv, xd_lrem, xd_ineg, xd_lneg, xd_lshl, xd_lshr, xd_lcmp, xd_i2l, xd_l2i, xd_dup_int, xd_dup_ref, xd_pop, xd_dup2, xd_goto, xd_ifC, xd_ifI, xd_getf, xd_putI, xd_putR, xd_iald, xd_ialdX, xd_bald, xd_iast, xd_bast, xd_aald, xd_aast, xd_alen, xd_alenX, xd_newI, xd_newZ, xd_newQ, xd_newO, xd_invS, xd_invV, xd_invI, xd_iret, xd_lret, xd_vret, xd_ldc, xd_ldc2, xd_iinc, xd_aret, xd_tsw, xd_lsw, xC_d, xld, xisI, xisL, xisA, xgo_ite, xjp, xcmp, xrt, xinv, xcall, xpop, xcat, xgf, xal, xas, xpf, xle, xaq, xbite, xbite2, xsto, xsto2, xst1, xst2, xkl, xtt, xnum, xi0, xzf, v3, List.getElem?_cons_zero, List.getElem?_cons_succ, List.set_cons_zero, List.set_cons_succ, d37_0, d37_1, d37_4, wo37, wm37, wr37, f2_15, hP, h0, h1]

set_option maxRecDepth 100000 in
set_option maxHeartbeats 4000000 in
theorem k38 (X : xX) (sh : List (Nat × Nat × List Value)) (σ : Nat → Nat → Int32) (hp : xpad sh)  : xK X 38 [.ref 15] (sh, σ) = some (none, (sh, xup σ 15 1 0)) := by
  have hP := hp
  obtain ⟨h0, h1⟩ := hp
  rw [xK_d X 38 _ _ [] 90]
  simp [xent, xsl, Value.category, xr_d, xr_0, xg_nx, xg_n, xg_o, xg_c, xth_s, xth_v, xth_ite, xth_n, xd_iconst, xd_bipush, xd_sipush, xd_lconst, xd_iload, xd_iload_n, xd_lload, xd_lload_n, xd_aload, xd_aload_n, xd_istore, xd_istore_n, xd_astore, xd_astore_n, xd_lstore, xd_lstore_n, xd_iadd, xd_isub, xd_imul, xd_iand, xd_ior, xd_ishl, xd_ishr, xd_ladd, xd_lsub, xd_lmul, xd_land, xd_lor, xd_idiv, xd_irem, xd_ldiv, xd_lrem, xd_ineg, xd_lneg, xd_lshl, xd_lshr, xd_lcmp, xd_i2l, xd_l2i, xd_dup_int, xd_dup_ref, xd_pop, xd_dup2, xd_goto, xd_ifC, xd_ifI, xd_getf, xd_putI, xd_putR, xd_iald, xd_ialdX, xd_bald, xd_iast, xd_bast, xd_aald, xd_aast, xd_alen, xd_alenX, xd_newI, xd_newZ, xd_newQ, xd_newO, xd_invS, xd_invV, xd_invI, xd_iret, xd_lret, xd_vret, xd_ldc, xd_ldc2, xd_iinc, xd_aret, xd_tsw, xd_lsw, xC_d, xld, xisI, xisL, xisA, xgo_ite, xjp, xcmp, xrt, xinv, xcall, xpop, xcat, xgf, xal, xas, xpf, xle, xaq, xbite, xbite2, xsto, xsto2, xst1, xst2, xkl, xtt, xnum, xi0, xzf, v3, List.getElem?_cons_zero, List.getElem?_cons_succ, List.set_cons_zero, List.set_cons_succ, d38_0, d38_1, d38_2, d38_5, wo38, wm38, wr38, f2_15, hP, h0, h1]

set_option maxRecDepth 100000 in
set_option maxHeartbeats 4000000 in
theorem k36 (X : xX) (sh : List (Nat × Nat × List Value)) (σ : Nat → Nat → Int32) (hp : xpad sh) (s : Int32) (hl : xin (σ 15 1) 61 = true) : xK X 36 [.ref 15, .int s] (sh, σ) = some (some (.int (xi (decide (σ 15 1 < 60)))), (sh, if σ 15 1 < 60 then xup (xup σ 16 (σ 15 1).toNatClampNeg s) 15 1 (σ 15 1 + 1) else σ)) := by
  have hP := hp
  obtain ⟨h0, h1⟩ := hp
  have hl2 : 0 ≤ (σ 15 1).toInt ∧ (σ 15 1).toInt < 61 := by simpa [xin] using hl
  have h60 : (60 : Int32).toInt = 60 := by decide
  have g1 : ¬ σ 15 1 < 0 := by rw [Int32.lt_iff_toInt_lt, Int32.toInt_zero]; omega
  by_cases hs : σ 15 1 < 60
  · have g2 : xin (σ 15 1) 60 = true := by
      rw [Int32.lt_iff_toInt_lt, h60] at hs
      simp only [xin, Bool.and_eq_true, decide_eq_true_eq]; omega
    rw [xK_d X 36 _ _ [] 90]; simp [xent, xsl, Value.category, xr_d, xr_0, xg_nx, xg_n, xg_o, xg_c, xth_s, xth_v, xth_ite, xth_n, xd_iconst, xd_bipush, xd_sipush, xd_lconst, xd_iload, xd_iload_n, xd_lload, xd_lload_n, xd_aload, xd_aload_n, xd_istore, xd_istore_n, xd_astore, xd_astore_n, xd_lstore, xd_lstore_n, xd_iadd, xd_isub, xd_imul, xd_iand, xd_ior, xd_ishl, xd_ishr, xd_ladd, xd_lsub, xd_lmul, xd_land, xd_lor, xd_idiv, xd_irem, xd_ldiv, xd_lrem, xd_ineg, xd_lneg, xd_lshl, xd_lshr, xd_lcmp, xd_i2l, xd_l2i, xd_dup_int, xd_dup_ref, xd_pop, xd_dup2, xd_goto, xd_ifC, xd_ifI, xd_getf, xd_putI, xd_putR, xd_iald, xd_ialdX, xd_bald, xd_iast, xd_bast, xd_aald, xd_aast, xd_alen, xd_alenX, xd_newI, xd_newZ, xd_newQ, xd_newO, xd_invS, xd_invV, xd_invI, xd_iret, xd_lret, xd_vret, xd_ldc, xd_ldc2, xd_iinc, xd_aret, xd_tsw, xd_lsw, xC_d, xld, xisI, xisL, xisA, xgo_ite, xjp, xcmp, xrt, xinv, xcall, xpop, xcat, xgf, xal, xas, xpf, xle, xaq, xbite, xbite2, xsto, xsto2, xst1, xst2, xkl, xtt, xnum, xi0, xzf, v3, List.getElem?_cons_zero, List.getElem?_cons_succ, List.set_cons_zero, List.set_cons_succ, d36_0, d36_1, d36_4, d36_7, d36_8, d36_11, d36_13, d36_16, d36_17, d36_18, d36_19, d36_22, d36_23, d36_26, d36_27, d36_28, d36_29, d36_30, d36_33, d36_34, d36_35, d36_38, d36_39, wo36, wm36, wr36, f2_11, f2_15, b8_60, hP, h0, h1, g1, g2, hs, xi, xup]
  · rw [xK_d X 36 _ _ [] 90]; simp [xent, xsl, Value.category, xr_d, xr_0, xg_nx, xg_n, xg_o, xg_c, xth_s, xth_v, xth_ite, xth_n, xd_iconst, xd_bipush, xd_sipush, xd_lconst, xd_iload, xd_iload_n, xd_lload, xd_lload_n, xd_aload, xd_aload_n, xd_istore, xd_istore_n, xd_astore, xd_astore_n, xd_lstore, xd_lstore_n, xd_iadd, xd_isub, xd_imul, xd_iand, xd_ior, xd_ishl, xd_ishr, xd_ladd, xd_lsub, xd_lmul, xd_land, xd_lor, xd_idiv, xd_irem, xd_ldiv, xd_lrem, xd_ineg, xd_lneg, xd_lshl, xd_lshr, xd_lcmp, xd_i2l, xd_l2i, xd_dup_int, xd_dup_ref, xd_pop, xd_dup2, xd_goto, xd_ifC, xd_ifI, xd_getf, xd_putI, xd_putR, xd_iald, xd_ialdX, xd_bald, xd_iast, xd_bast, xd_aald, xd_aast, xd_alen, xd_alenX, xd_newI, xd_newZ, xd_newQ, xd_newO, xd_invS, xd_invV, xd_invI, xd_iret, xd_lret, xd_vret, xd_ldc, xd_ldc2, xd_iinc, xd_aret, xd_tsw, xd_lsw, xC_d, xld, xisI, xisL, xisA, xgo_ite, xjp, xcmp, xrt, xinv, xcall, xpop, xcat, xgf, xal, xas, xpf, xle, xaq, xbite, xbite2, xsto, xsto2, xst1, xst2, xkl, xtt, xnum, xi0, xzf, v3, List.getElem?_cons_zero, List.getElem?_cons_succ, List.set_cons_zero, List.set_cons_succ, d36_0, d36_1, d36_4, d36_7, d36_8, d36_11, d36_13, d36_16, d36_17, d36_18, d36_19, d36_22, d36_23, d36_26, d36_27, d36_28, d36_29, d36_30, d36_33, d36_34, d36_35, d36_38, d36_39, wo36, wm36, wr36, f2_11, f2_15, b8_60, hP, h0, h1, g1, hs, xi]
set_option maxRecDepth 100000 in
set_option maxHeartbeats 4000000 in
theorem k41 (X : xX) (sh : List (Nat × Nat × List Value)) (σ : Nat → Nat → Int32) (hp : xpad sh) (i : Int32) : xK X 41 [.ref 15, .int i] (sh, σ) = some (some (.int (vSign σ i)), (sh, σ)) := by
  have hP := hp
  obtain ⟨h0, h1⟩ := hp
  by_cases hr : vIn σ i = true
  · have hi := vIn_in hr
    have hr2 := hr
    simp only [vIn, Bool.and_eq_true, decide_eq_true_eq] at hr2
    have g1 : ¬ i < 0 := Int32.not_lt.mpr hr2.1.1
    have g2 : ¬ σ 15 1 ≤ i := Int32.not_le.mpr hr2.1.2
    have g3 : ¬ 60 ≤ i := Int32.not_le.mpr hr2.2
    rw [vSign, if_pos hr]
    rw [xK_d X 41 _ _ [] 90]; simp [xent, xsl, Value.category, xr_d, xr_0, xg_nx, xg_n, xg_o, xg_c, xth_s, xth_v, xth_ite, xth_n, xd_iconst, xd_bipush, xd_sipush, xd_lconst, xd_iload, xd_iload_n, xd_lload, xd_lload_n, xd_aload, xd_aload_n, xd_istore, xd_istore_n, xd_astore, xd_astore_n, xd_lstore, xd_lstore_n, xd_iadd, xd_isub, xd_imul, xd_iand, xd_ior, xd_ishl, xd_ishr, xd_ladd, xd_lsub, xd_lmul, xd_land, xd_lor, xd_idiv, xd_irem, xd_ldiv, xd_lrem, xd_ineg, xd_lneg, xd_lshl, xd_lshr, xd_lcmp, xd_i2l, xd_l2i, xd_dup_int, xd_dup_ref, xd_pop, xd_dup2, xd_goto, xd_ifC, xd_ifI, xd_getf, xd_putI, xd_putR, xd_iald, xd_ialdX, xd_bald, xd_iast, xd_bast, xd_aald, xd_aast, xd_alen, xd_alenX, xd_newI, xd_newZ, xd_newQ, xd_newO, xd_invS, xd_invV, xd_invI, xd_iret, xd_lret, xd_vret, xd_ldc, xd_ldc2, xd_iinc, xd_aret, xd_tsw, xd_lsw, xC_d, xld, xisI, xisL, xisA, xgo_ite, xjp, xcmp, xrt, xinv, xcall, xpop, xcat, xgf, xal, xas, xpf, xle, xaq, xbite, xbite2, xsto, xsto2, xst1, xst2, xkl, xtt, xnum, xi0, xzf, v3, List.getElem?_cons_zero, List.getElem?_cons_succ, List.set_cons_zero, List.set_cons_succ, d41_0, d41_1, d41_4, d41_5, d41_6, d41_9, d41_12, d41_13, d41_15, d41_18, d41_19, d41_22, d41_23, d41_24, d41_27, d41_29, wo41, wm41, wr41, f2_11, f2_15, b8_60, b8_m6, hP, h0, h1, g1, g2, g3, hi]
  · rw [vSign, if_neg hr]
    simp only [vIn, Bool.and_eq_true, decide_eq_true_eq, ← Int32.not_lt] at hr
    rw [xK_d X 41 _ _ [] 30]
    by_cases g1 : i < 0
    · simp [xent, xsl, Value.category, xr_d, xr_0, xg_nx, xg_n, xg_o, xg_c, xth_s, xth_v, xth_ite, xth_n, xd_iconst, xd_bipush, xd_sipush, xd_lconst, xd_iload, xd_iload_n, xd_lload, xd_lload_n, xd_aload, xd_aload_n, xd_istore, xd_istore_n, xd_astore, xd_astore_n, xd_lstore, xd_lstore_n, xd_iadd, xd_isub, xd_imul, xd_iand, xd_ior, xd_ishl, xd_ishr, xd_ladd, xd_lsub, xd_lmul, xd_land, xd_lor, xd_idiv, xd_irem, xd_ldiv, xd_lrem, xd_ineg, xd_lneg, xd_lshl, xd_lshr, xd_lcmp, xd_i2l, xd_l2i, xd_dup_int, xd_dup_ref, xd_pop, xd_dup2, xd_goto, xd_ifC, xd_ifI, xd_getf, xd_putI, xd_putR, xd_iald, xd_ialdX, xd_bald, xd_iast, xd_bast, xd_aald, xd_aast, xd_alen, xd_alenX, xd_newI, xd_newZ, xd_newQ, xd_newO, xd_invS, xd_invV, xd_invI, xd_iret, xd_lret, xd_vret, xd_ldc, xd_ldc2, xd_iinc, xd_aret, xd_tsw, xd_lsw, xC_d, xld, xisI, xisL, xisA, xgo_ite, xjp, xcmp, xrt, xinv, xcall, xpop, xcat, xgf, xal, xas, xpf, xle, xaq, xbite, xbite2, xsto, xsto2, xst1, xst2, xkl, xtt, xnum, xi0, xzf, v3, List.getElem?_cons_zero, List.getElem?_cons_succ, List.set_cons_zero, List.set_cons_succ, d41_0, d41_1, d41_4, d41_5, d41_6, d41_9, d41_12, d41_13, d41_15, d41_18, d41_19, d41_22, d41_23, d41_24, d41_27, d41_29, wo41, wm41, wr41, f2_11, f2_15, b8_60, b8_m6, hP, h0, h1, g1]
    · by_cases g2 : σ 15 1 ≤ i
      · simp [xent, xsl, Value.category, xr_d, xr_0, xg_nx, xg_n, xg_o, xg_c, xth_s, xth_v, xth_ite, xth_n, xd_iconst, xd_bipush, xd_sipush, xd_lconst, xd_iload, xd_iload_n, xd_lload, xd_lload_n, xd_aload, xd_aload_n, xd_istore, xd_istore_n, xd_astore, xd_astore_n, xd_lstore, xd_lstore_n, xd_iadd, xd_isub, xd_imul, xd_iand, xd_ior, xd_ishl, xd_ishr, xd_ladd, xd_lsub, xd_lmul, xd_land, xd_lor, xd_idiv, xd_irem, xd_ldiv, xd_lrem, xd_ineg, xd_lneg, xd_lshl, xd_lshr, xd_lcmp, xd_i2l, xd_l2i, xd_dup_int, xd_dup_ref, xd_pop, xd_dup2, xd_goto, xd_ifC, xd_ifI, xd_getf, xd_putI, xd_putR, xd_iald, xd_ialdX, xd_bald, xd_iast, xd_bast, xd_aald, xd_aast, xd_alen, xd_alenX, xd_newI, xd_newZ, xd_newQ, xd_newO, xd_invS, xd_invV, xd_invI, xd_iret, xd_lret, xd_vret, xd_ldc, xd_ldc2, xd_iinc, xd_aret, xd_tsw, xd_lsw, xC_d, xld, xisI, xisL, xisA, xgo_ite, xjp, xcmp, xrt, xinv, xcall, xpop, xcat, xgf, xal, xas, xpf, xle, xaq, xbite, xbite2, xsto, xsto2, xst1, xst2, xkl, xtt, xnum, xi0, xzf, v3, List.getElem?_cons_zero, List.getElem?_cons_succ, List.set_cons_zero, List.set_cons_succ, d41_0, d41_1, d41_4, d41_5, d41_6, d41_9, d41_12, d41_13, d41_15, d41_18, d41_19, d41_22, d41_23, d41_24, d41_27, d41_29, wo41, wm41, wr41, f2_11, f2_15, b8_60, b8_m6, hP, h0, h1, g1, g2]
      · have g3 : 60 ≤ i := by
          simp only [← Int32.not_lt] at g2 ⊢
          intro q
          exact hr ⟨⟨g1, by simpa using g2⟩, q⟩
        simp [xent, xsl, Value.category, xr_d, xr_0, xg_nx, xg_n, xg_o, xg_c, xth_s, xth_v, xth_ite, xth_n, xd_iconst, xd_bipush, xd_sipush, xd_lconst, xd_iload, xd_iload_n, xd_lload, xd_lload_n, xd_aload, xd_aload_n, xd_istore, xd_istore_n, xd_astore, xd_astore_n, xd_lstore, xd_lstore_n, xd_iadd, xd_isub, xd_imul, xd_iand, xd_ior, xd_ishl, xd_ishr, xd_ladd, xd_lsub, xd_lmul, xd_land, xd_lor, xd_idiv, xd_irem, xd_ldiv, xd_lrem, xd_ineg, xd_lneg, xd_lshl, xd_lshr, xd_lcmp, xd_i2l, xd_l2i, xd_dup_int, xd_dup_ref, xd_pop, xd_dup2, xd_goto, xd_ifC, xd_ifI, xd_getf, xd_putI, xd_putR, xd_iald, xd_ialdX, xd_bald, xd_iast, xd_bast, xd_aald, xd_aast, xd_alen, xd_alenX, xd_newI, xd_newZ, xd_newQ, xd_newO, xd_invS, xd_invV, xd_invI, xd_iret, xd_lret, xd_vret, xd_ldc, xd_ldc2, xd_iinc, xd_aret, xd_tsw, xd_lsw, xC_d, xld, xisI, xisL, xisA, xgo_ite, xjp, xcmp, xrt, xinv, xcall, xpop, xcat, xgf, xal, xas, xpf, xle, xaq, xbite, xbite2, xsto, xsto2, xst1, xst2, xkl, xtt, xnum, xi0, xzf, v3, List.getElem?_cons_zero, List.getElem?_cons_succ, List.set_cons_zero, List.set_cons_succ, d41_0, d41_1, d41_4, d41_5, d41_6, d41_9, d41_12, d41_13, d41_15, d41_18, d41_19, d41_22, d41_23, d41_24, d41_27, d41_29, wo41, wm41, wr41, f2_11, f2_15, b8_60, b8_m6, hP, h0, h1, g1, g2, g3]
set_option maxRecDepth 100000 in
set_option maxHeartbeats 4000000 in
theorem k42 (X : xX) (sh : List (Nat × Nat × List Value)) (σ : Nat → Nat → Int32) (hp : xpad sh) (i : Int32) : xK X 42 [.ref 15, .int i] (sh, σ) = some (some (.int (xi (vLet σ i))), (sh, σ)) := by
  have hP := hp
  obtain ⟨h0, h1⟩ := hp
  rw [xK_d X 42 _ _ [] 90]
  simp [xent, xsl, Value.category, xr_d, xr_0, xg_nx, xg_n, xg_o, xg_c, xth_s, xth_v, xth_ite, xth_n, xd_iconst, xd_bipush, xd_sipush, xd_lconst, xd_iload, xd_iload_n, xd_lload, xd_lload_n, xd_aload, xd_aload_n, xd_istore, xd_istore_n, xd_astore, xd_astore_n, xd_lstore, xd_lstore_n, xd_iadd, xd_isub, xd_imul, xd_iand, xd_ior, xd_ishl, xd_ishr, xd_ladd, xd_lsub, xd_lmul, xd_land, xd_lor, xd_idiv, xd_irem, xd_ldiv, xd_lrem, xd_ineg, xd_lneg, xd_lshl, xd_lshr, xd_lcmp, xd_i2l, xd_l2i, xd_dup_int, xd_dup_ref, xd_pop, xd_dup2, xd_goto, xd_ifC, xd_ifI, xd_getf, xd_putI, xd_putR, xd_iald, xd_ialdX, xd_bald, xd_iast, xd_bast, xd_aald, xd_aast, xd_alen, xd_alenX, xd_newI, xd_newZ, xd_newQ, xd_newO, xd_invS, xd_invV, xd_invI, xd_iret, xd_lret, xd_vret, xd_ldc, xd_ldc2, xd_iinc, xd_aret, xd_tsw, xd_lsw, xC_d, xld, xisI, xisL, xisA, xgo_ite, xjp, xcmp, xrt, xinv, xcall, xpop, xcat, xgf, xal, xas, xpf, xle, xaq, xbite, xbite2, xsto, xsto2, xst1, xst2, xkl, xtt, xnum, xi0, xzf, v3, List.getElem?_cons_zero, List.getElem?_cons_succ, List.set_cons_zero, List.set_cons_succ, d42_0, d42_1, d42_2, d42_5, d42_7, d42_8, d42_11, wo42, wm42, wr42, m2_19, m2_23, r42_41, r42_88, wm41, wm88, wo41, b8_97, hP, h0, h1, k41, k88]
  unfold vLet
  cases h : xin (vSign σ i - 97) 8 <;> simp [xi]
set_option maxRecDepth 100000 in
set_option maxHeartbeats 4000000 in
theorem k45 (X : xX) (sh : List (Nat × Nat × List Value)) (σ : Nat → Nat → Int32) (hp : xpad sh) (i : Int32) : xK X 45 [.ref 15, .int i] (sh, σ) = some (some (.int (vSign σ i - 97)), (sh, σ)) := by
  have hP := hp
  obtain ⟨h0, h1⟩ := hp
  rw [xK_d X 45 _ _ [] 90]
  simp [xent, xsl, Value.category, xr_d, xr_0, xg_nx, xg_n, xg_o, xg_c, xth_s, xth_v, xth_ite, xth_n, xd_iconst, xd_bipush, xd_sipush, xd_lconst, xd_iload, xd_iload_n, xd_lload, xd_lload_n, xd_aload, xd_aload_n, xd_istore, xd_istore_n, xd_astore, xd_astore_n, xd_lstore, xd_lstore_n, xd_iadd, xd_isub, xd_imul, xd_iand, xd_ior, xd_ishl, xd_ishr, xd_ladd, xd_lsub, xd_lmul, xd_land, xd_lor, xd_idiv, xd_irem, xd_ldiv, xd_lrem, xd_ineg, xd_lneg, xd_lshl, xd_lshr, xd_lcmp, xd_i2l, xd_l2i, xd_dup_int, xd_dup_ref, xd_pop, xd_dup2, xd_goto, xd_ifC, xd_ifI, xd_getf, xd_putI, xd_putR, xd_iald, xd_ialdX, xd_bald, xd_iast, xd_bast, xd_aald, xd_aast, xd_alen, xd_alenX, xd_newI, xd_newZ, xd_newQ, xd_newO, xd_invS, xd_invV, xd_invI, xd_iret, xd_lret, xd_vret, xd_ldc, xd_ldc2, xd_iinc, xd_aret, xd_tsw, xd_lsw, xC_d, xld, xisI, xisL, xisA, xgo_ite, xjp, xcmp, xrt, xinv, xcall, xpop, xcat, xgf, xal, xas, xpf, xle, xaq, xbite, xbite2, xsto, xsto2, xst1, xst2, xkl, xtt, xnum, xi0, xzf, v3, List.getElem?_cons_zero, List.getElem?_cons_succ, List.set_cons_zero, List.set_cons_succ, d45_0, d45_1, d45_2, d45_5, d45_7, d45_8, wo45, wm45, wr45, m2_19, r45_41, wm41, wo41, b8_97, hP, h0, h1, k41]

set_option maxRecDepth 100000 in
set_option maxHeartbeats 4000000 in
theorem k46 (X : xX) (sh : List (Nat × Nat × List Value)) (σ : Nat → Nat → Int32) (hp : xpad sh) (i : Int32) : xK X 46 [.ref 15, .int i] (sh, σ) = some (some (.int (vSign σ (i + 2) - 97)), (sh, σ)) := by
  have hP := hp
  obtain ⟨h0, h1⟩ := hp
  rw [xK_d X 46 _ _ [] 90]
  simp [xent, xsl, Value.category, xr_d, xr_0, xg_nx, xg_n, xg_o, xg_c, xth_s, xth_v, xth_ite, xth_n, xd_iconst, xd_bipush, xd_sipush, xd_lconst, xd_iload, xd_iload_n, xd_lload, xd_lload_n, xd_aload, xd_aload_n, xd_istore, xd_istore_n, xd_astore, xd_astore_n, xd_lstore, xd_lstore_n, xd_iadd, xd_isub, xd_imul, xd_iand, xd_ior, xd_ishl, xd_ishr, xd_ladd, xd_lsub, xd_lmul, xd_land, xd_lor, xd_idiv, xd_irem, xd_ldiv, xd_lrem, xd_ineg, xd_lneg, xd_lshl, xd_lshr, xd_lcmp, xd_i2l, xd_l2i, xd_dup_int, xd_dup_ref, xd_pop, xd_dup2, xd_goto, xd_ifC, xd_ifI, xd_getf, xd_putI, xd_putR, xd_iald, xd_ialdX, xd_bald, xd_iast, xd_bast, xd_aald, xd_aast, xd_alen, xd_alenX, xd_newI, xd_newZ, xd_newQ, xd_newO, xd_invS, xd_invV, xd_invI, xd_iret, xd_lret, xd_vret, xd_ldc, xd_ldc2, xd_iinc, xd_aret, xd_tsw, xd_lsw, xC_d, xld, xisI, xisL, xisA, xgo_ite, xjp, xcmp, xrt, xinv, xcall, xpop, xcat, xgf, xal, xas, xpf, xle, xaq, xbite, xbite2, xsto, xsto2, xst1, xst2, xkl, xtt, xnum, xi0, xzf, v3, List.getElem?_cons_zero, List.getElem?_cons_succ, List.set_cons_zero, List.set_cons_succ, d46_0, d46_1, d46_2, d46_3, d46_4, d46_7, d46_9, d46_10, wo46, wm46, wr46, m2_19, r46_41, wm41, wo41, b8_97, hP, h0, h1, k41]

set_option maxRecDepth 100000 in
set_option maxHeartbeats 4000000 in
theorem k44 (X : xX) (sh : List (Nat × Nat × List Value)) (σ : Nat → Nat → Int32) (hp : xpad sh) (i : Int32) : xK X 44 [.ref 15, .int i] (sh, σ) = some (some (.int (vDeed σ i)), (sh, σ)) := by
  have hP := hp
  obtain ⟨h0, h1⟩ := hp
  rw [xK_d X 44 _ _ [] 90]
  simp [xent, xsl, Value.category, xr_d, xr_0, xg_nx, xg_n, xg_o, xg_c, xth_s, xth_v, xth_ite, xth_n, xd_iconst, xd_bipush, xd_sipush, xd_lconst, xd_iload, xd_iload_n, xd_lload, xd_lload_n, xd_aload, xd_aload_n, xd_istore, xd_istore_n, xd_astore, xd_astore_n, xd_lstore, xd_lstore_n, xd_iadd, xd_isub, xd_imul, xd_iand, xd_ior, xd_ishl, xd_ishr, xd_ladd, xd_lsub, xd_lmul, xd_land, xd_lor, xd_idiv, xd_irem, xd_ldiv, xd_lrem, xd_ineg, xd_lneg, xd_lshl, xd_lshr, xd_lcmp, xd_i2l, xd_l2i, xd_dup_int, xd_dup_ref, xd_pop, xd_dup2, xd_goto, xd_ifC, xd_ifI, xd_getf, xd_putI, xd_putR, xd_iald, xd_ialdX, xd_bald, xd_iast, xd_bast, xd_aald, xd_aast, xd_alen, xd_alenX, xd_newI, xd_newZ, xd_newQ, xd_newO, xd_invS, xd_invV, xd_invI, xd_iret, xd_lret, xd_vret, xd_ldc, xd_ldc2, xd_iinc, xd_aret, xd_tsw, xd_lsw, xC_d, xld, xisI, xisL, xisA, xgo_ite, xjp, xcmp, xrt, xinv, xcall, xpop, xcat, xgf, xal, xas, xpf, xle, xaq, xbite, xbite2, xsto, xsto2, xst1, xst2, xkl, xtt, xnum, xi0, xzf, v3, List.getElem?_cons_zero, List.getElem?_cons_succ, List.set_cons_zero, List.set_cons_succ, d44_0, d44_1, d44_2, d44_5, d44_7, d44_10, d44_12, d44_15, d44_16, d44_17, d44_18, d44_19, d44_22, wo44, wm44, wr44, m2_19, r44_41, wm41, wo41, b8_46, hP, h0, h1, k41]
  by_cases h : vSign σ i = 46 <;> simp [vDeed, h]
set_option maxRecDepth 100000 in
set_option maxHeartbeats 4000000 in
theorem k43 (X : xX) (sh : List (Nat × Nat × List Value)) (σ : Nat → Nat → Int32) (hp : xpad sh) (i : Int32) : xK X 43 [.ref 15, .int i] (sh, σ) = some (some (.int (vLen σ i)), (sh, σ)) := by
  have hP := hp
  obtain ⟨h0, h1⟩ := hp
  rw [xK_d X 43 _ _ [] 90]
  simp [xent, xsl, Value.category, xr_d, xr_0, xg_nx, xg_n, xg_o, xg_c, xth_s, xth_v, xth_ite, xth_n, xd_iconst, xd_bipush, xd_sipush, xd_lconst, xd_iload, xd_iload_n, xd_lload, xd_lload_n, xd_aload, xd_aload_n, xd_istore, xd_istore_n, xd_astore, xd_astore_n, xd_lstore, xd_lstore_n, xd_iadd, xd_isub, xd_imul, xd_iand, xd_ior, xd_ishl, xd_ishr, xd_ladd, xd_lsub, xd_lmul, xd_land, xd_lor, xd_idiv, xd_irem, xd_ldiv, xd_lrem, xd_ineg, xd_lneg, xd_lshl, xd_lshr, xd_lcmp, xd_i2l, xd_l2i, xd_dup_int, xd_dup_ref, xd_pop, xd_dup2, xd_goto, xd_ifC, xd_ifI, xd_getf, xd_putI, xd_putR, xd_iald, xd_ialdX, xd_bald, xd_iast, xd_bast, xd_aald, xd_aast, xd_alen, xd_alenX, xd_newI, xd_newZ, xd_newQ, xd_newO, xd_invS, xd_invV, xd_invI, xd_iret, xd_lret, xd_vret, xd_ldc, xd_ldc2, xd_iinc, xd_aret, xd_tsw, xd_lsw, xC_d, xld, xisI, xisL, xisA, xgo_ite, xjp, xcmp, xrt, xinv, xcall, xpop, xcat, xgf, xal, xas, xpf, xle, xaq, xbite, xbite2, xsto, xsto2, xst1, xst2, xkl, xtt, xnum, xi0, xzf, v3, List.getElem?_cons_zero, List.getElem?_cons_succ, List.set_cons_zero, List.set_cons_succ, d43_0, d43_1, d43_2, d43_5, d43_32, d43_33, d43_34, d43_35, d43_36, d43_37, wo43, wm43, wr43, m2_36, r43_44, wm44, wo44, hP, h0, h1, k44]
  unfold vLen
  clear hP h0 h1
  repeat' split
  all_goals simp_all
set_option maxRecDepth 100000 in
set_option maxHeartbeats 4000000 in
theorem g40 (X : xX) (sh : List (Nat × Nat × List Value)) (σ : Nat → Nat → Int32) (hp : xpad sh) (i s0 s1 : Int32) (b0 b2 : Bool) (e1 : xK X 41 [.ref 15, .int i] (sh, σ) = some (some (.int s0), (sh, σ))) (e2 : xK X 41 [.ref 15, .int (i + 1)] (sh, σ) = some (some (.int s1), (sh, σ))) (e3 : xK X 42 [.ref 15, .int i] (sh, σ) = some (some (.int (xi b0)), (sh, σ))) (e4 : xK X 42 [.ref 15, .int (i + 2)] (sh, σ) = some (some (.int (xi b2)), (sh, σ))) : xK X 40 [.ref 15, .int i] (sh, σ) = some (some (.int (if s0 = 46 then -6 else if b0 = true then (if s1.toInt = 33 ∨ s1.toInt = 35 ∨ s1.toInt = 43 ∨ s1.toInt = 45 then -6 else if s1.toInt = 37 then (if b2 = true then -6 else i + 2) else i + 1) else i)), (sh, σ)) := by
  have hP := hp
  obtain ⟨h0, h1⟩ := hp
  have x0 : xi false = 0 := rfl
  have x1 : xi true = 1 := rfl
  by_cases hs : s0 = 46
  · subst hs
    rw [xK_d X 40 _ _ [] 40]; simp [xent, xsl, Value.category, xr_d, xr_0, xg_nx, xg_n, xg_o, xg_c, xth_s, xth_v, xth_ite, xth_n, xd_iconst, xd_bipush, xd_sipush, xd_lconst, xd_iload, xd_iload_n, xd_lload, xd_lload_n, xd_aload, xd_aload_n, xd_istore, xd_istore_n, xd_astore, xd_astore_n, xd_lstore, xd_lstore_n, xd_iadd, xd_isub, xd_imul, xd_iand, xd_ior, xd_ishl, xd_ishr, xd_ladd, xd_lsub, xd_lmul, xd_land, xd_lor, xd_idiv, xd_irem, xd_ldiv, xd_lrem, xd_ineg, xd_lneg, xd_lshl, xd_lshr, xd_lcmp, xd_i2l, xd_l2i, xd_dup_int, xd_dup_ref, xd_pop, xd_dup2, xd_goto, xd_ifC, xd_ifI, xd_getf, xd_putI, xd_putR, xd_iald, xd_ialdX, xd_bald, xd_iast, xd_bast, xd_aald, xd_aast, xd_alen, xd_alenX, xd_newI, xd_newZ, xd_newQ, xd_newO, xd_invS, xd_invV, xd_invI, xd_iret, xd_lret, xd_vret, xd_ldc, xd_ldc2, xd_iinc, xd_aret, xd_tsw, xd_lsw, xC_d, xld, xisI, xisL, xisA, xgo_ite, xjp, xcmp, xrt, xinv, xcall, xpop, xcat, xgf, xal, xas, xpf, xle, xaq, xbite, xbite2, xsto, xsto2, xst1, xst2, xkl, xtt, xnum, xi0, xzf, v3, List.getElem?_cons_zero, List.getElem?_cons_succ, List.set_cons_zero, List.set_cons_succ, d40_0, d40_1, d40_2, d40_5, d40_7, d40_10, d40_12, d40_13, d40_14, d40_15, d40_18, d40_21, d40_22, d40_23, d40_24, d40_25, d40_26, d40_27, d40_30, d40_96, d40_98, d40_99, d40_100, d40_101, d40_102, d40_103, d40_106, d40_109, d40_111, d40_114, d40_115, d40_116, d40_117, d40_118, d40_119, d40_120, d40_121, wo40, wm40, wr40, m2_19, m2_33, r40_41, r40_42, wm41, wm42, wo41, wo42, b8_46, b8_m6, hP, h0, h1, e1]
  · cases b0
    · rw [x0] at e3
      rw [xK_d X 40 _ _ [] 40]; simp [xent, xsl, Value.category, xr_d, xr_0, xg_nx, xg_n, xg_o, xg_c, xth_s, xth_v, xth_ite, xth_n, xd_iconst, xd_bipush, xd_sipush, xd_lconst, xd_iload, xd_iload_n, xd_lload, xd_lload_n, xd_aload, xd_aload_n, xd_istore, xd_istore_n, xd_astore, xd_astore_n, xd_lstore, xd_lstore_n, xd_iadd, xd_isub, xd_imul, xd_iand, xd_ior, xd_ishl, xd_ishr, xd_ladd, xd_lsub, xd_lmul, xd_land, xd_lor, xd_idiv, xd_irem, xd_ldiv, xd_lrem, xd_ineg, xd_lneg, xd_lshl, xd_lshr, xd_lcmp, xd_i2l, xd_l2i, xd_dup_int, xd_dup_ref, xd_pop, xd_dup2, xd_goto, xd_ifC, xd_ifI, xd_getf, xd_putI, xd_putR, xd_iald, xd_ialdX, xd_bald, xd_iast, xd_bast, xd_aald, xd_aast, xd_alen, xd_alenX, xd_newI, xd_newZ, xd_newQ, xd_newO, xd_invS, xd_invV, xd_invI, xd_iret, xd_lret, xd_vret, xd_ldc, xd_ldc2, xd_iinc, xd_aret, xd_tsw, xd_lsw, xC_d, xld, xisI, xisL, xisA, xgo_ite, xjp, xcmp, xrt, xinv, xcall, xpop, xcat, xgf, xal, xas, xpf, xle, xaq, xbite, xbite2, xsto, xsto2, xst1, xst2, xkl, xtt, xnum, xi0, xzf, v3, List.getElem?_cons_zero, List.getElem?_cons_succ, List.set_cons_zero, List.set_cons_succ, d40_0, d40_1, d40_2, d40_5, d40_7, d40_10, d40_12, d40_13, d40_14, d40_15, d40_18, d40_21, d40_22, d40_23, d40_24, d40_25, d40_26, d40_27, d40_30, d40_96, d40_98, d40_99, d40_100, d40_101, d40_102, d40_103, d40_106, d40_109, d40_111, d40_114, d40_115, d40_116, d40_117, d40_118, d40_119, d40_120, d40_121, wo40, wm40, wr40, m2_19, m2_33, r40_41, r40_42, wm41, wm42, wo41, wo42, b8_46, b8_m6, hP, h0, h1, hs, e1, e3]
    · rw [x1] at e3
      cases b2
      · rw [x0] at e4
        rw [xK_d X 40 _ _ [] 40]; simp [xent, xsl, Value.category, xr_d, xr_0, xg_nx, xg_n, xg_o, xg_c, xth_s, xth_v, xth_ite, xth_n, xd_iconst, xd_bipush, xd_sipush, xd_lconst, xd_iload, xd_iload_n, xd_lload, xd_lload_n, xd_aload, xd_aload_n, xd_istore, xd_istore_n, xd_astore, xd_astore_n, xd_lstore, xd_lstore_n, xd_iadd, xd_isub, xd_imul, xd_iand, xd_ior, xd_ishl, xd_ishr, xd_ladd, xd_lsub, xd_lmul, xd_land, xd_lor, xd_idiv, xd_irem, xd_ldiv, xd_lrem, xd_ineg, xd_lneg, xd_lshl, xd_lshr, xd_lcmp, xd_i2l, xd_l2i, xd_dup_int, xd_dup_ref, xd_pop, xd_dup2, xd_goto, xd_ifC, xd_ifI, xd_getf, xd_putI, xd_putR, xd_iald, xd_ialdX, xd_bald, xd_iast, xd_bast, xd_aald, xd_aast, xd_alen, xd_alenX, xd_newI, xd_newZ, xd_newQ, xd_newO, xd_invS, xd_invV, xd_invI, xd_iret, xd_lret, xd_vret, xd_ldc, xd_ldc2, xd_iinc, xd_aret, xd_tsw, xd_lsw, xC_d, xld, xisI, xisL, xisA, xgo_ite, xjp, xcmp, xrt, xinv, xcall, xpop, xcat, xgf, xal, xas, xpf, xle, xaq, xbite, xbite2, xsto, xsto2, xst1, xst2, xkl, xtt, xnum, xi0, xzf, v3, List.getElem?_cons_zero, List.getElem?_cons_succ, List.set_cons_zero, List.set_cons_succ, d40_0, d40_1, d40_2, d40_5, d40_7, d40_10, d40_12, d40_13, d40_14, d40_15, d40_18, d40_21, d40_22, d40_23, d40_24, d40_25, d40_26, d40_27, d40_30, d40_96, d40_98, d40_99, d40_100, d40_101, d40_102, d40_103, d40_106, d40_109, d40_111, d40_114, d40_115, d40_116, d40_117, d40_118, d40_119, d40_120, d40_121, wo40, wm40, wr40, m2_19, m2_33, r40_41, r40_42, wm41, wm42, wo41, wo42, b8_46, b8_m6, hP, h0, h1, hs, e1, e2, e3, e4]
        clear hP h0 h1
        by_cases q33 : s1.toInt = 33
        · simp [q33]
        by_cases q34 : s1.toInt = 34
        · simp [q34]
        by_cases q35 : s1.toInt = 35
        · simp [q35]
        by_cases q36 : s1.toInt = 36
        · simp [q36]
        by_cases q37 : s1.toInt = 37
        · simp [q37]
        by_cases q38 : s1.toInt = 38
        · simp [q38]
        by_cases q39 : s1.toInt = 39
        · simp [q39]
        by_cases q40 : s1.toInt = 40
        · simp [q40]
        by_cases q41 : s1.toInt = 41
        · simp [q41]
        by_cases q42 : s1.toInt = 42
        · simp [q42]
        by_cases q43 : s1.toInt = 43
        · simp [q43]
        by_cases q44 : s1.toInt = 44
        · simp [q44]
        by_cases q45 : s1.toInt = 45
        · simp [q45]
        simp [q33, q34, q35, q36, q37, q38, q39, q40, q41, q42, q43, q44, q45]
      · rw [x1] at e4
        rw [xK_d X 40 _ _ [] 40]; simp [xent, xsl, Value.category, xr_d, xr_0, xg_nx, xg_n, xg_o, xg_c, xth_s, xth_v, xth_ite, xth_n, xd_iconst, xd_bipush, xd_sipush, xd_lconst, xd_iload, xd_iload_n, xd_lload, xd_lload_n, xd_aload, xd_aload_n, xd_istore, xd_istore_n, xd_astore, xd_astore_n, xd_lstore, xd_lstore_n, xd_iadd, xd_isub, xd_imul, xd_iand, xd_ior, xd_ishl, xd_ishr, xd_ladd, xd_lsub, xd_lmul, xd_land, xd_lor, xd_idiv, xd_irem, xd_ldiv, xd_lrem, xd_ineg, xd_lneg, xd_lshl, xd_lshr, xd_lcmp, xd_i2l, xd_l2i, xd_dup_int, xd_dup_ref, xd_pop, xd_dup2, xd_goto, xd_ifC, xd_ifI, xd_getf, xd_putI, xd_putR, xd_iald, xd_ialdX, xd_bald, xd_iast, xd_bast, xd_aald, xd_aast, xd_alen, xd_alenX, xd_newI, xd_newZ, xd_newQ, xd_newO, xd_invS, xd_invV, xd_invI, xd_iret, xd_lret, xd_vret, xd_ldc, xd_ldc2, xd_iinc, xd_aret, xd_tsw, xd_lsw, xC_d, xld, xisI, xisL, xisA, xgo_ite, xjp, xcmp, xrt, xinv, xcall, xpop, xcat, xgf, xal, xas, xpf, xle, xaq, xbite, xbite2, xsto, xsto2, xst1, xst2, xkl, xtt, xnum, xi0, xzf, v3, List.getElem?_cons_zero, List.getElem?_cons_succ, List.set_cons_zero, List.set_cons_succ, d40_0, d40_1, d40_2, d40_5, d40_7, d40_10, d40_12, d40_13, d40_14, d40_15, d40_18, d40_21, d40_22, d40_23, d40_24, d40_25, d40_26, d40_27, d40_30, d40_96, d40_98, d40_99, d40_100, d40_101, d40_102, d40_103, d40_106, d40_109, d40_111, d40_114, d40_115, d40_116, d40_117, d40_118, d40_119, d40_120, d40_121, wo40, wm40, wr40, m2_19, m2_33, r40_41, r40_42, wm41, wm42, wo41, wo42, b8_46, b8_m6, hP, h0, h1, hs, e1, e2, e3, e4]
        clear hP h0 h1
        by_cases q33 : s1.toInt = 33
        · simp [q33]
        by_cases q34 : s1.toInt = 34
        · simp [q34]
        by_cases q35 : s1.toInt = 35
        · simp [q35]
        by_cases q36 : s1.toInt = 36
        · simp [q36]
        by_cases q37 : s1.toInt = 37
        · simp [q37]
        by_cases q38 : s1.toInt = 38
        · simp [q38]
        by_cases q39 : s1.toInt = 39
        · simp [q39]
        by_cases q40 : s1.toInt = 40
        · simp [q40]
        by_cases q41 : s1.toInt = 41
        · simp [q41]
        by_cases q42 : s1.toInt = 42
        · simp [q42]
        by_cases q43 : s1.toInt = 43
        · simp [q43]
        by_cases q44 : s1.toInt = 44
        · simp [q44]
        by_cases q45 : s1.toInt = 45
        · simp [q45]
        simp [q33, q34, q35, q36, q37, q38, q39, q40, q41, q42, q43, q44, q45]
theorem k40 (X : xX) (sh : List (Nat × Nat × List Value)) (σ : Nat → Nat → Int32) (hp : xpad sh) (i : Int32) : xK X 40 [.ref 15, .int i] (sh, σ) = some (some (.int (vFA σ i)), (sh, σ)) := g40 X sh σ hp i _ _ _ _ (k41 X sh σ hp i) (k41 X sh σ hp (i + 1)) (k42 X sh σ hp i) (k42 X sh σ hp (i + 2))
def vFF (σ : Nat → Nat → Int32) : Nat → Int32 → Int32
  | 0, _ => -6
  | f + 1, i => if i < σ 15 1 then (if vFA σ i = -6 then vFF σ f (i + vLen σ i) else vFA σ i) else -6
set_option maxRecDepth 100000 in
set_option maxHeartbeats 4000000 in
theorem i39 (X : xX) (sh : List (Nat × Nat × List Value)) (σ : Nat → Nat → Int32) (hp : xpad sh) (a : Int32) (r : Nat) (v : Value) (hr : r < 60) : xV X 39 (4, [.ref 15, .int a, .int (nI r), v], [], (sh, σ)) = if a < σ 15 1 then (if vFA σ a = -6 then xV X 39 (4, [.ref 15, .int (a + vLen σ a), .int (nI (r + 1)), .int (-6)], [], (sh, σ)) else some (some (.int (vFA σ a)), (sh, σ))) else some (some (.int (-6)), (sh, σ)) := by
  have hP := hp
  obtain ⟨h0, h1⟩ := hp
  have g1 : ¬ 60 ≤ nI r := nI_lt' (a := r) (b := 60) hr (by omega)
  rw [xV_d X 39 [4] 40]
  obtain ⟨fa, hfa⟩ : ∃ fa, fa = vFA σ a := ⟨_, rfl⟩
  obtain ⟨le, hle⟩ : ∃ le, le = vLen σ a := ⟨_, rfl⟩
  have e40 := k40 X sh σ hP a
  have e43 := k43 X sh σ hP a
  rw [← hfa] at e40 ⊢
  rw [← hle] at e43 ⊢
  clear hfa hle
  by_cases h2 : a < σ 15 1
  · have h2' : ¬ σ 15 1 ≤ a := Int32.not_le.mpr h2
    by_cases h3 : fa = -6
    · subst h3
      simp [xent, xsl, Value.category, xr_d, xr_0, xg_nx, xg_n, xg_o, xg_c, xth_s, xth_v, xth_ite, xth_n, xd_iconst, xd_bipush, xd_sipush, xd_lconst, xd_iload, xd_iload_n, xd_lload, xd_lload_n, xd_aload, xd_aload_n, xd_istore, xd_istore_n, xd_astore, xd_astore_n, xd_lstore, xd_lstore_n, xd_iadd, xd_isub, xd_imul, xd_iand, xd_ior, xd_ishl, xd_ishr, xd_ladd, xd_lsub, xd_lmul, xd_land, xd_lor, xd_idiv, xd_irem, xd_ldiv, xd_lrem, xd_ineg, xd_lneg, xd_lshl, xd_lshr, xd_lcmp, xd_i2l, xd_l2i, xd_dup_int, xd_dup_ref, xd_pop, xd_dup2, xd_goto, xd_ifC, xd_ifI, xd_getf, xd_putI, xd_putR, xd_iald, xd_ialdX, xd_bald, xd_iast, xd_bast, xd_aald, xd_aast, xd_alen, xd_alenX, xd_newI, xd_newZ, xd_newQ, xd_newO, xd_invS, xd_invV, xd_invI, xd_iret, xd_lret, xd_vret, xd_ldc, xd_ldc2, xd_iinc, xd_aret, xd_tsw, xd_lsw, xC_d, xld, xisI, xisL, xisA, xgo_ite, xjp, xcmp, xrt, xinv, xcall, xpop, xcat, xgf, xal, xas, xpf, xle, xaq, xbite, xbite2, xsto, xsto2, xst1, xst2, xkl, xtt, xnum, xi0, xzf, v3, List.getElem?_cons_zero, List.getElem?_cons_succ, List.set_cons_zero, List.set_cons_succ, d39_0, d39_1, d39_2, d39_3, d39_4, d39_5, d39_7, d39_10, d39_11, d39_12, d39_15, d39_18, d39_19, d39_20, d39_23, d39_24, d39_25, d39_27, d39_30, d39_31, d39_32, d39_33, d39_34, d39_35, d39_38, d39_39, d39_40, d39_43, d39_46, d39_48, wo39, wm39, wr39, f2_15, m2_27, m2_30, r39_40, r39_43, wm40, wm43, wo40, wo43, b8_60, b8_m6, hP, h0, h1, g1, h2, h2', e40, e43, nI_1]
    · simp [xent, xsl, Value.category, xr_d, xr_0, xg_nx, xg_n, xg_o, xg_c, xth_s, xth_v, xth_ite, xth_n, xd_iconst, xd_bipush, xd_sipush, xd_lconst, xd_iload, xd_iload_n, xd_lload, xd_lload_n, xd_aload, xd_aload_n, xd_istore, xd_istore_n, xd_astore, xd_astore_n, xd_lstore, xd_lstore_n, xd_iadd, xd_isub, xd_imul, xd_iand, xd_ior, xd_ishl, xd_ishr, xd_ladd, xd_lsub, xd_lmul, xd_land, xd_lor, xd_idiv, xd_irem, xd_ldiv, xd_lrem, xd_ineg, xd_lneg, xd_lshl, xd_lshr, xd_lcmp, xd_i2l, xd_l2i, xd_dup_int, xd_dup_ref, xd_pop, xd_dup2, xd_goto, xd_ifC, xd_ifI, xd_getf, xd_putI, xd_putR, xd_iald, xd_ialdX, xd_bald, xd_iast, xd_bast, xd_aald, xd_aast, xd_alen, xd_alenX, xd_newI, xd_newZ, xd_newQ, xd_newO, xd_invS, xd_invV, xd_invI, xd_iret, xd_lret, xd_vret, xd_ldc, xd_ldc2, xd_iinc, xd_aret, xd_tsw, xd_lsw, xC_d, xld, xisI, xisL, xisA, xgo_ite, xjp, xcmp, xrt, xinv, xcall, xpop, xcat, xgf, xal, xas, xpf, xle, xaq, xbite, xbite2, xsto, xsto2, xst1, xst2, xkl, xtt, xnum, xi0, xzf, v3, List.getElem?_cons_zero, List.getElem?_cons_succ, List.set_cons_zero, List.set_cons_succ, d39_0, d39_1, d39_2, d39_3, d39_4, d39_5, d39_7, d39_10, d39_11, d39_12, d39_15, d39_18, d39_19, d39_20, d39_23, d39_24, d39_25, d39_27, d39_30, d39_31, d39_32, d39_33, d39_34, d39_35, d39_38, d39_39, d39_40, d39_43, d39_46, d39_48, wo39, wm39, wr39, f2_15, m2_27, m2_30, r39_40, r39_43, wm40, wm43, wo40, wo43, b8_60, b8_m6, hP, h0, h1, g1, h2, h2', h3, e40, e43, nI_1]
  · have h2' : σ 15 1 ≤ a := Int32.not_lt.mp h2
    simp [xent, xsl, Value.category, xr_d, xr_0, xg_nx, xg_n, xg_o, xg_c, xth_s, xth_v, xth_ite, xth_n, xd_iconst, xd_bipush, xd_sipush, xd_lconst, xd_iload, xd_iload_n, xd_lload, xd_lload_n, xd_aload, xd_aload_n, xd_istore, xd_istore_n, xd_astore, xd_astore_n, xd_lstore, xd_lstore_n, xd_iadd, xd_isub, xd_imul, xd_iand, xd_ior, xd_ishl, xd_ishr, xd_ladd, xd_lsub, xd_lmul, xd_land, xd_lor, xd_idiv, xd_irem, xd_ldiv, xd_lrem, xd_ineg, xd_lneg, xd_lshl, xd_lshr, xd_lcmp, xd_i2l, xd_l2i, xd_dup_int, xd_dup_ref, xd_pop, xd_dup2, xd_goto, xd_ifC, xd_ifI, xd_getf, xd_putI, xd_putR, xd_iald, xd_ialdX, xd_bald, xd_iast, xd_bast, xd_aald, xd_aast, xd_alen, xd_alenX, xd_newI, xd_newZ, xd_newQ, xd_newO, xd_invS, xd_invV, xd_invI, xd_iret, xd_lret, xd_vret, xd_ldc, xd_ldc2, xd_iinc, xd_aret, xd_tsw, xd_lsw, xC_d, xld, xisI, xisL, xisA, xgo_ite, xjp, xcmp, xrt, xinv, xcall, xpop, xcat, xgf, xal, xas, xpf, xle, xaq, xbite, xbite2, xsto, xsto2, xst1, xst2, xkl, xtt, xnum, xi0, xzf, v3, List.getElem?_cons_zero, List.getElem?_cons_succ, List.set_cons_zero, List.set_cons_succ, d39_0, d39_1, d39_2, d39_3, d39_4, d39_5, d39_7, d39_10, d39_11, d39_12, d39_15, d39_18, d39_19, d39_20, d39_23, d39_24, d39_25, d39_27, d39_30, d39_31, d39_32, d39_33, d39_34, d39_35, d39_38, d39_39, d39_40, d39_43, d39_46, d39_48, wo39, wm39, wr39, f2_15, m2_27, m2_30, r39_40, r39_43, wm40, wm43, wo40, wo43, b8_60, b8_m6, hP, h0, h1, g1, h2, h2']
set_option maxRecDepth 100000 in
set_option maxHeartbeats 4000000 in
theorem x39 (X : xX) (sh : List (Nat × Nat × List Value)) (σ : Nat → Nat → Int32) (hp : xpad sh) (a : Int32) (v : Value) : xV X 39 (4, [.ref 15, .int a, .int (nI 60), v], [], (sh, σ)) = some (some (.int (-6)), (sh, σ)) := by
  have hP := hp
  obtain ⟨h0, h1⟩ := hp
  have g1 : 60 ≤ nI 60 := nI_le' (a := 60) (b := 60) (by omega) (by omega)
  rw [xV_d X 39 [4] 40]
  simp [xent, xsl, Value.category, xr_d, xr_0, xg_nx, xg_n, xg_o, xg_c, xth_s, xth_v, xth_ite, xth_n, xd_iconst, xd_bipush, xd_sipush, xd_lconst, xd_iload, xd_iload_n, xd_lload, xd_lload_n, xd_aload, xd_aload_n, xd_istore, xd_istore_n, xd_astore, xd_astore_n, xd_lstore, xd_lstore_n, xd_iadd, xd_isub, xd_imul, xd_iand, xd_ior, xd_ishl, xd_ishr, xd_ladd, xd_lsub, xd_lmul, xd_land, xd_lor, xd_idiv, xd_irem, xd_ldiv, xd_lrem, xd_ineg, xd_lneg, xd_lshl, xd_lshr, xd_lcmp, xd_i2l, xd_l2i, xd_dup_int, xd_dup_ref, xd_pop, xd_dup2, xd_goto, xd_ifC, xd_ifI, xd_getf, xd_putI, xd_putR, xd_iald, xd_ialdX, xd_bald, xd_iast, xd_bast, xd_aald, xd_aast, xd_alen, xd_alenX, xd_newI, xd_newZ, xd_newQ, xd_newO, xd_invS, xd_invV, xd_invI, xd_iret, xd_lret, xd_vret, xd_ldc, xd_ldc2, xd_iinc, xd_aret, xd_tsw, xd_lsw, xC_d, xld, xisI, xisL, xisA, xgo_ite, xjp, xcmp, xrt, xinv, xcall, xpop, xcat, xgf, xal, xas, xpf, xle, xaq, xbite, xbite2, xsto, xsto2, xst1, xst2, xkl, xtt, xnum, xi0, xzf, v3, List.getElem?_cons_zero, List.getElem?_cons_succ, List.set_cons_zero, List.set_cons_succ, d39_0, d39_1, d39_2, d39_3, d39_4, d39_5, d39_7, d39_10, d39_11, d39_12, d39_15, d39_18, d39_19, d39_20, d39_23, d39_24, d39_25, d39_27, d39_30, d39_31, d39_32, d39_33, d39_34, d39_35, d39_38, d39_39, d39_40, d39_43, d39_46, d39_48, wo39, wm39, wr39, f2_15, m2_27, m2_30, r39_40, r39_43, wm40, wm43, wo40, wo43, b8_60, b8_m6, hP, h0, h1, g1]
theorem l39 (X : xX) (sh : List (Nat × Nat × List Value)) (σ : Nat → Nat → Int32) (hp : xpad sh) : ∀ d r a v, r + d = 60 → xV X 39 (4, [.ref 15, .int a, .int (nI r), v], [], (sh, σ)) = some (some (.int (vFF σ d a)), (sh, σ))
  | 0, r, a, v, h => by
    have e : r = 60 := by omega
    subst e
    exact x39 X sh σ hp a v
  | d + 1, r, a, v, h => by
    rw [i39 X sh σ hp a r v (by omega), l39 X sh σ hp d (r + 1) _ _ (by omega), vFF]
    by_cases h1 : a < σ 15 1
    · by_cases h2 : vFA σ a = -6 <;> simp [h1, h2]
    · simp [h1]
set_option maxRecDepth 100000 in
set_option maxHeartbeats 4000000 in
theorem k39 (X : xX) (sh : List (Nat × Nat × List Value)) (σ : Nat → Nat → Int32) (hp : xpad sh)  : xK X 39 [.ref 15] (sh, σ) = some (some (.int (vFF σ 60 0)), (sh, σ)) := by
  have hP := hp
  obtain ⟨h0, h1⟩ := hp
  rw [xK_d X 39 _ _ [4] 20]
  simp [xent, xsl, Value.category, xr_d, xr_0, xg_nx, xg_n, xg_o, xg_c, xth_s, xth_v, xth_ite, xth_n, xd_iconst, xd_bipush, xd_sipush, xd_lconst, xd_iload, xd_iload_n, xd_lload, xd_lload_n, xd_aload, xd_aload_n, xd_istore, xd_istore_n, xd_astore, xd_astore_n, xd_lstore, xd_lstore_n, xd_iadd, xd_isub, xd_imul, xd_iand, xd_ior, xd_ishl, xd_ishr, xd_ladd, xd_lsub, xd_lmul, xd_land, xd_lor, xd_idiv, xd_irem, xd_ldiv, xd_lrem, xd_ineg, xd_lneg, xd_lshl, xd_lshr, xd_lcmp, xd_i2l, xd_l2i, xd_dup_int, xd_dup_ref, xd_pop, xd_dup2, xd_goto, xd_ifC, xd_ifI, xd_getf, xd_putI, xd_putR, xd_iald, xd_ialdX, xd_bald, xd_iast, xd_bast, xd_aald, xd_aast, xd_alen, xd_alenX, xd_newI, xd_newZ, xd_newQ, xd_newO, xd_invS, xd_invV, xd_invI, xd_iret, xd_lret, xd_vret, xd_ldc, xd_ldc2, xd_iinc, xd_aret, xd_tsw, xd_lsw, xC_d, xld, xisI, xisL, xisA, xgo_ite, xjp, xcmp, xrt, xinv, xcall, xpop, xcat, xgf, xal, xas, xpf, xle, xaq, xbite, xbite2, xsto, xsto2, xst1, xst2, xkl, xtt, xnum, xi0, xzf, v3, List.getElem?_cons_zero, List.getElem?_cons_succ, List.set_cons_zero, List.set_cons_succ, d39_0, d39_1, d39_2, d39_3, d39_4, d39_5, d39_7, d39_10, d39_11, d39_12, d39_15, d39_18, d39_19, d39_20, d39_23, d39_24, d39_25, d39_27, d39_30, d39_31, d39_32, d39_33, d39_34, d39_35, d39_38, d39_39, d39_40, d39_43, d39_46, d39_48, wo39, wm39, wr39, f2_15, m2_27, m2_30, r39_40, r39_43, wm40, wm43, wo40, wo43, b8_60, b8_m6, hP, h0, h1]
  have h := l39 X sh σ hP 60 0 0 (.float 0) (by omega)
  rw [nI_0] at h
  exact h
