def vKx (code t : Int32) : Int32 := code / 100 + (code - code / 100 * 100 - 50) * t
def vKm (x : Int32) : Int32 := if 99 < x then 99 else x
def vKy (x : Int32) : Int32 := (if vKm x < -99 then -99 else vKm x) + 99
theorem vKm_i (x : Int32) : (vKm x).toInt ≤ 99 := by
  unfold vKm
  by_cases h : 99 < x
  · rw [if_pos h, q_99]; omega
  · rw [if_neg h]; rw [ti_lt, q_99] at h; omega
theorem vKy_i (x : Int32) : xin (vKy x) 199 = true := by
  have a := vKm_i x
  unfold vKy
  rw [ti_in]
  by_cases h : vKm x < -99
  · rw [if_pos h]; decide
  · rw [if_neg h]
    rw [ti_lt, q_m99] at h
    rw [ti_add (by rw [q_99]; omega) (by rw [q_99]; omega), q_99]
    omega
def vCn (t : Int32) : Nat → Nat → (Nat → Nat → Int32) → Nat → Nat → Int32
  | 0, _, G => G
  | d + 1, i, G => if nI i < G 0 2 then vCn t d (i + 1) (xup G 2 (vKy (vKx (G 1 i) t)).toNatClampNeg (G 2 (vKy (vKx (G 1 i) t)).toNatClampNeg + 1)) else G
def vCt (t : Int32) (G : Nat → Nat → Int32) : Nat → Nat → Int32 := vCn t 589 0 (xfil G 2 199 0)
theorem xput_fil38 {σ G : Nat → Nat → Int32} : xfil (xput 3 σ 36 G) 38 199 0 = xput 3 σ 36 (xfil G 2 199 0) := xput_fil (c := 36) (k := 2) (by omega)
set_option maxRecDepth 100000 in
set_option maxHeartbeats 4000000 in
theorem g74 (X : xX) (sh : List (Nat × Nat × List Value)) (σ G : Nat → Nat → Int32) (hc : xsrc sh) (t x m y : Int32) (i : Nat) (u3 u4 u5 u6 : Value) (hi : i < 589) (hx : G 1 i / 100 + (G 1 i - G 1 i / 100 * 100 - 50) * t = x) (hm : (if 99 < x then 99 else x) = m) (hy : (if m < -99 then -99 else m) + 99 = y) (hin : xin y 199 = true) (hl : nI i < G 0 2) : xV X 74 (10, [.ref 36, .int t, .int (nI i), u3, u4, u5, u6], [], (sh, xput 3 σ 36 G)) = xV X 74 (10, [.ref 36, .int t, .int (nI (i + 1)), .int (G 1 i / 100), .int (G 1 i - G 1 i / 100 * 100 - 50), .int m, .int y], [], (sh, xput 3 σ 36 (xup G 2 y.toNatClampNeg (G 2 y.toNatClampNeg + 1)))) := by
  have hC := hc
  obtain ⟨h0, h1, h2, h17⟩ := hc
  have hl' : ¬ G 0 2 ≤ nI i := Int32.not_le.mpr hl
  have g1 : ¬ 589 ≤ nI i := nI_lt' (a := i) (b := 589) hi (by omega)
  have g2 : xin (nI i) 589 = true := by rw [xin_nI (by omega)]; simp [hi]
  have g3 := nI_cl (n := i) (by omega)
  rw [xV_d X 74 [10] 60]
  simp [xent, xsl, Value.category, xr_d, xr_0, xg_nx, xg_n, xg_o, xg_c, xth_s, xth_v, xth_ite, xth_n, xd_iconst, xd_bipush, xd_sipush, xd_lconst, xd_iload, xd_iload_n, xd_lload, xd_lload_n, xd_aload, xd_aload_n, xd_istore, xd_istore_n, xd_astore, xd_astore_n, xd_lstore, xd_lstore_n, xd_iadd, xd_isub, xd_imul, xd_iand, xd_ior, xd_ishl, xd_ishr, xd_ladd, xd_lsub, xd_lmul, xd_land, xd_lor, xd_idiv, xd_irem, xd_ldiv, xd_lrem, xd_ineg, xd_lneg, xd_lshl, xd_lshr, xd_lcmp, xd_i2l, xd_l2i, xd_dup_int, xd_dup_ref, xd_pop, xd_dup2, xd_goto, xd_ifC, xd_ifI, xd_getf, xd_putI, xd_putR, xd_iald, xd_ialdX, xd_bald, xd_iast, xd_bast, xd_aald, xd_aast, xd_alen, xd_alenX, xd_newI, xd_newZ, xd_newQ, xd_newO, xd_invS, xd_invV, xd_invI, xd_iret, xd_lret, xd_vret, xd_ldc, xd_ldc2, xd_iinc, xd_aret, xd_tsw, xd_lsw, xC_d, xld, xisI, xisL, xisA, xgo_ite, xjp, xcmp, xrt, xinv, xcall, xpop, xcat, xgf, xal, xas, xpf, xle, xaq, xbite, xbite2, xsto, xsto2, xst1, xst2, xkl, xtt, xnum, xi0, xzf, v3, List.getElem?_cons_zero, List.getElem?_cons_succ, List.set_cons_zero, List.set_cons_succ, d74_0, d74_1, d74_4, d74_5, d74_8, d74_9, d74_10, d74_11, d74_12, d74_15, d74_18, d74_19, d74_22, d74_25, d74_26, d74_29, d74_30, d74_31, d74_33, d74_34, d74_35, d74_36, d74_39, d74_40, d74_41, d74_43, d74_44, d74_46, d74_47, d74_49, d74_50, d74_52, d74_53, d74_54, d74_55, d74_57, d74_60, d74_62, d74_64, d74_66, d74_69, d74_71, d74_72, d74_74, d74_75, d74_78, d74_80, d74_81, d74_82, d74_83, d74_84, d74_85, d74_88, d74_91, wo74, wm74, wr74, f5_11, f5_17, f5_20, m5_38, m5_44, m5_50, qf74, ql74, r74_187, wm187, b16_589, b8_100, b8_50, b8_99, b8_m99, hC, h0, h1, h2, p36, p37, p38, r36, r37, r38, hl', g1, g2, g3, hx, hm, hy, hin, nI_1]
set_option maxRecDepth 100000 in
set_option maxHeartbeats 4000000 in
theorem x74 (X : xX) (sh : List (Nat × Nat × List Value)) (σ G : Nat → Nat → Int32) (hc : xsrc sh) (t : Int32) (i : Nat) (u3 u4 u5 u6 : Value) (hl : ¬ nI i < G 0 2 ∨ i = 589) : xV X 74 (10, [.ref 36, .int t, .int (nI i), u3, u4, u5, u6], [], (sh, xput 3 σ 36 G)) = some (none, (sh, xput 3 σ 36 G)) := by
  have hC := hc
  obtain ⟨h0, h1, h2, h17⟩ := hc
  rw [xV_d X 74 [10] 60]
  by_cases h : nI i < G 0 2
  · have h' : ¬ G 0 2 ≤ nI i := Int32.not_le.mpr h
    have e : i = 589 := by
      rcases hl with hl | hl
      · exact absurd h hl
      · exact hl
    have g1 : 589 ≤ nI i := nI_le' (a := 589) (b := i) (by omega) (by omega)
    simp [xent, xsl, Value.category, xr_d, xr_0, xg_nx, xg_n, xg_o, xg_c, xth_s, xth_v, xth_ite, xth_n, xd_iconst, xd_bipush, xd_sipush, xd_lconst, xd_iload, xd_iload_n, xd_lload, xd_lload_n, xd_aload, xd_aload_n, xd_istore, xd_istore_n, xd_astore, xd_astore_n, xd_lstore, xd_lstore_n, xd_iadd, xd_isub, xd_imul, xd_iand, xd_ior, xd_ishl, xd_ishr, xd_ladd, xd_lsub, xd_lmul, xd_land, xd_lor, xd_idiv, xd_irem, xd_ldiv, xd_lrem, xd_ineg, xd_lneg, xd_lshl, xd_lshr, xd_lcmp, xd_i2l, xd_l2i, xd_dup_int, xd_dup_ref, xd_pop, xd_dup2, xd_goto, xd_ifC, xd_ifI, xd_getf, xd_putI, xd_putR, xd_iald, xd_ialdX, xd_bald, xd_iast, xd_bast, xd_aald, xd_aast, xd_alen, xd_alenX, xd_newI, xd_newZ, xd_newQ, xd_newO, xd_invS, xd_invV, xd_invI, xd_iret, xd_lret, xd_vret, xd_ldc, xd_ldc2, xd_iinc, xd_aret, xd_tsw, xd_lsw, xC_d, xld, xisI, xisL, xisA, xgo_ite, xjp, xcmp, xrt, xinv, xcall, xpop, xcat, xgf, xal, xas, xpf, xle, xaq, xbite, xbite2, xsto, xsto2, xst1, xst2, xkl, xtt, xnum, xi0, xzf, v3, List.getElem?_cons_zero, List.getElem?_cons_succ, List.set_cons_zero, List.set_cons_succ, d74_0, d74_1, d74_4, d74_5, d74_8, d74_9, d74_10, d74_11, d74_12, d74_15, d74_18, d74_19, d74_22, d74_25, d74_26, d74_29, d74_30, d74_31, d74_33, d74_34, d74_35, d74_36, d74_39, d74_40, d74_41, d74_43, d74_44, d74_46, d74_47, d74_49, d74_50, d74_52, d74_53, d74_54, d74_55, d74_57, d74_60, d74_62, d74_64, d74_66, d74_69, d74_71, d74_72, d74_74, d74_75, d74_78, d74_80, d74_81, d74_82, d74_83, d74_84, d74_85, d74_88, d74_91, wo74, wm74, wr74, f5_11, f5_17, f5_20, m5_38, m5_44, m5_50, qf74, ql74, r74_187, wm187, b16_589, b8_100, b8_50, b8_99, b8_m99, hC, h0, h1, h2, p36, p37, p38, r36, r37, r38, h', g1]
  · have h' : G 0 2 ≤ nI i := Int32.not_lt.mp h
    simp [xent, xsl, Value.category, xr_d, xr_0, xg_nx, xg_n, xg_o, xg_c, xth_s, xth_v, xth_ite, xth_n, xd_iconst, xd_bipush, xd_sipush, xd_lconst, xd_iload, xd_iload_n, xd_lload, xd_lload_n, xd_aload, xd_aload_n, xd_istore, xd_istore_n, xd_astore, xd_astore_n, xd_lstore, xd_lstore_n, xd_iadd, xd_isub, xd_imul, xd_iand, xd_ior, xd_ishl, xd_ishr, xd_ladd, xd_lsub, xd_lmul, xd_land, xd_lor, xd_idiv, xd_irem, xd_ldiv, xd_lrem, xd_ineg, xd_lneg, xd_lshl, xd_lshr, xd_lcmp, xd_i2l, xd_l2i, xd_dup_int, xd_dup_ref, xd_pop, xd_dup2, xd_goto, xd_ifC, xd_ifI, xd_getf, xd_putI, xd_putR, xd_iald, xd_ialdX, xd_bald, xd_iast, xd_bast, xd_aald, xd_aast, xd_alen, xd_alenX, xd_newI, xd_newZ, xd_newQ, xd_newO, xd_invS, xd_invV, xd_invI, xd_iret, xd_lret, xd_vret, xd_ldc, xd_ldc2, xd_iinc, xd_aret, xd_tsw, xd_lsw, xC_d, xld, xisI, xisL, xisA, xgo_ite, xjp, xcmp, xrt, xinv, xcall, xpop, xcat, xgf, xal, xas, xpf, xle, xaq, xbite, xbite2, xsto, xsto2, xst1, xst2, xkl, xtt, xnum, xi0, xzf, v3, List.getElem?_cons_zero, List.getElem?_cons_succ, List.set_cons_zero, List.set_cons_succ, d74_0, d74_1, d74_4, d74_5, d74_8, d74_9, d74_10, d74_11, d74_12, d74_15, d74_18, d74_19, d74_22, d74_25, d74_26, d74_29, d74_30, d74_31, d74_33, d74_34, d74_35, d74_36, d74_39, d74_40, d74_41, d74_43, d74_44, d74_46, d74_47, d74_49, d74_50, d74_52, d74_53, d74_54, d74_55, d74_57, d74_60, d74_62, d74_64, d74_66, d74_69, d74_71, d74_72, d74_74, d74_75, d74_78, d74_80, d74_81, d74_82, d74_83, d74_84, d74_85, d74_88, d74_91, wo74, wm74, wr74, f5_11, f5_17, f5_20, m5_38, m5_44, m5_50, qf74, ql74, r74_187, wm187, b16_589, b8_100, b8_50, b8_99, b8_m99, hC, h0, h1, h2, p36, p37, p38, r36, r37, r38, h']
theorem l74 (X : xX) (sh : List (Nat × Nat × List Value)) (σ : Nat → Nat → Int32) (hc : xsrc sh) (t : Int32) : ∀ d i G u3 u4 u5 u6, i + d = 589 → xV X 74 (10, [.ref 36, .int t, .int (nI i), u3, u4, u5, u6], [], (sh, xput 3 σ 36 G)) = some (none, (sh, xput 3 σ 36 (vCn t d i G)))
  | 0, i, G, u3, u4, u5, u6, h => x74 X sh σ G hc t i u3 u4 u5 u6 (Or.inr (by omega))
  | d + 1, i, G, u3, u4, u5, u6, h => by
    rw [vCn]
    by_cases h1 : nI i < G 0 2
    · rw [if_pos h1, g74 X sh σ G hc t (vKx (G 1 i) t) (vKm (vKx (G 1 i) t)) (vKy (vKx (G 1 i) t)) i u3 u4 u5 u6 (by omega) rfl rfl rfl (vKy_i _) h1, l74 X sh σ hc t d (i + 1) _ _ _ _ _ (by omega)]
    · rw [if_neg h1]
      exact x74 X sh σ G hc t i u3 u4 u5 u6 (Or.inl h1)
set_option maxRecDepth 100000 in
set_option maxHeartbeats 4000000 in
theorem k74 (X : xX) (sh : List (Nat × Nat × List Value)) (σ G : Nat → Nat → Int32) (hc : xsrc sh) (t : Int32) : xK X 74 [.ref 36, .int t] (sh, xput 3 σ 36 G) = some (none, (sh, xput 3 σ 36 (vCt t G))) := by
  have hC := hc
  obtain ⟨h0, h1, h2, h17⟩ := hc
  have e187 := k187 X sh (xput 3 σ 36 G) 38 199 [] 0 h2 (by omega)
  rw [xput_fil38] at e187
  have el := l74 X sh σ hC t 589 0 (xfil G 2 199 0) (.float 0) (.float 0) (.float 0) (.float 0) (by omega)
  rw [nI_0] at el
  rw [xK_d X 74 _ _ [10] 90]; simp [xent, xsl, Value.category, xr_d, xr_0, xg_nx, xg_n, xg_o, xg_c, xth_s, xth_v, xth_ite, xth_n, xd_iconst, xd_bipush, xd_sipush, xd_lconst, xd_iload, xd_iload_n, xd_lload, xd_lload_n, xd_aload, xd_aload_n, xd_istore, xd_istore_n, xd_astore, xd_astore_n, xd_lstore, xd_lstore_n, xd_iadd, xd_isub, xd_imul, xd_iand, xd_ior, xd_ishl, xd_ishr, xd_ladd, xd_lsub, xd_lmul, xd_land, xd_lor, xd_idiv, xd_irem, xd_ldiv, xd_lrem, xd_ineg, xd_lneg, xd_lshl, xd_lshr, xd_lcmp, xd_i2l, xd_l2i, xd_dup_int, xd_dup_ref, xd_pop, xd_dup2, xd_goto, xd_ifC, xd_ifI, xd_getf, xd_putI, xd_putR, xd_iald, xd_ialdX, xd_bald, xd_iast, xd_bast, xd_aald, xd_aast, xd_alen, xd_alenX, xd_newI, xd_newZ, xd_newQ, xd_newO, xd_invS, xd_invV, xd_invI, xd_iret, xd_lret, xd_vret, xd_ldc, xd_ldc2, xd_iinc, xd_aret, xd_tsw, xd_lsw, xC_d, xld, xisI, xisL, xisA, xgo_ite, xjp, xcmp, xrt, xinv, xcall, xpop, xcat, xgf, xal, xas, xpf, xle, xaq, xbite, xbite2, xsto, xsto2, xst1, xst2, xkl, xtt, xnum, xi0, xzf, v3, List.getElem?_cons_zero, List.getElem?_cons_succ, List.set_cons_zero, List.set_cons_succ, d74_0, d74_1, d74_4, d74_5, d74_8, d74_9, d74_10, d74_11, d74_12, d74_15, d74_18, d74_19, d74_22, d74_25, d74_26, d74_29, d74_30, d74_31, d74_33, d74_34, d74_35, d74_36, d74_39, d74_40, d74_41, d74_43, d74_44, d74_46, d74_47, d74_49, d74_50, d74_52, d74_53, d74_54, d74_55, d74_57, d74_60, d74_62, d74_64, d74_66, d74_69, d74_71, d74_72, d74_74, d74_75, d74_78, d74_80, d74_81, d74_82, d74_83, d74_84, d74_85, d74_88, d74_91, wo74, wm74, wr74, f5_11, f5_17, f5_20, m5_38, m5_44, m5_50, qf74, ql74, r74_187, wm187, b16_589, b8_100, b8_50, b8_99, b8_m99, hC, h0, h1, h2, p36, p37, p38, r36, r37, r38, e187, el, vCt]
def vWw (al s : Int32) : Int32 := if al < s - al then s - al else al
def vWs (t : Int32) (i : Nat) (w : Int32) (G : Nat → Nat → Int32) : Nat → Nat → Int32 := if G 0 4 = -6 ∨ w < G 0 4 then xup (xup G 0 4 w) 0 3 (1000 * t + nI i - 99 + 500) else G
def vW1 (t : Int32) : Nat → Nat → Int32 → (Nat → Nat → Int32) → Nat → Nat → Int32
  | 0, _, _, G => G
  | d + 1, i, al, G => vW1 t d (i + 1) (al - G 2 i) (vWs t i (vWw al (G 0 2)) G)
def vW2 : Nat → Nat → (Nat → Nat → Int32) → Nat → Nat → Int32
  | 0, _, G => G
  | d + 1, t, G => if 0 < G 0 2 then vW2 d (t + 1) (vW1 (nI t) 199 0 (vCt (nI t) G 0 2) (vCt (nI t) G)) else G
def vWe (G : Nat → Nat → Int32) : Nat → Nat → Int32 := vW2 10 0 (xup (xup G 0 3 (-6)) 0 4 (-6))
theorem vWs_2 {t w : Int32} {i : Nat} {G : Nat → Nat → Int32} : vWs t i w G 2 = G 2 := by
  unfold vWs
  split
  · funext b; simp [xup]
  · rfl
set_option maxRecDepth 100000 in
set_option maxHeartbeats 4000000 in
theorem i73 (X : xX) (sh : List (Nat × Nat × List Value)) (σ G : Nat → Nat → Int32) (hc : xsrc sh) (al w : Int32) (t i : Nat) (u4 : Value) (hi : i < 199) (hw : (if al < G 0 2 - al then G 0 2 - al else al) = w) : xV X 73 (39, [.ref 36, .int (nI t), .int al, .int (nI i), u4], [], (sh, xput 3 σ 36 G)) = xV X 73 (39, [.ref 36, .int (nI t), .int (al - G 2 i), .int (nI (i + 1)), .int w], [], (sh, xput 3 σ 36 (vWs (nI t) i w G))) := by
  have hC := hc
  obtain ⟨h0, h1, h2, h17⟩ := hc
  have g1 : ¬ nI 199 ≤ nI i := nI_lt' (a := i) (b := 199) hi (by omega)
  have g2 : xin (nI i) 199 = true := by rw [xin_nI (by omega)]; simp [hi]
  have g3 := nI_cl (n := i) (by omega)
  rw [xV_d X 73 [39] 60, vWs]
  by_cases q : G 0 4 = -6
  · simp [xent, xsl, Value.category, xr_d, xr_0, xg_nx, xg_n, xg_o, xg_c, xth_s, xth_v, xth_ite, xth_n, xd_iconst, xd_bipush, xd_sipush, xd_lconst, xd_iload, xd_iload_n, xd_lload, xd_lload_n, xd_aload, xd_aload_n, xd_istore, xd_istore_n, xd_astore, xd_astore_n, xd_lstore, xd_lstore_n, xd_iadd, xd_isub, xd_imul, xd_iand, xd_ior, xd_ishl, xd_ishr, xd_ladd, xd_lsub, xd_lmul, xd_land, xd_lor, xd_idiv, xd_irem, xd_ldiv, xd_lrem, xd_ineg, xd_lneg, xd_lshl, xd_lshr, xd_lcmp, xd_i2l, xd_l2i, xd_dup_int, xd_dup_ref, xd_pop, xd_dup2, xd_goto, xd_ifC, xd_ifI, xd_getf, xd_putI, xd_putR, xd_iald, xd_ialdX, xd_bald, xd_iast, xd_bast, xd_aald, xd_aast, xd_alen, xd_alenX, xd_newI, xd_newZ, xd_newQ, xd_newO, xd_invS, xd_invV, xd_invI, xd_iret, xd_lret, xd_vret, xd_ldc, xd_ldc2, xd_iinc, xd_aret, xd_tsw, xd_lsw, xC_d, xld, xisI, xisL, xisA, xgo_ite, xjp, xcmp, xrt, xinv, xcall, xpop, xcat, xgf, xal, xas, xpf, xle, xaq, xbite, xbite2, xsto, xsto2, xst1, xst2, xkl, xtt, xnum, xi0, xzf, v3, List.getElem?_cons_zero, List.getElem?_cons_succ, List.set_cons_zero, List.set_cons_succ, d73_0, d73_1, d73_3, d73_6, d73_7, d73_9, d73_12, d73_13, d73_14, d73_15, d73_17, d73_20, d73_21, d73_24, d73_27, d73_28, d73_29, d73_32, d73_33, d73_36, d73_37, d73_38, d73_39, d73_40, d73_41, d73_44, d73_45, d73_48, d73_49, d73_50, d73_53, d73_54, d73_55, d73_58, d73_60, d73_61, d73_64, d73_66, d73_69, d73_71, d73_72, d73_75, d73_78, d73_79, d73_81, d73_84, d73_85, d73_88, d73_89, d73_90, d73_91, d73_92, d73_94, d73_95, d73_98, d73_99, d73_102, d73_103, d73_104, d73_107, d73_108, d73_109, d73_110, d73_111, d73_114, d73_117, d73_120, d73_123, wo73, wm73, wr73, f5_17, f5_20, f5_24, f5_27, m5_34, m5_38, qf73, ql73, r73_74, wm74, wo74, b16_1000, b16_500, b8_9, b8_99, b8_m6, hC, h0, h1, h2, p36, p37, p38, r36, r37, r38, g1, g2, g3, hw, q, nI_1, nI_d, xup]
  · by_cases q2 : w < G 0 4
    · have q2' : ¬ G 0 4 ≤ w := Int32.not_le.mpr q2
      simp [xent, xsl, Value.category, xr_d, xr_0, xg_nx, xg_n, xg_o, xg_c, xth_s, xth_v, xth_ite, xth_n, xd_iconst, xd_bipush, xd_sipush, xd_lconst, xd_iload, xd_iload_n, xd_lload, xd_lload_n, xd_aload, xd_aload_n, xd_istore, xd_istore_n, xd_astore, xd_astore_n, xd_lstore, xd_lstore_n, xd_iadd, xd_isub, xd_imul, xd_iand, xd_ior, xd_ishl, xd_ishr, xd_ladd, xd_lsub, xd_lmul, xd_land, xd_lor, xd_idiv, xd_irem, xd_ldiv, xd_lrem, xd_ineg, xd_lneg, xd_lshl, xd_lshr, xd_lcmp, xd_i2l, xd_l2i, xd_dup_int, xd_dup_ref, xd_pop, xd_dup2, xd_goto, xd_ifC, xd_ifI, xd_getf, xd_putI, xd_putR, xd_iald, xd_ialdX, xd_bald, xd_iast, xd_bast, xd_aald, xd_aast, xd_alen, xd_alenX, xd_newI, xd_newZ, xd_newQ, xd_newO, xd_invS, xd_invV, xd_invI, xd_iret, xd_lret, xd_vret, xd_ldc, xd_ldc2, xd_iinc, xd_aret, xd_tsw, xd_lsw, xC_d, xld, xisI, xisL, xisA, xgo_ite, xjp, xcmp, xrt, xinv, xcall, xpop, xcat, xgf, xal, xas, xpf, xle, xaq, xbite, xbite2, xsto, xsto2, xst1, xst2, xkl, xtt, xnum, xi0, xzf, v3, List.getElem?_cons_zero, List.getElem?_cons_succ, List.set_cons_zero, List.set_cons_succ, d73_0, d73_1, d73_3, d73_6, d73_7, d73_9, d73_12, d73_13, d73_14, d73_15, d73_17, d73_20, d73_21, d73_24, d73_27, d73_28, d73_29, d73_32, d73_33, d73_36, d73_37, d73_38, d73_39, d73_40, d73_41, d73_44, d73_45, d73_48, d73_49, d73_50, d73_53, d73_54, d73_55, d73_58, d73_60, d73_61, d73_64, d73_66, d73_69, d73_71, d73_72, d73_75, d73_78, d73_79, d73_81, d73_84, d73_85, d73_88, d73_89, d73_90, d73_91, d73_92, d73_94, d73_95, d73_98, d73_99, d73_102, d73_103, d73_104, d73_107, d73_108, d73_109, d73_110, d73_111, d73_114, d73_117, d73_120, d73_123, wo73, wm73, wr73, f5_17, f5_20, f5_24, f5_27, m5_34, m5_38, qf73, ql73, r73_74, wm74, wo74, b16_1000, b16_500, b8_9, b8_99, b8_m6, hC, h0, h1, h2, p36, p37, p38, r36, r37, r38, g1, g2, g3, hw, q, q2, q2', nI_1, nI_d, xup]
    · have q2' : G 0 4 ≤ w := Int32.not_lt.mp q2
      simp [xent, xsl, Value.category, xr_d, xr_0, xg_nx, xg_n, xg_o, xg_c, xth_s, xth_v, xth_ite, xth_n, xd_iconst, xd_bipush, xd_sipush, xd_lconst, xd_iload, xd_iload_n, xd_lload, xd_lload_n, xd_aload, xd_aload_n, xd_istore, xd_istore_n, xd_astore, xd_astore_n, xd_lstore, xd_lstore_n, xd_iadd, xd_isub, xd_imul, xd_iand, xd_ior, xd_ishl, xd_ishr, xd_ladd, xd_lsub, xd_lmul, xd_land, xd_lor, xd_idiv, xd_irem, xd_ldiv, xd_lrem, xd_ineg, xd_lneg, xd_lshl, xd_lshr, xd_lcmp, xd_i2l, xd_l2i, xd_dup_int, xd_dup_ref, xd_pop, xd_dup2, xd_goto, xd_ifC, xd_ifI, xd_getf, xd_putI, xd_putR, xd_iald, xd_ialdX, xd_bald, xd_iast, xd_bast, xd_aald, xd_aast, xd_alen, xd_alenX, xd_newI, xd_newZ, xd_newQ, xd_newO, xd_invS, xd_invV, xd_invI, xd_iret, xd_lret, xd_vret, xd_ldc, xd_ldc2, xd_iinc, xd_aret, xd_tsw, xd_lsw, xC_d, xld, xisI, xisL, xisA, xgo_ite, xjp, xcmp, xrt, xinv, xcall, xpop, xcat, xgf, xal, xas, xpf, xle, xaq, xbite, xbite2, xsto, xsto2, xst1, xst2, xkl, xtt, xnum, xi0, xzf, v3, List.getElem?_cons_zero, List.getElem?_cons_succ, List.set_cons_zero, List.set_cons_succ, d73_0, d73_1, d73_3, d73_6, d73_7, d73_9, d73_12, d73_13, d73_14, d73_15, d73_17, d73_20, d73_21, d73_24, d73_27, d73_28, d73_29, d73_32, d73_33, d73_36, d73_37, d73_38, d73_39, d73_40, d73_41, d73_44, d73_45, d73_48, d73_49, d73_50, d73_53, d73_54, d73_55, d73_58, d73_60, d73_61, d73_64, d73_66, d73_69, d73_71, d73_72, d73_75, d73_78, d73_79, d73_81, d73_84, d73_85, d73_88, d73_89, d73_90, d73_91, d73_92, d73_94, d73_95, d73_98, d73_99, d73_102, d73_103, d73_104, d73_107, d73_108, d73_109, d73_110, d73_111, d73_114, d73_117, d73_120, d73_123, wo73, wm73, wr73, f5_17, f5_20, f5_24, f5_27, m5_34, m5_38, qf73, ql73, r73_74, wm74, wo74, b16_1000, b16_500, b8_9, b8_99, b8_m6, hC, h0, h1, h2, p36, p37, p38, r36, r37, r38, g1, g2, g3, hw, q, q2, q2', nI_1, nI_d]
theorem l73 (X : xX) (sh : List (Nat × Nat × List Value)) (σ : Nat → Nat → Int32) (hc : xsrc sh) (t : Nat) : ∀ d i al G u4, i + d = 199 → ∃ al' u4', xV X 73 (39, [.ref 36, .int (nI t), .int al, .int (nI i), u4], [], (sh, xput 3 σ 36 G)) = xV X 73 (39, [.ref 36, .int (nI t), .int al', .int (nI 199), u4'], [], (sh, xput 3 σ 36 (vW1 (nI t) d i al G)))
  | 0, i, al, G, u4, h => by
    have e : i = 199 := by omega
    subst e
    exact ⟨al, u4, rfl⟩
  | d + 1, i, al, G, u4, h => by
    obtain ⟨al', u4', e⟩ := l73 X sh σ hc t d (i + 1) (al - G 2 i) (vWs (nI t) i (vWw al (G 0 2)) G) (.int (vWw al (G 0 2))) (by omega)
    refine ⟨al', u4', ?_⟩
    rw [i73 X sh σ G hc al (vWw al (G 0 2)) t i u4 (by omega) rfl, e, vW1]
set_option maxRecDepth 100000 in
set_option maxHeartbeats 4000000 in
theorem y73 (X : xX) (sh : List (Nat × Nat × List Value)) (σ G : Nat → Nat → Int32) (hc : xsrc sh) (t : Nat) (al : Int32) (u4 : Value) : xV X 73 (39, [.ref 36, .int (nI t), .int al, .int (nI 199), u4], [], (sh, xput 3 σ 36 G)) = xV X 73 (14, [.ref 36, .int (nI (t + 1)), .int al, .int (nI 199), u4], [], (sh, xput 3 σ 36 G)) := by
  have hC := hc
  obtain ⟨h0, h1, h2, h17⟩ := hc
  have g1 : nI 199 ≤ nI 199 := nI_le' (by omega) (by omega)
  rw [xV_d X 73 [39, 14] 60]
  simp [xent, xsl, Value.category, xr_d, xr_0, xg_nx, xg_n, xg_o, xg_c, xth_s, xth_v, xth_ite, xth_n, xd_iconst, xd_bipush, xd_sipush, xd_lconst, xd_iload, xd_iload_n, xd_lload, xd_lload_n, xd_aload, xd_aload_n, xd_istore, xd_istore_n, xd_astore, xd_astore_n, xd_lstore, xd_lstore_n, xd_iadd, xd_isub, xd_imul, xd_iand, xd_ior, xd_ishl, xd_ishr, xd_ladd, xd_lsub, xd_lmul, xd_land, xd_lor, xd_idiv, xd_irem, xd_ldiv, xd_lrem, xd_ineg, xd_lneg, xd_lshl, xd_lshr, xd_lcmp, xd_i2l, xd_l2i, xd_dup_int, xd_dup_ref, xd_pop, xd_dup2, xd_goto, xd_ifC, xd_ifI, xd_getf, xd_putI, xd_putR, xd_iald, xd_ialdX, xd_bald, xd_iast, xd_bast, xd_aald, xd_aast, xd_alen, xd_alenX, xd_newI, xd_newZ, xd_newQ, xd_newO, xd_invS, xd_invV, xd_invI, xd_iret, xd_lret, xd_vret, xd_ldc, xd_ldc2, xd_iinc, xd_aret, xd_tsw, xd_lsw, xC_d, xld, xisI, xisL, xisA, xgo_ite, xjp, xcmp, xrt, xinv, xcall, xpop, xcat, xgf, xal, xas, xpf, xle, xaq, xbite, xbite2, xsto, xsto2, xst1, xst2, xkl, xtt, xnum, xi0, xzf, v3, List.getElem?_cons_zero, List.getElem?_cons_succ, List.set_cons_zero, List.set_cons_succ, d73_0, d73_1, d73_3, d73_6, d73_7, d73_9, d73_12, d73_13, d73_14, d73_15, d73_17, d73_20, d73_21, d73_24, d73_27, d73_28, d73_29, d73_32, d73_33, d73_36, d73_37, d73_38, d73_39, d73_40, d73_41, d73_44, d73_45, d73_48, d73_49, d73_50, d73_53, d73_54, d73_55, d73_58, d73_60, d73_61, d73_64, d73_66, d73_69, d73_71, d73_72, d73_75, d73_78, d73_79, d73_81, d73_84, d73_85, d73_88, d73_89, d73_90, d73_91, d73_92, d73_94, d73_95, d73_98, d73_99, d73_102, d73_103, d73_104, d73_107, d73_108, d73_109, d73_110, d73_111, d73_114, d73_117, d73_120, d73_123, wo73, wm73, wr73, f5_17, f5_20, f5_24, f5_27, m5_34, m5_38, qf73, ql73, r73_74, wm74, wo74, b16_1000, b16_500, b8_9, b8_99, b8_m6, hC, h0, h1, h2, p36, p37, p38, r36, r37, r38, g1, nI_1, nI_d]
set_option maxRecDepth 100000 in
set_option maxHeartbeats 4000000 in
theorem z73 (X : xX) (sh : List (Nat × Nat × List Value)) (σ G : Nat → Nat → Int32) (hc : xsrc sh) (t : Nat) (u2 u3 u4 : Value) (ht : t < 10) (hs : 0 < G 0 2) : xV X 73 (14, [.ref 36, .int (nI t), u2, u3, u4], [], (sh, xput 3 σ 36 G)) = xV X 73 (39, [.ref 36, .int (nI t), .int (vCt (nI t) G 0 2), .int (nI 0), u4], [], (sh, xput 3 σ 36 (vCt (nI t) G))) := by
  have hC := hc
  obtain ⟨h0, h1, h2, h17⟩ := hc
  have g1 : ¬ 9 < nI t := by rw [ti_lt, q_9, ti_nI (by omega)]; omega
  have g2 : ¬ G 0 2 ≤ 0 := Int32.not_le.mpr hs
  have e74 := k74 X sh σ G hC (nI t)
  rw [xV_d X 73 [14, 39] 60]
  simp [xent, xsl, Value.category, xr_d, xr_0, xg_nx, xg_n, xg_o, xg_c, xth_s, xth_v, xth_ite, xth_n, xd_iconst, xd_bipush, xd_sipush, xd_lconst, xd_iload, xd_iload_n, xd_lload, xd_lload_n, xd_aload, xd_aload_n, xd_istore, xd_istore_n, xd_astore, xd_astore_n, xd_lstore, xd_lstore_n, xd_iadd, xd_isub, xd_imul, xd_iand, xd_ior, xd_ishl, xd_ishr, xd_ladd, xd_lsub, xd_lmul, xd_land, xd_lor, xd_idiv, xd_irem, xd_ldiv, xd_lrem, xd_ineg, xd_lneg, xd_lshl, xd_lshr, xd_lcmp, xd_i2l, xd_l2i, xd_dup_int, xd_dup_ref, xd_pop, xd_dup2, xd_goto, xd_ifC, xd_ifI, xd_getf, xd_putI, xd_putR, xd_iald, xd_ialdX, xd_bald, xd_iast, xd_bast, xd_aald, xd_aast, xd_alen, xd_alenX, xd_newI, xd_newZ, xd_newQ, xd_newO, xd_invS, xd_invV, xd_invI, xd_iret, xd_lret, xd_vret, xd_ldc, xd_ldc2, xd_iinc, xd_aret, xd_tsw, xd_lsw, xC_d, xld, xisI, xisL, xisA, xgo_ite, xjp, xcmp, xrt, xinv, xcall, xpop, xcat, xgf, xal, xas, xpf, xle, xaq, xbite, xbite2, xsto, xsto2, xst1, xst2, xkl, xtt, xnum, xi0, xzf, v3, List.getElem?_cons_zero, List.getElem?_cons_succ, List.set_cons_zero, List.set_cons_succ, d73_0, d73_1, d73_3, d73_6, d73_7, d73_9, d73_12, d73_13, d73_14, d73_15, d73_17, d73_20, d73_21, d73_24, d73_27, d73_28, d73_29, d73_32, d73_33, d73_36, d73_37, d73_38, d73_39, d73_40, d73_41, d73_44, d73_45, d73_48, d73_49, d73_50, d73_53, d73_54, d73_55, d73_58, d73_60, d73_61, d73_64, d73_66, d73_69, d73_71, d73_72, d73_75, d73_78, d73_79, d73_81, d73_84, d73_85, d73_88, d73_89, d73_90, d73_91, d73_92, d73_94, d73_95, d73_98, d73_99, d73_102, d73_103, d73_104, d73_107, d73_108, d73_109, d73_110, d73_111, d73_114, d73_117, d73_120, d73_123, wo73, wm73, wr73, f5_17, f5_20, f5_24, f5_27, m5_34, m5_38, qf73, ql73, r73_74, wm74, wo74, b16_1000, b16_500, b8_9, b8_99, b8_m6, hC, h0, h1, h2, p36, p37, p38, r36, r37, r38, g1, g2, e74, nI_0]
set_option maxRecDepth 100000 in
set_option maxHeartbeats 4000000 in
theorem x73 (X : xX) (sh : List (Nat × Nat × List Value)) (σ G : Nat → Nat → Int32) (hc : xsrc sh) (t : Nat) (u2 u3 u4 : Value) (ht : t ≤ 10) (hs : ¬ 0 < G 0 2 ∨ t = 10) : xV X 73 (14, [.ref 36, .int (nI t), u2, u3, u4], [], (sh, xput 3 σ 36 G)) = some (none, (sh, xput 3 σ 36 G)) := by
  have hC := hc
  obtain ⟨h0, h1, h2, h17⟩ := hc
  rw [xV_d X 73 [14] 60]
  by_cases h : t = 10
  · have g1 : 9 < nI t := by rw [ti_lt, q_9, ti_nI (by omega)]; omega
    simp [xent, xsl, Value.category, xr_d, xr_0, xg_nx, xg_n, xg_o, xg_c, xth_s, xth_v, xth_ite, xth_n, xd_iconst, xd_bipush, xd_sipush, xd_lconst, xd_iload, xd_iload_n, xd_lload, xd_lload_n, xd_aload, xd_aload_n, xd_istore, xd_istore_n, xd_astore, xd_astore_n, xd_lstore, xd_lstore_n, xd_iadd, xd_isub, xd_imul, xd_iand, xd_ior, xd_ishl, xd_ishr, xd_ladd, xd_lsub, xd_lmul, xd_land, xd_lor, xd_idiv, xd_irem, xd_ldiv, xd_lrem, xd_ineg, xd_lneg, xd_lshl, xd_lshr, xd_lcmp, xd_i2l, xd_l2i, xd_dup_int, xd_dup_ref, xd_pop, xd_dup2, xd_goto, xd_ifC, xd_ifI, xd_getf, xd_putI, xd_putR, xd_iald, xd_ialdX, xd_bald, xd_iast, xd_bast, xd_aald, xd_aast, xd_alen, xd_alenX, xd_newI, xd_newZ, xd_newQ, xd_newO, xd_invS, xd_invV, xd_invI, xd_iret, xd_lret, xd_vret, xd_ldc, xd_ldc2, xd_iinc, xd_aret, xd_tsw, xd_lsw, xC_d, xld, xisI, xisL, xisA, xgo_ite, xjp, xcmp, xrt, xinv, xcall, xpop, xcat, xgf, xal, xas, xpf, xle, xaq, xbite, xbite2, xsto, xsto2, xst1, xst2, xkl, xtt, xnum, xi0, xzf, v3, List.getElem?_cons_zero, List.getElem?_cons_succ, List.set_cons_zero, List.set_cons_succ, d73_0, d73_1, d73_3, d73_6, d73_7, d73_9, d73_12, d73_13, d73_14, d73_15, d73_17, d73_20, d73_21, d73_24, d73_27, d73_28, d73_29, d73_32, d73_33, d73_36, d73_37, d73_38, d73_39, d73_40, d73_41, d73_44, d73_45, d73_48, d73_49, d73_50, d73_53, d73_54, d73_55, d73_58, d73_60, d73_61, d73_64, d73_66, d73_69, d73_71, d73_72, d73_75, d73_78, d73_79, d73_81, d73_84, d73_85, d73_88, d73_89, d73_90, d73_91, d73_92, d73_94, d73_95, d73_98, d73_99, d73_102, d73_103, d73_104, d73_107, d73_108, d73_109, d73_110, d73_111, d73_114, d73_117, d73_120, d73_123, wo73, wm73, wr73, f5_17, f5_20, f5_24, f5_27, m5_34, m5_38, qf73, ql73, r73_74, wm74, wo74, b16_1000, b16_500, b8_9, b8_99, b8_m6, hC, h0, h1, h2, p36, p37, p38, r36, r37, r38, g1]
  · have g1 : ¬ 9 < nI t := by rw [ti_lt, q_9, ti_nI (by omega)]; omega
    have g2 : G 0 2 ≤ 0 := by
      rcases hs with hs | hs
      · exact Int32.not_lt.mp hs
      · exact absurd hs h
    simp [xent, xsl, Value.category, xr_d, xr_0, xg_nx, xg_n, xg_o, xg_c, xth_s, xth_v, xth_ite, xth_n, xd_iconst, xd_bipush, xd_sipush, xd_lconst, xd_iload, xd_iload_n, xd_lload, xd_lload_n, xd_aload, xd_aload_n, xd_istore, xd_istore_n, xd_astore, xd_astore_n, xd_lstore, xd_lstore_n, xd_iadd, xd_isub, xd_imul, xd_iand, xd_ior, xd_ishl, xd_ishr, xd_ladd, xd_lsub, xd_lmul, xd_land, xd_lor, xd_idiv, xd_irem, xd_ldiv, xd_lrem, xd_ineg, xd_lneg, xd_lshl, xd_lshr, xd_lcmp, xd_i2l, xd_l2i, xd_dup_int, xd_dup_ref, xd_pop, xd_dup2, xd_goto, xd_ifC, xd_ifI, xd_getf, xd_putI, xd_putR, xd_iald, xd_ialdX, xd_bald, xd_iast, xd_bast, xd_aald, xd_aast, xd_alen, xd_alenX, xd_newI, xd_newZ, xd_newQ, xd_newO, xd_invS, xd_invV, xd_invI, xd_iret, xd_lret, xd_vret, xd_ldc, xd_ldc2, xd_iinc, xd_aret, xd_tsw, xd_lsw, xC_d, xld, xisI, xisL, xisA, xgo_ite, xjp, xcmp, xrt, xinv, xcall, xpop, xcat, xgf, xal, xas, xpf, xle, xaq, xbite, xbite2, xsto, xsto2, xst1, xst2, xkl, xtt, xnum, xi0, xzf, v3, List.getElem?_cons_zero, List.getElem?_cons_succ, List.set_cons_zero, List.set_cons_succ, d73_0, d73_1, d73_3, d73_6, d73_7, d73_9, d73_12, d73_13, d73_14, d73_15, d73_17, d73_20, d73_21, d73_24, d73_27, d73_28, d73_29, d73_32, d73_33, d73_36, d73_37, d73_38, d73_39, d73_40, d73_41, d73_44, d73_45, d73_48, d73_49, d73_50, d73_53, d73_54, d73_55, d73_58, d73_60, d73_61, d73_64, d73_66, d73_69, d73_71, d73_72, d73_75, d73_78, d73_79, d73_81, d73_84, d73_85, d73_88, d73_89, d73_90, d73_91, d73_92, d73_94, d73_95, d73_98, d73_99, d73_102, d73_103, d73_104, d73_107, d73_108, d73_109, d73_110, d73_111, d73_114, d73_117, d73_120, d73_123, wo73, wm73, wr73, f5_17, f5_20, f5_24, f5_27, m5_34, m5_38, qf73, ql73, r73_74, wm74, wo74, b16_1000, b16_500, b8_9, b8_99, b8_m6, hC, h0, h1, h2, p36, p37, p38, r36, r37, r38, g1, g2]
theorem m73 (X : xX) (sh : List (Nat × Nat × List Value)) (σ : Nat → Nat → Int32) (hc : xsrc sh) : ∀ d t G u2 u3 u4, t + d = 10 → xV X 73 (14, [.ref 36, .int (nI t), u2, u3, u4], [], (sh, xput 3 σ 36 G)) = some (none, (sh, xput 3 σ 36 (vW2 d t G)))
  | 0, t, G, u2, u3, u4, h => x73 X sh σ G hc t u2 u3 u4 (by omega) (Or.inr (by omega))
  | d + 1, t, G, u2, u3, u4, h => by
    rw [vW2]
    by_cases h1 : 0 < G 0 2
    · obtain ⟨al', u4', e⟩ := l73 X sh σ hc t 199 0 (vCt (nI t) G 0 2) (vCt (nI t) G) u4 (by omega)
      rw [if_pos h1, z73 X sh σ G hc t u2 u3 u4 (by omega) h1, e, y73 X sh σ _ hc t, m73 X sh σ hc d (t + 1) _ _ _ _ (by omega)]
    · rw [if_neg h1]
      exact x73 X sh σ G hc t u2 u3 u4 (by omega) (Or.inl h1)
set_option maxRecDepth 100000 in
set_option maxHeartbeats 4000000 in
theorem k73 (X : xX) (sh : List (Nat × Nat × List Value)) (σ G : Nat → Nat → Int32) (hc : xsrc sh)  : xK X 73 [.ref 36] (sh, xput 3 σ 36 G) = some (none, (sh, xput 3 σ 36 (vWe G))) := by
  have hC := hc
  obtain ⟨h0, h1, h2, h17⟩ := hc
  have em := m73 X sh σ hC 10 0 (xup (xup G 0 3 (-6)) 0 4 (-6)) (.float 0) (.float 0) (.float 0) (by omega)
  rw [nI_0] at em
  rw [xK_d X 73 _ _ [14] 90]; simp [xent, xsl, Value.category, xr_d, xr_0, xg_nx, xg_n, xg_o, xg_c, xth_s, xth_v, xth_ite, xth_n, xd_iconst, xd_bipush, xd_sipush, xd_lconst, xd_iload, xd_iload_n, xd_lload, xd_lload_n, xd_aload, xd_aload_n, xd_istore, xd_istore_n, xd_astore, xd_astore_n, xd_lstore, xd_lstore_n, xd_iadd, xd_isub, xd_imul, xd_iand, xd_ior, xd_ishl, xd_ishr, xd_ladd, xd_lsub, xd_lmul, xd_land, xd_lor, xd_idiv, xd_irem, xd_ldiv, xd_lrem, xd_ineg, xd_lneg, xd_lshl, xd_lshr, xd_lcmp, xd_i2l, xd_l2i, xd_dup_int, xd_dup_ref, xd_pop, xd_dup2, xd_goto, xd_ifC, xd_ifI, xd_getf, xd_putI, xd_putR, xd_iald, xd_ialdX, xd_bald, xd_iast, xd_bast, xd_aald, xd_aast, xd_alen, xd_alenX, xd_newI, xd_newZ, xd_newQ, xd_newO, xd_invS, xd_invV, xd_invI, xd_iret, xd_lret, xd_vret, xd_ldc, xd_ldc2, xd_iinc, xd_aret, xd_tsw, xd_lsw, xC_d, xld, xisI, xisL, xisA, xgo_ite, xjp, xcmp, xrt, xinv, xcall, xpop, xcat, xgf, xal, xas, xpf, xle, xaq, xbite, xbite2, xsto, xsto2, xst1, xst2, xkl, xtt, xnum, xi0, xzf, v3, List.getElem?_cons_zero, List.getElem?_cons_succ, List.set_cons_zero, List.set_cons_succ, d73_0, d73_1, d73_3, d73_6, d73_7, d73_9, d73_12, d73_13, d73_14, d73_15, d73_17, d73_20, d73_21, d73_24, d73_27, d73_28, d73_29, d73_32, d73_33, d73_36, d73_37, d73_38, d73_39, d73_40, d73_41, d73_44, d73_45, d73_48, d73_49, d73_50, d73_53, d73_54, d73_55, d73_58, d73_60, d73_61, d73_64, d73_66, d73_69, d73_71, d73_72, d73_75, d73_78, d73_79, d73_81, d73_84, d73_85, d73_88, d73_89, d73_90, d73_91, d73_92, d73_94, d73_95, d73_98, d73_99, d73_102, d73_103, d73_104, d73_107, d73_108, d73_109, d73_110, d73_111, d73_114, d73_117, d73_120, d73_123, wo73, wm73, wr73, f5_17, f5_20, f5_24, f5_27, m5_34, m5_38, qf73, ql73, r73_74, wm74, wo74, b16_1000, b16_500, b8_9, b8_99, b8_m6, hC, h0, h1, h2, p36, p37, p38, r36, r37, r38, em, vWe]
