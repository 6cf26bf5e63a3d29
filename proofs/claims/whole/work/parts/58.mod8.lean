theorem xi_t : xi true = 1 := if_pos rfl
theorem xi_f : xi false = 0 := if_neg (by decide)
def rAn : Nat → Nat → Nat → Bool
  | 0, m, a => decide (a = m)
  | d + 1, m, a => if m < a then rAn d m (a / 2) else decide (a = m)
def rIs (m p : Nat) : Bool := rAn 3 m (4 + p / 2)
theorem nI_ne {a b : Nat} (ha : a < 1000) (hb : b < 1000) (h : ¬ a = b) : ¬ nI a = nI b := fun e => h (nI_inj ha hb e)
set_option maxRecDepth 100000 in
set_option maxHeartbeats 4000000 in
theorem i154 (X : xX) (sh : List (Nat × Nat × List Value)) (σ M : Nat → Nat → Int32) (hm : xmod sh) (m a : Nat) (u1 : Value) (hm8 : m < 8) (ha : a < 8) (h : m < a) : xV X 154 (14, [.ref 78, u1, .int (nI m), .int (nI a)], [], (sh, xput 8 σ 78 M)) = xV X 154 (14, [.ref 78, u1, .int (nI m), .int (nI (a / 2))], [], (sh, xput 8 σ 78 M)) := by
  have hM := hm
  obtain ⟨m0, m1, m2, m3, m4, m5, m6, m7⟩ := hm
  have g1 : ¬ nI a ≤ nI m := nI_lt' (a := m) (b := a) h (by omega)
  have g2 := nI_h2 a ha
  rw [xV_d X 154 [14] 60]
  simp [xent, xsl, Value.category, xr_d, xr_0, xg_nx, xg_n, xg_o, xg_c, xth_s, xth_v, xth_ite, xth_n, xd_iconst, xd_bipush, xd_sipush, xd_lconst, xd_iload, xd_iload_n, xd_lload, xd_lload_n, xd_aload, xd_aload_n, xd_istore, xd_istore_n, xd_astore, xd_astore_n, xd_lstore, xd_lstore_n, xd_iadd, xd_isub, xd_imul, xd_iand, xd_ior, xd_ishl, xd_ishr, xd_ladd, xd_lsub, xd_lmul, xd_land, xd_lor, xd_idiv, xd_irem, xd_ldiv, xd_lrem, xd_ineg, xd_lneg, xd_lshl, xd_lshr, xd_lcmp, xd_i2l, xd_l2i, xd_dup_int, xd_dup_ref, xd_pop, xd_dup2, xd_goto, xd_ifC, xd_ifI, xd_getf, xd_putI, xd_putR, xd_iald, xd_ialdX, xd_bald, xd_iast, xd_bast, xd_aald, xd_aast, xd_alen, xd_alenX, xd_newI, xd_newZ, xd_newQ, xd_newO, xd_invS, xd_invV, xd_invI, xd_iret, xd_lret, xd_vret, xd_ldc, xd_ldc2, xd_iinc, xd_aret, xd_tsw, xd_lsw, xC_d, xld, xisI, xisL, xisA, xgo_ite, xjp, xcmp, xrt, xinv, xcall, xpop, xcat, xgf, xal, xas, xpf, xle, xaq, xbite, xbite2, xsto, xsto2, xst1, xst2, xkl, xtt, xnum, xi0, xzf, v3, List.getElem?_cons_zero, List.getElem?_cons_succ, List.set_cons_zero, List.set_cons_succ, d154_0, d154_1, d154_2, d154_5, d154_7, d154_8, d154_9, d154_10, d154_11, d154_12, d154_13, d154_14, d154_15, d154_16, d154_19, d154_20, d154_21, d154_22, d154_23, d154_26, d154_27, d154_28, d154_31, d154_32, d154_35, d154_36, wo154, wm154, wr154, f9_13, b8_16, m0, m1, m2, m3, m4, m5, m6, m7, p78, p79, p80, p81, p82, p83, p84, p85, r78, r79, r80, r81, r82, r83, r84, r85, g1, g2]
set_option maxRecDepth 100000 in
set_option maxHeartbeats 4000000 in
theorem x154 (X : xX) (sh : List (Nat × Nat × List Value)) (σ M : Nat → Nat → Int32) (hm : xmod sh) (m a : Nat) (u1 : Value) (hm8 : m < 8) (ha : a < 8) (h : ¬ m < a) : xV X 154 (14, [.ref 78, u1, .int (nI m), .int (nI a)], [], (sh, xput 8 σ 78 M)) = some (some (.int (xi (decide (a = m)))), (sh, xput 8 σ 78 M)) := by
  have hM := hm
  obtain ⟨m0, m1, m2, m3, m4, m5, m6, m7⟩ := hm
  have g1 : nI a ≤ nI m := nI_le' (a := a) (b := m) (by omega) (by omega)
  rw [xV_d X 154 [14] 60]
  by_cases z : a = m
  · subst z
    simp [xent, xsl, Value.category, xr_d, xr_0, xg_nx, xg_n, xg_o, xg_c, xth_s, xth_v, xth_ite, xth_n, xd_iconst, xd_bipush, xd_sipush, xd_lconst, xd_iload, xd_iload_n, xd_lload, xd_lload_n, xd_aload, xd_aload_n, xd_istore, xd_istore_n, xd_astore, xd_astore_n, xd_lstore, xd_lstore_n, xd_iadd, xd_isub, xd_imul, xd_iand, xd_ior, xd_ishl, xd_ishr, xd_ladd, xd_lsub, xd_lmul, xd_land, xd_lor, xd_idiv, xd_irem, xd_ldiv, xd_lrem, xd_ineg, xd_lneg, xd_lshl, xd_lshr, xd_lcmp, xd_i2l, xd_l2i, xd_dup_int, xd_dup_ref, xd_pop, xd_dup2, xd_goto, xd_ifC, xd_ifI, xd_getf, xd_putI, xd_putR, xd_iald, xd_ialdX, xd_bald, xd_iast, xd_bast, xd_aald, xd_aast, xd_alen, xd_alenX, xd_newI, xd_newZ, xd_newQ, xd_newO, xd_invS, xd_invV, xd_invI, xd_iret, xd_lret, xd_vret, xd_ldc, xd_ldc2, xd_iinc, xd_aret, xd_tsw, xd_lsw, xC_d, xld, xisI, xisL, xisA, xgo_ite, xjp, xcmp, xrt, xinv, xcall, xpop, xcat, xgf, xal, xas, xpf, xle, xaq, xbite, xbite2, xsto, xsto2, xst1, xst2, xkl, xtt, xnum, xi0, xzf, v3, List.getElem?_cons_zero, List.getElem?_cons_succ, List.set_cons_zero, List.set_cons_succ, d154_0, d154_1, d154_2, d154_5, d154_7, d154_8, d154_9, d154_10, d154_11, d154_12, d154_13, d154_14, d154_15, d154_16, d154_19, d154_20, d154_21, d154_22, d154_23, d154_26, d154_27, d154_28, d154_31, d154_32, d154_35, d154_36, wo154, wm154, wr154, f9_13, b8_16, m0, m1, m2, m3, m4, m5, m6, m7, p78, p79, p80, p81, p82, p83, p84, p85, r78, r79, r80, r81, r82, r83, r84, r85, g1, xi]
  · have z2 := nI_ne (a := a) (b := m) (by omega) (by omega) z
    simp [xent, xsl, Value.category, xr_d, xr_0, xg_nx, xg_n, xg_o, xg_c, xth_s, xth_v, xth_ite, xth_n, xd_iconst, xd_bipush, xd_sipush, xd_lconst, xd_iload, xd_iload_n, xd_lload, xd_lload_n, xd_aload, xd_aload_n, xd_istore, xd_istore_n, xd_astore, xd_astore_n, xd_lstore, xd_lstore_n, xd_iadd, xd_isub, xd_imul, xd_iand, xd_ior, xd_ishl, xd_ishr, xd_ladd, xd_lsub, xd_lmul, xd_land, xd_lor, xd_idiv, xd_irem, xd_ldiv, xd_lrem, xd_ineg, xd_lneg, xd_lshl, xd_lshr, xd_lcmp, xd_i2l, xd_l2i, xd_dup_int, xd_dup_ref, xd_pop, xd_dup2, xd_goto, xd_ifC, xd_ifI, xd_getf, xd_putI, xd_putR, xd_iald, xd_ialdX, xd_bald, xd_iast, xd_bast, xd_aald, xd_aast, xd_alen, xd_alenX, xd_newI, xd_newZ, xd_newQ, xd_newO, xd_invS, xd_invV, xd_invI, xd_iret, xd_lret, xd_vret, xd_ldc, xd_ldc2, xd_iinc, xd_aret, xd_tsw, xd_lsw, xC_d, xld, xisI, xisL, xisA, xgo_ite, xjp, xcmp, xrt, xinv, xcall, xpop, xcat, xgf, xal, xas, xpf, xle, xaq, xbite, xbite2, xsto, xsto2, xst1, xst2, xkl, xtt, xnum, xi0, xzf, v3, List.getElem?_cons_zero, List.getElem?_cons_succ, List.set_cons_zero, List.set_cons_succ, d154_0, d154_1, d154_2, d154_5, d154_7, d154_8, d154_9, d154_10, d154_11, d154_12, d154_13, d154_14, d154_15, d154_16, d154_19, d154_20, d154_21, d154_22, d154_23, d154_26, d154_27, d154_28, d154_31, d154_32, d154_35, d154_36, wo154, wm154, wr154, f9_13, b8_16, m0, m1, m2, m3, m4, m5, m6, m7, p78, p79, p80, p81, p82, p83, p84, p85, r78, r79, r80, r81, r82, r83, r84, r85, g1, xi, z, z2]
theorem l154 (X : xX) (sh : List (Nat × Nat × List Value)) (σ M : Nat → Nat → Int32) (hm : xmod sh) (m : Nat) (u1 : Value) (hm8 : m < 8) (h0 : 0 < m) : ∀ d a, a < 8 → a < 2 * 2 ^ d → xV X 154 (14, [.ref 78, u1, .int (nI m), .int (nI a)], [], (sh, xput 8 σ 78 M)) = some (some (.int (xi (rAn d m a))), (sh, xput 8 σ 78 M))
  | 0, a, ha, hd => by
    rw [rAn]
    exact x154 X sh σ M hm m a u1 hm8 ha (by omega)
  | d + 1, a, ha, hd => by
    rw [rAn]
    by_cases h : m < a
    · rw [if_pos h, i154 X sh σ M hm m a u1 hm8 ha h]
      rw [Nat.pow_succ] at hd
      exact l154 X sh σ M hm m u1 hm8 h0 d (a / 2) (by omega) (by omega)
    · rw [if_neg h]
      exact x154 X sh σ M hm m a u1 hm8 ha h
set_option maxRecDepth 100000 in
set_option maxHeartbeats 4000000 in
theorem k154 (X : xX) (sh : List (Nat × Nat × List Value)) (σ M : Nat → Nat → Int32) (hm : xmod sh) (i m p : Nat) (hi : i < 8) (hm8 : m < 8) (h0 : 0 < m) (hp : M 2 (16 + i) = nI p) (hp8 : p < 8) : xK X 154 [.ref 78, .int (nI i), .int (nI m)] (sh, xput 8 σ 78 M) = some (some (.int (xi (rIs m p))), (sh, xput 8 σ 78 (M))) := by
  have hM := hm
  obtain ⟨m0, m1, m2, m3, m4, m5, m6, m7⟩ := hm
  have el := fun u1 => l154 X sh σ M hM m u1 hm8 h0 3 (4 + p / 2) (by omega) (by omega)
  have g1 := nI_h2 p hp8
  have g2 : 4 + nI (p / 2) = nI (4 + p / 2) := nI_ad 4 (p / 2)
  rw [rIs]
  rw [xK_d X 154 _ _ [14] 90]
  simp [xent, xsl, Value.category, xr_d, xr_0, xg_nx, xg_n, xg_o, xg_c, xth_s, xth_v, xth_ite, xth_n, xd_iconst, xd_bipush, xd_sipush, xd_lconst, xd_iload, xd_iload_n, xd_lload, xd_lload_n, xd_aload, xd_aload_n, xd_istore, xd_istore_n, xd_astore, xd_astore_n, xd_lstore, xd_lstore_n, xd_iadd, xd_isub, xd_imul, xd_iand, xd_ior, xd_ishl, xd_ishr, xd_ladd, xd_lsub, xd_lmul, xd_land, xd_lor, xd_idiv, xd_irem, xd_ldiv, xd_lrem, xd_ineg, xd_lneg, xd_lshl, xd_lshr, xd_lcmp, xd_i2l, xd_l2i, xd_dup_int, xd_dup_ref, xd_pop, xd_dup2, xd_goto, xd_ifC, xd_ifI, xd_getf, xd_putI, xd_putR, xd_iald, xd_ialdX, xd_bald, xd_iast, xd_bast, xd_aald, xd_aast, xd_alen, xd_alenX, xd_newI, xd_newZ, xd_newQ, xd_newO, xd_invS, xd_invV, xd_invI, xd_iret, xd_lret, xd_vret, xd_ldc, xd_ldc2, xd_iinc, xd_aret, xd_tsw, xd_lsw, xC_d, xld, xisI, xisL, xisA, xgo_ite, xjp, xcmp, xrt, xinv, xcall, xpop, xcat, xgf, xal, xas, xpf, xle, xaq, xbite, xbite2, xsto, xsto2, xst1, xst2, xkl, xtt, xnum, xi0, xzf, v3, List.getElem?_cons_zero, List.getElem?_cons_succ, List.set_cons_zero, List.set_cons_succ, d154_0, d154_1, d154_2, d154_5, d154_7, d154_8, d154_9, d154_10, d154_11, d154_12, d154_13, d154_14, d154_15, d154_16, d154_19, d154_20, d154_21, d154_22, d154_23, d154_26, d154_27, d154_28, d154_31, d154_32, d154_35, d154_36, wo154, wm154, wr154, f9_13, b8_16, m0, m1, m2, m3, m4, m5, m6, m7, p78, p79, p80, p81, p82, p83, p84, p85, r78, r79, r80, r81, r82, r83, r84, r85, zb_0, zc_0, zb_8, zc_8, zb_16, zc_16, zb_24, zc_24, zb_32, zc_32, zb_41, zc_41, kb_40, kc_40, kb_42, kc_42, kb_73, kc_73, kb_74, kc_74, hi, hp, g1, g2, el]
def rPl (N : Nat → Int32) (i : Nat) : Nat := (N (16 + i)).toNatClampNeg
def rTo (N : Nat → Int32) (m i : Nat) : Bool := decide (N i = 1) && rIs m (rPl N i)
def rBs (N : Nat → Int32) (m : Nat) (p q : Int32) : Nat → Nat → Int32 → Int32
  | 0, _, f => f
  | d + 1, i, f => rBs N m p q d (i + 1) (if rTo N m i = true then rBet N f (nI i) p q else f)
def rHP (N : Nat → Int32) : Prop := ∀ i, i < 8 → ∃ p, p < 8 ∧ N (16 + i) = nI p
set_option maxRecDepth 100000 in
set_option maxHeartbeats 4000000 in
theorem i153 (X : xX) (sh : List (Nat × Nat × List Value)) (σ M : Nat → Nat → Int32) (hm : xmod sh) (m i : Nat) (p q f g inn : Int32) (b : Bool) (hi : i < 8) (r1 : M 2 i = inn) (q1 : xK X 154 [.ref 78, .int (nI i), .int (nI m)] (sh, xput 8 σ 78 M) = some (some (.int (xi b)), (sh, xput 8 σ 78 M))) (q2 : xK X 124 [.ref 78, .int f, .int (nI i), .int p, .int q] (sh, xput 8 σ 78 M) = some (some (.int g), (sh, xput 8 σ 78 M))) : xV X 153 (7, [.ref 78, .int (nI m), .int p, .int q, .int f, .int (nI i)], [], (sh, xput 8 σ 78 M)) = xV X 153 (7, [.ref 78, .int (nI m), .int p, .int q, .int (if inn = 1 then (if b = true then g else f) else f), .int (nI (i + 1))], [], (sh, xput 8 σ 78 M)) := by
  have hM := hm
  obtain ⟨m0, m1, m2, m3, m4, m5, m6, m7⟩ := hm
  have g1 : ¬ 8 ≤ nI i := nI_lt' (a := i) (b := 8) hi (by omega)
  have hi2 : i < 331 := by omega
  rw [xV_d X 153 [7] 60]
  by_cases z : inn = 1
  · subst z
    by_cases w : b = true
    · rw [w] at q1; simp [xent, xsl, Value.category, xr_d, xr_0, xg_nx, xg_n, xg_o, xg_c, xth_s, xth_v, xth_ite, xth_n, xd_iconst, xd_bipush, xd_sipush, xd_lconst, xd_iload, xd_iload_n, xd_lload, xd_lload_n, xd_aload, xd_aload_n, xd_istore, xd_istore_n, xd_astore, xd_astore_n, xd_lstore, xd_lstore_n, xd_iadd, xd_isub, xd_imul, xd_iand, xd_ior, xd_ishl, xd_ishr, xd_ladd, xd_lsub, xd_lmul, xd_land, xd_lor, xd_idiv, xd_irem, xd_ldiv, xd_lrem, xd_ineg, xd_lneg, xd_lshl, xd_lshr, xd_lcmp, xd_i2l, xd_l2i, xd_dup_int, xd_dup_ref, xd_pop, xd_dup2, xd_goto, xd_ifC, xd_ifI, xd_getf, xd_putI, xd_putR, xd_iald, xd_ialdX, xd_bald, xd_iast, xd_bast, xd_aald, xd_aast, xd_alen, xd_alenX, xd_newI, xd_newZ, xd_newQ, xd_newO, xd_invS, xd_invV, xd_invI, xd_iret, xd_lret, xd_vret, xd_ldc, xd_ldc2, xd_iinc, xd_aret, xd_tsw, xd_lsw, xC_d, xld, xisI, xisL, xisA, xgo_ite, xjp, xcmp, xrt, xinv, xcall, xpop, xcat, xgf, xal, xas, xpf, xle, xaq, xbite, xbite2, xsto, xsto2, xst1, xst2, xkl, xtt, xnum, xi0, xzf, v3, List.getElem?_cons_zero, List.getElem?_cons_succ, List.set_cons_zero, List.set_cons_succ, d153_0, d153_2, d153_4, d153_5, d153_7, d153_9, d153_11, d153_14, d153_15, d153_18, d153_20, d153_21, d153_22, d153_25, d153_26, d153_28, d153_29, d153_32, d153_35, d153_36, d153_38, d153_40, d153_41, d153_42, d153_45, d153_48, d153_50, d153_52, d153_55, d153_58, d153_60, wo153, wm153, wr153, f9_13, m9_130, m9_70, r153_124, r153_154, wm124, wm154, wo124, wo154, b8_8, b8_m6, m0, m1, m2, m3, m4, m5, m6, m7, p78, p79, p80, p81, p82, p83, p84, p85, r78, r79, r80, r81, r82, r83, r84, r85, zb_0, zc_0, zb_8, zc_8, zb_16, zc_16, zb_24, zc_24, zb_32, zc_32, zb_41, zc_41, kb_40, kc_40, kb_42, kc_42, kb_73, kc_73, kb_74, kc_74, hi, hi2, g1, r1, q1, q2, xi, nI_1, w]
    · simp only [Bool.not_eq_true] at w
      rw [w] at q1; simp [xent, xsl, Value.category, xr_d, xr_0, xg_nx, xg_n, xg_o, xg_c, xth_s, xth_v, xth_ite, xth_n, xd_iconst, xd_bipush, xd_sipush, xd_lconst, xd_iload, xd_iload_n, xd_lload, xd_lload_n, xd_aload, xd_aload_n, xd_istore, xd_istore_n, xd_astore, xd_astore_n, xd_lstore, xd_lstore_n, xd_iadd, xd_isub, xd_imul, xd_iand, xd_ior, xd_ishl, xd_ishr, xd_ladd, xd_lsub, xd_lmul, xd_land, xd_lor, xd_idiv, xd_irem, xd_ldiv, xd_lrem, xd_ineg, xd_lneg, xd_lshl, xd_lshr, xd_lcmp, xd_i2l, xd_l2i, xd_dup_int, xd_dup_ref, xd_pop, xd_dup2, xd_goto, xd_ifC, xd_ifI, xd_getf, xd_putI, xd_putR, xd_iald, xd_ialdX, xd_bald, xd_iast, xd_bast, xd_aald, xd_aast, xd_alen, xd_alenX, xd_newI, xd_newZ, xd_newQ, xd_newO, xd_invS, xd_invV, xd_invI, xd_iret, xd_lret, xd_vret, xd_ldc, xd_ldc2, xd_iinc, xd_aret, xd_tsw, xd_lsw, xC_d, xld, xisI, xisL, xisA, xgo_ite, xjp, xcmp, xrt, xinv, xcall, xpop, xcat, xgf, xal, xas, xpf, xle, xaq, xbite, xbite2, xsto, xsto2, xst1, xst2, xkl, xtt, xnum, xi0, xzf, v3, List.getElem?_cons_zero, List.getElem?_cons_succ, List.set_cons_zero, List.set_cons_succ, d153_0, d153_2, d153_4, d153_5, d153_7, d153_9, d153_11, d153_14, d153_15, d153_18, d153_20, d153_21, d153_22, d153_25, d153_26, d153_28, d153_29, d153_32, d153_35, d153_36, d153_38, d153_40, d153_41, d153_42, d153_45, d153_48, d153_50, d153_52, d153_55, d153_58, d153_60, wo153, wm153, wr153, f9_13, m9_130, m9_70, r153_124, r153_154, wm124, wm154, wo124, wo154, b8_8, b8_m6, m0, m1, m2, m3, m4, m5, m6, m7, p78, p79, p80, p81, p82, p83, p84, p85, r78, r79, r80, r81, r82, r83, r84, r85, zb_0, zc_0, zb_8, zc_8, zb_16, zc_16, zb_24, zc_24, zb_32, zc_32, zb_41, zc_41, kb_40, kc_40, kb_42, kc_42, kb_73, kc_73, kb_74, kc_74, hi, hi2, g1, r1, q1, q2, xi, nI_1, w]
  · simp [xent, xsl, Value.category, xr_d, xr_0, xg_nx, xg_n, xg_o, xg_c, xth_s, xth_v, xth_ite, xth_n, xd_iconst, xd_bipush, xd_sipush, xd_lconst, xd_iload, xd_iload_n, xd_lload, xd_lload_n, xd_aload, xd_aload_n, xd_istore, xd_istore_n, xd_astore, xd_astore_n, xd_lstore, xd_lstore_n, xd_iadd, xd_isub, xd_imul, xd_iand, xd_ior, xd_ishl, xd_ishr, xd_ladd, xd_lsub, xd_lmul, xd_land, xd_lor, xd_idiv, xd_irem, xd_ldiv, xd_lrem, xd_ineg, xd_lneg, xd_lshl, xd_lshr, xd_lcmp, xd_i2l, xd_l2i, xd_dup_int, xd_dup_ref, xd_pop, xd_dup2, xd_goto, xd_ifC, xd_ifI, xd_getf, xd_putI, xd_putR, xd_iald, xd_ialdX, xd_bald, xd_iast, xd_bast, xd_aald, xd_aast, xd_alen, xd_alenX, xd_newI, xd_newZ, xd_newQ, xd_newO, xd_invS, xd_invV, xd_invI, xd_iret, xd_lret, xd_vret, xd_ldc, xd_ldc2, xd_iinc, xd_aret, xd_tsw, xd_lsw, xC_d, xld, xisI, xisL, xisA, xgo_ite, xjp, xcmp, xrt, xinv, xcall, xpop, xcat, xgf, xal, xas, xpf, xle, xaq, xbite, xbite2, xsto, xsto2, xst1, xst2, xkl, xtt, xnum, xi0, xzf, v3, List.getElem?_cons_zero, List.getElem?_cons_succ, List.set_cons_zero, List.set_cons_succ, d153_0, d153_2, d153_4, d153_5, d153_7, d153_9, d153_11, d153_14, d153_15, d153_18, d153_20, d153_21, d153_22, d153_25, d153_26, d153_28, d153_29, d153_32, d153_35, d153_36, d153_38, d153_40, d153_41, d153_42, d153_45, d153_48, d153_50, d153_52, d153_55, d153_58, d153_60, wo153, wm153, wr153, f9_13, m9_130, m9_70, r153_124, r153_154, wm124, wm154, wo124, wo154, b8_8, b8_m6, m0, m1, m2, m3, m4, m5, m6, m7, p78, p79, p80, p81, p82, p83, p84, p85, r78, r79, r80, r81, r82, r83, r84, r85, zb_0, zc_0, zb_8, zc_8, zb_16, zc_16, zb_24, zc_24, zb_32, zc_32, zb_41, zc_41, kb_40, kc_40, kb_42, kc_42, kb_73, kc_73, kb_74, kc_74, z, hi, hi2, g1, r1, nI_1]
set_option maxRecDepth 100000 in
set_option maxHeartbeats 4000000 in
theorem x153 (X : xX) (sh : List (Nat × Nat × List Value)) (σ M : Nat → Nat → Int32) (hm : xmod sh) (m : Nat) (p q f : Int32) : xV X 153 (7, [.ref 78, .int (nI m), .int p, .int q, .int f, .int (nI 8)], [], (sh, xput 8 σ 78 M)) = some (some (.int f), (sh, xput 8 σ 78 M)) := by
  have hM := hm
  obtain ⟨m0, m1, m2, m3, m4, m5, m6, m7⟩ := hm
  have g1 : 8 ≤ nI 8 := nI_le' (a := 8) (b := 8) (by omega) (by omega)
  rw [xV_d X 153 [7] 60]
  simp [xent, xsl, Value.category, xr_d, xr_0, xg_nx, xg_n, xg_o, xg_c, xth_s, xth_v, xth_ite, xth_n, xd_iconst, xd_bipush, xd_sipush, xd_lconst, xd_iload, xd_iload_n, xd_lload, xd_lload_n, xd_aload, xd_aload_n, xd_istore, xd_istore_n, xd_astore, xd_astore_n, xd_lstore, xd_lstore_n, xd_iadd, xd_isub, xd_imul, xd_iand, xd_ior, xd_ishl, xd_ishr, xd_ladd, xd_lsub, xd_lmul, xd_land, xd_lor, xd_idiv, xd_irem, xd_ldiv, xd_lrem, xd_ineg, xd_lneg, xd_lshl, xd_lshr, xd_lcmp, xd_i2l, xd_l2i, xd_dup_int, xd_dup_ref, xd_pop, xd_dup2, xd_goto, xd_ifC, xd_ifI, xd_getf, xd_putI, xd_putR, xd_iald, xd_ialdX, xd_bald, xd_iast, xd_bast, xd_aald, xd_aast, xd_alen, xd_alenX, xd_newI, xd_newZ, xd_newQ, xd_newO, xd_invS, xd_invV, xd_invI, xd_iret, xd_lret, xd_vret, xd_ldc, xd_ldc2, xd_iinc, xd_aret, xd_tsw, xd_lsw, xC_d, xld, xisI, xisL, xisA, xgo_ite, xjp, xcmp, xrt, xinv, xcall, xpop, xcat, xgf, xal, xas, xpf, xle, xaq, xbite, xbite2, xsto, xsto2, xst1, xst2, xkl, xtt, xnum, xi0, xzf, v3, List.getElem?_cons_zero, List.getElem?_cons_succ, List.set_cons_zero, List.set_cons_succ, d153_0, d153_2, d153_4, d153_5, d153_7, d153_9, d153_11, d153_14, d153_15, d153_18, d153_20, d153_21, d153_22, d153_25, d153_26, d153_28, d153_29, d153_32, d153_35, d153_36, d153_38, d153_40, d153_41, d153_42, d153_45, d153_48, d153_50, d153_52, d153_55, d153_58, d153_60, wo153, wm153, wr153, f9_13, m9_130, m9_70, r153_124, r153_154, wm124, wm154, wo124, wo154, b8_8, b8_m6, m0, m1, m2, m3, m4, m5, m6, m7, p78, p79, p80, p81, p82, p83, p84, p85, r78, r79, r80, r81, r82, r83, r84, r85, g1]
theorem rTo_e {N : Nat → Int32} {m i p : Nat} (hp : N (16 + i) = nI p) (hp8 : p < 8) : rTo N m i = (decide (N i = 1) && rIs m p) := by
  have c : (nI p).toNatClampNeg = p := nI_cl (by omega)
  rw [rTo, rPl, hp, c]
theorem rBs_v {N : Nat → Int32} {m : Nat} {p q : Int32} : ∀ d i f, i + d ≤ 8 → rV f → rV (rBs N m p q d i f)
  | 0, _, _, _, h => h
  | d + 1, i, f, hd, h => by
    rw [rBs]
    refine rBs_v d (i + 1) _ (by omega) ?_
    split
    · exact rBet_v h (rV_n (by omega))
    · exact h
theorem l153 (X : xX) (sh : List (Nat × Nat × List Value)) (σ M : Nat → Nat → Int32) (hm : xmod sh) (m : Nat) (p q : Int32) (hm8 : m < 8) (h0 : 0 < m) (hP : rHP (M 2)) : ∀ d i f, i + d = 8 → rV f → xV X 153 (7, [.ref 78, .int (nI m), .int p, .int q, .int f, .int (nI i)], [], (sh, xput 8 σ 78 M)) = some (some (.int (rBs (M 2) m p q d i f)), (sh, xput 8 σ 78 M))
  | 0, i, f, h, _ => by
    have e : i = 8 := by omega
    subst e
    exact x153 X sh σ M hm m p q f
  | d + 1, i, f, h, hv => by
    obtain ⟨pl, hp8, hp⟩ := hP i (by omega)
    rw [i153 X sh σ M hm m i p q f _ _ _ (by omega) rfl (k154 X sh σ M hm i m pl (by omega) hm8 h0 hp hp8) (k124 X sh σ M hm f (nI i) p q hv (rV_n (by omega))), rBs, rTo_e hp hp8]
    have e : (if M 2 i = 1 then (if rIs m pl = true then rBet (M 2) f (nI i) p q else f) else f) = (if (decide (M 2 i = 1) && rIs m pl) = true then rBet (M 2) f (nI i) p q else f) := by
      by_cases z : M 2 i = 1
      · simp [z]
      · simp [z]
    rw [e]
    refine l153 X sh σ M hm m p q hm8 h0 hP d (i + 1) _ (by omega) ?_
    split
    · exact rBet_v hv (rV_n (by omega))
    · exact hv
def rBst (N : Nat → Int32) (m : Nat) (p q : Int32) : Int32 := rBs N m p q 8 0 (-6)
theorem rBst_v {N : Nat → Int32} {m : Nat} {p q : Int32} : rV (rBst N m p q) := rBs_v 8 0 _ (by omega) rV_6
set_option maxRecDepth 100000 in
set_option maxHeartbeats 4000000 in
theorem k153 (X : xX) (sh : List (Nat × Nat × List Value)) (σ M : Nat → Nat → Int32) (hm : xmod sh) (m : Nat) (p q : Int32) (hm8 : m < 8) (h0 : 0 < m) (hP : rHP (M 2)) : xK X 153 [.ref 78, .int (nI m), .int p, .int q] (sh, xput 8 σ 78 M) = some (some (.int (rBst (M 2) m p q)), (sh, xput 8 σ 78 (M))) := by
  have hM := hm
  obtain ⟨m0, m1, m2, m3, m4, m5, m6, m7⟩ := hm
  have el := l153 X sh σ M hM m p q hm8 h0 hP 8 0 (-6) (by omega) rV_6
  rw [nI_0, ← rBst] at el
  rw [xK_d X 153 _ _ [7] 90]
  simp [xent, xsl, Value.category, xr_d, xr_0, xg_nx, xg_n, xg_o, xg_c, xth_s, xth_v, xth_ite, xth_n, xd_iconst, xd_bipush, xd_sipush, xd_lconst, xd_iload, xd_iload_n, xd_lload, xd_lload_n, xd_aload, xd_aload_n, xd_istore, xd_istore_n, xd_astore, xd_astore_n, xd_lstore, xd_lstore_n, xd_iadd, xd_isub, xd_imul, xd_iand, xd_ior, xd_ishl, xd_ishr, xd_ladd, xd_lsub, xd_lmul, xd_land, xd_lor, xd_idiv, xd_irem, xd_ldiv, xd_lrem, xd_ineg, xd_lneg, xd_lshl, xd_lshr, xd_lcmp, xd_i2l, xd_l2i, xd_dup_int, xd_dup_ref, xd_pop, xd_dup2, xd_goto, xd_ifC, xd_ifI, xd_getf, xd_putI, xd_putR, xd_iald, xd_ialdX, xd_bald, xd_iast, xd_bast, xd_aald, xd_aast, xd_alen, xd_alenX, xd_newI, xd_newZ, xd_newQ, xd_newO, xd_invS, xd_invV, xd_invI, xd_iret, xd_lret, xd_vret, xd_ldc, xd_ldc2, xd_iinc, xd_aret, xd_tsw, xd_lsw, xC_d, xld, xisI, xisL, xisA, xgo_ite, xjp, xcmp, xrt, xinv, xcall, xpop, xcat, xgf, xal, xas, xpf, xle, xaq, xbite, xbite2, xsto, xsto2, xst1, xst2, xkl, xtt, xnum, xi0, xzf, v3, List.getElem?_cons_zero, List.getElem?_cons_succ, List.set_cons_zero, List.set_cons_succ, d153_0, d153_2, d153_4, d153_5, d153_7, d153_9, d153_11, d153_14, d153_15, d153_18, d153_20, d153_21, d153_22, d153_25, d153_26, d153_28, d153_29, d153_32, d153_35, d153_36, d153_38, d153_40, d153_41, d153_42, d153_45, d153_48, d153_50, d153_52, d153_55, d153_58, d153_60, wo153, wm153, wr153, f9_13, m9_130, m9_70, r153_124, r153_154, wm124, wm154, wo124, wo154, b8_8, b8_m6, m0, m1, m2, m3, m4, m5, m6, m7, p78, p79, p80, p81, p82, p83, p84, p85, r78, r79, r80, r81, r82, r83, r84, r85, el]
set_option maxRecDepth 100000 in
set_option maxHeartbeats 4000000 in
theorem k151 (X : xX) (sh : List (Nat × Nat × List Value)) (σ M : Nat → Nat → Int32) (hm : xmod sh) (p q : Int32) (M1 : Nat → Nat → Int32) (w : Int32) (b : Bool) (q1 : xK X 152 [.int p, .int q] (sh, xput 8 σ 78 M) = some (some (.int (xi b)), (sh, xput 8 σ 78 M))) (q2 : xK X 131 [.ref 78] (sh, xput 8 σ 78 M) = some (none, (sh, xput 8 σ 78 (M1)))) (q3 : xK X 153 [.ref 78, .int 1, .int p, .int q] (sh, xput 8 σ 78 (M1)) = some (some (.int w), (sh, xput 8 σ 78 (M1)))) : xK X 151 [.ref 78, .int p, .int q] (sh, xput 8 σ 78 M) = some (some (.int (if b = true then w else -2)), (sh, xput 8 σ 78 (if b = true then M1 else M))) := by
  have hM := hm
  obtain ⟨m0, m1, m2, m3, m4, m5, m6, m7⟩ := hm
  rw [xK_d X 151 _ _ [] 30]
  cases b
  · simp [xent, xsl, Value.category, xr_d, xr_0, xg_nx, xg_n, xg_o, xg_c, xth_s, xth_v, xth_ite, xth_n, xd_iconst, xd_bipush, xd_sipush, xd_lconst, xd_iload, xd_iload_n, xd_lload, xd_lload_n, xd_aload, xd_aload_n, xd_istore, xd_istore_n, xd_astore, xd_astore_n, xd_lstore, xd_lstore_n, xd_iadd, xd_isub, xd_imul, xd_iand, xd_ior, xd_ishl, xd_ishr, xd_ladd, xd_lsub, xd_lmul, xd_land, xd_lor, xd_idiv, xd_irem, xd_ldiv, xd_lrem, xd_ineg, xd_lneg, xd_lshl, xd_lshr, xd_lcmp, xd_i2l, xd_l2i, xd_dup_int, xd_dup_ref, xd_pop, xd_dup2, xd_goto, xd_ifC, xd_ifI, xd_getf, xd_putI, xd_putR, xd_iald, xd_ialdX, xd_bald, xd_iast, xd_bast, xd_aald, xd_aast, xd_alen, xd_alenX, xd_newI, xd_newZ, xd_newQ, xd_newO, xd_invS, xd_invV, xd_invI, xd_iret, xd_lret, xd_vret, xd_ldc, xd_ldc2, xd_iinc, xd_aret, xd_tsw, xd_lsw, xC_d, xld, xisI, xisL, xisA, xgo_ite, xjp, xcmp, xrt, xinv, xcall, xpop, xcat, xgf, xal, xas, xpf, xle, xaq, xbite, xbite2, xsto, xsto2, xst1, xst2, xkl, xtt, xnum, xi0, xzf, v3, List.getElem?_cons_zero, List.getElem?_cons_succ, List.set_cons_zero, List.set_cons_succ, d151_0, d151_1, d151_2, d151_5, d151_8, d151_10, d151_11, d151_12, d151_15, d151_16, d151_17, d151_18, d151_19, d151_22, wo151, wm151, wr151, m9_134, m9_137, m9_82, r151_131, r151_152, r151_153, wm131, wm152, wm153, wo131, wo153, b8_m2, m0, m1, m2, m3, m4, m5, m6, m7, p78, p79, p80, p81, p82, p83, p84, p85, r78, r79, r80, r81, r82, r83, r84, r85, q1, q2, q3, xi]
  · simp [xent, xsl, Value.category, xr_d, xr_0, xg_nx, xg_n, xg_o, xg_c, xth_s, xth_v, xth_ite, xth_n, xd_iconst, xd_bipush, xd_sipush, xd_lconst, xd_iload, xd_iload_n, xd_lload, xd_lload_n, xd_aload, xd_aload_n, xd_istore, xd_istore_n, xd_astore, xd_astore_n, xd_lstore, xd_lstore_n, xd_iadd, xd_isub, xd_imul, xd_iand, xd_ior, xd_ishl, xd_ishr, xd_ladd, xd_lsub, xd_lmul, xd_land, xd_lor, xd_idiv, xd_irem, xd_ldiv, xd_lrem, xd_ineg, xd_lneg, xd_lshl, xd_lshr, xd_lcmp, xd_i2l, xd_l2i, xd_dup_int, xd_dup_ref, xd_pop, xd_dup2, xd_goto, xd_ifC, xd_ifI, xd_getf, xd_putI, xd_putR, xd_iald, xd_ialdX, xd_bald, xd_iast, xd_bast, xd_aald, xd_aast, xd_alen, xd_alenX, xd_newI, xd_newZ, xd_newQ, xd_newO, xd_invS, xd_invV, xd_invI, xd_iret, xd_lret, xd_vret, xd_ldc, xd_ldc2, xd_iinc, xd_aret, xd_tsw, xd_lsw, xC_d, xld, xisI, xisL, xisA, xgo_ite, xjp, xcmp, xrt, xinv, xcall, xpop, xcat, xgf, xal, xas, xpf, xle, xaq, xbite, xbite2, xsto, xsto2, xst1, xst2, xkl, xtt, xnum, xi0, xzf, v3, List.getElem?_cons_zero, List.getElem?_cons_succ, List.set_cons_zero, List.set_cons_succ, d151_0, d151_1, d151_2, d151_5, d151_8, d151_10, d151_11, d151_12, d151_15, d151_16, d151_17, d151_18, d151_19, d151_22, wo151, wm151, wr151, m9_134, m9_137, m9_82, r151_131, r151_152, r151_153, wm131, wm152, wm153, wo131, wo153, b8_m2, m0, m1, m2, m3, m4, m5, m6, m7, p78, p79, p80, p81, p82, p83, p84, p85, r78, r79, r80, r81, r82, r83, r84, r85, q1, q2, q3, xi]
def rLS (any : Bool) (up fa nu nl : Int32) : Bool := if any = true then decide (up * nl < nu * fa) else true
/-- the two cells of the next time laid anew -/
def rL2 (M : Nat → Nat → Int32) (nu nl : Int32) : Nat → Nat → Int32 := fun a b => if a = 0 ∧ b = 13 then nu else if a = 0 ∧ b = 14 then nl else M a b
theorem rL2_13 {M : Nat → Nat → Int32} {nu nl : Int32} : rL2 M nu nl 0 13 = nu := rfl
theorem rL2_14 {M : Nat → Nat → Int32} {nu nl : Int32} : rL2 M nu nl 0 14 = nl := rfl
theorem rL2_q {M : Nat → Nat → Int32} {nu nl : Int32} {a b : Nat} (h : ¬ a = 0 ∨ (¬ b = 13 ∧ ¬ b = 14)) : rL2 M nu nl a b = M a b := by
  unfold rL2
  rw [if_neg (by omega), if_neg (by omega)]
theorem rL2_2 {M : Nat → Nat → Int32} {nu nl : Int32} : rL2 M nu nl 2 = M 2 := by
  funext b
  exact rL2_q (by omega)
theorem rL2_a {M : Nat → Nat → Int32} {nu nl x : Int32} : xup (rL2 M nu nl) 0 13 x = rL2 M x nl := by
  funext a b
  unfold xup rL2
  by_cases h : a = 0 ∧ b = 13
  · rw [if_pos h, if_pos h]
  · rw [if_neg h, if_neg h, if_neg h]
theorem rL2_b {M : Nat → Nat → Int32} {nu nl x : Int32} : xup (rL2 M nu nl) 0 14 x = rL2 M nu x := by
  funext a b
  unfold xup rL2
  by_cases h : a = 0 ∧ b = 14
  · rw [if_pos h, if_neg (by omega), if_pos h]
  · rw [if_neg h, if_neg h, if_neg h]
theorem rL2_i {M : Nat → Nat → Int32} : rL2 M (M 0 13) (M 0 14) = M := by
  funext a b
  unfold rL2
  by_cases h : a = 0 ∧ b = 13
  · rw [if_pos h, h.1, h.2]
  · rw [if_neg h]
    by_cases h2 : a = 0 ∧ b = 14
    · rw [if_pos h2, h2.1, h2.2]
    · rw [if_neg h2]
def rLf (N : Nat → Int32) (w i : Nat) : Int32 := N (32 + i) - N (32 + w)
def rLu (N : Nat → Int32) (w i : Nat) : Int32 := N (24 + w) - N (24 + i)
def rLt (N : Nat → Int32) (m w i : Nat) : Bool := rTo N m i && decide (0 < rLf N w i)
def rL1 (N : Nat → Int32) (m w i : Nat) (s : Bool × Int32 × Int32) : Bool × Int32 × Int32 := if rLt N m w i = true then (if rLS s.1 (rLu N w i) (rLf N w i) s.2.1 s.2.2 = true then (true, rLu N w i, rLf N w i) else (true, s.2.1, s.2.2)) else s
def rLy (N : Nat → Int32) (m w : Nat) : Nat → Nat → Bool × Int32 × Int32 → Bool × Int32 × Int32
  | 0, _, s => s
  | d + 1, i, s => rLy N m w d (i + 1) (rL1 N m w i s)
set_option maxRecDepth 100000 in
set_option maxHeartbeats 4000000 in
theorem a157 (X : xX) (sh : List (Nat × Nat × List Value)) (σ M : Nat → Nat → Int32) (hm : xmod sh) (m w i : Nat) (any b : Bool) (hi : i < 8) (hw : w < 8) (inn fa up nu nl : Int32) (u5 u6 u7 : Value) (r1 : M 2 i = inn) (hf : M 2 (32 + i) - M 2 (32 + w) = fa) (q1 : xK X 154 [.ref 78, .int (nI i), .int (nI m)] (sh, xput 8 σ 78 M) = some (some (.int (xi b)), (sh, xput 8 σ 78 M))) (h : ¬ inn = 1 ∨ b = false ∨ ¬ 0 < fa) : xV X 157 (5, [.ref 78, .int (nI m), .int (nI w), .int (xi any), .int (nI i), u5, u6, u7], [], (sh, xput 8 σ 78 M)) = xV X 157 (5, [.ref 78, .int (nI m), .int (nI w), .int (xi any), .int (nI (i + 1)), .int fa, u6, u7], [], (sh, xput 8 σ 78 M)) := by
  have hM := hm
  obtain ⟨m0, m1, m2, m3, m4, m5, m6, m7⟩ := hm
  have g1 : ¬ 8 ≤ nI i := nI_lt' (a := i) (b := 8) hi (by omega)
  have hi2 : i < 331 := by omega
  have gw : ¬ nI w < 0 := nI_nn (by omega)
  have gw' : 0 ≤ nI w := Int32.not_lt.mp gw
  rw [xV_d X 157 [5] 70]
  by_cases z : inn = 1
  · subst z
    by_cases y : b = true
    · rw [y] at q1
      have h3 : ¬ 0 < fa := by
        rcases h with h | h | h
        · exact absurd rfl h
        · rw [y] at h; exact absurd h (by decide)
        · exact h
      have h4 : fa ≤ 0 := Int32.not_lt.mp h3
      simp [xent, xsl, Value.category, xr_d, xr_0, xg_nx, xg_n, xg_o, xg_c, xth_s, xth_v, xth_ite, xth_n, xd_iconst, xd_bipush, xd_sipush, xd_lconst, xd_iload, xd_iload_n, xd_lload, xd_lload_n, xd_aload, xd_aload_n, xd_istore, xd_istore_n, xd_astore, xd_astore_n, xd_lstore, xd_lstore_n, xd_iadd, xd_isub, xd_imul, xd_iand, xd_ior, xd_ishl, xd_ishr, xd_ladd, xd_lsub, xd_lmul, xd_land, xd_lor, xd_idiv, xd_irem, xd_ldiv, xd_lrem, xd_ineg, xd_lneg, xd_lshl, xd_lshr, xd_lcmp, xd_i2l, xd_l2i, xd_dup_int, xd_dup_ref, xd_pop, xd_dup2, xd_goto, xd_ifC, xd_ifI, xd_getf, xd_putI, xd_putR, xd_iald, xd_ialdX, xd_bald, xd_iast, xd_bast, xd_aald, xd_aast, xd_alen, xd_alenX, xd_newI, xd_newZ, xd_newQ, xd_newO, xd_invS, xd_invV, xd_invI, xd_iret, xd_lret, xd_vret, xd_ldc, xd_ldc2, xd_iinc, xd_aret, xd_tsw, xd_lsw, xC_d, xld, xisI, xisL, xisA, xgo_ite, xjp, xcmp, xrt, xinv, xcall, xpop, xcat, xgf, xal, xas, xpf, xle, xaq, xbite, xbite2, xsto, xsto2, xst1, xst2, xkl, xtt, xnum, xi0, xzf, v3, List.getElem?_cons_zero, List.getElem?_cons_succ, List.set_cons_zero, List.set_cons_succ, d157_0, d157_1, d157_2, d157_3, d157_5, d157_7, d157_9, d157_12, d157_13, d157_16, d157_17, d157_20, d157_22, d157_24, d157_25, d157_26, d157_27, d157_30, d157_32, d157_33, d157_34, d157_35, d157_36, d157_38, d157_39, d157_42, d157_44, d157_45, d157_46, d157_49, d157_50, d157_52, d157_53, d157_56, d157_59, d157_61, d157_64, d157_65, d157_68, d157_70, d157_71, d157_72, d157_73, d157_74, d157_77, d157_79, d157_81, d157_82, d157_83, d157_84, d157_86, d157_87, d157_90, d157_92, d157_93, d157_96, d157_97, d157_98, d157_101, d157_103, d157_104, d157_107, d157_108, d157_111, d157_112, d157_114, d157_115, d157_117, d157_120, d157_122, d157_125, d157_126, d157_129, d157_132, d157_133, d157_135, d157_138, d157_140, d157_143, d157_144, d157_147, d157_150, d157_151, d157_152, d157_155, d157_158, d157_159, wo157, wm157, wr157, f9_13, f9_141, f9_144, m9_130, r157_154, wm154, wo154, b8_24, b8_32, b8_8, m0, m1, m2, m3, m4, m5, m6, m7, p78, p79, p80, p81, p82, p83, p84, p85, r78, r79, r80, r81, r82, r83, r84, r85, zb_0, zc_0, zb_8, zc_8, zb_16, zc_16, zb_24, zc_24, zb_32, zc_32, zb_41, zc_41, kb_40, kc_40, kb_42, kc_42, kb_73, kc_73, kb_74, kc_74, hi, hi2, hw, g1, gw, gw', r1, hf, nI_1, q1, h4, xi_t]
    · simp only [Bool.not_eq_true] at y
      rw [y] at q1
      simp [xent, xsl, Value.category, xr_d, xr_0, xg_nx, xg_n, xg_o, xg_c, xth_s, xth_v, xth_ite, xth_n, xd_iconst, xd_bipush, xd_sipush, xd_lconst, xd_iload, xd_iload_n, xd_lload, xd_lload_n, xd_aload, xd_aload_n, xd_istore, xd_istore_n, xd_astore, xd_astore_n, xd_lstore, xd_lstore_n, xd_iadd, xd_isub, xd_imul, xd_iand, xd_ior, xd_ishl, xd_ishr, xd_ladd, xd_lsub, xd_lmul, xd_land, xd_lor, xd_idiv, xd_irem, xd_ldiv, xd_lrem, xd_ineg, xd_lneg, xd_lshl, xd_lshr, xd_lcmp, xd_i2l, xd_l2i, xd_dup_int, xd_dup_ref, xd_pop, xd_dup2, xd_goto, xd_ifC, xd_ifI, xd_getf, xd_putI, xd_putR, xd_iald, xd_ialdX, xd_bald, xd_iast, xd_bast, xd_aald, xd_aast, xd_alen, xd_alenX, xd_newI, xd_newZ, xd_newQ, xd_newO, xd_invS, xd_invV, xd_invI, xd_iret, xd_lret, xd_vret, xd_ldc, xd_ldc2, xd_iinc, xd_aret, xd_tsw, xd_lsw, xC_d, xld, xisI, xisL, xisA, xgo_ite, xjp, xcmp, xrt, xinv, xcall, xpop, xcat, xgf, xal, xas, xpf, xle, xaq, xbite, xbite2, xsto, xsto2, xst1, xst2, xkl, xtt, xnum, xi0, xzf, v3, List.getElem?_cons_zero, List.getElem?_cons_succ, List.set_cons_zero, List.set_cons_succ, d157_0, d157_1, d157_2, d157_3, d157_5, d157_7, d157_9, d157_12, d157_13, d157_16, d157_17, d157_20, d157_22, d157_24, d157_25, d157_26, d157_27, d157_30, d157_32, d157_33, d157_34, d157_35, d157_36, d157_38, d157_39, d157_42, d157_44, d157_45, d157_46, d157_49, d157_50, d157_52, d157_53, d157_56, d157_59, d157_61, d157_64, d157_65, d157_68, d157_70, d157_71, d157_72, d157_73, d157_74, d157_77, d157_79, d157_81, d157_82, d157_83, d157_84, d157_86, d157_87, d157_90, d157_92, d157_93, d157_96, d157_97, d157_98, d157_101, d157_103, d157_104, d157_107, d157_108, d157_111, d157_112, d157_114, d157_115, d157_117, d157_120, d157_122, d157_125, d157_126, d157_129, d157_132, d157_133, d157_135, d157_138, d157_140, d157_143, d157_144, d157_147, d157_150, d157_151, d157_152, d157_155, d157_158, d157_159, wo157, wm157, wr157, f9_13, f9_141, f9_144, m9_130, r157_154, wm154, wo154, b8_24, b8_32, b8_8, m0, m1, m2, m3, m4, m5, m6, m7, p78, p79, p80, p81, p82, p83, p84, p85, r78, r79, r80, r81, r82, r83, r84, r85, zb_0, zc_0, zb_8, zc_8, zb_16, zc_16, zb_24, zc_24, zb_32, zc_32, zb_41, zc_41, kb_40, kc_40, kb_42, kc_42, kb_73, kc_73, kb_74, kc_74, hi, hi2, hw, g1, gw, gw', r1, hf, nI_1, q1, xi_f]
  · simp [xent, xsl, Value.category, xr_d, xr_0, xg_nx, xg_n, xg_o, xg_c, xth_s, xth_v, xth_ite, xth_n, xd_iconst, xd_bipush, xd_sipush, xd_lconst, xd_iload, xd_iload_n, xd_lload, xd_lload_n, xd_aload, xd_aload_n, xd_istore, xd_istore_n, xd_astore, xd_astore_n, xd_lstore, xd_lstore_n, xd_iadd, xd_isub, xd_imul, xd_iand, xd_ior, xd_ishl, xd_ishr, xd_ladd, xd_lsub, xd_lmul, xd_land, xd_lor, xd_idiv, xd_irem, xd_ldiv, xd_lrem, xd_ineg, xd_lneg, xd_lshl, xd_lshr, xd_lcmp, xd_i2l, xd_l2i, xd_dup_int, xd_dup_ref, xd_pop, xd_dup2, xd_goto, xd_ifC, xd_ifI, xd_getf, xd_putI, xd_putR, xd_iald, xd_ialdX, xd_bald, xd_iast, xd_bast, xd_aald, xd_aast, xd_alen, xd_alenX, xd_newI, xd_newZ, xd_newQ, xd_newO, xd_invS, xd_invV, xd_invI, xd_iret, xd_lret, xd_vret, xd_ldc, xd_ldc2, xd_iinc, xd_aret, xd_tsw, xd_lsw, xC_d, xld, xisI, xisL, xisA, xgo_ite, xjp, xcmp, xrt, xinv, xcall, xpop, xcat, xgf, xal, xas, xpf, xle, xaq, xbite, xbite2, xsto, xsto2, xst1, xst2, xkl, xtt, xnum, xi0, xzf, v3, List.getElem?_cons_zero, List.getElem?_cons_succ, List.set_cons_zero, List.set_cons_succ, d157_0, d157_1, d157_2, d157_3, d157_5, d157_7, d157_9, d157_12, d157_13, d157_16, d157_17, d157_20, d157_22, d157_24, d157_25, d157_26, d157_27, d157_30, d157_32, d157_33, d157_34, d157_35, d157_36, d157_38, d157_39, d157_42, d157_44, d157_45, d157_46, d157_49, d157_50, d157_52, d157_53, d157_56, d157_59, d157_61, d157_64, d157_65, d157_68, d157_70, d157_71, d157_72, d157_73, d157_74, d157_77, d157_79, d157_81, d157_82, d157_83, d157_84, d157_86, d157_87, d157_90, d157_92, d157_93, d157_96, d157_97, d157_98, d157_101, d157_103, d157_104, d157_107, d157_108, d157_111, d157_112, d157_114, d157_115, d157_117, d157_120, d157_122, d157_125, d157_126, d157_129, d157_132, d157_133, d157_135, d157_138, d157_140, d157_143, d157_144, d157_147, d157_150, d157_151, d157_152, d157_155, d157_158, d157_159, wo157, wm157, wr157, f9_13, f9_141, f9_144, m9_130, r157_154, wm154, wo154, b8_24, b8_32, b8_8, m0, m1, m2, m3, m4, m5, m6, m7, p78, p79, p80, p81, p82, p83, p84, p85, r78, r79, r80, r81, r82, r83, r84, r85, zb_0, zc_0, zb_8, zc_8, zb_16, zc_16, zb_24, zc_24, zb_32, zc_32, zb_41, zc_41, kb_40, kc_40, kb_42, kc_42, kb_73, kc_73, kb_74, kc_74, hi, hi2, hw, g1, gw, gw', r1, hf, nI_1, z]
set_option maxRecDepth 100000 in
set_option maxHeartbeats 4000000 in
theorem b157 (X : xX) (sh : List (Nat × Nat × List Value)) (σ M : Nat → Nat → Int32) (hm : xmod sh) (m w i : Nat) (any : Bool) (hi : i < 8) (hw : w < 8) (inn fa up nu nl : Int32) (u5 u6 u7 : Value) (r1 : M 2 i = 1) (hf : M 2 (32 + i) - M 2 (32 + w) = fa) (q1 : xK X 154 [.ref 78, .int (nI i), .int (nI m)] (sh, xput 8 σ 78 M) = some (some (.int 1), (sh, xput 8 σ 78 M))) (M1 M2 : Nat → Nat → Int32) (h : 0 < fa) (hu : M 2 (24 + w) - M 2 (24 + i) = up) (r2 : M 0 13 = nu) (r3 : M 0 14 = nl) (hs : any = true → up * nl < nu * fa) (e1 : xup M 0 13 up = M1) (e2 : xup M1 0 14 fa = M2) : xV X 157 (5, [.ref 78, .int (nI m), .int (nI w), .int (xi any), .int (nI i), u5, u6, u7], [], (sh, xput 8 σ 78 M)) = xV X 157 (5, [.ref 78, .int (nI m), .int (nI w), .int 1, .int (nI (i + 1)), .int fa, .int up, .int 1], [], (sh, xput 8 σ 78 (M2))) := by
  have hM := hm
  obtain ⟨m0, m1, m2, m3, m4, m5, m6, m7⟩ := hm
  have g1 : ¬ 8 ≤ nI i := nI_lt' (a := i) (b := 8) hi (by omega)
  have hi2 : i < 331 := by omega
  have gw : ¬ nI w < 0 := nI_nn (by omega)
  have gw' : 0 ≤ nI w := Int32.not_lt.mp gw
  have h' : ¬ fa ≤ 0 := Int32.not_le.mpr h
  rw [xV_d X 157 [5] 80]
  by_cases y : any = true
  · subst y
    have hs1 := hs rfl
    have hs2 : ¬ nu * fa ≤ up * nl := Int32.not_le.mpr hs1
    simp [xent, xsl, Value.category, xr_d, xr_0, xg_nx, xg_n, xg_o, xg_c, xth_s, xth_v, xth_ite, xth_n, xd_iconst, xd_bipush, xd_sipush, xd_lconst, xd_iload, xd_iload_n, xd_lload, xd_lload_n, xd_aload, xd_aload_n, xd_istore, xd_istore_n, xd_astore, xd_astore_n, xd_lstore, xd_lstore_n, xd_iadd, xd_isub, xd_imul, xd_iand, xd_ior, xd_ishl, xd_ishr, xd_ladd, xd_lsub, xd_lmul, xd_land, xd_lor, xd_idiv, xd_irem, xd_ldiv, xd_lrem, xd_ineg, xd_lneg, xd_lshl, xd_lshr, xd_lcmp, xd_i2l, xd_l2i, xd_dup_int, xd_dup_ref, xd_pop, xd_dup2, xd_goto, xd_ifC, xd_ifI, xd_getf, xd_putI, xd_putR, xd_iald, xd_ialdX, xd_bald, xd_iast, xd_bast, xd_aald, xd_aast, xd_alen, xd_alenX, xd_newI, xd_newZ, xd_newQ, xd_newO, xd_invS, xd_invV, xd_invI, xd_iret, xd_lret, xd_vret, xd_ldc, xd_ldc2, xd_iinc, xd_aret, xd_tsw, xd_lsw, xC_d, xld, xisI, xisL, xisA, xgo_ite, xjp, xcmp, xrt, xinv, xcall, xpop, xcat, xgf, xal, xas, xpf, xle, xaq, xbite, xbite2, xsto, xsto2, xst1, xst2, xkl, xtt, xnum, xi0, xzf, v3, List.getElem?_cons_zero, List.getElem?_cons_succ, List.set_cons_zero, List.set_cons_succ, d157_0, d157_1, d157_2, d157_3, d157_5, d157_7, d157_9, d157_12, d157_13, d157_16, d157_17, d157_20, d157_22, d157_24, d157_25, d157_26, d157_27, d157_30, d157_32, d157_33, d157_34, d157_35, d157_36, d157_38, d157_39, d157_42, d157_44, d157_45, d157_46, d157_49, d157_50, d157_52, d157_53, d157_56, d157_59, d157_61, d157_64, d157_65, d157_68, d157_70, d157_71, d157_72, d157_73, d157_74, d157_77, d157_79, d157_81, d157_82, d157_83, d157_84, d157_86, d157_87, d157_90, d157_92, d157_93, d157_96, d157_97, d157_98, d157_101, d157_103, d157_104, d157_107, d157_108, d157_111, d157_112, d157_114, d157_115, d157_117, d157_120, d157_122, d157_125, d157_126, d157_129, d157_132, d157_133, d157_135, d157_138, d157_140, d157_143, d157_144, d157_147, d157_150, d157_151, d157_152, d157_155, d157_158, d157_159, wo157, wm157, wr157, f9_13, f9_141, f9_144, m9_130, r157_154, wm154, wo154, b8_24, b8_32, b8_8, m0, m1, m2, m3, m4, m5, m6, m7, p78, p79, p80, p81, p82, p83, p84, p85, r78, r79, r80, r81, r82, r83, r84, r85, zb_0, zc_0, zb_8, zc_8, zb_16, zc_16, zb_24, zc_24, zb_32, zc_32, zb_41, zc_41, kb_40, kc_40, kb_42, kc_42, kb_73, kc_73, kb_74, kc_74, hi, hi2, hw, g1, gw, gw', r1, hf, xi, nI_1, h, h', q1, hu, r2, r3, hs1, hs2, e1, e2]
  · simp only [Bool.not_eq_true] at y
    subst y
    simp [xent, xsl, Value.category, xr_d, xr_0, xg_nx, xg_n, xg_o, xg_c, xth_s, xth_v, xth_ite, xth_n, xd_iconst, xd_bipush, xd_sipush, xd_lconst, xd_iload, xd_iload_n, xd_lload, xd_lload_n, xd_aload, xd_aload_n, xd_istore, xd_istore_n, xd_astore, xd_astore_n, xd_lstore, xd_lstore_n, xd_iadd, xd_isub, xd_imul, xd_iand, xd_ior, xd_ishl, xd_ishr, xd_ladd, xd_lsub, xd_lmul, xd_land, xd_lor, xd_idiv, xd_irem, xd_ldiv, xd_lrem, xd_ineg, xd_lneg, xd_lshl, xd_lshr, xd_lcmp, xd_i2l, xd_l2i, xd_dup_int, xd_dup_ref, xd_pop, xd_dup2, xd_goto, xd_ifC, xd_ifI, xd_getf, xd_putI, xd_putR, xd_iald, xd_ialdX, xd_bald, xd_iast, xd_bast, xd_aald, xd_aast, xd_alen, xd_alenX, xd_newI, xd_newZ, xd_newQ, xd_newO, xd_invS, xd_invV, xd_invI, xd_iret, xd_lret, xd_vret, xd_ldc, xd_ldc2, xd_iinc, xd_aret, xd_tsw, xd_lsw, xC_d, xld, xisI, xisL, xisA, xgo_ite, xjp, xcmp, xrt, xinv, xcall, xpop, xcat, xgf, xal, xas, xpf, xle, xaq, xbite, xbite2, xsto, xsto2, xst1, xst2, xkl, xtt, xnum, xi0, xzf, v3, List.getElem?_cons_zero, List.getElem?_cons_succ, List.set_cons_zero, List.set_cons_succ, d157_0, d157_1, d157_2, d157_3, d157_5, d157_7, d157_9, d157_12, d157_13, d157_16, d157_17, d157_20, d157_22, d157_24, d157_25, d157_26, d157_27, d157_30, d157_32, d157_33, d157_34, d157_35, d157_36, d157_38, d157_39, d157_42, d157_44, d157_45, d157_46, d157_49, d157_50, d157_52, d157_53, d157_56, d157_59, d157_61, d157_64, d157_65, d157_68, d157_70, d157_71, d157_72, d157_73, d157_74, d157_77, d157_79, d157_81, d157_82, d157_83, d157_84, d157_86, d157_87, d157_90, d157_92, d157_93, d157_96, d157_97, d157_98, d157_101, d157_103, d157_104, d157_107, d157_108, d157_111, d157_112, d157_114, d157_115, d157_117, d157_120, d157_122, d157_125, d157_126, d157_129, d157_132, d157_133, d157_135, d157_138, d157_140, d157_143, d157_144, d157_147, d157_150, d157_151, d157_152, d157_155, d157_158, d157_159, wo157, wm157, wr157, f9_13, f9_141, f9_144, m9_130, r157_154, wm154, wo154, b8_24, b8_32, b8_8, m0, m1, m2, m3, m4, m5, m6, m7, p78, p79, p80, p81, p82, p83, p84, p85, r78, r79, r80, r81, r82, r83, r84, r85, zb_0, zc_0, zb_8, zc_8, zb_16, zc_16, zb_24, zc_24, zb_32, zc_32, zb_41, zc_41, kb_40, kc_40, kb_42, kc_42, kb_73, kc_73, kb_74, kc_74, hi, hi2, hw, g1, gw, gw', r1, hf, xi, nI_1, h, h', q1, hu, r2, r3, e1, e2]
set_option maxRecDepth 100000 in
set_option maxHeartbeats 4000000 in
theorem c157 (X : xX) (sh : List (Nat × Nat × List Value)) (σ M : Nat → Nat → Int32) (hm : xmod sh) (m w i : Nat) (any : Bool) (hi : i < 8) (hw : w < 8) (inn fa up nu nl : Int32) (u5 u6 u7 : Value) (r1 : M 2 i = 1) (hf : M 2 (32 + i) - M 2 (32 + w) = fa) (q1 : xK X 154 [.ref 78, .int (nI i), .int (nI m)] (sh, xput 8 σ 78 M) = some (some (.int 1), (sh, xput 8 σ 78 M))) (M1 M2 : Nat → Nat → Int32) (h : 0 < fa) (hu : M 2 (24 + w) - M 2 (24 + i) = up) (r2 : M 0 13 = nu) (r3 : M 0 14 = nl) (hy : any = true) (hs : ¬ up * nl < nu * fa) (e1 : xup M 0 13 nu = M1) (r4 : M1 0 14 = nl) (e2 : xup M1 0 14 nl = M2) : xV X 157 (5, [.ref 78, .int (nI m), .int (nI w), .int (xi any), .int (nI i), u5, u6, u7], [], (sh, xput 8 σ 78 M)) = xV X 157 (5, [.ref 78, .int (nI m), .int (nI w), .int 1, .int (nI (i + 1)), .int fa, .int up, .int 0], [], (sh, xput 8 σ 78 (M2))) := by
  have hM := hm
  obtain ⟨m0, m1, m2, m3, m4, m5, m6, m7⟩ := hm
  have g1 : ¬ 8 ≤ nI i := nI_lt' (a := i) (b := 8) hi (by omega)
  have hi2 : i < 331 := by omega
  have gw : ¬ nI w < 0 := nI_nn (by omega)
  have gw' : 0 ≤ nI w := Int32.not_lt.mp gw
  have h' : ¬ fa ≤ 0 := Int32.not_le.mpr h
  have hs2 : nu * fa ≤ up * nl := Int32.not_lt.mp hs
  subst hy
  rw [xV_d X 157 [5] 80]
  simp [xent, xsl, Value.category, xr_d, xr_0, xg_nx, xg_n, xg_o, xg_c, xth_s, xth_v, xth_ite, xth_n, xd_iconst, xd_bipush, xd_sipush, xd_lconst, xd_iload, xd_iload_n, xd_lload, xd_lload_n, xd_aload, xd_aload_n, xd_istore, xd_istore_n, xd_astore, xd_astore_n, xd_lstore, xd_lstore_n, xd_iadd, xd_isub, xd_imul, xd_iand, xd_ior, xd_ishl, xd_ishr, xd_ladd, xd_lsub, xd_lmul, xd_land, xd_lor, xd_idiv, xd_irem, xd_ldiv, xd_lrem, xd_ineg, xd_lneg, xd_lshl, xd_lshr, xd_lcmp, xd_i2l, xd_l2i, xd_dup_int, xd_dup_ref, xd_pop, xd_dup2, xd_goto, xd_ifC, xd_ifI, xd_getf, xd_putI, xd_putR, xd_iald, xd_ialdX, xd_bald, xd_iast, xd_bast, xd_aald, xd_aast, xd_alen, xd_alenX, xd_newI, xd_newZ, xd_newQ, xd_newO, xd_invS, xd_invV, xd_invI, xd_iret, xd_lret, xd_vret, xd_ldc, xd_ldc2, xd_iinc, xd_aret, xd_tsw, xd_lsw, xC_d, xld, xisI, xisL, xisA, xgo_ite, xjp, xcmp, xrt, xinv, xcall, xpop, xcat, xgf, xal, xas, xpf, xle, xaq, xbite, xbite2, xsto, xsto2, xst1, xst2, xkl, xtt, xnum, xi0, xzf, v3, List.getElem?_cons_zero, List.getElem?_cons_succ, List.set_cons_zero, List.set_cons_succ, d157_0, d157_1, d157_2, d157_3, d157_5, d157_7, d157_9, d157_12, d157_13, d157_16, d157_17, d157_20, d157_22, d157_24, d157_25, d157_26, d157_27, d157_30, d157_32, d157_33, d157_34, d157_35, d157_36, d157_38, d157_39, d157_42, d157_44, d157_45, d157_46, d157_49, d157_50, d157_52, d157_53, d157_56, d157_59, d157_61, d157_64, d157_65, d157_68, d157_70, d157_71, d157_72, d157_73, d157_74, d157_77, d157_79, d157_81, d157_82, d157_83, d157_84, d157_86, d157_87, d157_90, d157_92, d157_93, d157_96, d157_97, d157_98, d157_101, d157_103, d157_104, d157_107, d157_108, d157_111, d157_112, d157_114, d157_115, d157_117, d157_120, d157_122, d157_125, d157_126, d157_129, d157_132, d157_133, d157_135, d157_138, d157_140, d157_143, d157_144, d157_147, d157_150, d157_151, d157_152, d157_155, d157_158, d157_159, wo157, wm157, wr157, f9_13, f9_141, f9_144, m9_130, r157_154, wm154, wo154, b8_24, b8_32, b8_8, m0, m1, m2, m3, m4, m5, m6, m7, p78, p79, p80, p81, p82, p83, p84, p85, r78, r79, r80, r81, r82, r83, r84, r85, zb_0, zc_0, zb_8, zc_8, zb_16, zc_16, zb_24, zc_24, zb_32, zc_32, zb_41, zc_41, kb_40, kc_40, kb_42, kc_42, kb_73, kc_73, kb_74, kc_74, hi, hi2, hw, g1, gw, gw', r1, hf, xi, nI_1, h, h', q1, hu, r2, r3, hs, hs2, e1, e2, r4]
set_option maxRecDepth 100000 in
set_option maxHeartbeats 4000000 in
theorem x157 (X : xX) (sh : List (Nat × Nat × List Value)) (σ M : Nat → Nat → Int32) (hm : xmod sh) (m w : Nat) (any : Bool) (u5 u6 u7 : Value) : xV X 157 (5, [.ref 78, .int (nI m), .int (nI w), .int (xi any), .int (nI 8), u5, u6, u7], [], (sh, xput 8 σ 78 M)) = some (some (.int (xi any)), (sh, xput 8 σ 78 M)) := by
  have hM := hm
  obtain ⟨m0, m1, m2, m3, m4, m5, m6, m7⟩ := hm
  have g1 : 8 ≤ nI 8 := nI_le' (a := 8) (b := 8) (by omega) (by omega)
  rw [xV_d X 157 [5] 60]
  by_cases y : any = true
  · subst y; simp [xent, xsl, Value.category, xr_d, xr_0, xg_nx, xg_n, xg_o, xg_c, xth_s, xth_v, xth_ite, xth_n, xd_iconst, xd_bipush, xd_sipush, xd_lconst, xd_iload, xd_iload_n, xd_lload, xd_lload_n, xd_aload, xd_aload_n, xd_istore, xd_istore_n, xd_astore, xd_astore_n, xd_lstore, xd_lstore_n, xd_iadd, xd_isub, xd_imul, xd_iand, xd_ior, xd_ishl, xd_ishr, xd_ladd, xd_lsub, xd_lmul, xd_land, xd_lor, xd_idiv, xd_irem, xd_ldiv, xd_lrem, xd_ineg, xd_lneg, xd_lshl, xd_lshr, xd_lcmp, xd_i2l, xd_l2i, xd_dup_int, xd_dup_ref, xd_pop, xd_dup2, xd_goto, xd_ifC, xd_ifI, xd_getf, xd_putI, xd_putR, xd_iald, xd_ialdX, xd_bald, xd_iast, xd_bast, xd_aald, xd_aast, xd_alen, xd_alenX, xd_newI, xd_newZ, xd_newQ, xd_newO, xd_invS, xd_invV, xd_invI, xd_iret, xd_lret, xd_vret, xd_ldc, xd_ldc2, xd_iinc, xd_aret, xd_tsw, xd_lsw, xC_d, xld, xisI, xisL, xisA, xgo_ite, xjp, xcmp, xrt, xinv, xcall, xpop, xcat, xgf, xal, xas, xpf, xle, xaq, xbite, xbite2, xsto, xsto2, xst1, xst2, xkl, xtt, xnum, xi0, xzf, v3, List.getElem?_cons_zero, List.getElem?_cons_succ, List.set_cons_zero, List.set_cons_succ, d157_0, d157_1, d157_2, d157_3, d157_5, d157_7, d157_9, d157_12, d157_13, d157_16, d157_17, d157_20, d157_22, d157_24, d157_25, d157_26, d157_27, d157_30, d157_32, d157_33, d157_34, d157_35, d157_36, d157_38, d157_39, d157_42, d157_44, d157_45, d157_46, d157_49, d157_50, d157_52, d157_53, d157_56, d157_59, d157_61, d157_64, d157_65, d157_68, d157_70, d157_71, d157_72, d157_73, d157_74, d157_77, d157_79, d157_81, d157_82, d157_83, d157_84, d157_86, d157_87, d157_90, d157_92, d157_93, d157_96, d157_97, d157_98, d157_101, d157_103, d157_104, d157_107, d157_108, d157_111, d157_112, d157_114, d157_115, d157_117, d157_120, d157_122, d157_125, d157_126, d157_129, d157_132, d157_133, d157_135, d157_138, d157_140, d157_143, d157_144, d157_147, d157_150, d157_151, d157_152, d157_155, d157_158, d157_159, wo157, wm157, wr157, f9_13, f9_141, f9_144, m9_130, r157_154, wm154, wo154, b8_24, b8_32, b8_8, m0, m1, m2, m3, m4, m5, m6, m7, p78, p79, p80, p81, p82, p83, p84, p85, r78, r79, r80, r81, r82, r83, r84, r85, g1, xi]
  · simp only [Bool.not_eq_true] at y
    subst y; simp [xent, xsl, Value.category, xr_d, xr_0, xg_nx, xg_n, xg_o, xg_c, xth_s, xth_v, xth_ite, xth_n, xd_iconst, xd_bipush, xd_sipush, xd_lconst, xd_iload, xd_iload_n, xd_lload, xd_lload_n, xd_aload, xd_aload_n, xd_istore, xd_istore_n, xd_astore, xd_astore_n, xd_lstore, xd_lstore_n, xd_iadd, xd_isub, xd_imul, xd_iand, xd_ior, xd_ishl, xd_ishr, xd_ladd, xd_lsub, xd_lmul, xd_land, xd_lor, xd_idiv, xd_irem, xd_ldiv, xd_lrem, xd_ineg, xd_lneg, xd_lshl, xd_lshr, xd_lcmp, xd_i2l, xd_l2i, xd_dup_int, xd_dup_ref, xd_pop, xd_dup2, xd_goto, xd_ifC, xd_ifI, xd_getf, xd_putI, xd_putR, xd_iald, xd_ialdX, xd_bald, xd_iast, xd_bast, xd_aald, xd_aast, xd_alen, xd_alenX, xd_newI, xd_newZ, xd_newQ, xd_newO, xd_invS, xd_invV, xd_invI, xd_iret, xd_lret, xd_vret, xd_ldc, xd_ldc2, xd_iinc, xd_aret, xd_tsw, xd_lsw, xC_d, xld, xisI, xisL, xisA, xgo_ite, xjp, xcmp, xrt, xinv, xcall, xpop, xcat, xgf, xal, xas, xpf, xle, xaq, xbite, xbite2, xsto, xsto2, xst1, xst2, xkl, xtt, xnum, xi0, xzf, v3, List.getElem?_cons_zero, List.getElem?_cons_succ, List.set_cons_zero, List.set_cons_succ, d157_0, d157_1, d157_2, d157_3, d157_5, d157_7, d157_9, d157_12, d157_13, d157_16, d157_17, d157_20, d157_22, d157_24, d157_25, d157_26, d157_27, d157_30, d157_32, d157_33, d157_34, d157_35, d157_36, d157_38, d157_39, d157_42, d157_44, d157_45, d157_46, d157_49, d157_50, d157_52, d157_53, d157_56, d157_59, d157_61, d157_64, d157_65, d157_68, d157_70, d157_71, d157_72, d157_73, d157_74, d157_77, d157_79, d157_81, d157_82, d157_83, d157_84, d157_86, d157_87, d157_90, d157_92, d157_93, d157_96, d157_97, d157_98, d157_101, d157_103, d157_104, d157_107, d157_108, d157_111, d157_112, d157_114, d157_115, d157_117, d157_120, d157_122, d157_125, d157_126, d157_129, d157_132, d157_133, d157_135, d157_138, d157_140, d157_143, d157_144, d157_147, d157_150, d157_151, d157_152, d157_155, d157_158, d157_159, wo157, wm157, wr157, f9_13, f9_141, f9_144, m9_130, r157_154, wm154, wo154, b8_24, b8_32, b8_8, m0, m1, m2, m3, m4, m5, m6, m7, p78, p79, p80, p81, p82, p83, p84, p85, r78, r79, r80, r81, r82, r83, r84, r85, g1, xi]
theorem l157 (X : xX) (sh : List (Nat × Nat × List Value)) (σ M : Nat → Nat → Int32) (hm : xmod sh) (m w : Nat) (hm8 : m < 8) (h0 : 0 < m) (hw : w < 8) (hP : rHP (M 2)) : ∀ d i s u5 u6 u7, i + d = 8 → xV X 157 (5, [.ref 78, .int (nI m), .int (nI w), .int (xi s.1), .int (nI i), u5, u6, u7], [], (sh, xput 8 σ 78 (rL2 M s.2.1 s.2.2))) = some (some (.int (xi (rLy (M 2) m w d i s).1)), (sh, xput 8 σ 78 (rL2 M (rLy (M 2) m w d i s).2.1 (rLy (M 2) m w d i s).2.2)))
  | 0, i, s, u5, u6, u7, h => by
    have e : i = 8 := by omega
    subst e
    exact x157 X sh σ _ hm m w s.1 u5 u6 u7
  | d + 1, i, s, u5, u6, u7, h => by
    obtain ⟨pl, hp8, hp⟩ := hP i (by omega)
    have q1 := k154 X sh σ (rL2 M s.2.1 s.2.2) hm i m pl (by omega) hm8 h0 (by rw [rL2_q (by omega), hp]) hp8
    have e2 : ∀ k, rL2 M s.2.1 s.2.2 2 k = M 2 k := fun k => rL2_q (by omega)
    have et := rTo_e (m := m) hp hp8
    rw [rLy]
    by_cases z : M 2 i = 1 ∧ rIs m pl = true ∧ 0 < rLf (M 2) w i
    · obtain ⟨z1, z2, z3⟩ := z
      have ez : rLt (M 2) m w i = true := by
        rw [rLt, et, z1, z2, decide_eq_true z3]
        decide
      rw [z2] at q1
      have q1' : xK X 154 [.ref 78, .int (nI i), .int (nI m)] (sh, xput 8 σ 78 (rL2 M s.2.1 s.2.2)) = some (some (.int 1), (sh, xput 8 σ 78 (rL2 M s.2.1 s.2.2))) := q1
      by_cases y : rLS s.1 (rLu (M 2) w i) (rLf (M 2) w i) s.2.1 s.2.2 = true
      · have e1 : rL1 (M 2) m w i s = (true, rLu (M 2) w i, rLf (M 2) w i) := by
          rw [rL1, if_pos ez, if_pos y]
        rw [e1]
        rw [b157 X sh σ (rL2 M s.2.1 s.2.2) hm m w i s.1 (by omega) hw 1 (rLf (M 2) w i) (rLu (M 2) w i) s.2.1 s.2.2 u5 u6 u7 (by rw [e2]; exact z1) (by rw [e2, e2]; rfl) q1' _ (rL2 M (rLu (M 2) w i) (rLf (M 2) w i)) z3 (by rw [e2, e2]; rfl) rL2_13 rL2_14 (fun hy => by
          rw [rLS, if_pos hy] at y
          exact of_decide_eq_true y) rL2_a rL2_b]
        exact l157 X sh σ M hm m w hm8 h0 hw hP d (i + 1) (true, rLu (M 2) w i, rLf (M 2) w i) _ _ _ (by omega)
      · have e1 : rL1 (M 2) m w i s = (true, s.2.1, s.2.2) := by
          rw [rL1, if_pos ez, if_neg y]
        have hy : s.1 = true := by
          cases hs : s.1
          · rw [rLS, hs] at y
            exact absurd rfl y
          · rfl
        rw [e1]
        rw [c157 X sh σ (rL2 M s.2.1 s.2.2) hm m w i s.1 (by omega) hw 1 (rLf (M 2) w i) (rLu (M 2) w i) s.2.1 s.2.2 u5 u6 u7 (by rw [e2]; exact z1) (by rw [e2, e2]; rfl) q1' (rL2 M s.2.1 s.2.2) (rL2 M s.2.1 s.2.2) z3 (by rw [e2, e2]; rfl) rL2_13 rL2_14 hy (fun hl => by
          rw [rLS, if_pos hy] at y
          exact y (decide_eq_true hl)) rL2_a rL2_14 rL2_b]
        exact l157 X sh σ M hm m w hm8 h0 hw hP d (i + 1) (true, s.2.1, s.2.2) _ _ _ (by omega)
    · have ez : ¬ rLt (M 2) m w i = true := by
        rw [rLt, et, Bool.and_eq_true, Bool.and_eq_true, decide_eq_true_eq, decide_eq_true_eq]
        intro h2
        exact z ⟨h2.1.1, h2.1.2, h2.2⟩
      have e1 : rL1 (M 2) m w i s = s := by
        rw [rL1, if_neg ez]
      rw [e1]
      rw [a157 X sh σ (rL2 M s.2.1 s.2.2) hm m w i s.1 (rIs m pl) (by omega) hw (M 2 i) (rLf (M 2) w i) 0 0 0 u5 u6 u7 (e2 _) (by rw [e2, e2]; rfl) q1 (by
        by_cases z1 : M 2 i = 1
        · by_cases z2 : rIs m pl = true
          · exact Or.inr (Or.inr (fun z3 => z ⟨z1, z2, z3⟩))
          · exact Or.inr (Or.inl (by simpa using z2))
        · exact Or.inl z1)]
      exact l157 X sh σ M hm m w hm8 h0 hw hP d (i + 1) s _ _ _ (by omega)
def rLN (M : Nat → Nat → Int32) (m w : Nat) : Bool × Int32 × Int32 := rLy (M 2) m w 8 0 (false, M 0 13, M 0 14)
set_option maxRecDepth 100000 in
set_option maxHeartbeats 4000000 in
theorem k157 (X : xX) (sh : List (Nat × Nat × List Value)) (σ M : Nat → Nat → Int32) (hm : xmod sh) (m w : Nat) (hm8 : m < 8) (h0 : 0 < m) (hw : w < 8) (hP : rHP (M 2)) : xK X 157 [.ref 78, .int (nI m), .int (nI w)] (sh, xput 8 σ 78 M) = some (some (.int (xi (rLN M m w).1)), (sh, xput 8 σ 78 (rL2 M (rLN M m w).2.1 (rLN M m w).2.2))) := by
  have hM := hm
  obtain ⟨m0, m1, m2, m3, m4, m5, m6, m7⟩ := hm
  have el := fun u5 u6 u7 => l157 X sh σ M hM m w hm8 h0 hw hP 8 0 (false, M 0 13, M 0 14) u5 u6 u7 (by omega)
  rw [nI_0, ← rLN] at el
  simp only [rL2_i] at el
  rw [show xi false = 0 from rfl] at el
  rw [xK_d X 157 _ _ [5] 90]
  simp [xent, xsl, Value.category, xr_d, xr_0, xg_nx, xg_n, xg_o, xg_c, xth_s, xth_v, xth_ite, xth_n, xd_iconst, xd_bipush, xd_sipush, xd_lconst, xd_iload, xd_iload_n, xd_lload, xd_lload_n, xd_aload, xd_aload_n, xd_istore, xd_istore_n, xd_astore, xd_astore_n, xd_lstore, xd_lstore_n, xd_iadd, xd_isub, xd_imul, xd_iand, xd_ior, xd_ishl, xd_ishr, xd_ladd, xd_lsub, xd_lmul, xd_land, xd_lor, xd_idiv, xd_irem, xd_ldiv, xd_lrem, xd_ineg, xd_lneg, xd_lshl, xd_lshr, xd_lcmp, xd_i2l, xd_l2i, xd_dup_int, xd_dup_ref, xd_pop, xd_dup2, xd_goto, xd_ifC, xd_ifI, xd_getf, xd_putI, xd_putR, xd_iald, xd_ialdX, xd_bald, xd_iast, xd_bast, xd_aald, xd_aast, xd_alen, xd_alenX, xd_newI, xd_newZ, xd_newQ, xd_newO, xd_invS, xd_invV, xd_invI, xd_iret, xd_lret, xd_vret, xd_ldc, xd_ldc2, xd_iinc, xd_aret, xd_tsw, xd_lsw, xC_d, xld, xisI, xisL, xisA, xgo_ite, xjp, xcmp, xrt, xinv, xcall, xpop, xcat, xgf, xal, xas, xpf, xle, xaq, xbite, xbite2, xsto, xsto2, xst1, xst2, xkl, xtt, xnum, xi0, xzf, v3, List.getElem?_cons_zero, List.getElem?_cons_succ, List.set_cons_zero, List.set_cons_succ, d157_0, d157_1, d157_2, d157_3, d157_5, d157_7, d157_9, d157_12, d157_13, d157_16, d157_17, d157_20, d157_22, d157_24, d157_25, d157_26, d157_27, d157_30, d157_32, d157_33, d157_34, d157_35, d157_36, d157_38, d157_39, d157_42, d157_44, d157_45, d157_46, d157_49, d157_50, d157_52, d157_53, d157_56, d157_59, d157_61, d157_64, d157_65, d157_68, d157_70, d157_71, d157_72, d157_73, d157_74, d157_77, d157_79, d157_81, d157_82, d157_83, d157_84, d157_86, d157_87, d157_90, d157_92, d157_93, d157_96, d157_97, d157_98, d157_101, d157_103, d157_104, d157_107, d157_108, d157_111, d157_112, d157_114, d157_115, d157_117, d157_120, d157_122, d157_125, d157_126, d157_129, d157_132, d157_133, d157_135, d157_138, d157_140, d157_143, d157_144, d157_147, d157_150, d157_151, d157_152, d157_155, d157_158, d157_159, wo157, wm157, wr157, f9_13, f9_141, f9_144, m9_130, r157_154, wm154, wo154, b8_24, b8_32, b8_8, m0, m1, m2, m3, m4, m5, m6, m7, p78, p79, p80, p81, p82, p83, p84, p85, r78, r79, r80, r81, r82, r83, r84, r85, el]
set_option maxRecDepth 100000 in
set_option maxHeartbeats 4000000 in
theorem x157n (X : xX) (sh : List (Nat × Nat × List Value)) (σ M : Nat → Nat → Int32) (hm : xmod sh) (m : Nat) (w : Int32) (h : w < 0) : xK X 157 [.ref 78, .int (nI m), .int w] (sh, xput 8 σ 78 M) = some (some (.int 0), (sh, xput 8 σ 78 (M))) := by
  have hM := hm
  obtain ⟨m0, m1, m2, m3, m4, m5, m6, m7⟩ := hm
  have h' : ¬ 0 ≤ w := Int32.not_le.mpr h
  rw [xK_d X 157 _ _ [] 90]
  simp [xent, xsl, Value.category, xr_d, xr_0, xg_nx, xg_n, xg_o, xg_c, xth_s, xth_v, xth_ite, xth_n, xd_iconst, xd_bipush, xd_sipush, xd_lconst, xd_iload, xd_iload_n, xd_lload, xd_lload_n, xd_aload, xd_aload_n, xd_istore, xd_istore_n, xd_astore, xd_astore_n, xd_lstore, xd_lstore_n, xd_iadd, xd_isub, xd_imul, xd_iand, xd_ior, xd_ishl, xd_ishr, xd_ladd, xd_lsub, xd_lmul, xd_land, xd_lor, xd_idiv, xd_irem, xd_ldiv, xd_lrem, xd_ineg, xd_lneg, xd_lshl, xd_lshr, xd_lcmp, xd_i2l, xd_l2i, xd_dup_int, xd_dup_ref, xd_pop, xd_dup2, xd_goto, xd_ifC, xd_ifI, xd_getf, xd_putI, xd_putR, xd_iald, xd_ialdX, xd_bald, xd_iast, xd_bast, xd_aald, xd_aast, xd_alen, xd_alenX, xd_newI, xd_newZ, xd_newQ, xd_newO, xd_invS, xd_invV, xd_invI, xd_iret, xd_lret, xd_vret, xd_ldc, xd_ldc2, xd_iinc, xd_aret, xd_tsw, xd_lsw, xC_d, xld, xisI, xisL, xisA, xgo_ite, xjp, xcmp, xrt, xinv, xcall, xpop, xcat, xgf, xal, xas, xpf, xle, xaq, xbite, xbite2, xsto, xsto2, xst1, xst2, xkl, xtt, xnum, xi0, xzf, v3, List.getElem?_cons_zero, List.getElem?_cons_succ, List.set_cons_zero, List.set_cons_succ, d157_0, d157_1, d157_2, d157_3, d157_5, d157_7, d157_9, d157_12, d157_13, d157_16, d157_17, d157_20, d157_22, d157_24, d157_25, d157_26, d157_27, d157_30, d157_32, d157_33, d157_34, d157_35, d157_36, d157_38, d157_39, d157_42, d157_44, d157_45, d157_46, d157_49, d157_50, d157_52, d157_53, d157_56, d157_59, d157_61, d157_64, d157_65, d157_68, d157_70, d157_71, d157_72, d157_73, d157_74, d157_77, d157_79, d157_81, d157_82, d157_83, d157_84, d157_86, d157_87, d157_90, d157_92, d157_93, d157_96, d157_97, d157_98, d157_101, d157_103, d157_104, d157_107, d157_108, d157_111, d157_112, d157_114, d157_115, d157_117, d157_120, d157_122, d157_125, d157_126, d157_129, d157_132, d157_133, d157_135, d157_138, d157_140, d157_143, d157_144, d157_147, d157_150, d157_151, d157_152, d157_155, d157_158, d157_159, wo157, wm157, wr157, f9_13, f9_141, f9_144, m9_130, r157_154, wm154, wo154, b8_24, b8_32, b8_8, m0, m1, m2, m3, m4, m5, m6, m7, p78, p79, p80, p81, p82, p83, p84, p85, r78, r79, r80, r81, r82, r83, r84, r85, h, h']
