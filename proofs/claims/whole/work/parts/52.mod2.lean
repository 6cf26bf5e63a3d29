theorem xup_q {σ : Nat → Nat → Int32} {k j a b : Nat} {v : Int32} (h : ¬ (a = k ∧ b = j)) : xup σ k j v a b = σ a b := by
  unfold xup
  rw [if_neg h]
def rC1 (M : Nat → Nat → Int32) (m : Nat) : Nat → Nat → Int32 := xup M 2 (65 + m) 0
def rC2 (M : Nat → Nat → Int32) (n : Nat) : Nat → Nat → Int32 := xup M 2 73 (nI n + 1)
def rC3 (M : Nat → Nat → Int32) : Nat → Nat → Int32 := xup M 2 74 (M 2 74 + 1)
def rC4 (M : Nat → Nat → Int32) (m n : Nat) : Nat → Nat → Int32 := xup M 2 (75 + n) (nI m)
def rC5 (M : Nat → Nat → Int32) (n w o : Nat) : Nat → Nat → Int32 := xup M 2 (139 + n) (M 2 (24 + w) - M 2 (24 + o))
def rC6 (M : Nat → Nat → Int32) (n : Nat) (f : Int32) : Nat → Nat → Int32 := xup M 2 (203 + n) f
def rC7 (M : Nat → Nat → Int32) (n : Nat) : Nat → Nat → Int32 := xup M 2 (267 + n) (M 2 74)
def rC8 (M : Nat → Nat → Int32) (m : Nat) : Nat → Nat → Int32 := xup M 2 (65 + m) (M 2 74)
def rPut (M : Nat → Nat → Int32) (m n w o : Nat) (f : Int32) : Nat → Nat → Int32 := rC8 (rC7 (rC6 (rC5 (rC4 (rC3 (rC2 M n)) m n) n w o) n f) n) m
def rOth (M : Nat → Nat → Int32) (m : Nat) : Int32 := if M 2 (41 + m) = M 2 (49 + m) then M 2 (57 + m) else M 2 (49 + m)
def rFas (M : Nat → Nat → Int32) (m : Nat) : Int32 := M 2 (32 + (rOth M m).toNatClampNeg) - M 2 (32 + (M 2 (41 + m)).toNatClampNeg)
def rCert (M : Nat → Nat → Int32) (m : Nat) : Nat → Nat → Int32 := if M 2 (49 + m) < 0 then rC1 M m else if M 2 (57 + m) < 0 then rC1 M m else if rFas M m ≤ 0 then rC1 M m else rPut (rC1 M m) m (M 2 73).toNatClampNeg (M 2 (41 + m)).toNatClampNeg (rOth M m).toNatClampNeg (rFas M m)
set_option maxRecDepth 100000 in
set_option maxHeartbeats 4000000 in
theorem x126 (X : xX) (sh : List (Nat × Nat × List Value)) (σ M : Nat → Nat → Int32) (hm : xmod sh) (m : Nat) (hm8 : m < 8) (a b : Int32) (ra : M 2 (49 + m) = a) (rb : M 2 (57 + m) = b) (h : a < 0 ∨ b < 0) : xK X 126 [.ref 78, .int (nI m)] (sh, xput 8 σ 78 M) = some (none, (sh, xput 8 σ 78 (rC1 M m))) := by
  have hM := hm
  obtain ⟨m0, m1, m2, m3, m4, m5, m6, m7⟩ := hm
  rw [rC1]
  rw [xK_d X 126 _ _ [] 60]
  by_cases g1 : a < 0
  · simp [xent, xsl, Value.category, xr_d, xr_0, xg_nx, xg_n, xg_o, xg_c, xth_s, xth_v, xth_ite, xth_n, xd_iconst, xd_bipush, xd_sipush, xd_lconst, xd_iload, xd_iload_n, xd_lload, xd_lload_n, xd_aload, xd_aload_n, xd_istore, xd_istore_n, xd_astore, xd_astore_n, xd_lstore, xd_lstore_n, xd_iadd, xd_isub, xd_imul, xd_iand, xd_ior, xd_ishl, xd_ishr, xd_ladd, xd_lsub, xd_lmul, xd_land, xd_lor, xd_idiv, xd_irem, xd_ldiv, xd_lrem, xd_ineg, xd_lneg, xd_lshl, xd_lshr, xd_lcmp, xd_i2l, xd_l2i, xd_dup_int, xd_dup_ref, xd_pop, xd_dup2, xd_goto, xd_ifC, xd_ifI, xd_getf, xd_putI, xd_putR, xd_iald, xd_ialdX, xd_bald, xd_iast, xd_bast, xd_aald, xd_aast, xd_alen, xd_alenX, xd_newI, xd_newZ, xd_newQ, xd_newO, xd_invS, xd_invV, xd_invI, xd_iret, xd_lret, xd_vret, xd_ldc, xd_ldc2, xd_iinc, xd_aret, xd_tsw, xd_lsw, xC_d, xld, xisI, xisL, xisA, xgo_ite, xjp, xcmp, xrt, xinv, xcall, xpop, xcat, xgf, xal, xas, xpf, xle, xaq, xbite, xbite2, xsto, xsto2, xst1, xst2, xkl, xtt, xnum, xi0, xzf, v3, List.getElem?_cons_zero, List.getElem?_cons_succ, List.set_cons_zero, List.set_cons_succ, d126_0, d126_1, d126_4, d126_6, d126_7, d126_8, d126_9, d126_10, d126_11, d126_14, d126_16, d126_17, d126_18, d126_19, d126_20, d126_21, d126_24, d126_26, d126_27, d126_28, d126_29, d126_30, d126_31, d126_34, d126_35, d126_38, d126_39, d126_40, d126_43, d126_45, d126_46, d126_47, d126_48, d126_50, d126_52, d126_53, d126_56, d126_57, d126_60, d126_61, d126_63, d126_64, d126_67, d126_69, d126_71, d126_72, d126_73, d126_74, d126_77, d126_79, d126_81, d126_82, d126_83, d126_84, d126_86, d126_88, d126_91, d126_92, d126_95, d126_97, d126_98, d126_100, d126_101, d126_104, d126_106, d126_107, d126_108, d126_109, d126_110, d126_111, d126_112, d126_115, d126_117, d126_118, d126_119, d126_120, d126_121, d126_122, d126_123, d126_126, d126_128, d126_130, d126_131, d126_132, d126_133, d126_134, d126_137, d126_140, d126_142, d126_143, d126_144, d126_147, d126_149, d126_151, d126_152, d126_153, d126_154, d126_157, d126_159, d126_161, d126_162, d126_163, d126_164, d126_165, d126_166, d126_169, d126_172, d126_174, d126_175, d126_177, d126_178, d126_179, d126_182, d126_185, d126_187, d126_188, d126_189, d126_192, d126_194, d126_195, d126_196, d126_197, d126_200, d126_202, d126_203, d126_204, d126_205, d126_208, d126_210, d126_211, d126_212, wo126, wm126, wr126, f9_13, b16_139, b16_203, b16_267, b8_24, b8_32, b8_41, b8_49, b8_57, b8_65, b8_73, b8_74, b8_75, m0, m1, m2, m3, m4, m5, m6, m7, p78, p79, p80, p81, p82, p83, p84, p85, r78, r79, r80, r81, r82, r83, r84, r85, zb_0, zc_0, zb_8, zc_8, zb_16, zc_16, zb_24, zc_24, zb_32, zc_32, zb_41, zc_41, zb_49, zc_49, zb_57, zc_57, zb_65, zc_65, zb_75, zc_75, zb_139, zc_139, zb_203, zc_203, zb_267, zc_267, kb_40, kc_40, kb_42, kc_42, kb_73, kc_73, kb_74, kc_74, hm8, ra, rb, g1]
  · have g2 : b < 0 := by
      rcases h with h | h
      · exact absurd h g1
      · exact h
    have g2' : ¬ 0 ≤ b := Int32.not_le.mpr g2
    simp [xent, xsl, Value.category, xr_d, xr_0, xg_nx, xg_n, xg_o, xg_c, xth_s, xth_v, xth_ite, xth_n, xd_iconst, xd_bipush, xd_sipush, xd_lconst, xd_iload, xd_iload_n, xd_lload, xd_lload_n, xd_aload, xd_aload_n, xd_istore, xd_istore_n, xd_astore, xd_astore_n, xd_lstore, xd_lstore_n, xd_iadd, xd_isub, xd_imul, xd_iand, xd_ior, xd_ishl, xd_ishr, xd_ladd, xd_lsub, xd_lmul, xd_land, xd_lor, xd_idiv, xd_irem, xd_ldiv, xd_lrem, xd_ineg, xd_lneg, xd_lshl, xd_lshr, xd_lcmp, xd_i2l, xd_l2i, xd_dup_int, xd_dup_ref, xd_pop, xd_dup2, xd_goto, xd_ifC, xd_ifI, xd_getf, xd_putI, xd_putR, xd_iald, xd_ialdX, xd_bald, xd_iast, xd_bast, xd_aald, xd_aast, xd_alen, xd_alenX, xd_newI, xd_newZ, xd_newQ, xd_newO, xd_invS, xd_invV, xd_invI, xd_iret, xd_lret, xd_vret, xd_ldc, xd_ldc2, xd_iinc, xd_aret, xd_tsw, xd_lsw, xC_d, xld, xisI, xisL, xisA, xgo_ite, xjp, xcmp, xrt, xinv, xcall, xpop, xcat, xgf, xal, xas, xpf, xle, xaq, xbite, xbite2, xsto, xsto2, xst1, xst2, xkl, xtt, xnum, xi0, xzf, v3, List.getElem?_cons_zero, List.getElem?_cons_succ, List.set_cons_zero, List.set_cons_succ, d126_0, d126_1, d126_4, d126_6, d126_7, d126_8, d126_9, d126_10, d126_11, d126_14, d126_16, d126_17, d126_18, d126_19, d126_20, d126_21, d126_24, d126_26, d126_27, d126_28, d126_29, d126_30, d126_31, d126_34, d126_35, d126_38, d126_39, d126_40, d126_43, d126_45, d126_46, d126_47, d126_48, d126_50, d126_52, d126_53, d126_56, d126_57, d126_60, d126_61, d126_63, d126_64, d126_67, d126_69, d126_71, d126_72, d126_73, d126_74, d126_77, d126_79, d126_81, d126_82, d126_83, d126_84, d126_86, d126_88, d126_91, d126_92, d126_95, d126_97, d126_98, d126_100, d126_101, d126_104, d126_106, d126_107, d126_108, d126_109, d126_110, d126_111, d126_112, d126_115, d126_117, d126_118, d126_119, d126_120, d126_121, d126_122, d126_123, d126_126, d126_128, d126_130, d126_131, d126_132, d126_133, d126_134, d126_137, d126_140, d126_142, d126_143, d126_144, d126_147, d126_149, d126_151, d126_152, d126_153, d126_154, d126_157, d126_159, d126_161, d126_162, d126_163, d126_164, d126_165, d126_166, d126_169, d126_172, d126_174, d126_175, d126_177, d126_178, d126_179, d126_182, d126_185, d126_187, d126_188, d126_189, d126_192, d126_194, d126_195, d126_196, d126_197, d126_200, d126_202, d126_203, d126_204, d126_205, d126_208, d126_210, d126_211, d126_212, wo126, wm126, wr126, f9_13, b16_139, b16_203, b16_267, b8_24, b8_32, b8_41, b8_49, b8_57, b8_65, b8_73, b8_74, b8_75, m0, m1, m2, m3, m4, m5, m6, m7, p78, p79, p80, p81, p82, p83, p84, p85, r78, r79, r80, r81, r82, r83, r84, r85, zb_0, zc_0, zb_8, zc_8, zb_16, zc_16, zb_24, zc_24, zb_32, zc_32, zb_41, zc_41, zb_49, zc_49, zb_57, zc_57, zb_65, zc_65, zb_75, zc_75, zb_139, zc_139, zb_203, zc_203, zb_267, zc_267, kb_40, kc_40, kb_42, kc_42, kb_73, kc_73, kb_74, kc_74, hm8, ra, rb, g1, g2, g2']
set_option maxRecDepth 100000 in
set_option maxHeartbeats 4000000 in
theorem g126 (X : xX) (sh : List (Nat × Nat × List Value)) (σ M : Nat → Nat → Int32) (hm : xmod sh) (M1 M2 M3 M4 M5 M6 M7 M8 : Nat → Nat → Int32) (m n w oo : Nat) (a b wi ot f so sw bw bo c c' c'' : Int32) (hm8 : m < 8) (hw8 : w < 8) (ho8 : oo < 8) (hn : n < 64) (ra : M 2 (49 + m) = a) (rb : M 2 (57 + m) = b) (ga : ¬ a < 0) (gb : 0 ≤ b) (e1 : xup M 2 (65 + m) 0 = M1) (rw1 : M1 2 (41 + m) = wi) (hwi : wi = nI w) (ho : (if wi = a then b else a) = ot) (hot : ot = nI oo) (r1 : M1 2 (32 + oo) = so) (r2 : M1 2 (32 + w) = sw) (hf : so - sw = f) (r3 : M1 2 73 = nI n) (e2 : xup M1 2 73 (nI n + 1) = M2) (r4 : M2 2 74 = c) (e3 : xup M2 2 74 (c + 1) = M3) (e4 : xup M3 2 (75 + n) (nI m) = M4) (r5 : M4 2 (24 + w) = bw) (r6 : M4 2 (24 + oo) = bo) (e5 : xup M4 2 (139 + n) (bw - bo) = M5) (e6 : xup M5 2 (203 + n) f = M6) (r7 : M6 2 74 = c') (e7 : xup M6 2 (267 + n) c' = M7) (r8 : M7 2 74 = c'') (e8 : xup M7 2 (65 + m) c'' = M8) : xK X 126 [.ref 78, .int (nI m)] (sh, xput 8 σ 78 M) = some (none, (sh, xput 8 σ 78 (if f ≤ 0 then M1 else M8))) := by
  have hM := hm
  obtain ⟨m0, m1, m2, m3, m4, m5, m6, m7⟩ := hm
  by_cases gw : wi = a
  · rw [if_pos gw] at ho
    by_cases gf : f ≤ 0
    · rw [xK_d X 126 _ _ [] 60]
      subst gw; subst ho; subst hwi; subst hot
      simp [xent, xsl, Value.category, xr_d, xr_0, xg_nx, xg_n, xg_o, xg_c, xth_s, xth_v, xth_ite, xth_n, xd_iconst, xd_bipush, xd_sipush, xd_lconst, xd_iload, xd_iload_n, xd_lload, xd_lload_n, xd_aload, xd_aload_n, xd_istore, xd_istore_n, xd_astore, xd_astore_n, xd_lstore, xd_lstore_n, xd_iadd, xd_isub, xd_imul, xd_iand, xd_ior, xd_ishl, xd_ishr, xd_ladd, xd_lsub, xd_lmul, xd_land, xd_lor, xd_idiv, xd_irem, xd_ldiv, xd_lrem, xd_ineg, xd_lneg, xd_lshl, xd_lshr, xd_lcmp, xd_i2l, xd_l2i, xd_dup_int, xd_dup_ref, xd_pop, xd_dup2, xd_goto, xd_ifC, xd_ifI, xd_getf, xd_putI, xd_putR, xd_iald, xd_ialdX, xd_bald, xd_iast, xd_bast, xd_aald, xd_aast, xd_alen, xd_alenX, xd_newI, xd_newZ, xd_newQ, xd_newO, xd_invS, xd_invV, xd_invI, xd_iret, xd_lret, xd_vret, xd_ldc, xd_ldc2, xd_iinc, xd_aret, xd_tsw, xd_lsw, xC_d, xld, xisI, xisL, xisA, xgo_ite, xjp, xcmp, xrt, xinv, xcall, xpop, xcat, xgf, xal, xas, xpf, xle, xaq, xbite, xbite2, xsto, xsto2, xst1, xst2, xkl, xtt, xnum, xi0, xzf, v3, List.getElem?_cons_zero, List.getElem?_cons_succ, List.set_cons_zero, List.set_cons_succ, d126_0, d126_1, d126_4, d126_6, d126_7, d126_8, d126_9, d126_10, d126_11, d126_14, d126_16, d126_17, d126_18, d126_19, d126_20, d126_21, d126_24, d126_26, d126_27, d126_28, d126_29, d126_30, d126_31, d126_34, d126_35, d126_38, d126_39, d126_40, d126_43, d126_45, d126_46, d126_47, d126_48, d126_50, d126_52, d126_53, d126_56, d126_57, d126_60, d126_61, d126_63, d126_64, d126_67, d126_69, d126_71, d126_72, d126_73, d126_74, d126_77, d126_79, d126_81, d126_82, d126_83, d126_84, d126_86, d126_88, d126_91, d126_92, d126_95, d126_97, d126_98, d126_100, d126_101, d126_104, d126_106, d126_107, d126_108, d126_109, d126_110, d126_111, d126_112, d126_115, d126_117, d126_118, d126_119, d126_120, d126_121, d126_122, d126_123, d126_126, d126_128, d126_130, d126_131, d126_132, d126_133, d126_134, d126_137, d126_140, d126_142, d126_143, d126_144, d126_147, d126_149, d126_151, d126_152, d126_153, d126_154, d126_157, d126_159, d126_161, d126_162, d126_163, d126_164, d126_165, d126_166, d126_169, d126_172, d126_174, d126_175, d126_177, d126_178, d126_179, d126_182, d126_185, d126_187, d126_188, d126_189, d126_192, d126_194, d126_195, d126_196, d126_197, d126_200, d126_202, d126_203, d126_204, d126_205, d126_208, d126_210, d126_211, d126_212, wo126, wm126, wr126, f9_13, b16_139, b16_203, b16_267, b8_24, b8_32, b8_41, b8_49, b8_57, b8_65, b8_73, b8_74, b8_75, m0, m1, m2, m3, m4, m5, m6, m7, p78, p79, p80, p81, p82, p83, p84, p85, r78, r79, r80, r81, r82, r83, r84, r85, zb_0, zc_0, zb_8, zc_8, zb_16, zc_16, zb_24, zc_24, zb_32, zc_32, zb_41, zc_41, zb_49, zc_49, zb_57, zc_57, zb_65, zc_65, zb_75, zc_75, zb_139, zc_139, zb_203, zc_203, zb_267, zc_267, kb_40, kc_40, kb_42, kc_42, kb_73, kc_73, kb_74, kc_74, hm8, hw8, ho8, hn, ra, rb, ga, gb, gf, e1, rw1, r1, r2, hf, r3, e2, r4, e3, e4, r5, r6, e5, e6, r7, e7, r8, e8]
    · rw [xK_d X 126 _ _ [] 140]
      subst gw; subst ho; subst hwi; subst hot
      simp [xent, xsl, Value.category, xr_d, xr_0, xg_nx, xg_n, xg_o, xg_c, xth_s, xth_v, xth_ite, xth_n, xd_iconst, xd_bipush, xd_sipush, xd_lconst, xd_iload, xd_iload_n, xd_lload, xd_lload_n, xd_aload, xd_aload_n, xd_istore, xd_istore_n, xd_astore, xd_astore_n, xd_lstore, xd_lstore_n, xd_iadd, xd_isub, xd_imul, xd_iand, xd_ior, xd_ishl, xd_ishr, xd_ladd, xd_lsub, xd_lmul, xd_land, xd_lor, xd_idiv, xd_irem, xd_ldiv, xd_lrem, xd_ineg, xd_lneg, xd_lshl, xd_lshr, xd_lcmp, xd_i2l, xd_l2i, xd_dup_int, xd_dup_ref, xd_pop, xd_dup2, xd_goto, xd_ifC, xd_ifI, xd_getf, xd_putI, xd_putR, xd_iald, xd_ialdX, xd_bald, xd_iast, xd_bast, xd_aald, xd_aast, xd_alen, xd_alenX, xd_newI, xd_newZ, xd_newQ, xd_newO, xd_invS, xd_invV, xd_invI, xd_iret, xd_lret, xd_vret, xd_ldc, xd_ldc2, xd_iinc, xd_aret, xd_tsw, xd_lsw, xC_d, xld, xisI, xisL, xisA, xgo_ite, xjp, xcmp, xrt, xinv, xcall, xpop, xcat, xgf, xal, xas, xpf, xle, xaq, xbite, xbite2, xsto, xsto2, xst1, xst2, xkl, xtt, xnum, xi0, xzf, v3, List.getElem?_cons_zero, List.getElem?_cons_succ, List.set_cons_zero, List.set_cons_succ, d126_0, d126_1, d126_4, d126_6, d126_7, d126_8, d126_9, d126_10, d126_11, d126_14, d126_16, d126_17, d126_18, d126_19, d126_20, d126_21, d126_24, d126_26, d126_27, d126_28, d126_29, d126_30, d126_31, d126_34, d126_35, d126_38, d126_39, d126_40, d126_43, d126_45, d126_46, d126_47, d126_48, d126_50, d126_52, d126_53, d126_56, d126_57, d126_60, d126_61, d126_63, d126_64, d126_67, d126_69, d126_71, d126_72, d126_73, d126_74, d126_77, d126_79, d126_81, d126_82, d126_83, d126_84, d126_86, d126_88, d126_91, d126_92, d126_95, d126_97, d126_98, d126_100, d126_101, d126_104, d126_106, d126_107, d126_108, d126_109, d126_110, d126_111, d126_112, d126_115, d126_117, d126_118, d126_119, d126_120, d126_121, d126_122, d126_123, d126_126, d126_128, d126_130, d126_131, d126_132, d126_133, d126_134, d126_137, d126_140, d126_142, d126_143, d126_144, d126_147, d126_149, d126_151, d126_152, d126_153, d126_154, d126_157, d126_159, d126_161, d126_162, d126_163, d126_164, d126_165, d126_166, d126_169, d126_172, d126_174, d126_175, d126_177, d126_178, d126_179, d126_182, d126_185, d126_187, d126_188, d126_189, d126_192, d126_194, d126_195, d126_196, d126_197, d126_200, d126_202, d126_203, d126_204, d126_205, d126_208, d126_210, d126_211, d126_212, wo126, wm126, wr126, f9_13, b16_139, b16_203, b16_267, b8_24, b8_32, b8_41, b8_49, b8_57, b8_65, b8_73, b8_74, b8_75, m0, m1, m2, m3, m4, m5, m6, m7, p78, p79, p80, p81, p82, p83, p84, p85, r78, r79, r80, r81, r82, r83, r84, r85, zb_0, zc_0, zb_8, zc_8, zb_16, zc_16, zb_24, zc_24, zb_32, zc_32, zb_41, zc_41, zb_49, zc_49, zb_57, zc_57, zb_65, zc_65, zb_75, zc_75, zb_139, zc_139, zb_203, zc_203, zb_267, zc_267, kb_40, kc_40, kb_42, kc_42, kb_73, kc_73, kb_74, kc_74, hm8, hw8, ho8, hn, ra, rb, ga, gb, gf, e1, rw1, r1, r2, hf, r3, e2, r4, e3, e4, r5, r6, e5, e6, r7, e7, r8, e8]
  · rw [if_neg gw] at ho
    by_cases gf : f ≤ 0
    · rw [xK_d X 126 _ _ [] 60]
      subst ho; subst hwi; subst hot
      simp [xent, xsl, Value.category, xr_d, xr_0, xg_nx, xg_n, xg_o, xg_c, xth_s, xth_v, xth_ite, xth_n, xd_iconst, xd_bipush, xd_sipush, xd_lconst, xd_iload, xd_iload_n, xd_lload, xd_lload_n, xd_aload, xd_aload_n, xd_istore, xd_istore_n, xd_astore, xd_astore_n, xd_lstore, xd_lstore_n, xd_iadd, xd_isub, xd_imul, xd_iand, xd_ior, xd_ishl, xd_ishr, xd_ladd, xd_lsub, xd_lmul, xd_land, xd_lor, xd_idiv, xd_irem, xd_ldiv, xd_lrem, xd_ineg, xd_lneg, xd_lshl, xd_lshr, xd_lcmp, xd_i2l, xd_l2i, xd_dup_int, xd_dup_ref, xd_pop, xd_dup2, xd_goto, xd_ifC, xd_ifI, xd_getf, xd_putI, xd_putR, xd_iald, xd_ialdX, xd_bald, xd_iast, xd_bast, xd_aald, xd_aast, xd_alen, xd_alenX, xd_newI, xd_newZ, xd_newQ, xd_newO, xd_invS, xd_invV, xd_invI, xd_iret, xd_lret, xd_vret, xd_ldc, xd_ldc2, xd_iinc, xd_aret, xd_tsw, xd_lsw, xC_d, xld, xisI, xisL, xisA, xgo_ite, xjp, xcmp, xrt, xinv, xcall, xpop, xcat, xgf, xal, xas, xpf, xle, xaq, xbite, xbite2, xsto, xsto2, xst1, xst2, xkl, xtt, xnum, xi0, xzf, v3, List.getElem?_cons_zero, List.getElem?_cons_succ, List.set_cons_zero, List.set_cons_succ, d126_0, d126_1, d126_4, d126_6, d126_7, d126_8, d126_9, d126_10, d126_11, d126_14, d126_16, d126_17, d126_18, d126_19, d126_20, d126_21, d126_24, d126_26, d126_27, d126_28, d126_29, d126_30, d126_31, d126_34, d126_35, d126_38, d126_39, d126_40, d126_43, d126_45, d126_46, d126_47, d126_48, d126_50, d126_52, d126_53, d126_56, d126_57, d126_60, d126_61, d126_63, d126_64, d126_67, d126_69, d126_71, d126_72, d126_73, d126_74, d126_77, d126_79, d126_81, d126_82, d126_83, d126_84, d126_86, d126_88, d126_91, d126_92, d126_95, d126_97, d126_98, d126_100, d126_101, d126_104, d126_106, d126_107, d126_108, d126_109, d126_110, d126_111, d126_112, d126_115, d126_117, d126_118, d126_119, d126_120, d126_121, d126_122, d126_123, d126_126, d126_128, d126_130, d126_131, d126_132, d126_133, d126_134, d126_137, d126_140, d126_142, d126_143, d126_144, d126_147, d126_149, d126_151, d126_152, d126_153, d126_154, d126_157, d126_159, d126_161, d126_162, d126_163, d126_164, d126_165, d126_166, d126_169, d126_172, d126_174, d126_175, d126_177, d126_178, d126_179, d126_182, d126_185, d126_187, d126_188, d126_189, d126_192, d126_194, d126_195, d126_196, d126_197, d126_200, d126_202, d126_203, d126_204, d126_205, d126_208, d126_210, d126_211, d126_212, wo126, wm126, wr126, f9_13, b16_139, b16_203, b16_267, b8_24, b8_32, b8_41, b8_49, b8_57, b8_65, b8_73, b8_74, b8_75, m0, m1, m2, m3, m4, m5, m6, m7, p78, p79, p80, p81, p82, p83, p84, p85, r78, r79, r80, r81, r82, r83, r84, r85, zb_0, zc_0, zb_8, zc_8, zb_16, zc_16, zb_24, zc_24, zb_32, zc_32, zb_41, zc_41, zb_49, zc_49, zb_57, zc_57, zb_65, zc_65, zb_75, zc_75, zb_139, zc_139, zb_203, zc_203, zb_267, zc_267, kb_40, kc_40, kb_42, kc_42, kb_73, kc_73, kb_74, kc_74, hm8, hw8, ho8, hn, ra, rb, ga, gb, gf, e1, rw1, r1, r2, hf, r3, e2, r4, e3, e4, r5, r6, e5, e6, r7, e7, r8, e8, gw]
    · rw [xK_d X 126 _ _ [] 140]
      subst ho; subst hwi; subst hot
      simp [xent, xsl, Value.category, xr_d, xr_0, xg_nx, xg_n, xg_o, xg_c, xth_s, xth_v, xth_ite, xth_n, xd_iconst, xd_bipush, xd_sipush, xd_lconst, xd_iload, xd_iload_n, xd_lload, xd_lload_n, xd_aload, xd_aload_n, xd_istore, xd_istore_n, xd_astore, xd_astore_n, xd_lstore, xd_lstore_n, xd_iadd, xd_isub, xd_imul, xd_iand, xd_ior, xd_ishl, xd_ishr, xd_ladd, xd_lsub, xd_lmul, xd_land, xd_lor, xd_idiv, xd_irem, xd_ldiv, xd_lrem, xd_ineg, xd_lneg, xd_lshl, xd_lshr, xd_lcmp, xd_i2l, xd_l2i, xd_dup_int, xd_dup_ref, xd_pop, xd_dup2, xd_goto, xd_ifC, xd_ifI, xd_getf, xd_putI, xd_putR, xd_iald, xd_ialdX, xd_bald, xd_iast, xd_bast, xd_aald, xd_aast, xd_alen, xd_alenX, xd_newI, xd_newZ, xd_newQ, xd_newO, xd_invS, xd_invV, xd_invI, xd_iret, xd_lret, xd_vret, xd_ldc, xd_ldc2, xd_iinc, xd_aret, xd_tsw, xd_lsw, xC_d, xld, xisI, xisL, xisA, xgo_ite, xjp, xcmp, xrt, xinv, xcall, xpop, xcat, xgf, xal, xas, xpf, xle, xaq, xbite, xbite2, xsto, xsto2, xst1, xst2, xkl, xtt, xnum, xi0, xzf, v3, List.getElem?_cons_zero, List.getElem?_cons_succ, List.set_cons_zero, List.set_cons_succ, d126_0, d126_1, d126_4, d126_6, d126_7, d126_8, d126_9, d126_10, d126_11, d126_14, d126_16, d126_17, d126_18, d126_19, d126_20, d126_21, d126_24, d126_26, d126_27, d126_28, d126_29, d126_30, d126_31, d126_34, d126_35, d126_38, d126_39, d126_40, d126_43, d126_45, d126_46, d126_47, d126_48, d126_50, d126_52, d126_53, d126_56, d126_57, d126_60, d126_61, d126_63, d126_64, d126_67, d126_69, d126_71, d126_72, d126_73, d126_74, d126_77, d126_79, d126_81, d126_82, d126_83, d126_84, d126_86, d126_88, d126_91, d126_92, d126_95, d126_97, d126_98, d126_100, d126_101, d126_104, d126_106, d126_107, d126_108, d126_109, d126_110, d126_111, d126_112, d126_115, d126_117, d126_118, d126_119, d126_120, d126_121, d126_122, d126_123, d126_126, d126_128, d126_130, d126_131, d126_132, d126_133, d126_134, d126_137, d126_140, d126_142, d126_143, d126_144, d126_147, d126_149, d126_151, d126_152, d126_153, d126_154, d126_157, d126_159, d126_161, d126_162, d126_163, d126_164, d126_165, d126_166, d126_169, d126_172, d126_174, d126_175, d126_177, d126_178, d126_179, d126_182, d126_185, d126_187, d126_188, d126_189, d126_192, d126_194, d126_195, d126_196, d126_197, d126_200, d126_202, d126_203, d126_204, d126_205, d126_208, d126_210, d126_211, d126_212, wo126, wm126, wr126, f9_13, b16_139, b16_203, b16_267, b8_24, b8_32, b8_41, b8_49, b8_57, b8_65, b8_73, b8_74, b8_75, m0, m1, m2, m3, m4, m5, m6, m7, p78, p79, p80, p81, p82, p83, p84, p85, r78, r79, r80, r81, r82, r83, r84, r85, zb_0, zc_0, zb_8, zc_8, zb_16, zc_16, zb_24, zc_24, zb_32, zc_32, zb_41, zc_41, zb_49, zc_49, zb_57, zc_57, zb_65, zc_65, zb_75, zc_75, zb_139, zc_139, zb_203, zc_203, zb_267, zc_267, kb_40, kc_40, kb_42, kc_42, kb_73, kc_73, kb_74, kc_74, hm8, hw8, ho8, hn, ra, rb, ga, gb, gf, e1, rw1, r1, r2, hf, r3, e2, r4, e3, e4, r5, r6, e5, e6, r7, e7, r8, e8, gw]
theorem k126 (X : xX) (sh : List (Nat × Nat × List Value)) (σ M : Nat → Nat → Int32) (hm : xmod sh) (m : Nat) (hm8 : m < 8) (h73 : xin (M 2 73) 64 = true) (ha : M 2 (49 + m) < 0 ∨ xin (M 2 (49 + m)) 8 = true) (hb : M 2 (57 + m) < 0 ∨ xin (M 2 (57 + m)) 8 = true) (hw : ¬ M 2 (49 + m) < 0 → ¬ M 2 (57 + m) < 0 → xin (M 2 (41 + m)) 8 = true) : xK X 126 [.ref 78, .int (nI m)] (sh, xput 8 σ 78 M) = some (none, (sh, xput 8 σ 78 (rCert M m))) := by
  rw [rCert]
  by_cases g1 : M 2 (49 + m) < 0
  · rw [if_pos g1]
    exact x126 X sh σ M hm m hm8 _ _ rfl rfl (Or.inl g1)
  · rw [if_neg g1]
    by_cases g2 : M 2 (57 + m) < 0
    · rw [if_pos g2]
      exact x126 X sh σ M hm m hm8 _ _ rfl rfl (Or.inr g2)
    · rw [if_neg g2]
      have ha' : xin (M 2 (49 + m)) 8 = true := by
        rcases ha with ha | ha
        · exact absurd ha g1
        · exact ha
      have hb' : xin (M 2 (57 + m)) 8 = true := by
        rcases hb with hb | hb
        · exact absurd hb g2
        · exact hb
      have ho' : xin (rOth M m) 8 = true := by
        unfold rOth
        split
        · exact hb'
        · exact ha'
      obtain ⟨n, hn, en⟩ := xin_of h73 (by omega)
      obtain ⟨w, hw8, ew⟩ := xin_of (hw g1 g2) (by omega)
      obtain ⟨oo, ho8, eo⟩ := xin_of ho' (by omega)
      have cn : (M 2 73).toNatClampNeg = n := by rw [en]; exact nI_cl (by omega)
      have cw : (M 2 (41 + m)).toNatClampNeg = w := by rw [ew]; exact nI_cl (by omega)
      have co : (rOth M m).toNatClampNeg = oo := by rw [eo]; exact nI_cl (by omega)
      have hf : rFas M m = M 2 (32 + oo) - M 2 (32 + w) := by unfold rFas; rw [cw, co]
      rw [cn, cw, co]
      exact g126 X sh σ M hm (rC1 M m) _ _ _ _ _ _ _ m n w oo _ _ _ _ (rFas M m) _ _ _ _ _ _ _ hm8 hw8 ho8 hn rfl rfl g1 (Int32.not_lt.mp g2) rfl (xup_q (by omega)) ew rfl eo (xup_q (by omega)) (xup_q (by omega)) hf.symm (by rw [rC1, xup_q (by omega)]; exact en) rfl rfl rfl rfl rfl rfl rfl rfl rfl rfl rfl rfl
theorem rPut_lo {M : Nat → Nat → Int32} {m n w oo k : Nat} {f : Int32} (h : k < 65) : rPut M m n w oo f 2 k = M 2 k := by
  unfold rPut rC8 rC7 rC6 rC5 rC4 rC3 rC2
  rw [xup_q (by omega), xup_q (by omega), xup_q (by omega), xup_q (by omega), xup_q (by omega), xup_q (by omega), xup_q (by omega)]
theorem rPut_rw {M : Nat → Nat → Int32} {m n w oo a k : Nat} {f : Int32} (h : ¬ a = 2) : rPut M m n w oo f a k = M a k := by
  unfold rPut rC8 rC7 rC6 rC5 rC4 rC3 rC2
  rw [xup_q (by omega), xup_q (by omega), xup_q (by omega), xup_q (by omega), xup_q (by omega), xup_q (by omega), xup_q (by omega)]
theorem rPut_73 {M : Nat → Nat → Int32} {m n w oo : Nat} {f : Int32} (hm : m < 8) : rPut M m n w oo f 2 73 = nI n + 1 := by
  unfold rPut rC8 rC7 rC6 rC5 rC4 rC3 rC2
  rw [xup_q (by omega), xup_q (by omega), xup_q (by omega), xup_q (by omega), xup_q (by omega), xup_q (by omega), xup_same]
theorem rC1_lo {M : Nat → Nat → Int32} {m k : Nat} (h : k < 65) : rC1 M m 2 k = M 2 k := xup_q (by omega)
theorem rCert_lo {M : Nat → Nat → Int32} {m k : Nat} (h : k < 65) : rCert M m 2 k = M 2 k := by
  unfold rCert
  split
  · exact rC1_lo h
  split
  · exact rC1_lo h
  split
  · exact rC1_lo h
  · rw [rPut_lo h, rC1_lo h]
theorem rCert_rw {M : Nat → Nat → Int32} {m a k : Nat} (h : ¬ a = 2) : rCert M m a k = M a k := by
  unfold rCert rC1
  split
  · exact xup_q (by omega)
  split
  · exact xup_q (by omega)
  split
  · exact xup_q (by omega)
  · rw [rPut_rw h]; exact xup_q (by omega)
theorem rC1_73 {M : Nat → Nat → Int32} {m : Nat} (h : m < 8) : rC1 M m 2 73 = M 2 73 := xup_q (by omega)
theorem rCert_73 {M : Nat → Nat → Int32} {m n : Nat} (hm : m < 8) (hn : n < 64) (h : M 2 73 = nI n) : ∃ n', n' ≤ n + 1 ∧ rCert M m 2 73 = nI n' := by
  have c : (M 2 73).toNatClampNeg = n := by rw [h]; exact nI_cl (by omega)
  unfold rCert
  split
  · exact ⟨n, by omega, by rw [rC1_73 hm, h]⟩
  split
  · exact ⟨n, by omega, by rw [rC1_73 hm, h]⟩
  split
  · exact ⟨n, by omega, by rw [rC1_73 hm, h]⟩
  · exact ⟨n + 1, by omega, by rw [rPut_73 hm, c]; exact nI_1 n⟩
def rA1 (M : Nat → Nat → Int32) (m : Nat) : Nat → Nat → Int32 := xup M 2 (49 + m) (rCo (M 2) m 0)
def rA2 (M : Nat → Nat → Int32) (m : Nat) : Nat → Nat → Int32 := xup M 2 (57 + m) (rCo (M 2) m 1)
def rA3 (M : Nat → Nat → Int32) (m : Nat) : Nat → Nat → Int32 := xup M 2 (41 + m) (rBet (M 2) (M 2 (49 + m)) (M 2 (57 + m)) (M 2 40) 1)
def rAs (M : Nat → Nat → Int32) (m : Nat) : Nat → Nat → Int32 := rCert (rA3 (rA2 (rA1 M m) m) m) m
def rAl : Nat → (Nat → Nat → Int32) → Nat → Nat → Int32
  | 0, M => M
  | m + 1, M => rAl m (rAs M (m + 1))
def rAnew (M : Nat → Nat → Int32) : Nat → Nat → Int32 := rAl 7 (xup (xup M 2 73 0) 2 74 0)
set_option maxRecDepth 100000 in
set_option maxHeartbeats 4000000 in
theorem g121 (X : xX) (sh : List (Nat × Nat × List Value)) (σ M : Nat → Nat → Int32) (hm : xmod sh) (M1 M2 M3 M4 : Nat → Nat → Int32) (m : Nat) (a b w s ra rb : Int32) (hm8 : m < 8) (hm0 : 0 < m) (q1 : xK X 122 [.ref 78, .int (nI m), .int 0] (sh, xput 8 σ 78 M) = some (some (.int a), (sh, xput 8 σ 78 M))) (e1 : xup M 2 (49 + m) a = M1) (q2 : xK X 122 [.ref 78, .int (nI m), .int 1] (sh, xput 8 σ 78 (M1)) = some (some (.int b), (sh, xput 8 σ 78 (M1)))) (e2 : xup M1 2 (57 + m) b = M2) (r1 : M2 2 (49 + m) = ra) (r2 : M2 2 (57 + m) = rb) (r3 : M2 2 40 = s) (q3 : xK X 124 [.ref 78, .int ra, .int rb, .int s, .int 1] (sh, xput 8 σ 78 (M2)) = some (some (.int w), (sh, xput 8 σ 78 (M2)))) (e3 : xup M2 2 (41 + m) w = M3) (q4 : xK X 126 [.ref 78, .int (nI m)] (sh, xput 8 σ 78 (M3)) = some (none, (sh, xput 8 σ 78 (M4)))) : xV X 121 (19, [.ref 78, .int (nI m)], [], (sh, xput 8 σ 78 M)) = xV X 121 (19, [.ref 78, .int (nI (m - 1))], [], (sh, xput 8 σ 78 (M4))) := by
  have hM := hm
  obtain ⟨m0, m1, m2, m3, m4, m5, m6, m7⟩ := hm
  have g1 : ¬ nI m ≤ 0 := nI_lt' (a := 0) (b := m) hm0 (by omega)
  have g2 : nI m + -1 = nI (m - 1) := by rw [← Int32.sub_eq_add_neg, show (1 : Int32) = nI 1 from rfl, nI_sb (by omega)]
  rw [xV_d X 121 [19] 60]
  simp [xent, xsl, Value.category, xr_d, xr_0, xg_nx, xg_n, xg_o, xg_c, xth_s, xth_v, xth_ite, xth_n, xd_iconst, xd_bipush, xd_sipush, xd_lconst, xd_iload, xd_iload_n, xd_lload, xd_lload_n, xd_aload, xd_aload_n, xd_istore, xd_istore_n, xd_astore, xd_astore_n, xd_lstore, xd_lstore_n, xd_iadd, xd_isub, xd_imul, xd_iand, xd_ior, xd_ishl, xd_ishr, xd_ladd, xd_lsub, xd_lmul, xd_land, xd_lor, xd_idiv, xd_irem, xd_ldiv, xd_lrem, xd_ineg, xd_lneg, xd_lshl, xd_lshr, xd_lcmp, xd_i2l, xd_l2i, xd_dup_int, xd_dup_ref, xd_pop, xd_dup2, xd_goto, xd_ifC, xd_ifI, xd_getf, xd_putI, xd_putR, xd_iald, xd_ialdX, xd_bald, xd_iast, xd_bast, xd_aald, xd_aast, xd_alen, xd_alenX, xd_newI, xd_newZ, xd_newQ, xd_newO, xd_invS, xd_invV, xd_invI, xd_iret, xd_lret, xd_vret, xd_ldc, xd_ldc2, xd_iinc, xd_aret, xd_tsw, xd_lsw, xC_d, xld, xisI, xisL, xisA, xgo_ite, xjp, xcmp, xrt, xinv, xcall, xpop, xcat, xgf, xal, xas, xpf, xle, xaq, xbite, xbite2, xsto, xsto2, xst1, xst2, xkl, xtt, xnum, xi0, xzf, v3, List.getElem?_cons_zero, List.getElem?_cons_succ, List.set_cons_zero, List.set_cons_succ, d121_0, d121_1, d121_4, d121_6, d121_7, d121_8, d121_9, d121_12, d121_14, d121_15, d121_16, d121_18, d121_19, d121_20, d121_23, d121_24, d121_27, d121_29, d121_30, d121_31, d121_32, d121_33, d121_34, d121_37, d121_38, d121_39, d121_42, d121_44, d121_45, d121_46, d121_47, d121_48, d121_49, d121_52, d121_53, d121_54, d121_57, d121_59, d121_60, d121_61, d121_62, d121_63, d121_66, d121_68, d121_69, d121_70, d121_71, d121_72, d121_75, d121_77, d121_78, d121_79, d121_80, d121_81, d121_84, d121_86, d121_87, d121_88, d121_91, d121_92, d121_93, d121_94, d121_97, d121_100, d121_103, wo121, wm121, wr121, f9_13, m9_66, m9_70, m9_74, r121_122, r121_124, r121_126, wm122, wm124, wm126, wo122, wo124, wo126, b8_40, b8_41, b8_49, b8_57, b8_7, b8_73, b8_74, m0, m1, m2, m3, m4, m5, m6, m7, p78, p79, p80, p81, p82, p83, p84, p85, r78, r79, r80, r81, r82, r83, r84, r85, zb_0, zc_0, zb_8, zc_8, zb_16, zc_16, zb_24, zc_24, zb_32, zc_32, zb_41, zc_41, zb_49, zc_49, zb_57, zc_57, zb_65, zc_65, zb_75, zc_75, zb_139, zc_139, zb_203, zc_203, zb_267, zc_267, kb_40, kc_40, kb_42, kc_42, kb_73, kc_73, kb_74, kc_74, hm8, g1, g2, q1, e1, q2, e2, r1, r2, r3, q3, e3, q4]
set_option maxRecDepth 100000 in
set_option maxHeartbeats 4000000 in
theorem x121 (X : xX) (sh : List (Nat × Nat × List Value)) (σ M : Nat → Nat → Int32) (hm : xmod sh)  : xV X 121 (19, [.ref 78, .int 0], [], (sh, xput 8 σ 78 M)) = some (none, (sh, xput 8 σ 78 M)) := by
  have hM := hm
  obtain ⟨m0, m1, m2, m3, m4, m5, m6, m7⟩ := hm
  rw [xV_d X 121 [19] 60]
  simp [xent, xsl, Value.category, xr_d, xr_0, xg_nx, xg_n, xg_o, xg_c, xth_s, xth_v, xth_ite, xth_n, xd_iconst, xd_bipush, xd_sipush, xd_lconst, xd_iload, xd_iload_n, xd_lload, xd_lload_n, xd_aload, xd_aload_n, xd_istore, xd_istore_n, xd_astore, xd_astore_n, xd_lstore, xd_lstore_n, xd_iadd, xd_isub, xd_imul, xd_iand, xd_ior, xd_ishl, xd_ishr, xd_ladd, xd_lsub, xd_lmul, xd_land, xd_lor, xd_idiv, xd_irem, xd_ldiv, xd_lrem, xd_ineg, xd_lneg, xd_lshl, xd_lshr, xd_lcmp, xd_i2l, xd_l2i, xd_dup_int, xd_dup_ref, xd_pop, xd_dup2, xd_goto, xd_ifC, xd_ifI, xd_getf, xd_putI, xd_putR, xd_iald, xd_ialdX, xd_bald, xd_iast, xd_bast, xd_aald, xd_aast, xd_alen, xd_alenX, xd_newI, xd_newZ, xd_newQ, xd_newO, xd_invS, xd_invV, xd_invI, xd_iret, xd_lret, xd_vret, xd_ldc, xd_ldc2, xd_iinc, xd_aret, xd_tsw, xd_lsw, xC_d, xld, xisI, xisL, xisA, xgo_ite, xjp, xcmp, xrt, xinv, xcall, xpop, xcat, xgf, xal, xas, xpf, xle, xaq, xbite, xbite2, xsto, xsto2, xst1, xst2, xkl, xtt, xnum, xi0, xzf, v3, List.getElem?_cons_zero, List.getElem?_cons_succ, List.set_cons_zero, List.set_cons_succ, d121_0, d121_1, d121_4, d121_6, d121_7, d121_8, d121_9, d121_12, d121_14, d121_15, d121_16, d121_18, d121_19, d121_20, d121_23, d121_24, d121_27, d121_29, d121_30, d121_31, d121_32, d121_33, d121_34, d121_37, d121_38, d121_39, d121_42, d121_44, d121_45, d121_46, d121_47, d121_48, d121_49, d121_52, d121_53, d121_54, d121_57, d121_59, d121_60, d121_61, d121_62, d121_63, d121_66, d121_68, d121_69, d121_70, d121_71, d121_72, d121_75, d121_77, d121_78, d121_79, d121_80, d121_81, d121_84, d121_86, d121_87, d121_88, d121_91, d121_92, d121_93, d121_94, d121_97, d121_100, d121_103, wo121, wm121, wr121, f9_13, m9_66, m9_70, m9_74, r121_122, r121_124, r121_126, wm122, wm124, wm126, wo122, wo124, wo126, b8_40, b8_41, b8_49, b8_57, b8_7, b8_73, b8_74, m0, m1, m2, m3, m4, m5, m6, m7, p78, p79, p80, p81, p82, p83, p84, p85, r78, r79, r80, r81, r82, r83, r84, r85]
def rV (x : Int32) : Prop := x < 0 ∨ xin x 8 = true
theorem rV_6 : rV (-6) := Or.inl (by decide)
theorem rV_n {i : Nat} (h : i < 8) : rV (nI i) := Or.inr (by rw [xin_nI (by omega)]; simp only [decide_eq_true_eq]; exact h)
theorem rOn_v (N : Nat → Int32) (pl : Int32) : ∀ d i, i + d ≤ 8 → rV (rOn N pl d i)
  | 0, _, _ => rV_6
  | d + 1, i, h => by
    rw [rOn]
    split
    · split
      · exact rV_n (by omega)
      · exact rOn_v N pl d (i + 1) (by omega)
    · exact rOn_v N pl d (i + 1) (by omega)
theorem rCo_v {N : Nat → Int32} {m s : Nat} (h : m ≤ 3 → rV (N (41 + 2 * m + s))) : rV (rCo N m s) := by
  unfold rCo
  split
  · exact rOn_v N _ 8 0 (by omega)
  · exact h (by omega)
theorem rBet_v {N : Nat → Int32} {a b p q : Int32} (ha : rV a) (hb : rV b) : rV (rBet N a b p q) := by
  unfold rBet
  split
  · exact hb
  split
  · exact ha
  split
  · exact ha
  · exact hb
theorem rBet_x {N : Nat → Int32} {a b p q : Int32} (ha : rV a) (hb : rV b) (h1 : ¬ a < 0) (h2 : ¬ b < 0) : xin (rBet N a b p q) 8 = true := by
  have ha' : xin a 8 = true := by
    rcases ha with ha | ha
    · exact absurd ha h1
    · exact ha
  have hb' : xin b 8 = true := by
    rcases hb with hb | hb
    · exact absurd hb h2
    · exact hb
  unfold rBet
  rw [if_neg h1, if_neg h2]
  split
  · exact ha'
  · exact hb'
/-- the winners above a match, and a size, for the loop of anew -/
def rI (M : Nat → Nat → Int32) (m : Nat) : Prop := (∀ k, m < k → k < 8 → rV (M 2 (41 + k))) ∧ ∃ n, n + m ≤ 7 ∧ M 2 73 = nI n
theorem rAs_lo {M : Nat → Nat → Int32} {m k : Nat} (h : k < 65) (h1 : ¬ k = 41 + m) (h2 : ¬ k = 49 + m) (h3 : ¬ k = 57 + m) : rAs M m 2 k = M 2 k := by
  unfold rAs
  rw [rCert_lo h, rA3, xup_q (by omega), rA2, xup_q (by omega), rA1, xup_q (by omega)]
theorem rAs_rw {M : Nat → Nat → Int32} {m a k : Nat} (h : ¬ a = 2) : rAs M m a k = M a k := by
  unfold rAs
  rw [rCert_rw h, rA3, xup_q (by omega), rA2, xup_q (by omega), rA1, xup_q (by omega)]
theorem rA_a {M : Nat → Nat → Int32} {m : Nat} : rA3 (rA2 (rA1 M m) m) m 2 (49 + m) = rCo (M 2) m 0 := by
  rw [rA3, xup_q (by omega), rA2, xup_q (by omega), rA1, xup_same]
theorem rA_b {M : Nat → Nat → Int32} {m : Nat} : rA3 (rA2 (rA1 M m) m) m 2 (57 + m) = rCo (rA1 M m 2) m 1 := by
  rw [rA3, xup_q (by omega), rA2, xup_same]
theorem rA_73 {M : Nat → Nat → Int32} {m : Nat} (h : m < 8) : rA3 (rA2 (rA1 M m) m) m 2 73 = M 2 73 := by
  rw [rA3, xup_q (by omega), rA2, xup_q (by omega), rA1, xup_q (by omega)]
theorem rI_a {M : Nat → Nat → Int32} {m : Nat} (hm8 : m < 8) (hm0 : 0 < m) (h : rI M m) : rV (rCo (M 2) m 0) := rCo_v (fun h3 => by
    rw [show 41 + 2 * m + 0 = 41 + (2 * m) by omega]
    exact h.1 (2 * m) (by omega) (by omega))
theorem rI_b {M : Nat → Nat → Int32} {m : Nat} (hm8 : m < 8) (hm0 : 0 < m) (h : rI M m) : rV (rCo (rA1 M m 2) m 1) := rCo_v (fun h3 => by
    rw [rA1, xup_q (by omega), show 41 + 2 * m + 1 = 41 + (2 * m + 1) by omega]
    exact h.1 (2 * m + 1) (by omega) (by omega))
theorem rI_s {M : Nat → Nat → Int32} {m : Nat} (hm8 : m < 7) (h : rI M (m + 1)) : rI (rAs M (m + 1)) m := by
  obtain ⟨h1, n, h2, h3⟩ := h
  have hI : rI M (m + 1) := ⟨h1, n, h2, h3⟩
  refine ⟨fun k hk hk8 => ?_, ?_⟩
  · by_cases e : k = m + 1
    · subst e
      unfold rAs
      rw [rCert_lo (by omega), rA3, xup_same]
      have e1 := rA_a (M := M) (m := m + 1)
      have e2 := rA_b (M := M) (m := m + 1)
      rw [rA3, xup_q (by omega)] at e1 e2
      rw [e1, e2]
      exact rBet_v (rI_a (by omega) (by omega) hI) (rI_b (by omega) (by omega) hI)
    · rw [rAs_lo (by omega) (by omega) (by omega) (by omega)]
      exact h1 k (by omega) hk8
  · obtain ⟨n', hn', e⟩ := rCert_73 (M := rA3 (rA2 (rA1 M (m + 1)) (m + 1)) (m + 1)) (m := m + 1) (n := n) (by omega) (by omega) (by rw [rA_73 (by omega), h3])
    exact ⟨n', by omega, e⟩
theorem i121 (X : xX) (sh : List (Nat × Nat × List Value)) (σ M : Nat → Nat → Int32) (hm : xmod sh) (m : Nat) (hm8 : m < 8) (hm0 : 0 < m) (h : rI M m) : xV X 121 (19, [.ref 78, .int (nI m)], [], (sh, xput 8 σ 78 M)) = xV X 121 (19, [.ref 78, .int (nI (m - 1))], [], (sh, xput 8 σ 78 (rAs M m))) := by
  obtain ⟨n, h2, h3⟩ := h.2
  have e1 := rA_a (M := M) (m := m)
  have e2 := rA_b (M := M) (m := m)
  have va := rI_a hm8 hm0 h
  have vb := rI_b hm8 hm0 h
  have f1 : rA2 (rA1 M m) m 2 (49 + m) = rCo (M 2) m 0 := by rw [rA2, xup_q (by omega), rA1, xup_same]
  have f2 : rA2 (rA1 M m) m 2 (57 + m) = rCo (rA1 M m 2) m 1 := by rw [rA2, xup_same]
  refine g121 X sh σ M hm (rA1 M m) (rA2 (rA1 M m) m) (rA3 (rA2 (rA1 M m) m) m) _ m _ _ _ _ _ _ hm8 hm0 (k122 X sh σ M hm m 0 hm8 (by omega)) rfl (k122 X sh σ (rA1 M m) hm m 1 hm8 (by omega)) rfl rfl rfl rfl (k124 X sh σ (rA2 (rA1 M m) m) hm _ _ _ _ (by rw [f1]; exact va) (by rw [f2]; exact vb)) rfl (k126 X sh σ _ hm m hm8 ?_ ?_ ?_ ?_)
  · rw [rA_73 hm8, h3, xin_nI (by omega)]
    simp only [decide_eq_true_eq]
    omega
  · rw [e1]; exact va
  · rw [e2]; exact vb
  · intro g1 g2
    rw [e1] at g1
    rw [e2] at g2
    rw [rA3, xup_same, f1, f2]
    exact rBet_x va vb g1 g2
theorem l121 (X : xX) (sh : List (Nat × Nat × List Value)) (σ : Nat → Nat → Int32) (hm : xmod sh) : ∀ m M, m < 8 → rI M m → xV X 121 (19, [.ref 78, .int (nI m)], [], (sh, xput 8 σ 78 M)) = some (none, (sh, xput 8 σ 78 (rAl m M)))
  | 0, M, h8, h => by
    rw [nI_0]
    exact x121 X sh σ M hm
  | m + 1, M, h8, h => by
    rw [i121 X sh σ M hm (m + 1) h8 (by omega) h, rAl]
    exact l121 X sh σ hm m _ (by omega) (rI_s (by omega) h)
set_option maxRecDepth 100000 in
set_option maxHeartbeats 4000000 in
theorem k121 (X : xX) (sh : List (Nat × Nat × List Value)) (σ M : Nat → Nat → Int32) (hm : xmod sh)  : xK X 121 [.ref 78] (sh, xput 8 σ 78 M) = some (none, (sh, xput 8 σ 78 (rAnew M))) := by
  have hM := hm
  obtain ⟨m0, m1, m2, m3, m4, m5, m6, m7⟩ := hm
  have el := l121 X sh σ hM 7 (xup (xup M 2 73 0) 2 74 0) (by omega) ⟨fun k h1 h2 => by omega, 0, by omega, by rw [xup_q (by omega), xup_same]; exact nI_0.symm⟩
  rw [show nI 7 = (7 : Int32) from rfl, ← rAnew] at el
  rw [xK_d X 121 _ _ [19] 90]
  simp [xent, xsl, Value.category, xr_d, xr_0, xg_nx, xg_n, xg_o, xg_c, xth_s, xth_v, xth_ite, xth_n, xd_iconst, xd_bipush, xd_sipush, xd_lconst, xd_iload, xd_iload_n, xd_lload, xd_lload_n, xd_aload, xd_aload_n, xd_istore, xd_istore_n, xd_astore, xd_astore_n, xd_lstore, xd_lstore_n, xd_iadd, xd_isub, xd_imul, xd_iand, xd_ior, xd_ishl, xd_ishr, xd_ladd, xd_lsub, xd_lmul, xd_land, xd_lor, xd_idiv, xd_irem, xd_ldiv, xd_lrem, xd_ineg, xd_lneg, xd_lshl, xd_lshr, xd_lcmp, xd_i2l, xd_l2i, xd_dup_int, xd_dup_ref, xd_pop, xd_dup2, xd_goto, xd_ifC, xd_ifI, xd_getf, xd_putI, xd_putR, xd_iald, xd_ialdX, xd_bald, xd_iast, xd_bast, xd_aald, xd_aast, xd_alen, xd_alenX, xd_newI, xd_newZ, xd_newQ, xd_newO, xd_invS, xd_invV, xd_invI, xd_iret, xd_lret, xd_vret, xd_ldc, xd_ldc2, xd_iinc, xd_aret, xd_tsw, xd_lsw, xC_d, xld, xisI, xisL, xisA, xgo_ite, xjp, xcmp, xrt, xinv, xcall, xpop, xcat, xgf, xal, xas, xpf, xle, xaq, xbite, xbite2, xsto, xsto2, xst1, xst2, xkl, xtt, xnum, xi0, xzf, v3, List.getElem?_cons_zero, List.getElem?_cons_succ, List.set_cons_zero, List.set_cons_succ, d121_0, d121_1, d121_4, d121_6, d121_7, d121_8, d121_9, d121_12, d121_14, d121_15, d121_16, d121_18, d121_19, d121_20, d121_23, d121_24, d121_27, d121_29, d121_30, d121_31, d121_32, d121_33, d121_34, d121_37, d121_38, d121_39, d121_42, d121_44, d121_45, d121_46, d121_47, d121_48, d121_49, d121_52, d121_53, d121_54, d121_57, d121_59, d121_60, d121_61, d121_62, d121_63, d121_66, d121_68, d121_69, d121_70, d121_71, d121_72, d121_75, d121_77, d121_78, d121_79, d121_80, d121_81, d121_84, d121_86, d121_87, d121_88, d121_91, d121_92, d121_93, d121_94, d121_97, d121_100, d121_103, wo121, wm121, wr121, f9_13, m9_66, m9_70, m9_74, r121_122, r121_124, r121_126, wm122, wm124, wm126, wo122, wo124, wo126, b8_40, b8_41, b8_49, b8_57, b8_7, b8_73, b8_74, m0, m1, m2, m3, m4, m5, m6, m7, p78, p79, p80, p81, p82, p83, p84, p85, r78, r79, r80, r81, r82, r83, r84, r85, zb_0, zc_0, zb_8, zc_8, zb_16, zc_16, zb_24, zc_24, zb_32, zc_32, zb_41, zc_41, zb_49, zc_49, zb_57, zc_57, zb_65, zc_65, zb_75, zc_75, zb_139, zc_139, zb_203, zc_203, zb_267, zc_267, kb_40, kc_40, kb_42, kc_42, kb_73, kc_73, kb_74, kc_74, el]
