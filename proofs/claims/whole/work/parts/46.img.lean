theorem e9 (X : xX) (sh : List (Nat × Nat × List Value)) (σ : Nat → Nat → Int32) (c : Nat) (hc : xcup sh c) (r : Int32)  : xK X 9 [.ref (c), .int r] (sh, σ) = some (some (.int (uPlace (xget σ c) r)), (sh, σ)) := by
  have h := k9 X sh σ (xget σ c) c hc r
  rw [xput_get] at h
  exact h
theorem e11 (X : xX) (sh : List (Nat × Nat × List Value)) (σ : Nat → Nat → Int32) (c : Nat) (hc : xcup sh c) (r : Int32)  : xK X 11 [.ref (c), .int r] (sh, σ) = some (some (.int (uKind (xget σ c) r)), (sh, σ)) := by
  have h := k11 X sh σ (xget σ c) c hc r
  rw [xput_get] at h
  exact h
theorem e25 (X : xX) (sh : List (Nat × Nat × List Value)) (σ : Nat → Nat → Int32) (c : Nat) (hc : xcup sh c) (r : Int32)  : xK X 25 [.ref (c), .int r] (sh, σ) = some (some (.int (uBase (xget σ c) r)), (sh, σ)) := by
  have h := k25 X sh σ (xget σ c) c hc r
  rw [xput_get] at h
  exact h
theorem e19 (X : xX) (sh : List (Nat × Nat × List Value)) (σ : Nat → Nat → Int32) (c : Nat) (hc : xcup sh c) (r : Int32)  : xK X 19 [.ref (c), .int r] (sh, σ) = some (some (.int (uSlope (xget σ c) r)), (sh, σ)) := by
  have h := k19 X sh σ (xget σ c) c hc r
  rw [xput_get] at h
  exact h
theorem e12 (X : xX) (sh : List (Nat × Nat × List Value)) (σ : Nat → Nat → Int32) (c : Nat) (hc : xcup sh c) (r : Int32)  : xK X 12 [.ref (c), .int r] (sh, σ) = some (some (.int (uIn (xget σ c) r)), (sh, σ)) := by
  have h := k12 X sh σ (xget σ c) c hc r
  rw [xput_get] at h
  exact h
theorem e5 (X : xX) (sh : List (Nat × Nat × List Value)) (σ : Nat → Nat → Int32) (c : Nat) (hc : xcup sh c) (r : Int32)  : xK X 5 [.ref (c), .int r] (sh, σ) = some (some (.int (uBest (xget σ c) r)), (sh, σ)) := by
  have h := k5 X sh σ (xget σ c) c hc r
  rw [xput_get] at h
  exact h
theorem e26 (X : xX) (sh : List (Nat × Nat × List Value)) (σ : Nat → Nat → Int32) (c : Nat) (hc : xcup sh c)   : xK X 26 [.ref (c)] (sh, σ) = some (some (.int (xget σ c 0 8)), (sh, σ)) := by
  have h := k26 X sh σ (xget σ c) c hc 
  rw [xput_get] at h
  exact h
theorem e28 (X : xX) (sh : List (Nat × Nat × List Value)) (σ : Nat → Nat → Int32) (c : Nat) (hc : xcup sh c)   : xK X 28 [.ref (c)] (sh, σ) = some (some (.ref (c + 7)), (sh, σ)) := by
  have h := k28 X sh σ (xget σ c) c hc 
  rw [xput_get] at h
  exact h
theorem e15 (X : xX) (sh : List (Nat × Nat × List Value)) (σ : Nat → Nat → Int32) (c : Nat) (hc : xcup sh c)   : xK X 15 [.ref (c)] (sh, σ) = some (some (.ref (c + 13)), (sh, σ)) := by
  have h := k15 X sh σ (xget σ c) c hc 
  rw [xput_get] at h
  exact h
theorem e31 (X : xX) (sh : List (Nat × Nat × List Value)) (σ : Nat → Nat → Int32) (c : Nat) (hc : xcup sh c) (r p q : Int32)  : xK X 31 [.ref (c), .int r, .int p, .int q] (sh, σ) = some (some (.int (uBase (xget σ c) r * q + uSlope (xget σ c) r * p)), (sh, σ)) := by
  have h := k31 X sh σ (xget σ c) c hc r p q
  rw [xput_get] at h
  exact h
theorem e54 (X : xX) (sh : List (Nat × Nat × List Value)) (σ : Nat → Nat → Int32) (c : Nat) (hc : xcup sh c) (i : Int32)  : xK X 54 [.ref (c + 7), .int i] (sh, σ) = some (some (.int (uMat (xget σ c) i)), (sh, σ)) := by
  have h := k54 X sh σ (xget σ c) c hc i
  rw [xput_get] at h
  exact h
theorem e57 (X : xX) (sh : List (Nat × Nat × List Value)) (σ : Nat → Nat → Int32) (c : Nat) (hc : xcup sh c) (i : Int32)  : xK X 57 [.ref (c + 7), .int i] (sh, σ) = some (some (.int (uUpp (xget σ c) i)), (sh, σ)) := by
  have h := k57 X sh σ (xget σ c) c hc i
  rw [xput_get] at h
  exact h
theorem e58 (X : xX) (sh : List (Nat × Nat × List Value)) (σ : Nat → Nat → Int32) (c : Nat) (hc : xcup sh c) (i : Int32)  : xK X 58 [.ref (c + 7), .int i] (sh, σ) = some (some (.int (uLow (xget σ c) i)), (sh, σ)) := by
  have h := k58 X sh σ (xget σ c) c hc i
  rw [xput_get] at h
  exact h
theorem e60 (X : xX) (sh : List (Nat × Nat × List Value)) (σ : Nat → Nat → Int32) (c : Nat) (hc : xcup sh c)   : xK X 60 [.ref (c + 7)] (sh, σ) = some (some (.int (xget σ c 7 5)), (sh, σ)) := by
  have h := k60 X sh σ (xget σ c) c hc 
  rw [xput_get] at h
  exact h
theorem e52 (X : xX) (sh : List (Nat × Nat × List Value)) (σ : Nat → Nat → Int32) (c : Nat) (hc : xcup sh c) (own : Int32) (n : Nat) (hn : xget σ c 7 5 = nI n) (hn32 : n ≤ 32) : xK X 52 [.ref (c + 7), .int own] (sh, σ) = some (some (.int (uE (xget σ c) own n)), (sh, σ)) := by
  have h := k52 X sh σ (xget σ c) c hc own n hn hn32
  rw [xput_get] at h
  exact h
theorem e27 (X : xX) (sh : List (Nat × Nat × List Value)) (σ : Nat → Nat → Int32) (c : Nat) (hc : xcup sh c) (p q : Int32)  : xK X 27 [.ref (c), .int p, .int q] (sh, σ) = some (some (.int (uLd (xget σ c) p q 8)), (sh, σ)) := by
  have h := k27 X sh σ (xget σ c) c hc p q
  rw [xput_get] at h
  exact h
theorem e29 (X : xX) (sh : List (Nat × Nat × List Value)) (σ : Nat → Nat → Int32) (c : Nat) (hc : xcup sh c) (p q : Int32)  : xK X 29 [.ref (c), .int p, .int q] (sh, σ) = some (some (.int (uLU (xget σ c) p q)), (sh, σ)) := by
  have h := k29 X sh σ (xget σ c) c hc p q
  rw [xput_get] at h
  exact h
theorem e13 (X : xX) (sh : List (Nat × Nat × List Value)) (σ : Nat → Nat → Int32) (c : Nat) (hc : xcup sh c) (r k a b : Int32)  : xK X 13 [.ref (c), .int r, .int k, .int a, .int b] (sh, σ) = some (none, (sh, xput 14 σ c (uEnr (xget σ c) r k a b))) := by
  have h := k13 X sh σ (xget σ c) c hc r k a b
  rw [xput_get] at h
  exact h
theorem e14 (X : xX) (sh : List (Nat × Nat × List Value)) (σ : Nat → Nat → Int32) (c d : Nat) (hc : xcup sh c) (hd : xcup sh d) (hcd : c + 14 ≤ d ∨ d + 14 ≤ c) : xK X 14 [.ref c, .ref d] (sh, σ) = some (none, (sh, xput 14 σ c (uCpy (xget σ c) (xget σ d)))) := by
  have h := k14 X sh σ (xget σ c) c d hc hd hcd
  rw [xput_get] at h
  exact h
theorem e82 (X : xX) (sh : List (Nat × Nat × List Value)) (σ : Nat → Nat → Int32) (c d : Nat) (hc : xsig sh c) (hd : xsig sh d) (hcd : c + 4 ≤ d ∨ d + 4 ≤ c) : xK X 82 [.ref c, .ref d] (sh, σ) = some (none, (sh, xput 4 σ c (vCp (xget σ c) (xget σ d)))) := by
  have h := k82 X sh σ (xget σ c) c d hc hd hcd
  rw [xput_get] at h
  exact h
theorem e79 (X : xX) (sh : List (Nat × Nat × List Value)) (σ : Nat → Nat → Int32) (c : Nat) (hc : xsig sh c) : xK X 79 [.ref c] (sh, σ) = some (some (.int (xget σ c 0 3)), (sh, σ)) := by
  have h := k79 X sh σ (xget σ c) c hc
  rw [xput_get] at h
  exact h
theorem e80 (X : xX) (sh : List (Nat × Nat × List Value)) (σ : Nat → Nat → Int32) (c : Nat) (hc : xsig sh c) : xK X 80 [.ref c] (sh, σ) = some (none, (sh, xput 4 σ c (xup (xget σ c) 0 3 0))) := by
  have h := k80 X sh σ (xget σ c) c hc
  rw [xput_get] at h
  exact h
theorem e78 (X : xX) (sh : List (Nat × Nat × List Value)) (σ : Nat → Nat → Int32) (c : Nat) (hc : xsig sh c) (t v b : Int32) (hb : b = 0 ∨ b = 1) (hl : xin (xget σ c 0 3) 9 = true) : xK X 78 [.ref c, .int t, .int v, .int b] (sh, σ) = some (some (.int (xi (decide (xget σ c 0 3 < 8)))), (sh, xput 4 σ c (vAdd (xget σ c) t v b))) := by
  have h := k78 X sh σ (xget σ c) c hc t v b hb hl
  rw [xput_get] at h
  exact h
theorem e70 (X : xX) (sh : List (Nat × Nat × List Value)) (σ : Nat → Nat → Int32) (hc : xsrc sh) : xK X 70 [.ref 36, .ref 17] (sh, σ) = some (none, (sh, xput 3 σ 36 (vGa (xget σ 17) (xget σ 36)))) := by
  have h := k70 X sh σ (xget σ 36) hc
  rw [xput_get] at h
  exact h
def ximg (sh : List (Nat × Nat × List Value)) (m : Nat) : Prop := sh[m]? = some (4, 3, [.ref (m + 1), .ref (m + 15), .int 0]) ∧ xcup sh (m + 1) ∧ xsig sh (m + 15)
def xkin (sh : List (Nat × Nat × List Value)) : Prop := sh[0]? = some (11, 6, [.ref 1, .ref 15, .ref 17, .ref 21, .ref 36, .ref 39]) ∧ xreh sh ∧ xsrc sh ∧ sh[39]? = some (2, 2, [.ref 40, .ref 59]) ∧ ximg sh 40 ∧ ximg sh 59
def uKp1 (σ : Nat → Nat → Int32) (m : Nat) : Nat → Nat → Int32 := xput 14 σ (m + 1) (uCpy (xget σ (m + 1)) (xget σ 1))
def uKp2 (σ : Nat → Nat → Int32) (m : Nat) : Nat → Nat → Int32 := xput 4 σ (m + 15) (vCp (xget σ (m + 15)) (xget σ 17))
def uKeep (σ : Nat → Nat → Int32) (m : Nat) : Nat → Nat → Int32 := xup (uKp2 (uKp1 σ m) m) m 2 1
def uGb1 (σ : Nat → Nat → Int32) (m : Nat) : Nat → Nat → Int32 := xput 14 σ 1 (uCpy (xget σ 1) (xget σ (m + 1)))
def uGb2 (σ : Nat → Nat → Int32) (m : Nat) : Nat → Nat → Int32 := xput 4 σ 17 (vCp (xget σ 17) (xget σ (m + 15)))
def uGive (σ : Nat → Nat → Int32) (m : Nat) : Nat → Nat → Int32 := uGb2 (uGb1 σ m) m
set_option maxRecDepth 100000 in
set_option maxHeartbeats 4000000 in
theorem k33 (X : xX) (sh : List (Nat × Nat × List Value)) (σ : Nat → Nat → Int32) (hk : xkin sh) (m : Nat) (hm : ximg sh m) (h40 : 40 ≤ m) : xK X 33 [.ref m, .ref 1, .ref 17] (sh, σ) = some (none, (sh, uKeep σ m)) := by
  obtain ⟨i0, i1, i2⟩ := hm
  have c1 := hk.2.1.1
  have s17 := hk.2.2.1.2.2.2
  have e1 := e14 X sh σ (m + 1) 1 i1 c1 (by omega)
  have e2 := e82 X sh (uKp1 σ m) (m + 15) 17 i2 s17 (by omega)
  rw [← uKp1] at e1
  rw [← uKp2] at e2
  have j1 := i1.1
  have j2 := i2.1
  rw [xK_d X 33 _ _ [] 30]
  simp [xent, xsl, Value.category, xr_d, xr_0, xg_nx, xg_n, xg_o, xg_c, xth_s, xth_v, xth_ite, xth_n, xd_iconst, xd_bipush, xd_sipush, xd_lconst, xd_iload, xd_iload_n, xd_lload, xd_lload_n, xd_aload, xd_aload_n, xd_istore, xd_istore_n, xd_astore, xd_astore_n, xd_lstore, xd_lstore_n, xd_iadd, xd_isub, xd_imul, xd_iand, xd_ior, xd_ishl, xd_ishr, xd_ladd, xd_lsub, xd_lmul, xd_land, xd_lor, xd_idiv, xd_irem, xd_ldiv, xd_lrem, xd_ineg, xd_lneg, xd_lshl, xd_lshr, xd_lcmp, xd_i2l, xd_l2i, xd_dup_int, xd_dup_ref, xd_pop, xd_dup2, xd_goto, xd_ifC, xd_ifI, xd_getf, xd_putI, xd_putR, xd_iald, xd_ialdX, xd_bald, xd_iast, xd_bast, xd_aald, xd_aast, xd_alen, xd_alenX, xd_newI, xd_newZ, xd_newQ, xd_newO, xd_invS, xd_invV, xd_invI, xd_iret, xd_lret, xd_vret, xd_ldc, xd_ldc2, xd_iinc, xd_aret, xd_tsw, xd_lsw, xC_d, xld, xisI, xisL, xisA, xgo_ite, xjp, xcmp, xrt, xinv, xcall, xpop, xcat, xgf, xal, xas, xpf, xle, xaq, xbite, xbite2, xsto, xsto2, xst1, xst2, xkl, xtt, xnum, xi0, xzf, v3, List.getElem?_cons_zero, List.getElem?_cons_succ, List.set_cons_zero, List.set_cons_succ, d33_0, d33_1, d33_4, d33_5, d33_8, d33_9, d33_12, d33_13, d33_16, d33_17, d33_18, d33_21, wo33, wm33, wr33, f1_10, f1_19, f1_23, m1_27, m1_31, r33_14, r33_82, wm14, wm82, wo14, wo82, i0, e1, e2, j1, j2, uKeep]
set_option maxRecDepth 100000 in
set_option maxHeartbeats 4000000 in
theorem k34 (X : xX) (sh : List (Nat × Nat × List Value)) (σ : Nat → Nat → Int32) (hk : xkin sh) (m : Nat) (hm : ximg sh m) (h40 : 40 ≤ m) (hb : σ m 2 = 0 ∨ σ m 2 = 1) : xK X 34 [.ref m, .ref 1, .ref 17] (sh, σ) = some (some (.int (σ m 2)), (sh, if σ m 2 = 0 then σ else uGive σ m)) := by
  obtain ⟨i0, i1, i2⟩ := hm
  have c1 := hk.2.1.1
  have s17 := hk.2.2.1.2.2.2
  have e1 := e14 X sh σ 1 (m + 1) c1 i1 (by omega)
  have e2 := e82 X sh (uGb1 σ m) 17 (m + 15) s17 i2 (by omega)
  rw [← uGb1] at e1
  rw [← uGb2] at e2
  have j1 := c1.1
  have j2 := s17.1
  have o1 : uGb2 (uGb1 σ m) m m 2 = σ m 2 := by rw [uGb2, xput_out (by omega), uGb1, xput_out (by omega)]
  rw [xK_d X 34 _ _ [] 30]
  by_cases h : σ m 2 = 0
  · simp [xent, xsl, Value.category, xr_d, xr_0, xg_nx, xg_n, xg_o, xg_c, xth_s, xth_v, xth_ite, xth_n, xd_iconst, xd_bipush, xd_sipush, xd_lconst, xd_iload, xd_iload_n, xd_lload, xd_lload_n, xd_aload, xd_aload_n, xd_istore, xd_istore_n, xd_astore, xd_astore_n, xd_lstore, xd_lstore_n, xd_iadd, xd_isub, xd_imul, xd_iand, xd_ior, xd_ishl, xd_ishr, xd_ladd, xd_lsub, xd_lmul, xd_land, xd_lor, xd_idiv, xd_irem, xd_ldiv, xd_lrem, xd_ineg, xd_lneg, xd_lshl, xd_lshr, xd_lcmp, xd_i2l, xd_l2i, xd_dup_int, xd_dup_ref, xd_pop, xd_dup2, xd_goto, xd_ifC, xd_ifI, xd_getf, xd_putI, xd_putR, xd_iald, xd_ialdX, xd_bald, xd_iast, xd_bast, xd_aald, xd_aast, xd_alen, xd_alenX, xd_newI, xd_newZ, xd_newQ, xd_newO, xd_invS, xd_invV, xd_invI, xd_iret, xd_lret, xd_vret, xd_ldc, xd_ldc2, xd_iinc, xd_aret, xd_tsw, xd_lsw, xC_d, xld, xisI, xisL, xisA, xgo_ite, xjp, xcmp, xrt, xinv, xcall, xpop, xcat, xgf, xal, xas, xpf, xle, xaq, xbite, xbite2, xsto, xsto2, xst1, xst2, xkl, xtt, xnum, xi0, xzf, v3, List.getElem?_cons_zero, List.getElem?_cons_succ, List.set_cons_zero, List.set_cons_succ, d34_0, d34_1, d34_4, d34_7, d34_8, d34_9, d34_12, d34_15, d34_16, d34_17, d34_20, d34_23, d34_24, d34_27, wo34, wm34, wr34, f1_10, f1_19, f1_23, m1_27, m1_31, r34_14, r34_82, wm14, wm82, wo14, wo82, i0, h]
  · have h1 : σ m 2 = 1 := by
      rcases hb with hb | hb
      · exact absurd hb h
      · exact hb
    simp [xent, xsl, Value.category, xr_d, xr_0, xg_nx, xg_n, xg_o, xg_c, xth_s, xth_v, xth_ite, xth_n, xd_iconst, xd_bipush, xd_sipush, xd_lconst, xd_iload, xd_iload_n, xd_lload, xd_lload_n, xd_aload, xd_aload_n, xd_istore, xd_istore_n, xd_astore, xd_astore_n, xd_lstore, xd_lstore_n, xd_iadd, xd_isub, xd_imul, xd_iand, xd_ior, xd_ishl, xd_ishr, xd_ladd, xd_lsub, xd_lmul, xd_land, xd_lor, xd_idiv, xd_irem, xd_ldiv, xd_lrem, xd_ineg, xd_lneg, xd_lshl, xd_lshr, xd_lcmp, xd_i2l, xd_l2i, xd_dup_int, xd_dup_ref, xd_pop, xd_dup2, xd_goto, xd_ifC, xd_ifI, xd_getf, xd_putI, xd_putR, xd_iald, xd_ialdX, xd_bald, xd_iast, xd_bast, xd_aald, xd_aast, xd_alen, xd_alenX, xd_newI, xd_newZ, xd_newQ, xd_newO, xd_invS, xd_invV, xd_invI, xd_iret, xd_lret, xd_vret, xd_ldc, xd_ldc2, xd_iinc, xd_aret, xd_tsw, xd_lsw, xC_d, xld, xisI, xisL, xisA, xgo_ite, xjp, xcmp, xrt, xinv, xcall, xpop, xcat, xgf, xal, xas, xpf, xle, xaq, xbite, xbite2, xsto, xsto2, xst1, xst2, xkl, xtt, xnum, xi0, xzf, v3, List.getElem?_cons_zero, List.getElem?_cons_succ, List.set_cons_zero, List.set_cons_succ, d34_0, d34_1, d34_4, d34_7, d34_8, d34_9, d34_12, d34_15, d34_16, d34_17, d34_20, d34_23, d34_24, d34_27, wo34, wm34, wr34, f1_10, f1_19, f1_23, m1_27, m1_31, r34_14, r34_82, wm14, wm82, wo14, wo82, i0, h1, e1, e2, j1, j2, uGive, o1]
