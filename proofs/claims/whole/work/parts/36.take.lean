theorem uPut_r {A : Nat → Nat → Int32} {m u l : Int32} {k b : Nat} (h : k < 7 ∨ k = 13) : uPut A m u l k b = A k b := by
  unfold uPut
  split
  · have h7 : ¬ k = 7 := by omega
    have h8 : ¬ k = 8 := by omega
    have h9 : ¬ k = 9 := by omega
    have h10 : ¬ k = 10 := by omega
    have h11 : ¬ k = 11 := by omega
    have h12 : ¬ k = 12 := by omega
    simp [xup, h7, h8, h9, h10, h11, h12]
  · rfl
theorem uDis_r {A : Nat → Nat → Int32} {m : Int32} {k b : Nat} (h : ¬ k = 12) : uDis A m k b = A k b := by
  unfold uDis
  split
  · simp [xup, h]
  · rfl
theorem uCert_r {A : Nat → Nat → Int32} {m w l : Int32} {k b : Nat} (h : k < 7 ∨ k = 13) : uCert A m w l k b = A k b := by
  unfold uCert
  split
  · rw [uPut_r h, uDis_r (by omega)]
  · rw [uDis_r (by omega)]
theorem uDecA_r {A : Nat → Nat → Int32} {m p q : Int32} {k b : Nat} (h : k < 6 ∨ k = 13) : uDecA A m p q k b = A k b := by
  unfold uDecA
  split
  · rw [uCert_r (by omega)]
    have h6 : ¬ k = 6 := by omega
    simp [xup, h6]
  · rfl
def uAn (s : Int32) : Nat → (Nat → Nat → Int32) → Nat → Nat → Int32
  | 0, A => A
  | m + 1, A => uAn s m (uDecA A (nI (m + 1)) s 1)
def uAnew (A : Nat → Nat → Int32) : Nat → Nat → Int32 := uAn (A 0 8) 7 (uClr A)
theorem uClr_r {A : Nat → Nat → Int32} {k b : Nat} (h : ¬ k = 7 ∧ ¬ k = 12) : uClr A k b = A k b := by simp [uClr, xup, xfil, h.1, h.2]
set_option maxRecDepth 100000 in
set_option maxHeartbeats 4000000 in
theorem i2 (X : xX) (sh : List (Nat × Nat × List Value)) (σ A : Nat → Nat → Int32) (c : Nat) (hc : xcup sh c) (m : Nat) (hm : m < 7) : xV X 2 (10, [.ref c, .int (nI (m + 1))], [], (sh, xput 14 σ c A)) = xV X 2 (10, [.ref c, .int (nI m)], [], (sh, xput 14 σ c (uDecA A (nI (m + 1)) (A 0 8) 1))) := by
  have hC := hc
  obtain ⟨h0, h1, h2, h3, h4, h5, h6, h7, h8, h9, h10, h11, h12, h13⟩ := hc
  have g1 : ¬ nI (m + 1) < 1 := nI_nlt (a := m + 1) (b := 1) (by omega) (by omega)
  have g2 := pk_m1 m
  rw [xV_d X 2 [10] 30]
  simp [xent, xsl, Value.category, xr_d, xr_0, xg_nx, xg_n, xg_o, xg_c, xth_s, xth_v, xth_ite, xth_n, xd_iconst, xd_bipush, xd_sipush, xd_lconst, xd_iload, xd_iload_n, xd_lload, xd_lload_n, xd_aload, xd_aload_n, xd_istore, xd_istore_n, xd_astore, xd_astore_n, xd_lstore, xd_lstore_n, xd_iadd, xd_isub, xd_imul, xd_iand, xd_ior, xd_ishl, xd_ishr, xd_ladd, xd_lsub, xd_lmul, xd_land, xd_lor, xd_idiv, xd_irem, xd_ldiv, xd_lrem, xd_ineg, xd_lneg, xd_lshl, xd_lshr, xd_lcmp, xd_i2l, xd_l2i, xd_dup_int, xd_dup_ref, xd_pop, xd_dup2, xd_goto, xd_ifC, xd_ifI, xd_getf, xd_putI, xd_putR, xd_iald, xd_ialdX, xd_bald, xd_iast, xd_bast, xd_aald, xd_aast, xd_alen, xd_alenX, xd_newI, xd_newZ, xd_newQ, xd_newO, xd_invS, xd_invV, xd_invI, xd_iret, xd_lret, xd_vret, xd_ldc, xd_ldc2, xd_iinc, xd_aret, xd_tsw, xd_lsw, xC_d, xld, xisI, xisL, xisA, xgo_ite, xjp, xcmp, xrt, xinv, xcall, xpop, xcat, xgf, xal, xas, xpf, xle, xaq, xbite, xbite2, xsto, xsto2, xst1, xst2, xkl, xtt, xnum, xi0, xzf, v3, List.getElem?_cons_zero, List.getElem?_cons_succ, List.set_cons_zero, List.set_cons_succ, d2_0, d2_1, d2_4, d2_7, d2_9, d2_10, d2_11, d2_12, d2_15, d2_16, d2_17, d2_18, d2_21, d2_22, d2_25, d2_26, d2_29, d2_32, wo2, wm2, wr2, f0_34, f0_45, m0_104, m0_107, r2_3, r2_48, wm3, wm48, wo3, wo48, b8_7, hC, h0, h1, h2, h3, h4, h5, h6, h7, h8, h9, h10, h11, h12, h13, xput_at, xput_at0, xput_up, xput_up0, g1, g2, k3]

set_option maxRecDepth 100000 in
set_option maxHeartbeats 4000000 in
theorem x2 (X : xX) (sh : List (Nat × Nat × List Value)) (σ A : Nat → Nat → Int32) (c : Nat) (hc : xcup sh c) : xV X 2 (10, [.ref c, .int (nI 0)], [], (sh, xput 14 σ c A)) = some (none, (sh, xput 14 σ c A)) := by
  have hC := hc
  obtain ⟨h0, h1, h2, h3, h4, h5, h6, h7, h8, h9, h10, h11, h12, h13⟩ := hc
  have g1 : nI 0 < 1 := nI_lt (a := 0) (b := 1) (by omega) (by omega)
  rw [xV_d X 2 [10] 30]
  simp [xent, xsl, Value.category, xr_d, xr_0, xg_nx, xg_n, xg_o, xg_c, xth_s, xth_v, xth_ite, xth_n, xd_iconst, xd_bipush, xd_sipush, xd_lconst, xd_iload, xd_iload_n, xd_lload, xd_lload_n, xd_aload, xd_aload_n, xd_istore, xd_istore_n, xd_astore, xd_astore_n, xd_lstore, xd_lstore_n, xd_iadd, xd_isub, xd_imul, xd_iand, xd_ior, xd_ishl, xd_ishr, xd_ladd, xd_lsub, xd_lmul, xd_land, xd_lor, xd_idiv, xd_irem, xd_ldiv, xd_lrem, xd_ineg, xd_lneg, xd_lshl, xd_lshr, xd_lcmp, xd_i2l, xd_l2i, xd_dup_int, xd_dup_ref, xd_pop, xd_dup2, xd_goto, xd_ifC, xd_ifI, xd_getf, xd_putI, xd_putR, xd_iald, xd_ialdX, xd_bald, xd_iast, xd_bast, xd_aald, xd_aast, xd_alen, xd_alenX, xd_newI, xd_newZ, xd_newQ, xd_newO, xd_invS, xd_invV, xd_invI, xd_iret, xd_lret, xd_vret, xd_ldc, xd_ldc2, xd_iinc, xd_aret, xd_tsw, xd_lsw, xC_d, xld, xisI, xisL, xisA, xgo_ite, xjp, xcmp, xrt, xinv, xcall, xpop, xcat, xgf, xal, xas, xpf, xle, xaq, xbite, xbite2, xsto, xsto2, xst1, xst2, xkl, xtt, xnum, xi0, xzf, v3, List.getElem?_cons_zero, List.getElem?_cons_succ, List.set_cons_zero, List.set_cons_succ, d2_0, d2_1, d2_4, d2_7, d2_9, d2_10, d2_11, d2_12, d2_15, d2_16, d2_17, d2_18, d2_21, d2_22, d2_25, d2_26, d2_29, d2_32, wo2, wm2, wr2, f0_34, f0_45, m0_104, m0_107, r2_3, r2_48, wm3, wm48, wo3, wo48, b8_7, hC, h0, h1, h2, h3, h4, h5, h6, h7, h8, h9, h10, h11, h12, h13, xput_at, xput_at0, xput_up, xput_up0, g1]

theorem l2 (X : xX) (sh : List (Nat × Nat × List Value)) (σ : Nat → Nat → Int32) (c : Nat) (hc : xcup sh c) : ∀ (m : Nat) (A : Nat → Nat → Int32), m ≤ 7 → xV X 2 (10, [.ref c, .int (nI m)], [], (sh, xput 14 σ c A)) = some (none, (sh, xput 14 σ c (uAn (A 0 8) m A)))
  | 0, A, _ => x2 X sh σ A c hc
  | m + 1, A, h => by rw [i2 X sh σ A c hc m (by omega), l2 X sh σ c hc m _ (by omega), uDecA_r (by omega)]; rfl
set_option maxRecDepth 100000 in
set_option maxHeartbeats 4000000 in
theorem k2 (X : xX) (sh : List (Nat × Nat × List Value)) (σ A : Nat → Nat → Int32) (c : Nat) (hc : xcup sh c)  : xK X 2 [.ref (c)] (sh, xput 14 σ c A) = some (none, (sh, xput 14 σ c (uAnew A))) := by
  have hC := hc
  obtain ⟨h0, h1, h2, h3, h4, h5, h6, h7, h8, h9, h10, h11, h12, h13⟩ := hc
  rw [xK_d X 2 _ _ [10] 20]
  simp [xent, xsl, Value.category, xr_d, xr_0, xg_nx, xg_n, xg_o, xg_c, xth_s, xth_v, xth_ite, xth_n, xd_iconst, xd_bipush, xd_sipush, xd_lconst, xd_iload, xd_iload_n, xd_lload, xd_lload_n, xd_aload, xd_aload_n, xd_istore, xd_istore_n, xd_astore, xd_astore_n, xd_lstore, xd_lstore_n, xd_iadd, xd_isub, xd_imul, xd_iand, xd_ior, xd_ishl, xd_ishr, xd_ladd, xd_lsub, xd_lmul, xd_land, xd_lor, xd_idiv, xd_irem, xd_ldiv, xd_lrem, xd_ineg, xd_lneg, xd_lshl, xd_lshr, xd_lcmp, xd_i2l, xd_l2i, xd_dup_int, xd_dup_ref, xd_pop, xd_dup2, xd_goto, xd_ifC, xd_ifI, xd_getf, xd_putI, xd_putR, xd_iald, xd_ialdX, xd_bald, xd_iast, xd_bast, xd_aald, xd_aast, xd_alen, xd_alenX, xd_newI, xd_newZ, xd_newQ, xd_newO, xd_invS, xd_invV, xd_invI, xd_iret, xd_lret, xd_vret, xd_ldc, xd_ldc2, xd_iinc, xd_aret, xd_tsw, xd_lsw, xC_d, xld, xisI, xisL, xisA, xgo_ite, xjp, xcmp, xrt, xinv, xcall, xpop, xcat, xgf, xal, xas, xpf, xle, xaq, xbite, xbite2, xsto, xsto2, xst1, xst2, xkl, xtt, xnum, xi0, xzf, v3, List.getElem?_cons_zero, List.getElem?_cons_succ, List.set_cons_zero, List.set_cons_succ, d2_0, d2_1, d2_4, d2_7, d2_9, d2_10, d2_11, d2_12, d2_15, d2_16, d2_17, d2_18, d2_21, d2_22, d2_25, d2_26, d2_29, d2_32, wo2, wm2, wr2, f0_34, f0_45, m0_104, m0_107, r2_3, r2_48, wm3, wm48, wo3, wo48, b8_7, hC, h0, h1, h2, h3, h4, h5, h6, h7, h8, h9, h10, h11, h12, h13, xput_at, xput_at0, xput_up, xput_up0, k48]
  have h := l2 X sh σ c hC 7 (uClr A) (by omega)
  rw [uClr_r (by omega)] at h
  exact h
def uCnt (A : Nat → Nat → Int32) (ev act m : Int32) : Nat → Nat → Int32 := if ev = 0 then xup (xup A 13 0 (A 13 0 + 1)) 13 1 (A 13 1 + 1) else if A 13 2 = 0 then xup (xup (xup (xup A 13 0 (A 13 0 + 1)) 13 3 act) 13 4 m) 13 2 (A 13 2 + 1) else xup (xup A 13 0 (A 13 0 + 1)) 13 2 (A 13 2 + 1)
set_option maxRecDepth 100000 in
set_option maxHeartbeats 4000000 in
theorem k85 (X : xX) (sh : List (Nat × Nat × List Value)) (σ A : Nat → Nat → Int32) (c : Nat) (hc : xcup sh c) (ev act m : Int32) : xK X 85 [.ref (c + 13), .int ev, .int act, .int m] (sh, xput 14 σ c A) = some (none, (sh, xput 14 σ c (uCnt A ev act m))) := by
  have hC := hc
  obtain ⟨h0, h1, h2, h3, h4, h5, h6, h7, h8, h9, h10, h11, h12, h13⟩ := hc
  rw [xK_d X 85 _ _ [] 90]
  simp [xent, xsl, Value.category, xr_d, xr_0, xg_nx, xg_n, xg_o, xg_c, xth_s, xth_v, xth_ite, xth_n, xd_iconst, xd_bipush, xd_sipush, xd_lconst, xd_iload, xd_iload_n, xd_lload, xd_lload_n, xd_aload, xd_aload_n, xd_istore, xd_istore_n, xd_astore, xd_astore_n, xd_lstore, xd_lstore_n, xd_iadd, xd_isub, xd_imul, xd_iand, xd_ior, xd_ishl, xd_ishr, xd_ladd, xd_lsub, xd_lmul, xd_land, xd_lor, xd_idiv, xd_irem, xd_ldiv, xd_lrem, xd_ineg, xd_lneg, xd_lshl, xd_lshr, xd_lcmp, xd_i2l, xd_l2i, xd_dup_int, xd_dup_ref, xd_pop, xd_dup2, xd_goto, xd_ifC, xd_ifI, xd_getf, xd_putI, xd_putR, xd_iald, xd_ialdX, xd_bald, xd_iast, xd_bast, xd_aald, xd_aast, xd_alen, xd_alenX, xd_newI, xd_newZ, xd_newQ, xd_newO, xd_invS, xd_invV, xd_invI, xd_iret, xd_lret, xd_vret, xd_ldc, xd_ldc2, xd_iinc, xd_aret, xd_tsw, xd_lsw, xC_d, xld, xisI, xisL, xisA, xgo_ite, xjp, xcmp, xrt, xinv, xcall, xpop, xcat, xgf, xal, xas, xpf, xle, xaq, xbite, xbite2, xsto, xsto2, xst1, xst2, xkl, xtt, xnum, xi0, xzf, v3, List.getElem?_cons_zero, List.getElem?_cons_succ, List.set_cons_zero, List.set_cons_succ, d85_0, d85_1, d85_2, d85_5, d85_6, d85_7, d85_10, d85_11, d85_14, d85_15, d85_16, d85_19, d85_20, d85_21, d85_24, d85_25, d85_26, d85_29, d85_32, d85_33, d85_34, d85_37, d85_38, d85_39, d85_42, d85_43, d85_44, d85_47, d85_48, d85_49, d85_52, wo85, wm85, wr85, f7_15, f7_18, f7_21, f7_24, f7_9, hC, h0, h1, h2, h3, h4, h5, h6, h7, h8, h9, h10, h11, h12, h13, xput_at, xput_at0, xput_up, xput_up0]
  by_cases h : ev = 0
  · simp [h, uCnt, xup]
  · by_cases h2 : A 13 2 = 0
    · simp [h, h2, uCnt, xup]
    · simp [h, h2, uCnt, xup]
set_option maxRecDepth 100000 in
set_option maxHeartbeats 4000000 in
theorem k84 (X : xX) (sh : List (Nat × Nat × List Value)) (σ A : Nat → Nat → Int32) (c : Nat) (hc : xcup sh c)  : xK X 84 [.ref (c + 13)] (sh, xput 14 σ c A) = some (none, (sh, xput 14 σ c (xup (xup (xup (xup (xup A 13 0 0) 13 1 0) 13 2 0) 13 3 (-6)) 13 4 (-6)))) := by
  have hC := hc
  obtain ⟨h0, h1, h2, h3, h4, h5, h6, h7, h8, h9, h10, h11, h12, h13⟩ := hc
  rw [xK_d X 84 _ _ [] 90]
  simp [xent, xsl, Value.category, xr_d, xr_0, xg_nx, xg_n, xg_o, xg_c, xth_s, xth_v, xth_ite, xth_n, xd_iconst, xd_bipush, xd_sipush, xd_lconst, xd_iload, xd_iload_n, xd_lload, xd_lload_n, xd_aload, xd_aload_n, xd_istore, xd_istore_n, xd_astore, xd_astore_n, xd_lstore, xd_lstore_n, xd_iadd, xd_isub, xd_imul, xd_iand, xd_ior, xd_ishl, xd_ishr, xd_ladd, xd_lsub, xd_lmul, xd_land, xd_lor, xd_idiv, xd_irem, xd_ldiv, xd_lrem, xd_ineg, xd_lneg, xd_lshl, xd_lshr, xd_lcmp, xd_i2l, xd_l2i, xd_dup_int, xd_dup_ref, xd_pop, xd_dup2, xd_goto, xd_ifC, xd_ifI, xd_getf, xd_putI, xd_putR, xd_iald, xd_ialdX, xd_bald, xd_iast, xd_bast, xd_aald, xd_aast, xd_alen, xd_alenX, xd_newI, xd_newZ, xd_newQ, xd_newO, xd_invS, xd_invV, xd_invI, xd_iret, xd_lret, xd_vret, xd_ldc, xd_ldc2, xd_iinc, xd_aret, xd_tsw, xd_lsw, xC_d, xld, xisI, xisL, xisA, xgo_ite, xjp, xcmp, xrt, xinv, xcall, xpop, xcat, xgf, xal, xas, xpf, xle, xaq, xbite, xbite2, xsto, xsto2, xst1, xst2, xkl, xtt, xnum, xi0, xzf, v3, List.getElem?_cons_zero, List.getElem?_cons_succ, List.set_cons_zero, List.set_cons_succ, d84_0, d84_1, d84_2, d84_5, d84_6, d84_7, d84_10, d84_11, d84_12, d84_15, d84_16, d84_18, d84_21, d84_22, d84_24, d84_27, wo84, wm84, wr84, f7_15, f7_18, f7_21, f7_24, f7_9, b8_m6, hC, h0, h1, h2, h3, h4, h5, h6, h7, h8, h9, h10, h11, h12, h13, xput_at, xput_at0, xput_up, xput_up0]

def uCh (p q : Int32) : Nat → (Nat → Nat → Int32) → Nat → Int32 → Nat → Nat → Int32
  | 0, A, _, _ => A
  | f + 1, A, m, ch => if m = 0 ∨ ch = 0 then A else uCh p q f (uDecA A (nI m) p q) (m / 2) (xi (uDecR A (nI m) p q))
theorem nI_half {m : Nat} (h : m < 2147483648) : nI m / 2 = nI (m / 2) := pk_div (a := m) (d := 2) (by omega) (by omega) (by omega)
set_option maxRecDepth 100000 in
set_option maxHeartbeats 4000000 in
theorem i24 (X : xX) (sh : List (Nat × Nat × List Value)) (σ A : Nat → Nat → Int32) (c : Nat) (hc : xcup sh c) (un act f1 mt u lo ch : Int32) (m : Nat) (hm : 1 ≤ m) (hm7 : m ≤ 7) (hch : ¬ ch = 0) : xV X 24 (90, [.ref c, .int un, .int act, .int f1, .int mt, .int u, .int lo, .int ch, .int (nI m)], [], (sh, xput 14 σ c A)) = xV X 24 (90, [.ref c, .int un, .int act, .int f1, .int mt, .int u, .int lo, .int (xi (uDecR A (nI m) u lo)), .int (nI (m / 2))], [], (sh, xput 14 σ c (uDecA A (nI m) u lo))) := by
  have hC := hc
  obtain ⟨h0, h1, h2, h3, h4, h5, h6, h7, h8, h9, h10, h11, h12, h13⟩ := hc
  have g1 : ¬ nI m < 1 := nI_nlt (a := m) (b := 1) (by omega) (by omega)
  have g2 := nI_half (m := m) (by omega)
  rw [xV_d X 24 [90] 30]
  simp [xent, xsl, Value.category, xr_d, xr_0, xg_nx, xg_n, xg_o, xg_c, xth_s, xth_v, xth_ite, xth_n, xd_iconst, xd_bipush, xd_sipush, xd_lconst, xd_iload, xd_iload_n, xd_lload, xd_lload_n, xd_aload, xd_aload_n, xd_istore, xd_istore_n, xd_astore, xd_astore_n, xd_lstore, xd_lstore_n, xd_iadd, xd_isub, xd_imul, xd_iand, xd_ior, xd_ishl, xd_ishr, xd_ladd, xd_lsub, xd_lmul, xd_land, xd_lor, xd_idiv, xd_irem, xd_ldiv, xd_lrem, xd_ineg, xd_lneg, xd_lshl, xd_lshr, xd_lcmp, xd_i2l, xd_l2i, xd_dup_int, xd_dup_ref, xd_pop, xd_dup2, xd_goto, xd_ifC, xd_ifI, xd_getf, xd_putI, xd_putR, xd_iald, xd_ialdX, xd_bald, xd_iast, xd_bast, xd_aald, xd_aast, xd_alen, xd_alenX, xd_newI, xd_newZ, xd_newQ, xd_newO, xd_invS, xd_invV, xd_invI, xd_iret, xd_lret, xd_vret, xd_ldc, xd_ldc2, xd_iinc, xd_aret, xd_tsw, xd_lsw, xC_d, xld, xisI, xisL, xisA, xgo_ite, xjp, xcmp, xrt, xinv, xcall, xpop, xcat, xgf, xal, xas, xpf, xle, xaq, xbite, xbite2, xsto, xsto2, xst1, xst2, xkl, xtt, xnum, xi0, xzf, v3, List.getElem?_cons_zero, List.getElem?_cons_succ, List.set_cons_zero, List.set_cons_succ, d24_0, d24_1, d24_4, d24_5, d24_8, d24_9, d24_10, d24_13, d24_14, d24_17, d24_19, d24_20, d24_23, d24_24, d24_27, d24_29, d24_30, d24_33, d24_34, d24_37, d24_39, d24_40, d24_42, d24_45, d24_47, d24_48, d24_50, d24_51, d24_54, d24_55, d24_56, d24_57, d24_60, d24_61, d24_64, d24_66, d24_67, d24_70, d24_71, d24_74, d24_75, d24_78, d24_80, d24_81, d24_83, d24_86, d24_88, d24_90, d24_92, d24_93, d24_96, d24_98, d24_101, d24_102, d24_104, d24_106, d24_108, d24_111, d24_113, d24_115, d24_116, d24_117, d24_119, d24_122, d24_123, wo24, wm24, wr24, f0_34, f0_41, m0_107, m0_111, m0_115, m0_118, m0_121, m0_124, m0_127, m0_131, r24_3, r24_52, r24_53, r24_54, r24_57, r24_58, r24_59, r24_85, wm3, wm52, wm53, wm54, wm57, wm58, wm59, wm85, wo3, wo52, wo53, wo54, wo57, wo58, wo59, wo85, b8_m6, hC, h0, h1, h2, h3, h4, h5, h6, h7, h8, h9, h10, h11, h12, h13, xput_at, xput_at0, xput_up, xput_up0, g1, g2, hch, k3]

set_option maxRecDepth 100000 in
set_option maxHeartbeats 4000000 in
theorem x24 (X : xX) (sh : List (Nat × Nat × List Value)) (σ A : Nat → Nat → Int32) (c : Nat) (hc : xcup sh c) (un act f1 mt u lo ch : Int32) (m : Nat) (hm7 : m ≤ 7) (hm : m = 0 ∨ ch = 0) : xV X 24 (90, [.ref c, .int un, .int act, .int f1, .int mt, .int u, .int lo, .int ch, .int (nI m)], [], (sh, xput 14 σ c A)) = some (some (.int 1), (sh, xput 14 σ c A)) := by
  have hC := hc
  obtain ⟨h0, h1, h2, h3, h4, h5, h6, h7, h8, h9, h10, h11, h12, h13⟩ := hc
  by_cases h0 : m = 0
  · subst h0
    have g1 : nI 0 < 1 := nI_lt (a := 0) (b := 1) (by omega) (by omega)
    rw [xV_d X 24 [90] 30]
    simp [xent, xsl, Value.category, xr_d, xr_0, xg_nx, xg_n, xg_o, xg_c, xth_s, xth_v, xth_ite, xth_n, xd_iconst, xd_bipush, xd_sipush, xd_lconst, xd_iload, xd_iload_n, xd_lload, xd_lload_n, xd_aload, xd_aload_n, xd_istore, xd_istore_n, xd_astore, xd_astore_n, xd_lstore, xd_lstore_n, xd_iadd, xd_isub, xd_imul, xd_iand, xd_ior, xd_ishl, xd_ishr, xd_ladd, xd_lsub, xd_lmul, xd_land, xd_lor, xd_idiv, xd_irem, xd_ldiv, xd_lrem, xd_ineg, xd_lneg, xd_lshl, xd_lshr, xd_lcmp, xd_i2l, xd_l2i, xd_dup_int, xd_dup_ref, xd_pop, xd_dup2, xd_goto, xd_ifC, xd_ifI, xd_getf, xd_putI, xd_putR, xd_iald, xd_ialdX, xd_bald, xd_iast, xd_bast, xd_aald, xd_aast, xd_alen, xd_alenX, xd_newI, xd_newZ, xd_newQ, xd_newO, xd_invS, xd_invV, xd_invI, xd_iret, xd_lret, xd_vret, xd_ldc, xd_ldc2, xd_iinc, xd_aret, xd_tsw, xd_lsw, xC_d, xld, xisI, xisL, xisA, xgo_ite, xjp, xcmp, xrt, xinv, xcall, xpop, xcat, xgf, xal, xas, xpf, xle, xaq, xbite, xbite2, xsto, xsto2, xst1, xst2, xkl, xtt, xnum, xi0, xzf, v3, List.getElem?_cons_zero, List.getElem?_cons_succ, List.set_cons_zero, List.set_cons_succ, d24_0, d24_1, d24_4, d24_5, d24_8, d24_9, d24_10, d24_13, d24_14, d24_17, d24_19, d24_20, d24_23, d24_24, d24_27, d24_29, d24_30, d24_33, d24_34, d24_37, d24_39, d24_40, d24_42, d24_45, d24_47, d24_48, d24_50, d24_51, d24_54, d24_55, d24_56, d24_57, d24_60, d24_61, d24_64, d24_66, d24_67, d24_70, d24_71, d24_74, d24_75, d24_78, d24_80, d24_81, d24_83, d24_86, d24_88, d24_90, d24_92, d24_93, d24_96, d24_98, d24_101, d24_102, d24_104, d24_106, d24_108, d24_111, d24_113, d24_115, d24_116, d24_117, d24_119, d24_122, d24_123, wo24, wm24, wr24, f0_34, f0_41, m0_107, m0_111, m0_115, m0_118, m0_121, m0_124, m0_127, m0_131, r24_3, r24_52, r24_53, r24_54, r24_57, r24_58, r24_59, r24_85, wm3, wm52, wm53, wm54, wm57, wm58, wm59, wm85, wo3, wo52, wo53, wo54, wo57, wo58, wo59, wo85, b8_m6, hC, h0, h1, h2, h3, h4, h5, h6, h7, h8, h9, h10, h11, h12, h13, xput_at, xput_at0, xput_up, xput_up0, g1]
  · have hch : ch = 0 := by rcases hm with h | h; exact absurd h h0; exact h
    have g1 : ¬ nI m < 1 := nI_nlt (a := m) (b := 1) (by omega) (by omega)
    rw [xV_d X 24 [90] 30]
    simp [xent, xsl, Value.category, xr_d, xr_0, xg_nx, xg_n, xg_o, xg_c, xth_s, xth_v, xth_ite, xth_n, xd_iconst, xd_bipush, xd_sipush, xd_lconst, xd_iload, xd_iload_n, xd_lload, xd_lload_n, xd_aload, xd_aload_n, xd_istore, xd_istore_n, xd_astore, xd_astore_n, xd_lstore, xd_lstore_n, xd_iadd, xd_isub, xd_imul, xd_iand, xd_ior, xd_ishl, xd_ishr, xd_ladd, xd_lsub, xd_lmul, xd_land, xd_lor, xd_idiv, xd_irem, xd_ldiv, xd_lrem, xd_ineg, xd_lneg, xd_lshl, xd_lshr, xd_lcmp, xd_i2l, xd_l2i, xd_dup_int, xd_dup_ref, xd_pop, xd_dup2, xd_goto, xd_ifC, xd_ifI, xd_getf, xd_putI, xd_putR, xd_iald, xd_ialdX, xd_bald, xd_iast, xd_bast, xd_aald, xd_aast, xd_alen, xd_alenX, xd_newI, xd_newZ, xd_newQ, xd_newO, xd_invS, xd_invV, xd_invI, xd_iret, xd_lret, xd_vret, xd_ldc, xd_ldc2, xd_iinc, xd_aret, xd_tsw, xd_lsw, xC_d, xld, xisI, xisL, xisA, xgo_ite, xjp, xcmp, xrt, xinv, xcall, xpop, xcat, xgf, xal, xas, xpf, xle, xaq, xbite, xbite2, xsto, xsto2, xst1, xst2, xkl, xtt, xnum, xi0, xzf, v3, List.getElem?_cons_zero, List.getElem?_cons_succ, List.set_cons_zero, List.set_cons_succ, d24_0, d24_1, d24_4, d24_5, d24_8, d24_9, d24_10, d24_13, d24_14, d24_17, d24_19, d24_20, d24_23, d24_24, d24_27, d24_29, d24_30, d24_33, d24_34, d24_37, d24_39, d24_40, d24_42, d24_45, d24_47, d24_48, d24_50, d24_51, d24_54, d24_55, d24_56, d24_57, d24_60, d24_61, d24_64, d24_66, d24_67, d24_70, d24_71, d24_74, d24_75, d24_78, d24_80, d24_81, d24_83, d24_86, d24_88, d24_90, d24_92, d24_93, d24_96, d24_98, d24_101, d24_102, d24_104, d24_106, d24_108, d24_111, d24_113, d24_115, d24_116, d24_117, d24_119, d24_122, d24_123, wo24, wm24, wr24, f0_34, f0_41, m0_107, m0_111, m0_115, m0_118, m0_121, m0_124, m0_127, m0_131, r24_3, r24_52, r24_53, r24_54, r24_57, r24_58, r24_59, r24_85, wm3, wm52, wm53, wm54, wm57, wm58, wm59, wm85, wo3, wo52, wo53, wo54, wo57, wo58, wo59, wo85, b8_m6, hC, h0, h1, h2, h3, h4, h5, h6, h7, h8, h9, h10, h11, h12, h13, xput_at, xput_at0, xput_up, xput_up0, g1, hch]

theorem l24 (X : xX) (sh : List (Nat × Nat × List Value)) (σ : Nat → Nat → Int32) (c : Nat) (hc : xcup sh c) (un act f1 mt u lo : Int32) : ∀ (f : Nat) (A : Nat → Nat → Int32) (m : Nat) (ch : Int32), m ≤ 7 → m < 2 ^ f → xV X 24 (90, [.ref c, .int un, .int act, .int f1, .int mt, .int u, .int lo, .int ch, .int (nI m)], [], (sh, xput 14 σ c A)) = some (some (.int 1), (sh, xput 14 σ c (uCh u lo f A m ch)))
  | 0, A, m, ch, h7, h => by
    have e : m = 0 := by simpa using h
    exact x24 X sh σ A c hc un act f1 mt u lo ch m h7 (Or.inl e)
  | f + 1, A, m, ch, h7, h => by
    rw [uCh]
    by_cases hd : m = 0 ∨ ch = 0
    · rw [if_pos hd]
      exact x24 X sh σ A c hc un act f1 mt u lo ch m h7 hd
    · rw [if_neg hd, i24 X sh σ A c hc un act f1 mt u lo ch m (by omega) h7 (fun q => hd (Or.inr q)), l24 X sh σ c hc un act f1 mt u lo f _ (m / 2) _ (by omega) (by rw [Nat.pow_succ] at h; omega)]
def uN (A : Nat → Nat → Int32) : Nat := (A 7 5).toNatClampNeg
def uF (A : Nat → Nat → Int32) : Nat := (uE A 0 (uN A)).toNatClampNeg
def uDue (A : Nat → Nat → Int32) (un : Int32) : Bool := decide (¬ uE A 0 (uN A) = -6) && decide (A 9 (uF A) ≤ un * A 10 (uF A))
def uTk (A : Nat → Nat → Int32) (act : Int32) : Nat → Nat → Int32 := uCh (A 9 (uF A)) (A 10 (uF A)) 3 (uCnt (uRem A (uF A) (uN A)) (xi (uOwn A (nI (uF A)))) act (A 8 (uF A))) (A 8 (uF A)).toNatClampNeg (xi (uOwn A (nI (uF A))))
def uWF (A : Nat → Nat → Int32) : Prop := ∃ n, n ≤ 32 ∧ A 7 5 = nI n ∧ ∀ k, k < n → ∃ m, 1 ≤ m ∧ m ≤ 7 ∧ A 8 k = nI m
theorem uE_c (A : Nat → Nat → Int32) (own : Int32) : ∀ n, uE A own n = -6 ∨ ∃ k, k < n ∧ uE A own n = nI k
  | 0 => Or.inl rfl
  | n + 1 => by
    rw [uE, uE1]
    split
    · exact Or.inr ⟨n, by omega, rfl⟩
    · rcases uE_c A own n with h | ⟨k, h1, h2⟩
      · exact Or.inl h
      · exact Or.inr ⟨k, by omega, h2⟩
theorem nI_nm6 {k : Nat} (h : k < 2147483648) : ¬ nI k = -6 := by
  intro e
  have := congrArg Int32.toInt e
  rw [nI_toInt (by omega)] at this
  have h6 : (-6 : Int32).toInt = -6 := by decide
  rw [h6] at this
  omega
theorem uHere_k {A : Nat → Nat → Int32} {n k : Nat} (hn : A 7 5 = nI n) (hn32 : n ≤ 32) (hk : k < n) : uHere A (nI k) = true := by
  simp only [uHere, hn, Bool.and_eq_true, decide_eq_true_eq]
  exact ⟨⟨nI_pos' (by omega), nI_lt hk (by omega)⟩, nI_lt (a := k) (b := 32) (by omega) (by omega)⟩
set_option maxRecDepth 100000 in
set_option maxHeartbeats 4000000 in
theorem n24 (X : xX) (sh : List (Nat × Nat × List Value)) (σ A : Nat → Nat → Int32) (c : Nat) (hc : xcup sh c) (un act : Int32) (n : Nat) (hn : A 7 5 = nI n) (hn32 : n ≤ 32) (he : uE A 0 n = -6) : xK X 24 [.ref (c), .int un, .int act] (sh, xput 14 σ c A) = some (some (.int 0), (sh, xput 14 σ c A)) := by
  have hC := hc
  obtain ⟨h0, h1, h2, h3, h4, h5, h6, h7, h8, h9, h10, h11, h12, h13⟩ := hc
  have g1 : uHere A (-6) = false := by
    have : ¬ (0 : Int32) ≤ -6 := by decide
    simp only [uHere, decide_eq_false this, Bool.false_and]
  have g2 : uMat A (-6) = -6 := by rw [uMat, g1]; rfl
  have g3 : uUpp A (-6) = 0 := by rw [uUpp, g1]; rfl
  have g4 : uLow A (-6) = 1 := by rw [uLow, g1]; rfl
  have e52 := k52 X sh σ A c hC 0 n hn hn32
  rw [he] at e52
  rw [xK_d X 24 _ _ [] 90]; simp [xent, xsl, Value.category, xr_d, xr_0, xg_nx, xg_n, xg_o, xg_c, xth_s, xth_v, xth_ite, xth_n, xd_iconst, xd_bipush, xd_sipush, xd_lconst, xd_iload, xd_iload_n, xd_lload, xd_lload_n, xd_aload, xd_aload_n, xd_istore, xd_istore_n, xd_astore, xd_astore_n, xd_lstore, xd_lstore_n, xd_iadd, xd_isub, xd_imul, xd_iand, xd_ior, xd_ishl, xd_ishr, xd_ladd, xd_lsub, xd_lmul, xd_land, xd_lor, xd_idiv, xd_irem, xd_ldiv, xd_lrem, xd_ineg, xd_lneg, xd_lshl, xd_lshr, xd_lcmp, xd_i2l, xd_l2i, xd_dup_int, xd_dup_ref, xd_pop, xd_dup2, xd_goto, xd_ifC, xd_ifI, xd_getf, xd_putI, xd_putR, xd_iald, xd_ialdX, xd_bald, xd_iast, xd_bast, xd_aald, xd_aast, xd_alen, xd_alenX, xd_newI, xd_newZ, xd_newQ, xd_newO, xd_invS, xd_invV, xd_invI, xd_iret, xd_lret, xd_vret, xd_ldc, xd_ldc2, xd_iinc, xd_aret, xd_tsw, xd_lsw, xC_d, xld, xisI, xisL, xisA, xgo_ite, xjp, xcmp, xrt, xinv, xcall, xpop, xcat, xgf, xal, xas, xpf, xle, xaq, xbite, xbite2, xsto, xsto2, xst1, xst2, xkl, xtt, xnum, xi0, xzf, v3, List.getElem?_cons_zero, List.getElem?_cons_succ, List.set_cons_zero, List.set_cons_succ, d24_0, d24_1, d24_4, d24_5, d24_8, d24_9, d24_10, d24_13, d24_14, d24_17, d24_19, d24_20, d24_23, d24_24, d24_27, d24_29, d24_30, d24_33, d24_34, d24_37, d24_39, d24_40, d24_42, d24_45, d24_47, d24_48, d24_50, d24_51, d24_54, d24_55, d24_56, d24_57, d24_60, d24_61, d24_64, d24_66, d24_67, d24_70, d24_71, d24_74, d24_75, d24_78, d24_80, d24_81, d24_83, d24_86, d24_88, d24_90, d24_92, d24_93, d24_96, d24_98, d24_101, d24_102, d24_104, d24_106, d24_108, d24_111, d24_113, d24_115, d24_116, d24_117, d24_119, d24_122, d24_123, wo24, wm24, wr24, f0_34, f0_41, m0_107, m0_111, m0_115, m0_118, m0_121, m0_124, m0_127, m0_131, r24_3, r24_52, r24_53, r24_54, r24_57, r24_58, r24_59, r24_85, wm3, wm52, wm53, wm54, wm57, wm58, wm59, wm85, wo3, wo52, wo53, wo54, wo57, wo58, wo59, wo85, b8_m6, hC, h0, h1, h2, h3, h4, h5, h6, h7, h8, h9, h10, h11, h12, h13, xput_at, xput_at0, xput_up, xput_up0, k54, k57, k58, e52, g2, g3, g4]
set_option maxRecDepth 100000 in
set_option maxHeartbeats 4000000 in
theorem f24 (X : xX) (sh : List (Nat × Nat × List Value)) (σ A : Nat → Nat → Int32) (c : Nat) (hc : xcup sh c) (un act : Int32) (n k : Nat) (hn : A 7 5 = nI n) (hn32 : n ≤ 32) (hk : k < n) (he : uE A 0 n = nI k) (hle : ¬ A 9 k ≤ un * A 10 k) : xK X 24 [.ref (c), .int un, .int act] (sh, xput 14 σ c A) = some (some (.int 0), (sh, xput 14 σ c A)) := by
  have hC := hc
  obtain ⟨h0, h1, h2, h3, h4, h5, h6, h7, h8, h9, h10, h11, h12, h13⟩ := hc
  have g1 := uHere_k hn hn32 hk
  have gk := nI_cl (n := k) (by omega)
  have g2 : uMat A (nI k) = A 8 k := by rw [uMat, if_pos g1, gk]
  have g3 : uUpp A (nI k) = A 9 k := by rw [uUpp, if_pos g1, gk]
  have g4 : uLow A (nI k) = A 10 k := by rw [uLow, if_pos g1, gk]
  have g6 := nI_nm6 (k := k) (by omega)
  have e52 := k52 X sh σ A c hC 0 n hn hn32
  rw [he] at e52
  rw [xK_d X 24 _ _ [] 90]; simp [xent, xsl, Value.category, xr_d, xr_0, xg_nx, xg_n, xg_o, xg_c, xth_s, xth_v, xth_ite, xth_n, xd_iconst, xd_bipush, xd_sipush, xd_lconst, xd_iload, xd_iload_n, xd_lload, xd_lload_n, xd_aload, xd_aload_n, xd_istore, xd_istore_n, xd_astore, xd_astore_n, xd_lstore, xd_lstore_n, xd_iadd, xd_isub, xd_imul, xd_iand, xd_ior, xd_ishl, xd_ishr, xd_ladd, xd_lsub, xd_lmul, xd_land, xd_lor, xd_idiv, xd_irem, xd_ldiv, xd_lrem, xd_ineg, xd_lneg, xd_lshl, xd_lshr, xd_lcmp, xd_i2l, xd_l2i, xd_dup_int, xd_dup_ref, xd_pop, xd_dup2, xd_goto, xd_ifC, xd_ifI, xd_getf, xd_putI, xd_putR, xd_iald, xd_ialdX, xd_bald, xd_iast, xd_bast, xd_aald, xd_aast, xd_alen, xd_alenX, xd_newI, xd_newZ, xd_newQ, xd_newO, xd_invS, xd_invV, xd_invI, xd_iret, xd_lret, xd_vret, xd_ldc, xd_ldc2, xd_iinc, xd_aret, xd_tsw, xd_lsw, xC_d, xld, xisI, xisL, xisA, xgo_ite, xjp, xcmp, xrt, xinv, xcall, xpop, xcat, xgf, xal, xas, xpf, xle, xaq, xbite, xbite2, xsto, xsto2, xst1, xst2, xkl, xtt, xnum, xi0, xzf, v3, List.getElem?_cons_zero, List.getElem?_cons_succ, List.set_cons_zero, List.set_cons_succ, d24_0, d24_1, d24_4, d24_5, d24_8, d24_9, d24_10, d24_13, d24_14, d24_17, d24_19, d24_20, d24_23, d24_24, d24_27, d24_29, d24_30, d24_33, d24_34, d24_37, d24_39, d24_40, d24_42, d24_45, d24_47, d24_48, d24_50, d24_51, d24_54, d24_55, d24_56, d24_57, d24_60, d24_61, d24_64, d24_66, d24_67, d24_70, d24_71, d24_74, d24_75, d24_78, d24_80, d24_81, d24_83, d24_86, d24_88, d24_90, d24_92, d24_93, d24_96, d24_98, d24_101, d24_102, d24_104, d24_106, d24_108, d24_111, d24_113, d24_115, d24_116, d24_117, d24_119, d24_122, d24_123, wo24, wm24, wr24, f0_34, f0_41, m0_107, m0_111, m0_115, m0_118, m0_121, m0_124, m0_127, m0_131, r24_3, r24_52, r24_53, r24_54, r24_57, r24_58, r24_59, r24_85, wm3, wm52, wm53, wm54, wm57, wm58, wm59, wm85, wo3, wo52, wo53, wo54, wo57, wo58, wo59, wo85, b8_m6, hC, h0, h1, h2, h3, h4, h5, h6, h7, h8, h9, h10, h11, h12, h13, xput_at, xput_at0, xput_up, xput_up0, k54, k57, k58, e52, g2, g3, g4, g6, hle]
set_option maxRecDepth 100000 in
set_option maxHeartbeats 4000000 in
theorem d24 (X : xX) (sh : List (Nat × Nat × List Value)) (σ A : Nat → Nat → Int32) (c : Nat) (hc : xcup sh c) (un act : Int32) (n k : Nat) (hn : A 7 5 = nI n) (hn32 : n ≤ 32) (hk : k < n) (he : uE A 0 n = nI k) (m : Nat) (hm7 : m ≤ 7) (hmk : A 8 k = nI m) (hle : A 9 k ≤ un * A 10 k) : xK X 24 [.ref (c), .int un, .int act] (sh, xput 14 σ c A) = some (some (.int 1), (sh, xput 14 σ c (uCh (A 9 k) (A 10 k) 3 (uCnt (uRem A k n) (xi (uOwn A (nI k))) act (nI m)) m (xi (uOwn A (nI k)))))) := by
  have hC := hc
  obtain ⟨h0, h1, h2, h3, h4, h5, h6, h7, h8, h9, h10, h11, h12, h13⟩ := hc
  have g1 := uHere_k hn hn32 hk
  have gk := nI_cl (n := k) (by omega)
  have g2 : uMat A (nI k) = A 8 k := by rw [uMat, if_pos g1, gk]
  have g3 : uUpp A (nI k) = A 9 k := by rw [uUpp, if_pos g1, gk]
  have g4 : uLow A (nI k) = A 10 k := by rw [uLow, if_pos g1, gk]
  have g6 := nI_nm6 (k := k) (by omega)
  have e52 := k52 X sh σ A c hC 0 n hn hn32
  rw [he] at e52
  have e59 := k59 X sh σ A c hC k n hn hn32 hk
  have e85 := k85 X sh σ (uRem A k n) c hC (xi (uOwn A (nI k))) act (nI m)
  have h := l24 X sh σ c hC un act (nI k) (nI m) (A 9 k) (A 10 k) 3 (uCnt (uRem A k n) (xi (uOwn A (nI k))) act (nI m)) m (xi (uOwn A (nI k))) hm7 (by omega)
  rw [xK_d X 24 _ _ [90] 90]; simp [xent, xsl, Value.category, xr_d, xr_0, xg_nx, xg_n, xg_o, xg_c, xth_s, xth_v, xth_ite, xth_n, xd_iconst, xd_bipush, xd_sipush, xd_lconst, xd_iload, xd_iload_n, xd_lload, xd_lload_n, xd_aload, xd_aload_n, xd_istore, xd_istore_n, xd_astore, xd_astore_n, xd_lstore, xd_lstore_n, xd_iadd, xd_isub, xd_imul, xd_iand, xd_ior, xd_ishl, xd_ishr, xd_ladd, xd_lsub, xd_lmul, xd_land, xd_lor, xd_idiv, xd_irem, xd_ldiv, xd_lrem, xd_ineg, xd_lneg, xd_lshl, xd_lshr, xd_lcmp, xd_i2l, xd_l2i, xd_dup_int, xd_dup_ref, xd_pop, xd_dup2, xd_goto, xd_ifC, xd_ifI, xd_getf, xd_putI, xd_putR, xd_iald, xd_ialdX, xd_bald, xd_iast, xd_bast, xd_aald, xd_aast, xd_alen, xd_alenX, xd_newI, xd_newZ, xd_newQ, xd_newO, xd_invS, xd_invV, xd_invI, xd_iret, xd_lret, xd_vret, xd_ldc, xd_ldc2, xd_iinc, xd_aret, xd_tsw, xd_lsw, xC_d, xld, xisI, xisL, xisA, xgo_ite, xjp, xcmp, xrt, xinv, xcall, xpop, xcat, xgf, xal, xas, xpf, xle, xaq, xbite, xbite2, xsto, xsto2, xst1, xst2, xkl, xtt, xnum, xi0, xzf, v3, List.getElem?_cons_zero, List.getElem?_cons_succ, List.set_cons_zero, List.set_cons_succ, d24_0, d24_1, d24_4, d24_5, d24_8, d24_9, d24_10, d24_13, d24_14, d24_17, d24_19, d24_20, d24_23, d24_24, d24_27, d24_29, d24_30, d24_33, d24_34, d24_37, d24_39, d24_40, d24_42, d24_45, d24_47, d24_48, d24_50, d24_51, d24_54, d24_55, d24_56, d24_57, d24_60, d24_61, d24_64, d24_66, d24_67, d24_70, d24_71, d24_74, d24_75, d24_78, d24_80, d24_81, d24_83, d24_86, d24_88, d24_90, d24_92, d24_93, d24_96, d24_98, d24_101, d24_102, d24_104, d24_106, d24_108, d24_111, d24_113, d24_115, d24_116, d24_117, d24_119, d24_122, d24_123, wo24, wm24, wr24, f0_34, f0_41, m0_107, m0_111, m0_115, m0_118, m0_121, m0_124, m0_127, m0_131, r24_3, r24_52, r24_53, r24_54, r24_57, r24_58, r24_59, r24_85, wm3, wm52, wm53, wm54, wm57, wm58, wm59, wm85, wo3, wo52, wo53, wo54, wo57, wo58, wo59, wo85, b8_m6, hC, h0, h1, h2, h3, h4, h5, h6, h7, h8, h9, h10, h11, h12, h13, xput_at, xput_at0, xput_up, xput_up0, k54, k57, k58, k53, e52, g2, g3, g4, g6, hle, hmk, e59, e85]
  exact h
theorem k24 (X : xX) (sh : List (Nat × Nat × List Value)) (σ A : Nat → Nat → Int32) (c : Nat) (hc : xcup sh c) (hw : uWF A) (un act : Int32) : xK X 24 [.ref c, .int un, .int act] (sh, xput 14 σ c A) = some (some (.int (xi (uDue A un))), (sh, xput 14 σ c (if uDue A un = true then uTk A act else A))) := by
  obtain ⟨n, hn32, hn, hmat⟩ := hw
  have eN : uN A = n := by rw [uN, hn, nI_cl (by omega)]
  rcases uE_c A 0 n with he | ⟨k, hk, he⟩
  · have e1 : uDue A un = false := by rw [uDue, eN, he]; rfl
    rw [n24 X sh σ A c hc un act n hn hn32 he, e1]
    rfl
  · have eF : uF A = k := by rw [uF, eN, he, nI_cl (by omega)]
    obtain ⟨m, hm1, hm7, hmk⟩ := hmat k hk
    by_cases hle : A 9 k ≤ un * A 10 k
    · have e1 : uDue A un = true := by rw [uDue, eN, he, eF]; simp [nI_nm6 (k := k) (by omega), hle]
      rw [d24 X sh σ A c hc un act n k hn hn32 hk he m hm7 hmk hle, e1, uTk, eF, eN, hmk, nI_cl (by omega)]
      rfl
    · have e1 : uDue A un = false := by rw [uDue, eN, he, eF]; simp [hle]
      rw [f24 X sh σ A c hc un act n k hn hn32 hk he hle, e1]
      rfl
