def uAhead (A : Nat → Nat → Int32) (a b p q : Int32) : Int32 :=
  if xin a 8 = true then
    if xin b 8 = true then
      if (A 3 a.toNatClampNeg - A 3 b.toNatClampNeg) * q + (A 4 a.toNatClampNeg - A 4 b.toNatClampNeg) * p = 0 then
        if A 4 a.toNatClampNeg - A 4 b.toNatClampNeg = 0 then (if b - a ≤ 0 then b else a) else if A 4 a.toNatClampNeg - A 4 b.toNatClampNeg ≤ 0 then b else a
      else if (A 3 a.toNatClampNeg - A 3 b.toNatClampNeg) * q + (A 4 a.toNatClampNeg - A 4 b.toNatClampNeg) * p ≤ 0 then b else a
    else a
  else if xin b 8 = true then b else -6
def uHere (A : Nat → Nat → Int32) (i : Int32) : Bool := decide (0 ≤ i) && decide (i < A 7 5) && decide (i < 32)
theorem uHere_in {A : Nat → Nat → Int32} {i : Int32} (h : uHere A i = true) : xin i 32 = true := by
  have h1 : (32 : Int32).toInt = 32 := by decide
  simp only [uHere, Bool.and_eq_true, decide_eq_true_eq, Int32.le_iff_toInt_le, Int32.lt_iff_toInt_lt, h1, Int32.toInt_zero] at h
  simp only [xin, Bool.and_eq_true, decide_eq_true_eq]
  omega
def uMat (A : Nat → Nat → Int32) (i : Int32) : Int32 := if uHere A i = true then A 8 i.toNatClampNeg else -6
def uUpp (A : Nat → Nat → Int32) (i : Int32) : Int32 := if uHere A i = true then A 9 i.toNatClampNeg else 0
def uLow (A : Nat → Nat → Int32) (i : Int32) : Int32 := if uHere A i = true then A 10 i.toNatClampNeg else 1
def uOwn (A : Nat → Nat → Int32) (i : Int32) : Bool := uHere A i && (uM (A 8 i.toNatClampNeg) && decide (A 11 i.toNatClampNeg = A 12 (A 8 i.toNatClampNeg).toNatClampNeg))
def uSoon (A : Nat → Nat → Int32) (i j : Int32) : Bool := if uUpp A i * uLow A j = uUpp A j * uLow A i then decide (uMat A j < uMat A i) else decide (uUpp A i * uLow A j < uUpp A j * uLow A i)

set_option maxRecDepth 100000 in
set_option maxHeartbeats 4000000 in
theorem k7 (X : xX) (sh : List (Nat × Nat × List Value)) (σ A : Nat → Nat → Int32) (c : Nat) (hc : xcup sh c) (a b p q : Int32) : xK X 7 [.ref (c), .int a, .int b, .int p, .int q] (sh, xput 14 σ c A) = some (some (.int (uAhead A a b p q)), (sh, xput 14 σ c A)) := by
  have hC := hc
  obtain ⟨h0, h1, h2, h3, h4, h5, h6, h7, h8, h9, h10, h11, h12, h13⟩ := hc
  rw [xK_d X 7 _ _ [] 90]
  simp [xent, xsl, Value.category, xr_d, xr_0, xg_nx, xg_n, xg_o, xg_c, xth_s, xth_v, xth_ite, xth_n, xd_iconst, xd_bipush, xd_sipush, xd_lconst, xd_iload, xd_iload_n, xd_lload, xd_lload_n, xd_aload, xd_aload_n, xd_istore, xd_istore_n, xd_astore, xd_astore_n, xd_lstore, xd_lstore_n, xd_iadd, xd_isub, xd_imul, xd_iand, xd_ior, xd_ishl, xd_ishr, xd_ladd, xd_lsub, xd_lmul, xd_land, xd_lor, xd_idiv, xd_irem, xd_ldiv, xd_lrem, xd_ineg, xd_lneg, xd_lshl, xd_lshr, xd_lcmp, xd_i2l, xd_l2i, xd_dup_int, xd_dup_ref, xd_pop, xd_dup2, xd_goto, xd_ifC, xd_ifI, xd_getf, xd_putI, xd_putR, xd_iald, xd_ialdX, xd_bald, xd_iast, xd_bast, xd_aald, xd_aast, xd_alen, xd_alenX, xd_newI, xd_newZ, xd_newQ, xd_newO, xd_invS, xd_invV, xd_invI, xd_iret, xd_lret, xd_vret, xd_ldc, xd_ldc2, xd_iinc, xd_aret, xd_tsw, xd_lsw, xC_d, xld, xisI, xisL, xisA, xgo_ite, xjp, xcmp, xrt, xinv, xcall, xpop, xcat, xgf, xal, xas, xpf, xle, xaq, xbite, xbite2, xsto, xsto2, xst1, xst2, xkl, xtt, xnum, xi0, xzf, v3, List.getElem?_cons_zero, List.getElem?_cons_succ, List.set_cons_zero, List.set_cons_succ, d7_0, d7_1, d7_4, d7_7, d7_8, d7_11, d7_14, d7_15, d7_18, d7_20, d7_21, d7_22, d7_25, d7_28, d7_29, d7_30, d7_31, d7_34, d7_35, d7_36, d7_37, d7_40, d7_41, d7_42, d7_43, d7_45, d7_46, d7_47, d7_50, d7_51, d7_52, d7_53, d7_56, d7_57, d7_58, d7_59, d7_60, d7_61, d7_62, d7_64, d7_66, d7_69, d7_70, d7_73, d7_74, d7_75, d7_76, d7_79, d7_80, d7_81, d7_82, d7_84, d7_86, d7_89, d7_90, d7_91, d7_92, d7_94, d7_96, d7_99, d7_100, d7_103, d7_104, wo7, wm7, wr7, f0_18, f0_21, m0_62, r7_88, wm88, b8_m6, hC, h0, h1, h2, h3, h4, h5, h6, h7, h8, h9, h10, h11, h12, h13, xput_at, xput_at0, xput_up, xput_up0, k88]
  by_cases ha : xin a 8 = true
  · by_cases hb : xin b 8 = true
    · simp only [ha, hb, uAhead]
      simp only [if_true, Bool.true_eq_false, if_false]
      repeat' split
      all_goals simp_all
    · simp only [Bool.not_eq_true] at hb
      simp [ha, hb, uAhead]
  · simp only [Bool.not_eq_true] at ha
    by_cases hb : xin b 8 = true
    · simp [ha, hb, uAhead]
    · simp only [Bool.not_eq_true] at hb
      simp [ha, hb, uAhead]
set_option maxRecDepth 100000 in
set_option maxHeartbeats 4000000 in
theorem k55 (X : xX) (sh : List (Nat × Nat × List Value)) (σ A : Nat → Nat → Int32) (c : Nat) (hc : xcup sh c) (i : Int32) : xK X 55 [.ref (c + 7), .int i] (sh, xput 14 σ c A) = some (some (.int (xi (uHere A i))), (sh, xput 14 σ c A)) := by
  have hC := hc
  obtain ⟨h0, h1, h2, h3, h4, h5, h6, h7, h8, h9, h10, h11, h12, h13⟩ := hc
  rw [xK_d X 55 _ _ [] 90]
  simp [xent, xsl, Value.category, xr_d, xr_0, xg_nx, xg_n, xg_o, xg_c, xth_s, xth_v, xth_ite, xth_n, xd_iconst, xd_bipush, xd_sipush, xd_lconst, xd_iload, xd_iload_n, xd_lload, xd_lload_n, xd_aload, xd_aload_n, xd_istore, xd_istore_n, xd_astore, xd_astore_n, xd_lstore, xd_lstore_n, xd_iadd, xd_isub, xd_imul, xd_iand, xd_ior, xd_ishl, xd_ishr, xd_ladd, xd_lsub, xd_lmul, xd_land, xd_lor, xd_idiv, xd_irem, xd_ldiv, xd_lrem, xd_ineg, xd_lneg, xd_lshl, xd_lshr, xd_lcmp, xd_i2l, xd_l2i, xd_dup_int, xd_dup_ref, xd_pop, xd_dup2, xd_goto, xd_ifC, xd_ifI, xd_getf, xd_putI, xd_putR, xd_iald, xd_ialdX, xd_bald, xd_iast, xd_bast, xd_aald, xd_aast, xd_alen, xd_alenX, xd_newI, xd_newZ, xd_newQ, xd_newO, xd_invS, xd_invV, xd_invI, xd_iret, xd_lret, xd_vret, xd_ldc, xd_ldc2, xd_iinc, xd_aret, xd_tsw, xd_lsw, xC_d, xld, xisI, xisL, xisA, xgo_ite, xjp, xcmp, xrt, xinv, xcall, xpop, xcat, xgf, xal, xas, xpf, xle, xaq, xbite, xbite2, xsto, xsto2, xst1, xst2, xkl, xtt, xnum, xi0, xzf, v3, List.getElem?_cons_zero, List.getElem?_cons_succ, List.set_cons_zero, List.set_cons_succ, d55_0, d55_1, d55_4, d55_5, d55_6, d55_9, d55_12, d55_13, d55_15, d55_18, d55_19, d55_22, d55_23, wo55, wm55, wr55, f3_27, b8_32, hC, h0, h1, h2, h3, h4, h5, h6, h7, h8, h9, h10, h11, h12, h13, xput_at, xput_at0, xput_up, xput_up0]
  simp only [uHere, ← Int32.not_lt, xi]
  clear hC h0 h1 h2 h3 h4 h5 h6 h7 h8 h9 h10 h11 h12 h13
  repeat' split
  all_goals simp_all
  all_goals (simp only [Int32.lt_iff_toInt_lt, Int32.le_iff_toInt_le] at *; omega)
set_option maxRecDepth 100000 in
set_option maxHeartbeats 4000000 in
theorem k60 (X : xX) (sh : List (Nat × Nat × List Value)) (σ A : Nat → Nat → Int32) (c : Nat) (hc : xcup sh c)  : xK X 60 [.ref (c + 7)] (sh, xput 14 σ c A) = some (some (.int (A 7 5)), (sh, xput 14 σ c A)) := by
  have hC := hc
  obtain ⟨h0, h1, h2, h3, h4, h5, h6, h7, h8, h9, h10, h11, h12, h13⟩ := hc
  rw [xK_d X 60 _ _ [] 90]
  simp [xent, xsl, Value.category, xr_d, xr_0, xg_nx, xg_n, xg_o, xg_c, xth_s, xth_v, xth_ite, xth_n, xd_iconst, xd_bipush, xd_sipush, xd_lconst, xd_iload, xd_iload_n, xd_lload, xd_lload_n, xd_aload, xd_aload_n, xd_istore, xd_istore_n, xd_astore, xd_astore_n, xd_lstore, xd_lstore_n, xd_iadd, xd_isub, xd_imul, xd_iand, xd_ior, xd_ishl, xd_ishr, xd_ladd, xd_lsub, xd_lmul, xd_land, xd_lor, xd_idiv, xd_irem, xd_ldiv, xd_lrem, xd_ineg, xd_lneg, xd_lshl, xd_lshr, xd_lcmp, xd_i2l, xd_l2i, xd_dup_int, xd_dup_ref, xd_pop, xd_dup2, xd_goto, xd_ifC, xd_ifI, xd_getf, xd_putI, xd_putR, xd_iald, xd_ialdX, xd_bald, xd_iast, xd_bast, xd_aald, xd_aast, xd_alen, xd_alenX, xd_newI, xd_newZ, xd_newQ, xd_newO, xd_invS, xd_invV, xd_invI, xd_iret, xd_lret, xd_vret, xd_ldc, xd_ldc2, xd_iinc, xd_aret, xd_tsw, xd_lsw, xC_d, xld, xisI, xisL, xisA, xgo_ite, xjp, xcmp, xrt, xinv, xcall, xpop, xcat, xgf, xal, xas, xpf, xle, xaq, xbite, xbite2, xsto, xsto2, xst1, xst2, xkl, xtt, xnum, xi0, xzf, v3, List.getElem?_cons_zero, List.getElem?_cons_succ, List.set_cons_zero, List.set_cons_succ, d60_0, d60_1, d60_4, wo60, wm60, wr60, f3_27, hC, h0, h1, h2, h3, h4, h5, h6, h7, h8, h9, h10, h11, h12, h13, xput_at, xput_at0, xput_up, xput_up0]

set_option maxRecDepth 100000 in
set_option maxHeartbeats 4000000 in
theorem k54 (X : xX) (sh : List (Nat × Nat × List Value)) (σ A : Nat → Nat → Int32) (c : Nat) (hc : xcup sh c) (i : Int32) : xK X 54 [.ref (c + 7), .int i] (sh, xput 14 σ c A) = some (some (.int (uMat A i)), (sh, xput 14 σ c A)) := by
  have hC := hc
  obtain ⟨h0, h1, h2, h3, h4, h5, h6, h7, h8, h9, h10, h11, h12, h13⟩ := hc
  rw [xK_d X 54 _ _ [] 90]
  simp [xent, xsl, Value.category, xr_d, xr_0, xg_nx, xg_n, xg_o, xg_c, xth_s, xth_v, xth_ite, xth_n, xd_iconst, xd_bipush, xd_sipush, xd_lconst, xd_iload, xd_iload_n, xd_lload, xd_lload_n, xd_aload, xd_aload_n, xd_istore, xd_istore_n, xd_astore, xd_astore_n, xd_lstore, xd_lstore_n, xd_iadd, xd_isub, xd_imul, xd_iand, xd_ior, xd_ishl, xd_ishr, xd_ladd, xd_lsub, xd_lmul, xd_land, xd_lor, xd_idiv, xd_irem, xd_ldiv, xd_lrem, xd_ineg, xd_lneg, xd_lshl, xd_lshr, xd_lcmp, xd_i2l, xd_l2i, xd_dup_int, xd_dup_ref, xd_pop, xd_dup2, xd_goto, xd_ifC, xd_ifI, xd_getf, xd_putI, xd_putR, xd_iald, xd_ialdX, xd_bald, xd_iast, xd_bast, xd_aald, xd_aast, xd_alen, xd_alenX, xd_newI, xd_newZ, xd_newQ, xd_newO, xd_invS, xd_invV, xd_invI, xd_iret, xd_lret, xd_vret, xd_ldc, xd_ldc2, xd_iinc, xd_aret, xd_tsw, xd_lsw, xC_d, xld, xisI, xisL, xisA, xgo_ite, xjp, xcmp, xrt, xinv, xcall, xpop, xcat, xgf, xal, xas, xpf, xle, xaq, xbite, xbite2, xsto, xsto2, xst1, xst2, xkl, xtt, xnum, xi0, xzf, v3, List.getElem?_cons_zero, List.getElem?_cons_succ, List.set_cons_zero, List.set_cons_succ, d54_0, d54_1, d54_2, d54_5, d54_8, d54_9, d54_12, d54_13, d54_14, d54_17, d54_19, wo54, wm54, wr54, f3_11, m3_50, r54_55, wm55, wo55, b8_m6, hC, h0, h1, h2, h3, h4, h5, h6, h7, h8, h9, h10, h11, h12, h13, xput_at, xput_at0, xput_up, xput_up0, k55]
  by_cases hr : uHere A i = true
  · have hi := uHere_in hr
    simp [hr, hi, uMat]
  · simp only [Bool.not_eq_true] at hr
    simp [hr, uMat]
set_option maxRecDepth 100000 in
set_option maxHeartbeats 4000000 in
theorem k57 (X : xX) (sh : List (Nat × Nat × List Value)) (σ A : Nat → Nat → Int32) (c : Nat) (hc : xcup sh c) (i : Int32) : xK X 57 [.ref (c + 7), .int i] (sh, xput 14 σ c A) = some (some (.int (uUpp A i)), (sh, xput 14 σ c A)) := by
  have hC := hc
  obtain ⟨h0, h1, h2, h3, h4, h5, h6, h7, h8, h9, h10, h11, h12, h13⟩ := hc
  rw [xK_d X 57 _ _ [] 90]
  simp [xent, xsl, Value.category, xr_d, xr_0, xg_nx, xg_n, xg_o, xg_c, xth_s, xth_v, xth_ite, xth_n, xd_iconst, xd_bipush, xd_sipush, xd_lconst, xd_iload, xd_iload_n, xd_lload, xd_lload_n, xd_aload, xd_aload_n, xd_istore, xd_istore_n, xd_astore, xd_astore_n, xd_lstore, xd_lstore_n, xd_iadd, xd_isub, xd_imul, xd_iand, xd_ior, xd_ishl, xd_ishr, xd_ladd, xd_lsub, xd_lmul, xd_land, xd_lor, xd_idiv, xd_irem, xd_ldiv, xd_lrem, xd_ineg, xd_lneg, xd_lshl, xd_lshr, xd_lcmp, xd_i2l, xd_l2i, xd_dup_int, xd_dup_ref, xd_pop, xd_dup2, xd_goto, xd_ifC, xd_ifI, xd_getf, xd_putI, xd_putR, xd_iald, xd_ialdX, xd_bald, xd_iast, xd_bast, xd_aald, xd_aast, xd_alen, xd_alenX, xd_newI, xd_newZ, xd_newQ, xd_newO, xd_invS, xd_invV, xd_invI, xd_iret, xd_lret, xd_vret, xd_ldc, xd_ldc2, xd_iinc, xd_aret, xd_tsw, xd_lsw, xC_d, xld, xisI, xisL, xisA, xgo_ite, xjp, xcmp, xrt, xinv, xcall, xpop, xcat, xgf, xal, xas, xpf, xle, xaq, xbite, xbite2, xsto, xsto2, xst1, xst2, xkl, xtt, xnum, xi0, xzf, v3, List.getElem?_cons_zero, List.getElem?_cons_succ, List.set_cons_zero, List.set_cons_succ, d57_0, d57_1, d57_2, d57_5, d57_8, d57_9, d57_12, d57_13, d57_14, d57_17, d57_18, wo57, wm57, wr57, f3_15, m3_50, r57_55, wm55, wo55, hC, h0, h1, h2, h3, h4, h5, h6, h7, h8, h9, h10, h11, h12, h13, xput_at, xput_at0, xput_up, xput_up0, k55]
  by_cases hr : uHere A i = true
  · have hi := uHere_in hr
    simp [hr, hi, uUpp]
  · simp only [Bool.not_eq_true] at hr
    simp [hr, uUpp]
set_option maxRecDepth 100000 in
set_option maxHeartbeats 4000000 in
theorem k58 (X : xX) (sh : List (Nat × Nat × List Value)) (σ A : Nat → Nat → Int32) (c : Nat) (hc : xcup sh c) (i : Int32) : xK X 58 [.ref (c + 7), .int i] (sh, xput 14 σ c A) = some (some (.int (uLow A i)), (sh, xput 14 σ c A)) := by
  have hC := hc
  obtain ⟨h0, h1, h2, h3, h4, h5, h6, h7, h8, h9, h10, h11, h12, h13⟩ := hc
  rw [xK_d X 58 _ _ [] 90]
  simp [xent, xsl, Value.category, xr_d, xr_0, xg_nx, xg_n, xg_o, xg_c, xth_s, xth_v, xth_ite, xth_n, xd_iconst, xd_bipush, xd_sipush, xd_lconst, xd_iload, xd_iload_n, xd_lload, xd_lload_n, xd_aload, xd_aload_n, xd_istore, xd_istore_n, xd_astore, xd_astore_n, xd_lstore, xd_lstore_n, xd_iadd, xd_isub, xd_imul, xd_iand, xd_ior, xd_ishl, xd_ishr, xd_ladd, xd_lsub, xd_lmul, xd_land, xd_lor, xd_idiv, xd_irem, xd_ldiv, xd_lrem, xd_ineg, xd_lneg, xd_lshl, xd_lshr, xd_lcmp, xd_i2l, xd_l2i, xd_dup_int, xd_dup_ref, xd_pop, xd_dup2, xd_goto, xd_ifC, xd_ifI, xd_getf, xd_putI, xd_putR, xd_iald, xd_ialdX, xd_bald, xd_iast, xd_bast, xd_aald, xd_aast, xd_alen, xd_alenX, xd_newI, xd_newZ, xd_newQ, xd_newO, xd_invS, xd_invV, xd_invI, xd_iret, xd_lret, xd_vret, xd_ldc, xd_ldc2, xd_iinc, xd_aret, xd_tsw, xd_lsw, xC_d, xld, xisI, xisL, xisA, xgo_ite, xjp, xcmp, xrt, xinv, xcall, xpop, xcat, xgf, xal, xas, xpf, xle, xaq, xbite, xbite2, xsto, xsto2, xst1, xst2, xkl, xtt, xnum, xi0, xzf, v3, List.getElem?_cons_zero, List.getElem?_cons_succ, List.set_cons_zero, List.set_cons_succ, d58_0, d58_1, d58_2, d58_5, d58_8, d58_9, d58_12, d58_13, d58_14, d58_17, d58_18, wo58, wm58, wr58, f3_18, m3_50, r58_55, wm55, wo55, hC, h0, h1, h2, h3, h4, h5, h6, h7, h8, h9, h10, h11, h12, h13, xput_at, xput_at0, xput_up, xput_up0, k55]
  by_cases hr : uHere A i = true
  · have hi := uHere_in hr
    simp [hr, hi, uLow]
  · simp only [Bool.not_eq_true] at hr
    simp [hr, uLow]
set_option maxRecDepth 100000 in
set_option maxHeartbeats 4000000 in
theorem k53 (X : xX) (sh : List (Nat × Nat × List Value)) (σ A : Nat → Nat → Int32) (c : Nat) (hc : xcup sh c) (i : Int32) : xK X 53 [.ref (c + 7), .int i] (sh, xput 14 σ c A) = some (some (.int (xi (uOwn A i))), (sh, xput 14 σ c A)) := by
  have hC := hc
  obtain ⟨h0, h1, h2, h3, h4, h5, h6, h7, h8, h9, h10, h11, h12, h13⟩ := hc
  obtain ⟨m, hmd⟩ : ∃ m, m = uMat A i := ⟨_, rfl⟩
  have e54 : xK X 54 [.ref (c + 7), .int i] (sh, xput 14 σ c A) = some (some (.int m), (sh, xput 14 σ c A)) := by rw [hmd]; exact k54 X sh σ A c hC i
  have key : uM m = true → xin i 32 = true := by
    intro h
    by_cases hr : uHere A i = true
    · exact uHere_in hr
    · rw [hmd, uMat, if_neg hr, uM_m6] at h
      cases h
  have e : uOwn A i = (uM m && decide (A 11 i.toNatClampNeg = A 12 m.toNatClampNeg)) := by
    rw [hmd]
    unfold uOwn uMat
    by_cases hr : uHere A i = true
    · rw [hr, if_pos rfl]; rfl
    · rw [if_neg hr, uM_m6]
      simp only [Bool.not_eq_true] at hr
      rw [hr]; rfl
  rw [e]
  clear e hmd
  by_cases hm : uM m = true
  · have hm8 := uM_in hm
    have hi := key hm
    clear key
    by_cases he : A 11 i.toNatClampNeg = A 12 m.toNatClampNeg
    · rw [xK_d X 53 _ _ [] 90]; simp [xent, xsl, Value.category, xr_d, xr_0, xg_nx, xg_n, xg_o, xg_c, xth_s, xth_v, xth_ite, xth_n, xd_iconst, xd_bipush, xd_sipush, xd_lconst, xd_iload, xd_iload_n, xd_lload, xd_lload_n, xd_aload, xd_aload_n, xd_istore, xd_istore_n, xd_astore, xd_astore_n, xd_lstore, xd_lstore_n, xd_iadd, xd_isub, xd_imul, xd_iand, xd_ior, xd_ishl, xd_ishr, xd_ladd, xd_lsub, xd_lmul, xd_land, xd_lor, xd_idiv, xd_irem, xd_ldiv, xd_lrem, xd_ineg, xd_lneg, xd_lshl, xd_lshr, xd_lcmp, xd_i2l, xd_l2i, xd_dup_int, xd_dup_ref, xd_pop, xd_dup2, xd_goto, xd_ifC, xd_ifI, xd_getf, xd_putI, xd_putR, xd_iald, xd_ialdX, xd_bald, xd_iast, xd_bast, xd_aald, xd_aast, xd_alen, xd_alenX, xd_newI, xd_newZ, xd_newQ, xd_newO, xd_invS, xd_invV, xd_invI, xd_iret, xd_lret, xd_vret, xd_ldc, xd_ldc2, xd_iinc, xd_aret, xd_tsw, xd_lsw, xC_d, xld, xisI, xisL, xisA, xgo_ite, xjp, xcmp, xrt, xinv, xcall, xpop, xcat, xgf, xal, xas, xpf, xle, xaq, xbite, xbite2, xsto, xsto2, xst1, xst2, xkl, xtt, xnum, xi0, xzf, v3, List.getElem?_cons_zero, List.getElem?_cons_succ, List.set_cons_zero, List.set_cons_succ, d53_0, d53_1, d53_2, d53_5, d53_6, d53_7, d53_10, d53_13, d53_14, d53_17, d53_18, d53_19, d53_20, d53_23, d53_24, d53_25, d53_28, d53_29, d53_32, d53_33, wo53, wm53, wr53, f3_21, f3_24, m3_46, m3_53, r53_54, r53_87, wm54, wm87, wo54, hC, h0, h1, h2, h3, h4, h5, h6, h7, h8, h9, h10, h11, h12, h13, xput_at, xput_at0, xput_up, xput_up0, k87', e54, hm, hi, hm8, he, xi]
    · rw [xK_d X 53 _ _ [] 90]; simp [xent, xsl, Value.category, xr_d, xr_0, xg_nx, xg_n, xg_o, xg_c, xth_s, xth_v, xth_ite, xth_n, xd_iconst, xd_bipush, xd_sipush, xd_lconst, xd_iload, xd_iload_n, xd_lload, xd_lload_n, xd_aload, xd_aload_n, xd_istore, xd_istore_n, xd_astore, xd_astore_n, xd_lstore, xd_lstore_n, xd_iadd, xd_isub, xd_imul, xd_iand, xd_ior, xd_ishl, xd_ishr, xd_ladd, xd_lsub, xd_lmul, xd_land, xd_lor, xd_idiv, xd_irem, xd_ldiv, xd_lrem, xd_ineg, xd_lneg, xd_lshl, xd_lshr, xd_lcmp, xd_i2l, xd_l2i, xd_dup_int, xd_dup_ref, xd_pop, xd_dup2, xd_goto, xd_ifC, xd_ifI, xd_getf, xd_putI, xd_putR, xd_iald, xd_ialdX, xd_bald, xd_iast, xd_bast, xd_aald, xd_aast, xd_alen, xd_alenX, xd_newI, xd_newZ, xd_newQ, xd_newO, xd_invS, xd_invV, xd_invI, xd_iret, xd_lret, xd_vret, xd_ldc, xd_ldc2, xd_iinc, xd_aret, xd_tsw, xd_lsw, xC_d, xld, xisI, xisL, xisA, xgo_ite, xjp, xcmp, xrt, xinv, xcall, xpop, xcat, xgf, xal, xas, xpf, xle, xaq, xbite, xbite2, xsto, xsto2, xst1, xst2, xkl, xtt, xnum, xi0, xzf, v3, List.getElem?_cons_zero, List.getElem?_cons_succ, List.set_cons_zero, List.set_cons_succ, d53_0, d53_1, d53_2, d53_5, d53_6, d53_7, d53_10, d53_13, d53_14, d53_17, d53_18, d53_19, d53_20, d53_23, d53_24, d53_25, d53_28, d53_29, d53_32, d53_33, wo53, wm53, wr53, f3_21, f3_24, m3_46, m3_53, r53_54, r53_87, wm54, wm87, wo54, hC, h0, h1, h2, h3, h4, h5, h6, h7, h8, h9, h10, h11, h12, h13, xput_at, xput_at0, xput_up, xput_up0, k87', e54, hm, hi, hm8, he, xi]
  · clear key
    simp only [Bool.not_eq_true] at hm
    rw [xK_d X 53 _ _ [] 90]; simp [xent, xsl, Value.category, xr_d, xr_0, xg_nx, xg_n, xg_o, xg_c, xth_s, xth_v, xth_ite, xth_n, xd_iconst, xd_bipush, xd_sipush, xd_lconst, xd_iload, xd_iload_n, xd_lload, xd_lload_n, xd_aload, xd_aload_n, xd_istore, xd_istore_n, xd_astore, xd_astore_n, xd_lstore, xd_lstore_n, xd_iadd, xd_isub, xd_imul, xd_iand, xd_ior, xd_ishl, xd_ishr, xd_ladd, xd_lsub, xd_lmul, xd_land, xd_lor, xd_idiv, xd_irem, xd_ldiv, xd_lrem, xd_ineg, xd_lneg, xd_lshl, xd_lshr, xd_lcmp, xd_i2l, xd_l2i, xd_dup_int, xd_dup_ref, xd_pop, xd_dup2, xd_goto, xd_ifC, xd_ifI, xd_getf, xd_putI, xd_putR, xd_iald, xd_ialdX, xd_bald, xd_iast, xd_bast, xd_aald, xd_aast, xd_alen, xd_alenX, xd_newI, xd_newZ, xd_newQ, xd_newO, xd_invS, xd_invV, xd_invI, xd_iret, xd_lret, xd_vret, xd_ldc, xd_ldc2, xd_iinc, xd_aret, xd_tsw, xd_lsw, xC_d, xld, xisI, xisL, xisA, xgo_ite, xjp, xcmp, xrt, xinv, xcall, xpop, xcat, xgf, xal, xas, xpf, xle, xaq, xbite, xbite2, xsto, xsto2, xst1, xst2, xkl, xtt, xnum, xi0, xzf, v3, List.getElem?_cons_zero, List.getElem?_cons_succ, List.set_cons_zero, List.set_cons_succ, d53_0, d53_1, d53_2, d53_5, d53_6, d53_7, d53_10, d53_13, d53_14, d53_17, d53_18, d53_19, d53_20, d53_23, d53_24, d53_25, d53_28, d53_29, d53_32, d53_33, wo53, wm53, wr53, f3_21, f3_24, m3_46, m3_53, r53_54, r53_87, wm54, wm87, wo54, hC, h0, h1, h2, h3, h4, h5, h6, h7, h8, h9, h10, h11, h12, h13, xput_at, xput_at0, xput_up, xput_up0, k87', e54, hm, xi]
set_option maxRecDepth 100000 in
set_option maxHeartbeats 4000000 in
theorem k56 (X : xX) (sh : List (Nat × Nat × List Value)) (σ A : Nat → Nat → Int32) (c : Nat) (hc : xcup sh c) (i j : Int32) : xK X 56 [.ref (c + 7), .int i, .int j] (sh, xput 14 σ c A) = some (some (.int (xi (uSoon A i j))), (sh, xput 14 σ c A)) := by
  have hC := hc
  obtain ⟨h0, h1, h2, h3, h4, h5, h6, h7, h8, h9, h10, h11, h12, h13⟩ := hc
  rw [xK_d X 56 _ _ [] 90]
  simp [xent, xsl, Value.category, xr_d, xr_0, xg_nx, xg_n, xg_o, xg_c, xth_s, xth_v, xth_ite, xth_n, xd_iconst, xd_bipush, xd_sipush, xd_lconst, xd_iload, xd_iload_n, xd_lload, xd_lload_n, xd_aload, xd_aload_n, xd_istore, xd_istore_n, xd_astore, xd_astore_n, xd_lstore, xd_lstore_n, xd_iadd, xd_isub, xd_imul, xd_iand, xd_ior, xd_ishl, xd_ishr, xd_ladd, xd_lsub, xd_lmul, xd_land, xd_lor, xd_idiv, xd_irem, xd_ldiv, xd_lrem, xd_ineg, xd_lneg, xd_lshl, xd_lshr, xd_lcmp, xd_i2l, xd_l2i, xd_dup_int, xd_dup_ref, xd_pop, xd_dup2, xd_goto, xd_ifC, xd_ifI, xd_getf, xd_putI, xd_putR, xd_iald, xd_ialdX, xd_bald, xd_iast, xd_bast, xd_aald, xd_aast, xd_alen, xd_alenX, xd_newI, xd_newZ, xd_newQ, xd_newO, xd_invS, xd_invV, xd_invI, xd_iret, xd_lret, xd_vret, xd_ldc, xd_ldc2, xd_iinc, xd_aret, xd_tsw, xd_lsw, xC_d, xld, xisI, xisL, xisA, xgo_ite, xjp, xcmp, xrt, xinv, xcall, xpop, xcat, xgf, xal, xas, xpf, xle, xaq, xbite, xbite2, xsto, xsto2, xst1, xst2, xkl, xtt, xnum, xi0, xzf, v3, List.getElem?_cons_zero, List.getElem?_cons_succ, List.set_cons_zero, List.set_cons_succ, d56_0, d56_1, d56_2, d56_5, d56_6, d56_7, d56_10, d56_11, d56_12, d56_13, d56_14, d56_17, d56_18, d56_19, d56_22, d56_23, d56_25, d56_26, d56_28, d56_31, d56_32, d56_33, d56_36, d56_37, d56_38, d56_41, d56_44, d56_45, d56_48, d56_49, d56_52, d56_53, d56_55, d56_58, d56_59, d56_62, d56_63, wo56, wm56, wr56, m3_53, m3_64, m3_67, r56_54, r56_57, r56_58, wm54, wm57, wm58, wo54, wo57, wo58, hC, h0, h1, h2, h3, h4, h5, h6, h7, h8, h9, h10, h11, h12, h13, xput_at, xput_at0, xput_up, xput_up0, k54, k57, k58]
  simp only [uSoon, ← Int32.not_lt, xi]
  clear hC h0 h1 h2 h3 h4 h5 h6 h7 h8 h9 h10 h11 h12 h13
  repeat' split
  all_goals simp_all
  all_goals (simp only [Int32.lt_iff_toInt_lt, Int32.le_iff_toInt_le] at *; omega)
def uDis (A : Nat → Nat → Int32) (m : Int32) : Nat → Nat → Int32 := if uM m = true then xup A 12 m.toNatClampNeg 0 else A
def uRoom (A : Nat → Nat → Int32) (m : Int32) : Bool := decide (0 ≤ A 7 5) && decide (A 7 5 < 32) && uM m
def uPut (A : Nat → Nat → Int32) (m u l : Int32) : Nat → Nat → Int32 := if uRoom A m = true then xup (xup (xup (xup (xup (xup (xup A 7 6 (A 7 6 + 1)) 8 (A 7 5).toNatClampNeg m) 9 (A 7 5).toNatClampNeg u) 10 (A 7 5).toNatClampNeg l) 11 (A 7 5).toNatClampNeg (A 7 6 + 1)) 12 m.toNatClampNeg (A 7 6 + 1)) 7 5 (A 7 5 + 1) else A
theorem uRoom_in {A : Nat → Nat → Int32} {m : Int32} (h : uRoom A m = true) : xin (A 7 5) 32 = true ∧ uM m = true := by
  have h1 : (32 : Int32).toInt = 32 := by decide
  simp only [uRoom, Bool.and_eq_true, decide_eq_true_eq, Int32.le_iff_toInt_le, Int32.lt_iff_toInt_lt, h1, Int32.toInt_zero] at h
  simp only [xin, Bool.and_eq_true, decide_eq_true_eq]
  exact ⟨by omega, h.2⟩
set_option maxRecDepth 100000 in
set_option maxHeartbeats 4000000 in
theorem k49 (X : xX) (sh : List (Nat × Nat × List Value)) (σ A : Nat → Nat → Int32) (c : Nat) (hc : xcup sh c) (m : Int32) : xK X 49 [.ref (c + 7), .int m] (sh, xput 14 σ c A) = some (none, (sh, xput 14 σ c (uDis A m))) := by
  have hC := hc
  obtain ⟨h0, h1, h2, h3, h4, h5, h6, h7, h8, h9, h10, h11, h12, h13⟩ := hc
  rw [xK_d X 49 _ _ [] 90]
  simp [xent, xsl, Value.category, xr_d, xr_0, xg_nx, xg_n, xg_o, xg_c, xth_s, xth_v, xth_ite, xth_n, xd_iconst, xd_bipush, xd_sipush, xd_lconst, xd_iload, xd_iload_n, xd_lload, xd_lload_n, xd_aload, xd_aload_n, xd_istore, xd_istore_n, xd_astore, xd_astore_n, xd_lstore, xd_lstore_n, xd_iadd, xd_isub, xd_imul, xd_iand, xd_ior, xd_ishl, xd_ishr, xd_ladd, xd_lsub, xd_lmul, xd_land, xd_lor, xd_idiv, xd_irem, xd_ldiv, xd_lrem, xd_ineg, xd_lneg, xd_lshl, xd_lshr, xd_lcmp, xd_i2l, xd_l2i, xd_dup_int, xd_dup_ref, xd_pop, xd_dup2, xd_goto, xd_ifC, xd_ifI, xd_getf, xd_putI, xd_putR, xd_iald, xd_ialdX, xd_bald, xd_iast, xd_bast, xd_aald, xd_aast, xd_alen, xd_alenX, xd_newI, xd_newZ, xd_newQ, xd_newO, xd_invS, xd_invV, xd_invI, xd_iret, xd_lret, xd_vret, xd_ldc, xd_ldc2, xd_iinc, xd_aret, xd_tsw, xd_lsw, xC_d, xld, xisI, xisL, xisA, xgo_ite, xjp, xcmp, xrt, xinv, xcall, xpop, xcat, xgf, xal, xas, xpf, xle, xaq, xbite, xbite2, xsto, xsto2, xst1, xst2, xkl, xtt, xnum, xi0, xzf, v3, List.getElem?_cons_zero, List.getElem?_cons_succ, List.set_cons_zero, List.set_cons_succ, d49_0, d49_1, d49_4, d49_7, d49_8, d49_11, d49_12, d49_13, d49_14, wo49, wm49, wr49, f3_24, m3_46, r49_87, wm87, hC, h0, h1, h2, h3, h4, h5, h6, h7, h8, h9, h10, h11, h12, h13, xput_at, xput_at0, xput_up, xput_up0, k87']
  by_cases hr : uM m = true
  · have hi := uM_in hr
    simp [hr, hi, uDis]
  · simp only [Bool.not_eq_true] at hr
    simp [hr, uDis]
set_option maxRecDepth 100000 in
set_option maxHeartbeats 4000000 in
theorem k50 (X : xX) (sh : List (Nat × Nat × List Value)) (σ A : Nat → Nat → Int32) (c : Nat) (hc : xcup sh c) (m u l : Int32) : xK X 50 [.ref (c + 7), .int m, .int u, .int l] (sh, xput 14 σ c A) = some (none, (sh, xput 14 σ c (uPut A m u l))) := by
  have hC := hc
  obtain ⟨h0, h1, h2, h3, h4, h5, h6, h7, h8, h9, h10, h11, h12, h13⟩ := hc
  rw [xK_d X 50 _ _ [] 90]
  simp [xent, xsl, Value.category, xr_d, xr_0, xg_nx, xg_n, xg_o, xg_c, xth_s, xth_v, xth_ite, xth_n, xd_iconst, xd_bipush, xd_sipush, xd_lconst, xd_iload, xd_iload_n, xd_lload, xd_lload_n, xd_aload, xd_aload_n, xd_istore, xd_istore_n, xd_astore, xd_astore_n, xd_lstore, xd_lstore_n, xd_iadd, xd_isub, xd_imul, xd_iand, xd_ior, xd_ishl, xd_ishr, xd_ladd, xd_lsub, xd_lmul, xd_land, xd_lor, xd_idiv, xd_irem, xd_ldiv, xd_lrem, xd_ineg, xd_lneg, xd_lshl, xd_lshr, xd_lcmp, xd_i2l, xd_l2i, xd_dup_int, xd_dup_ref, xd_pop, xd_dup2, xd_goto, xd_ifC, xd_ifI, xd_getf, xd_putI, xd_putR, xd_iald, xd_ialdX, xd_bald, xd_iast, xd_bast, xd_aald, xd_aast, xd_alen, xd_alenX, xd_newI, xd_newZ, xd_newQ, xd_newO, xd_invS, xd_invV, xd_invI, xd_iret, xd_lret, xd_vret, xd_ldc, xd_ldc2, xd_iinc, xd_aret, xd_tsw, xd_lsw, xC_d, xld, xisI, xisL, xisA, xgo_ite, xjp, xcmp, xrt, xinv, xcall, xpop, xcat, xgf, xal, xas, xpf, xle, xaq, xbite, xbite2, xsto, xsto2, xst1, xst2, xkl, xtt, xnum, xi0, xzf, v3, List.getElem?_cons_zero, List.getElem?_cons_succ, List.set_cons_zero, List.set_cons_succ, d50_0, d50_1, d50_4, d50_7, d50_8, d50_11, d50_13, d50_16, d50_17, d50_20, d50_23, d50_24, d50_25, d50_26, d50_29, d50_30, d50_31, d50_34, d50_35, d50_38, d50_39, d50_42, d50_43, d50_44, d50_45, d50_48, d50_49, d50_52, d50_53, d50_54, d50_55, d50_58, d50_59, d50_62, d50_63, d50_64, d50_65, d50_68, d50_69, d50_72, d50_73, d50_76, d50_77, d50_78, d50_81, d50_82, d50_83, d50_86, d50_87, d50_88, d50_89, d50_92, d50_93, d50_94, d50_97, wo50, wm50, wr50, f3_11, f3_15, f3_18, f3_21, f3_24, f3_27, f3_31, m3_46, r50_87, wm87, b8_32, hC, h0, h1, h2, h3, h4, h5, h6, h7, h8, h9, h10, h11, h12, h13, xput_at, xput_at0, xput_up, xput_up0, k87']
  by_cases hr : uRoom A m = true
  · obtain ⟨hi, hm⟩ := uRoom_in hr
    have hm8 := uM_in hm
    have hr2 := hr
    simp only [uRoom, Bool.and_eq_true, decide_eq_true_eq] at hr2
    have hr3 : ¬ A 7 5 < 0 := Int32.not_lt.mpr hr2.1.1
    have hr4 : ¬ 32 ≤ A 7 5 := Int32.not_le.mpr hr2.1.2
    simp [hr3, hr4, hi, hm, hm8, uPut, hr, xup]
  · have hr2 := hr
    simp only [uRoom, Bool.and_eq_true, decide_eq_true_eq] at hr2
    simp only [uPut, hr]
    simp only [← Int32.not_lt] at hr2 ⊢
    clear hC h0 h1 h2 h3 h4 h5 h6 h7 h8 h9 h10 h11 h12 h13
    repeat' split
    all_goals simp_all
    all_goals (simp only [Int32.lt_iff_toInt_lt, Int32.le_iff_toInt_le] at *; omega)
