theorem ti_bmod {x : Int} (h1 : -2147483648 ≤ x) (h2 : x < 2147483648) : x.bmod 4294967296 = x := Int.bmod_eq_of_le (by omega) (by omega)
theorem ti_add {x y : Int32} (h1 : -2147483648 ≤ x.toInt + y.toInt) (h2 : x.toInt + y.toInt < 2147483648) : (x + y).toInt = x.toInt + y.toInt := by rw [Int32.toInt_add]; exact ti_bmod h1 h2
theorem ti_sub {x y : Int32} (h1 : -2147483648 ≤ x.toInt - y.toInt) (h2 : x.toInt - y.toInt < 2147483648) : (x - y).toInt = x.toInt - y.toInt := by rw [Int32.toInt_sub]; exact ti_bmod h1 h2
theorem ti_mul {x y : Int32} (h1 : -2147483648 ≤ x.toInt * y.toInt) (h2 : x.toInt * y.toInt < 2147483648) : (x * y).toInt = x.toInt * y.toInt := by rw [Int32.toInt_mul]; exact ti_bmod h1 h2
theorem ti_neg {x : Int32} (h1 : x.toInt ≠ -2147483648) : (-x).toInt = -x.toInt := by
  rw [Int32.toInt_neg]
  have a := Int32.toInt_lt x
  have b := Int32.le_toInt x
  exact ti_bmod (by omega) (by omega)
theorem ti_div {x y : Int32} (h1 : x.toInt ≠ -2147483648) : (x / y).toInt = x.toInt.tdiv y.toInt := by
  rw [Int32.toInt_div]
  have a := Int32.toInt_lt x
  have b := Int32.le_toInt x
  have c : (x.toInt.tdiv y.toInt).natAbs ≤ x.toInt.natAbs := by
    rw [Int.natAbs_tdiv]
    exact Nat.div_le_self _ _
  exact ti_bmod (by omega) (by omega)
theorem ti_nI {n : Nat} (h : n < 2147483648) : (nI n).toInt = (n : Int) := nI_toInt (by omega)
theorem ti_eq {x y : Int32} (h : x.toInt = y.toInt) : x = y := Int32.toInt_inj.mp h
theorem ti_lt {x y : Int32} : x < y ↔ x.toInt < y.toInt := Int32.lt_iff_toInt_lt
theorem ti_le {x y : Int32} : x ≤ y ↔ x.toInt ≤ y.toInt := Int32.le_iff_toInt_le
theorem ti_in {x : Int32} {n : Nat} : xin x n = true ↔ 0 ≤ x.toInt ∧ x.toInt < n := by simp [xin]
theorem q_0 : (0 : Int32).toInt = 0 := by decide
theorem q_1 : (1 : Int32).toInt = 1 := by decide
theorem q_2 : (2 : Int32).toInt = 2 := by decide
theorem q_3 : (3 : Int32).toInt = 3 := by decide
theorem q_4 : (4 : Int32).toInt = 4 := by decide
theorem q_5 : (5 : Int32).toInt = 5 := by decide
theorem q_6 : (6 : Int32).toInt = 6 := by decide
theorem q_7 : (7 : Int32).toInt = 7 := by decide
theorem q_8 : (8 : Int32).toInt = 8 := by decide
theorem q_9 : (9 : Int32).toInt = 9 := by decide
theorem q_10 : (10 : Int32).toInt = 10 := by decide
theorem q_30 : (30 : Int32).toInt = 30 := by decide
theorem q_32 : (32 : Int32).toInt = 32 := by decide
theorem q_33 : (33 : Int32).toInt = 33 := by decide
theorem q_35 : (35 : Int32).toInt = 35 := by decide
theorem q_37 : (37 : Int32).toInt = 37 := by decide
theorem q_41 : (41 : Int32).toInt = 41 := by decide
theorem q_43 : (43 : Int32).toInt = 43 := by decide
theorem q_45 : (45 : Int32).toInt = 45 := by decide
theorem q_46 : (46 : Int32).toInt = 46 := by decide
theorem q_50 : (50 : Int32).toInt = 50 := by decide
theorem q_59 : (59 : Int32).toInt = 59 := by decide
theorem q_60 : (60 : Int32).toInt = 60 := by decide
theorem q_64 : (64 : Int32).toInt = 64 := by decide
theorem q_74 : (74 : Int32).toInt = 74 := by decide
theorem q_75 : (75 : Int32).toInt = 75 := by decide
theorem q_97 : (97 : Int32).toInt = 97 := by decide
theorem q_99 : (99 : Int32).toInt = 99 := by decide
theorem q_100 : (100 : Int32).toInt = 100 := by decide
theorem q_126 : (126 : Int32).toInt = 126 := by decide
theorem q_199 : (199 : Int32).toInt = 199 := by decide
theorem q_331 : (331 : Int32).toInt = 331 := by decide
theorem q_500 : (500 : Int32).toInt = 500 := by decide
theorem q_589 : (589 : Int32).toInt = 589 := by decide
theorem q_1000 : (1000 : Int32).toInt = 1000 := by decide
theorem q_9999 : (9999 : Int32).toInt = 9999 := by decide
theorem q_3100 : (3100 : Int32).toInt = 3100 := by decide
theorem q_65537 : (65537 : Int32).toInt = 65537 := by decide
theorem q_1000000 : (1000000 : Int32).toInt = 1000000 := by decide
theorem q_m1 : (-1 : Int32).toInt = -1 := by decide
theorem q_m2 : (-2 : Int32).toInt = -2 := by decide
theorem q_m3 : (-3 : Int32).toInt = -3 := by decide
theorem q_m4 : (-4 : Int32).toInt = -4 := by decide
theorem q_m5 : (-5 : Int32).toInt = -5 := by decide
theorem q_m6 : (-6 : Int32).toInt = -6 := by decide
theorem q_m9 : (-9 : Int32).toInt = -9 := by decide
theorem q_m50 : (-50 : Int32).toInt = -50 := by decide
theorem q_m99 : (-99 : Int32).toInt = -99 := by decide
theorem q_m1000 : (-1000 : Int32).toInt = -1000 := by decide
def xsrc (sh : List (Nat × Nat × List Value)) : Prop := sh[36]? = some (8, 5, [.ref 37, .ref 38, .int 0, .int 0, .int 0]) ∧ sh[37]? = some (0, 589, []) ∧ sh[38]? = some (0, 199, []) ∧ xsig sh 17
theorem p36 {σ G : Nat → Nat → Int32} {b : Nat} : xput 3 σ 36 G 36 b = G 0 b := xput_at (k := 0) (by omega)
theorem p37 {σ G : Nat → Nat → Int32} {b : Nat} : xput 3 σ 36 G 37 b = G 1 b := xput_at (k := 1) (by omega)
theorem p38 {σ G : Nat → Nat → Int32} {b : Nat} : xput 3 σ 36 G 38 b = G 2 b := xput_at (k := 2) (by omega)
theorem r36 {σ G : Nat → Nat → Int32} {j : Nat} {v : Int32} : xup (xput 3 σ 36 G) 36 j v = xput 3 σ 36 (xup G 0 j v) := xput_up (k := 0) (by omega)
theorem r37 {σ G : Nat → Nat → Int32} {j : Nat} {v : Int32} : xup (xput 3 σ 36 G) 37 j v = xput 3 σ 36 (xup G 1 j v) := xput_up (k := 1) (by omega)
theorem r38 {σ G : Nat → Nat → Int32} {j : Nat} {v : Int32} : xup (xput 3 σ 36 G) 38 j v = xput 3 σ 36 (xup G 2 j v) := xput_up (k := 2) (by omega)
theorem vAl_c {T U : Nat → Nat → Int32} (h : ∀ k, k < 4 → T k = U k) (a b : Int32) : ∀ d i, vAl T a b d i = vAl U a b d i
  | 0, _ => rfl
  | d + 1, i => by rw [vAl, vAl, h 0 (by omega), h 1 (by omega), h 2 (by omega), h 3 (by omega), vAl_c h a b d (i + 1)]
theorem k81' (X : xX) (sh : List (Nat × Nat × List Value)) (σ : Nat → Nat → Int32) (c : Nat) (hc : xsig sh c) (a b : Int32) : xK X 81 [.ref c, .int a, .int b] (sh, σ) = some (some (.int (xi (vAl (xget σ c) a b 8 0))), (sh, σ)) := by
  have h := k81 X sh σ (xget σ c) c hc a b
  rw [xput_get] at h
  exact h
set_option maxRecDepth 100000 in
set_option maxHeartbeats 4000000 in
theorem k71 (X : xX) (sh : List (Nat × Nat × List Value)) (σ G : Nat → Nat → Int32) (hc : xsrc sh)  : xK X 71 [.ref 36] (sh, xput 3 σ 36 G) = some (some (.int (G 0 2)), (sh, xput 3 σ 36 G)) := by
  have hC := hc
  obtain ⟨h0, h1, h2, h17⟩ := hc
  rw [xK_d X 71 _ _ [] 90]
  simp [xent, xsl, Value.category, xr_d, xr_0, xg_nx, xg_n, xg_o, xg_c, xth_s, xth_v, xth_ite, xth_n, xd_iconst, xd_bipush, xd_sipush, xd_lconst, xd_iload, xd_iload_n, xd_lload, xd_lload_n, xd_aload, xd_aload_n, xd_istore, xd_istore_n, xd_astore, xd_astore_n, xd_lstore, xd_lstore_n, xd_iadd, xd_isub, xd_imul, xd_iand, xd_ior, xd_ishl, xd_ishr, xd_ladd, xd_lsub, xd_lmul, xd_land, xd_lor, xd_idiv, xd_irem, xd_ldiv, xd_lrem, xd_ineg, xd_lneg, xd_lshl, xd_lshr, xd_lcmp, xd_i2l, xd_l2i, xd_dup_int, xd_dup_ref, xd_pop, xd_dup2, xd_goto, xd_ifC, xd_ifI, xd_getf, xd_putI, xd_putR, xd_iald, xd_ialdX, xd_bald, xd_iast, xd_bast, xd_aald, xd_aast, xd_alen, xd_alenX, xd_newI, xd_newZ, xd_newQ, xd_newO, xd_invS, xd_invV, xd_invI, xd_iret, xd_lret, xd_vret, xd_ldc, xd_ldc2, xd_iinc, xd_aret, xd_tsw, xd_lsw, xC_d, xld, xisI, xisL, xisA, xgo_ite, xjp, xcmp, xrt, xinv, xcall, xpop, xcat, xgf, xal, xas, xpf, xle, xaq, xbite, xbite2, xsto, xsto2, xst1, xst2, xkl, xtt, xnum, xi0, xzf, v3, List.getElem?_cons_zero, List.getElem?_cons_succ, List.set_cons_zero, List.set_cons_succ, d71_0, d71_1, d71_4, wo71, wm71, wr71, f5_20, hC, h0, h1, h2, p36, p37, p38, r36, r37, r38]

set_option maxRecDepth 100000 in
set_option maxHeartbeats 4000000 in
theorem k75 (X : xX) (sh : List (Nat × Nat × List Value)) (σ G : Nat → Nat → Int32) (hc : xsrc sh)  : xK X 75 [.ref 36] (sh, xput 3 σ 36 G) = some (some (.int (G 0 3)), (sh, xput 3 σ 36 G)) := by
  have hC := hc
  obtain ⟨h0, h1, h2, h17⟩ := hc
  rw [xK_d X 75 _ _ [] 90]
  simp [xent, xsl, Value.category, xr_d, xr_0, xg_nx, xg_n, xg_o, xg_c, xth_s, xth_v, xth_ite, xth_n, xd_iconst, xd_bipush, xd_sipush, xd_lconst, xd_iload, xd_iload_n, xd_lload, xd_lload_n, xd_aload, xd_aload_n, xd_istore, xd_istore_n, xd_astore, xd_astore_n, xd_lstore, xd_lstore_n, xd_iadd, xd_isub, xd_imul, xd_iand, xd_ior, xd_ishl, xd_ishr, xd_ladd, xd_lsub, xd_lmul, xd_land, xd_lor, xd_idiv, xd_irem, xd_ldiv, xd_lrem, xd_ineg, xd_lneg, xd_lshl, xd_lshr, xd_lcmp, xd_i2l, xd_l2i, xd_dup_int, xd_dup_ref, xd_pop, xd_dup2, xd_goto, xd_ifC, xd_ifI, xd_getf, xd_putI, xd_putR, xd_iald, xd_ialdX, xd_bald, xd_iast, xd_bast, xd_aald, xd_aast, xd_alen, xd_alenX, xd_newI, xd_newZ, xd_newQ, xd_newO, xd_invS, xd_invV, xd_invI, xd_iret, xd_lret, xd_vret, xd_ldc, xd_ldc2, xd_iinc, xd_aret, xd_tsw, xd_lsw, xC_d, xld, xisI, xisL, xisA, xgo_ite, xjp, xcmp, xrt, xinv, xcall, xpop, xcat, xgf, xal, xas, xpf, xle, xaq, xbite, xbite2, xsto, xsto2, xst1, xst2, xkl, xtt, xnum, xi0, xzf, v3, List.getElem?_cons_zero, List.getElem?_cons_succ, List.set_cons_zero, List.set_cons_succ, d75_0, d75_1, d75_4, wo75, wm75, wr75, f5_24, hC, h0, h1, h2, p36, p37, p38, r36, r37, r38]

set_option maxRecDepth 100000 in
set_option maxHeartbeats 4000000 in
theorem k76 (X : xX) (sh : List (Nat × Nat × List Value)) (σ G : Nat → Nat → Int32) (hc : xsrc sh)  : xK X 76 [.ref 36] (sh, xput 3 σ 36 G) = some (some (.int (G 0 4)), (sh, xput 3 σ 36 G)) := by
  have hC := hc
  obtain ⟨h0, h1, h2, h17⟩ := hc
  rw [xK_d X 76 _ _ [] 90]
  simp [xent, xsl, Value.category, xr_d, xr_0, xg_nx, xg_n, xg_o, xg_c, xth_s, xth_v, xth_ite, xth_n, xd_iconst, xd_bipush, xd_sipush, xd_lconst, xd_iload, xd_iload_n, xd_lload, xd_lload_n, xd_aload, xd_aload_n, xd_istore, xd_istore_n, xd_astore, xd_astore_n, xd_lstore, xd_lstore_n, xd_iadd, xd_isub, xd_imul, xd_iand, xd_ior, xd_ishl, xd_ishr, xd_ladd, xd_lsub, xd_lmul, xd_land, xd_lor, xd_idiv, xd_irem, xd_ldiv, xd_lrem, xd_ineg, xd_lneg, xd_lshl, xd_lshr, xd_lcmp, xd_i2l, xd_l2i, xd_dup_int, xd_dup_ref, xd_pop, xd_dup2, xd_goto, xd_ifC, xd_ifI, xd_getf, xd_putI, xd_putR, xd_iald, xd_ialdX, xd_bald, xd_iast, xd_bast, xd_aald, xd_aast, xd_alen, xd_alenX, xd_newI, xd_newZ, xd_newQ, xd_newO, xd_invS, xd_invV, xd_invI, xd_iret, xd_lret, xd_vret, xd_ldc, xd_ldc2, xd_iinc, xd_aret, xd_tsw, xd_lsw, xC_d, xld, xisI, xisL, xisA, xgo_ite, xjp, xcmp, xrt, xinv, xcall, xpop, xcat, xgf, xal, xas, xpf, xle, xaq, xbite, xbite2, xsto, xsto2, xst1, xst2, xkl, xtt, xnum, xi0, xzf, v3, List.getElem?_cons_zero, List.getElem?_cons_succ, List.set_cons_zero, List.set_cons_succ, d76_0, d76_1, d76_4, wo76, wm76, wr76, f5_27, hC, h0, h1, h2, p36, p37, p38, r36, r37, r38]

def vCode (G : Nat → Nat → Int32) (i : Int32) : Int32 := if 0 ≤ i ∧ i < G 0 2 ∧ i < 589 then G 1 i.toNatClampNeg else -6
set_option maxRecDepth 100000 in
set_option maxHeartbeats 4000000 in
theorem k72 (X : xX) (sh : List (Nat × Nat × List Value)) (σ G : Nat → Nat → Int32) (hc : xsrc sh) (i : Int32) : xK X 72 [.ref 36, .int i] (sh, xput 3 σ 36 G) = some (some (.int (vCode G i)), (sh, xput 3 σ 36 G)) := by
  have hC := hc
  obtain ⟨h0, h1, h2, h17⟩ := hc
  by_cases q0 : 0 ≤ i
  · have q0' : ¬ i < 0 := Int32.not_lt.mpr q0
    by_cases q1 : i < G 0 2
    · have q1' : ¬ G 0 2 ≤ i := Int32.not_le.mpr q1
      by_cases q2 : i < 589
      · have q2' : ¬ 589 ≤ i := Int32.not_le.mpr q2
        have q3 : xin i 589 = true := by
          rw [ti_lt, q_589] at q2
          rw [ti_le, q_0] at q0
          exact ti_in.mpr ⟨q0, q2⟩
        rw [xK_d X 72 _ _ [] 90]; simp [xent, xsl, Value.category, xr_d, xr_0, xg_nx, xg_n, xg_o, xg_c, xth_s, xth_v, xth_ite, xth_n, xd_iconst, xd_bipush, xd_sipush, xd_lconst, xd_iload, xd_iload_n, xd_lload, xd_lload_n, xd_aload, xd_aload_n, xd_istore, xd_istore_n, xd_astore, xd_astore_n, xd_lstore, xd_lstore_n, xd_iadd, xd_isub, xd_imul, xd_iand, xd_ior, xd_ishl, xd_ishr, xd_ladd, xd_lsub, xd_lmul, xd_land, xd_lor, xd_idiv, xd_irem, xd_ldiv, xd_lrem, xd_ineg, xd_lneg, xd_lshl, xd_lshr, xd_lcmp, xd_i2l, xd_l2i, xd_dup_int, xd_dup_ref, xd_pop, xd_dup2, xd_goto, xd_ifC, xd_ifI, xd_getf, xd_putI, xd_putR, xd_iald, xd_ialdX, xd_bald, xd_iast, xd_bast, xd_aald, xd_aast, xd_alen, xd_alenX, xd_newI, xd_newZ, xd_newQ, xd_newO, xd_invS, xd_invV, xd_invI, xd_iret, xd_lret, xd_vret, xd_ldc, xd_ldc2, xd_iinc, xd_aret, xd_tsw, xd_lsw, xC_d, xld, xisI, xisL, xisA, xgo_ite, xjp, xcmp, xrt, xinv, xcall, xpop, xcat, xgf, xal, xas, xpf, xle, xaq, xbite, xbite2, xsto, xsto2, xst1, xst2, xkl, xtt, xnum, xi0, xzf, v3, List.getElem?_cons_zero, List.getElem?_cons_succ, List.set_cons_zero, List.set_cons_succ, d72_0, d72_1, d72_4, d72_5, d72_6, d72_9, d72_12, d72_13, d72_16, d72_19, d72_20, d72_23, d72_24, d72_25, d72_28, d72_30, wo72, wm72, wr72, f5_11, f5_20, b16_589, b8_m6, hC, h0, h1, h2, p36, p37, p38, r36, r37, r38, q0, q0', q1, q1', q2, q2', q3, vCode]
      · have q2' : 589 ≤ i := Int32.not_lt.mp q2
        rw [xK_d X 72 _ _ [] 90]; simp [xent, xsl, Value.category, xr_d, xr_0, xg_nx, xg_n, xg_o, xg_c, xth_s, xth_v, xth_ite, xth_n, xd_iconst, xd_bipush, xd_sipush, xd_lconst, xd_iload, xd_iload_n, xd_lload, xd_lload_n, xd_aload, xd_aload_n, xd_istore, xd_istore_n, xd_astore, xd_astore_n, xd_lstore, xd_lstore_n, xd_iadd, xd_isub, xd_imul, xd_iand, xd_ior, xd_ishl, xd_ishr, xd_ladd, xd_lsub, xd_lmul, xd_land, xd_lor, xd_idiv, xd_irem, xd_ldiv, xd_lrem, xd_ineg, xd_lneg, xd_lshl, xd_lshr, xd_lcmp, xd_i2l, xd_l2i, xd_dup_int, xd_dup_ref, xd_pop, xd_dup2, xd_goto, xd_ifC, xd_ifI, xd_getf, xd_putI, xd_putR, xd_iald, xd_ialdX, xd_bald, xd_iast, xd_bast, xd_aald, xd_aast, xd_alen, xd_alenX, xd_newI, xd_newZ, xd_newQ, xd_newO, xd_invS, xd_invV, xd_invI, xd_iret, xd_lret, xd_vret, xd_ldc, xd_ldc2, xd_iinc, xd_aret, xd_tsw, xd_lsw, xC_d, xld, xisI, xisL, xisA, xgo_ite, xjp, xcmp, xrt, xinv, xcall, xpop, xcat, xgf, xal, xas, xpf, xle, xaq, xbite, xbite2, xsto, xsto2, xst1, xst2, xkl, xtt, xnum, xi0, xzf, v3, List.getElem?_cons_zero, List.getElem?_cons_succ, List.set_cons_zero, List.set_cons_succ, d72_0, d72_1, d72_4, d72_5, d72_6, d72_9, d72_12, d72_13, d72_16, d72_19, d72_20, d72_23, d72_24, d72_25, d72_28, d72_30, wo72, wm72, wr72, f5_11, f5_20, b16_589, b8_m6, hC, h0, h1, h2, p36, p37, p38, r36, r37, r38, q0, q0', q1, q1', q2, q2', vCode]
    · have q1' : G 0 2 ≤ i := Int32.not_lt.mp q1
      rw [xK_d X 72 _ _ [] 90]; simp [xent, xsl, Value.category, xr_d, xr_0, xg_nx, xg_n, xg_o, xg_c, xth_s, xth_v, xth_ite, xth_n, xd_iconst, xd_bipush, xd_sipush, xd_lconst, xd_iload, xd_iload_n, xd_lload, xd_lload_n, xd_aload, xd_aload_n, xd_istore, xd_istore_n, xd_astore, xd_astore_n, xd_lstore, xd_lstore_n, xd_iadd, xd_isub, xd_imul, xd_iand, xd_ior, xd_ishl, xd_ishr, xd_ladd, xd_lsub, xd_lmul, xd_land, xd_lor, xd_idiv, xd_irem, xd_ldiv, xd_lrem, xd_ineg, xd_lneg, xd_lshl, xd_lshr, xd_lcmp, xd_i2l, xd_l2i, xd_dup_int, xd_dup_ref, xd_pop, xd_dup2, xd_goto, xd_ifC, xd_ifI, xd_getf, xd_putI, xd_putR, xd_iald, xd_ialdX, xd_bald, xd_iast, xd_bast, xd_aald, xd_aast, xd_alen, xd_alenX, xd_newI, xd_newZ, xd_newQ, xd_newO, xd_invS, xd_invV, xd_invI, xd_iret, xd_lret, xd_vret, xd_ldc, xd_ldc2, xd_iinc, xd_aret, xd_tsw, xd_lsw, xC_d, xld, xisI, xisL, xisA, xgo_ite, xjp, xcmp, xrt, xinv, xcall, xpop, xcat, xgf, xal, xas, xpf, xle, xaq, xbite, xbite2, xsto, xsto2, xst1, xst2, xkl, xtt, xnum, xi0, xzf, v3, List.getElem?_cons_zero, List.getElem?_cons_succ, List.set_cons_zero, List.set_cons_succ, d72_0, d72_1, d72_4, d72_5, d72_6, d72_9, d72_12, d72_13, d72_16, d72_19, d72_20, d72_23, d72_24, d72_25, d72_28, d72_30, wo72, wm72, wr72, f5_11, f5_20, b16_589, b8_m6, hC, h0, h1, h2, p36, p37, p38, r36, r37, r38, q0, q0', q1, q1', vCode]
  · have q0' : i < 0 := Int32.not_le.mp q0
    rw [xK_d X 72 _ _ [] 90]; simp [xent, xsl, Value.category, xr_d, xr_0, xg_nx, xg_n, xg_o, xg_c, xth_s, xth_v, xth_ite, xth_n, xd_iconst, xd_bipush, xd_sipush, xd_lconst, xd_iload, xd_iload_n, xd_lload, xd_lload_n, xd_aload, xd_aload_n, xd_istore, xd_istore_n, xd_astore, xd_astore_n, xd_lstore, xd_lstore_n, xd_iadd, xd_isub, xd_imul, xd_iand, xd_ior, xd_ishl, xd_ishr, xd_ladd, xd_lsub, xd_lmul, xd_land, xd_lor, xd_idiv, xd_irem, xd_ldiv, xd_lrem, xd_ineg, xd_lneg, xd_lshl, xd_lshr, xd_lcmp, xd_i2l, xd_l2i, xd_dup_int, xd_dup_ref, xd_pop, xd_dup2, xd_goto, xd_ifC, xd_ifI, xd_getf, xd_putI, xd_putR, xd_iald, xd_ialdX, xd_bald, xd_iast, xd_bast, xd_aald, xd_aast, xd_alen, xd_alenX, xd_newI, xd_newZ, xd_newQ, xd_newO, xd_invS, xd_invV, xd_invI, xd_iret, xd_lret, xd_vret, xd_ldc, xd_ldc2, xd_iinc, xd_aret, xd_tsw, xd_lsw, xC_d, xld, xisI, xisL, xisA, xgo_ite, xjp, xcmp, xrt, xinv, xcall, xpop, xcat, xgf, xal, xas, xpf, xle, xaq, xbite, xbite2, xsto, xsto2, xst1, xst2, xkl, xtt, xnum, xi0, xzf, v3, List.getElem?_cons_zero, List.getElem?_cons_succ, List.set_cons_zero, List.set_cons_succ, d72_0, d72_1, d72_4, d72_5, d72_6, d72_9, d72_12, d72_13, d72_16, d72_19, d72_20, d72_23, d72_24, d72_25, d72_28, d72_30, wo72, wm72, wr72, f5_11, f5_20, b16_589, b8_m6, hC, h0, h1, h2, p36, p37, p38, r36, r37, r38, q0, q0', vCode]
def vGs (T : Nat → Nat → Int32) (a j : Nat) (G : Nat → Nat → Int32) : Nat → Nat → Int32 := if vAl T (nI a) (nI j - 9) 8 0 = true ∧ G 0 2 < 589 then xup (xup G 1 (G 0 2).toNatClampNeg (100 * nI a + (nI j - 9) + 50)) 0 2 (G 0 2 + 1) else G
def vG1 (T : Nat → Nat → Int32) (a : Nat) : Nat → Nat → (Nat → Nat → Int32) → Nat → Nat → Int32
  | 0, _, G => G
  | d + 1, j, G => vG1 T a d (j + 1) (vGs T a j G)
def vG2 (T : Nat → Nat → Int32) : Nat → Nat → (Nat → Nat → Int32) → Nat → Nat → Int32
  | 0, _, G => G
  | d + 1, a, G => vG2 T d (a + 1) (vG1 T a 19 0 G)
def vGa (T G : Nat → Nat → Int32) : Nat → Nat → Int32 := vG2 T 31 0 (xup G 0 2 0)
theorem vGs_in {T G : Nat → Nat → Int32} {a j : Nat} (h : xin (G 0 2) 590 = true) : xin (vGs T a j G 0 2) 590 = true := by
  unfold vGs
  by_cases q : vAl T (nI a) (nI j - 9) 8 0 = true ∧ G 0 2 < 589
  · rw [if_pos q, xup_same]
    rw [ti_in] at h ⊢
    have q2 := q.2
    rw [ti_lt, q_589] at q2
    rw [ti_add (by rw [q_1]; omega) (by rw [q_1]; omega), q_1]
    omega
  · rw [if_neg q]; exact h
theorem vG1_in {T : Nat → Nat → Int32} {a : Nat} : ∀ d j G, xin (G 0 2) 590 = true → xin (vG1 T a d j G 0 2) 590 = true
  | 0, _, _, h => h
  | d + 1, j, _, h => vG1_in d (j + 1) _ (vGs_in h)
theorem vG2_in {T : Nat → Nat → Int32} : ∀ d a G, xin (G 0 2) 590 = true → xin (vG2 T d a G 0 2) 590 = true
  | 0, _, _, h => h
  | d + 1, a, _, h => vG2_in d (a + 1) _ (vG1_in 19 0 _ h)
theorem nm9 {j : Nat} (h : j ≤ 19) : (nI j - 9).toInt = (j : Int) - 9 := by
  have e := ti_nI (n := j) (by omega)
  rw [ti_sub (by rw [e, q_9]; omega) (by rw [e, q_9]; omega), e, q_9]
theorem nm9s (j : Nat) : nI j - 9 + 1 = nI (j + 1) - 9 := by
  have e : nI (j + 1) = nI j + 1 := (nI_1 j).symm
  rw [e, Int32.sub_eq_add_neg, Int32.sub_eq_add_neg, Int32.add_assoc, Int32.add_assoc, Int32.add_comm (-9) 1]
theorem nm90 : nI 0 - 9 = -9 := by decide
theorem xget_36 {σ G : Nat → Nat → Int32} : ∀ k, k < 4 → xget (xput 3 σ 36 G) 17 k = xget σ 17 k := fun k hk => funext fun b => xput_out (by omega)
set_option maxRecDepth 100000 in
set_option maxHeartbeats 4000000 in
theorem i70 (X : xX) (sh : List (Nat × Nat × List Value)) (σ G : Nat → Nat → Int32) (hc : xsrc sh) (hG : xin (G 0 2) 590 = true) (a j : Nat) (hj : j < 19) : xV X 70 (16, [.ref 36, .ref 17, .int (nI a), .int (nI j - 9)], [], (sh, xput 3 σ 36 G)) = xV X 70 (16, [.ref 36, .ref 17, .int (nI a), .int (nI (j + 1) - 9)], [], (sh, xput 3 σ 36 (vGs (xget σ 17) a j G))) := by
  have hC := hc
  obtain ⟨h0, h1, h2, h17⟩ := hc
  have g1 : ¬ 9 < nI j - 9 := by rw [ti_lt, nm9 (by omega), q_9]; omega
  have e81 := k81' X sh (xput 3 σ 36 G) 17 h17 (nI a) (nI j - 9)
  rw [vAl_c xget_36] at e81
  rw [xV_d X 70 [16] 40, vGs]
  by_cases q : vAl (xget σ 17) (nI a) (nI j - 9) 8 0 = true
  · by_cases q1 : G 0 2 < 589
    · have q1' : ¬ 589 ≤ G 0 2 := Int32.not_le.mpr q1
      have q3 : xin (G 0 2) 589 = true := by
        rw [ti_lt, q_589] at q1
        rw [ti_in] at hG
        exact ti_in.mpr ⟨hG.1, q1⟩
      have h17' := h17.1
      simp [xent, xsl, Value.category, xr_d, xr_0, xg_nx, xg_n, xg_o, xg_c, xth_s, xth_v, xth_ite, xth_n, xd_iconst, xd_bipush, xd_sipush, xd_lconst, xd_iload, xd_iload_n, xd_lload, xd_lload_n, xd_aload, xd_aload_n, xd_istore, xd_istore_n, xd_astore, xd_astore_n, xd_lstore, xd_lstore_n, xd_iadd, xd_isub, xd_imul, xd_iand, xd_ior, xd_ishl, xd_ishr, xd_ladd, xd_lsub, xd_lmul, xd_land, xd_lor, xd_idiv, xd_irem, xd_ldiv, xd_lrem, xd_ineg, xd_lneg, xd_lshl, xd_lshr, xd_lcmp, xd_i2l, xd_l2i, xd_dup_int, xd_dup_ref, xd_pop, xd_dup2, xd_goto, xd_ifC, xd_ifI, xd_getf, xd_putI, xd_putR, xd_iald, xd_ialdX, xd_bald, xd_iast, xd_bast, xd_aald, xd_aast, xd_alen, xd_alenX, xd_newI, xd_newZ, xd_newQ, xd_newO, xd_invS, xd_invV, xd_invI, xd_iret, xd_lret, xd_vret, xd_ldc, xd_ldc2, xd_iinc, xd_aret, xd_tsw, xd_lsw, xC_d, xld, xisI, xisL, xisA, xgo_ite, xjp, xcmp, xrt, xinv, xcall, xpop, xcat, xgf, xal, xas, xpf, xle, xaq, xbite, xbite2, xsto, xsto2, xst1, xst2, xkl, xtt, xnum, xi0, xzf, v3, List.getElem?_cons_zero, List.getElem?_cons_succ, List.set_cons_zero, List.set_cons_succ, d70_0, d70_1, d70_2, d70_5, d70_6, d70_7, d70_8, d70_10, d70_13, d70_15, d70_16, d70_17, d70_19, d70_22, d70_23, d70_24, d70_25, d70_28, d70_31, d70_32, d70_35, d70_38, d70_41, d70_42, d70_45, d70_46, d70_49, d70_51, d70_52, d70_53, d70_54, d70_55, d70_57, d70_58, d70_59, d70_60, d70_61, d70_64, d70_65, d70_66, d70_69, d70_72, d70_75, d70_78, d70_81, wo70, wm70, wr70, f5_11, f5_20, m5_30, r70_81, wm81, wo81, b16_589, b8_100, b8_30, b8_50, b8_9, b8_m9, hC, h0, h1, h2, p36, p37, p38, r36, r37, r38, g1, e81, q, q1, q1', q3, h17', xi, nm9s, xup]
    · have q1' : 589 ≤ G 0 2 := Int32.not_lt.mp q1
      have h17' := h17.1
      simp [xent, xsl, Value.category, xr_d, xr_0, xg_nx, xg_n, xg_o, xg_c, xth_s, xth_v, xth_ite, xth_n, xd_iconst, xd_bipush, xd_sipush, xd_lconst, xd_iload, xd_iload_n, xd_lload, xd_lload_n, xd_aload, xd_aload_n, xd_istore, xd_istore_n, xd_astore, xd_astore_n, xd_lstore, xd_lstore_n, xd_iadd, xd_isub, xd_imul, xd_iand, xd_ior, xd_ishl, xd_ishr, xd_ladd, xd_lsub, xd_lmul, xd_land, xd_lor, xd_idiv, xd_irem, xd_ldiv, xd_lrem, xd_ineg, xd_lneg, xd_lshl, xd_lshr, xd_lcmp, xd_i2l, xd_l2i, xd_dup_int, xd_dup_ref, xd_pop, xd_dup2, xd_goto, xd_ifC, xd_ifI, xd_getf, xd_putI, xd_putR, xd_iald, xd_ialdX, xd_bald, xd_iast, xd_bast, xd_aald, xd_aast, xd_alen, xd_alenX, xd_newI, xd_newZ, xd_newQ, xd_newO, xd_invS, xd_invV, xd_invI, xd_iret, xd_lret, xd_vret, xd_ldc, xd_ldc2, xd_iinc, xd_aret, xd_tsw, xd_lsw, xC_d, xld, xisI, xisL, xisA, xgo_ite, xjp, xcmp, xrt, xinv, xcall, xpop, xcat, xgf, xal, xas, xpf, xle, xaq, xbite, xbite2, xsto, xsto2, xst1, xst2, xkl, xtt, xnum, xi0, xzf, v3, List.getElem?_cons_zero, List.getElem?_cons_succ, List.set_cons_zero, List.set_cons_succ, d70_0, d70_1, d70_2, d70_5, d70_6, d70_7, d70_8, d70_10, d70_13, d70_15, d70_16, d70_17, d70_19, d70_22, d70_23, d70_24, d70_25, d70_28, d70_31, d70_32, d70_35, d70_38, d70_41, d70_42, d70_45, d70_46, d70_49, d70_51, d70_52, d70_53, d70_54, d70_55, d70_57, d70_58, d70_59, d70_60, d70_61, d70_64, d70_65, d70_66, d70_69, d70_72, d70_75, d70_78, d70_81, wo70, wm70, wr70, f5_11, f5_20, m5_30, r70_81, wm81, wo81, b16_589, b8_100, b8_30, b8_50, b8_9, b8_m9, hC, h0, h1, h2, p36, p37, p38, r36, r37, r38, g1, e81, q, q1, q1', h17', xi, nm9s]
  · have h17' := h17.1
    simp only [Bool.not_eq_true] at q
    simp [xent, xsl, Value.category, xr_d, xr_0, xg_nx, xg_n, xg_o, xg_c, xth_s, xth_v, xth_ite, xth_n, xd_iconst, xd_bipush, xd_sipush, xd_lconst, xd_iload, xd_iload_n, xd_lload, xd_lload_n, xd_aload, xd_aload_n, xd_istore, xd_istore_n, xd_astore, xd_astore_n, xd_lstore, xd_lstore_n, xd_iadd, xd_isub, xd_imul, xd_iand, xd_ior, xd_ishl, xd_ishr, xd_ladd, xd_lsub, xd_lmul, xd_land, xd_lor, xd_idiv, xd_irem, xd_ldiv, xd_lrem, xd_ineg, xd_lneg, xd_lshl, xd_lshr, xd_lcmp, xd_i2l, xd_l2i, xd_dup_int, xd_dup_ref, xd_pop, xd_dup2, xd_goto, xd_ifC, xd_ifI, xd_getf, xd_putI, xd_putR, xd_iald, xd_ialdX, xd_bald, xd_iast, xd_bast, xd_aald, xd_aast, xd_alen, xd_alenX, xd_newI, xd_newZ, xd_newQ, xd_newO, xd_invS, xd_invV, xd_invI, xd_iret, xd_lret, xd_vret, xd_ldc, xd_ldc2, xd_iinc, xd_aret, xd_tsw, xd_lsw, xC_d, xld, xisI, xisL, xisA, xgo_ite, xjp, xcmp, xrt, xinv, xcall, xpop, xcat, xgf, xal, xas, xpf, xle, xaq, xbite, xbite2, xsto, xsto2, xst1, xst2, xkl, xtt, xnum, xi0, xzf, v3, List.getElem?_cons_zero, List.getElem?_cons_succ, List.set_cons_zero, List.set_cons_succ, d70_0, d70_1, d70_2, d70_5, d70_6, d70_7, d70_8, d70_10, d70_13, d70_15, d70_16, d70_17, d70_19, d70_22, d70_23, d70_24, d70_25, d70_28, d70_31, d70_32, d70_35, d70_38, d70_41, d70_42, d70_45, d70_46, d70_49, d70_51, d70_52, d70_53, d70_54, d70_55, d70_57, d70_58, d70_59, d70_60, d70_61, d70_64, d70_65, d70_66, d70_69, d70_72, d70_75, d70_78, d70_81, wo70, wm70, wr70, f5_11, f5_20, m5_30, r70_81, wm81, wo81, b16_589, b8_100, b8_30, b8_50, b8_9, b8_m9, hC, h0, h1, h2, p36, p37, p38, r36, r37, r38, g1, e81, q, h17', xi, nm9s]
theorem l70 (X : xX) (sh : List (Nat × Nat × List Value)) (σ : Nat → Nat → Int32) (hc : xsrc sh) (a : Nat) : ∀ d j G, xin (G 0 2) 590 = true → j + d = 19 → xV X 70 (16, [.ref 36, .ref 17, .int (nI a), .int (nI j - 9)], [], (sh, xput 3 σ 36 G)) = xV X 70 (16, [.ref 36, .ref 17, .int (nI a), .int (nI 19 - 9)], [], (sh, xput 3 σ 36 (vG1 (xget σ 17) a d j G)))
  | 0, j, G, hG, h => by
    have e : j = 19 := by omega
    subst e
    rfl
  | d + 1, j, G, hG, h => by
    rw [i70 X sh σ G hc hG a j (by omega), l70 X sh σ hc a d (j + 1) _ (vGs_in hG) (by omega), vG1]
set_option maxRecDepth 100000 in
set_option maxHeartbeats 4000000 in
theorem y70 (X : xX) (sh : List (Nat × Nat × List Value)) (σ G : Nat → Nat → Int32) (hc : xsrc sh) (a : Nat) : xV X 70 (16, [.ref 36, .ref 17, .int (nI a), .int (nI 19 - 9)], [], (sh, xput 3 σ 36 G)) = xV X 70 (7, [.ref 36, .ref 17, .int (nI (a + 1)), .int (nI 19 - 9)], [], (sh, xput 3 σ 36 G)) := by
  have hC := hc
  obtain ⟨h0, h1, h2, h17⟩ := hc
  have g1 : 9 < nI 19 - 9 := by decide
  rw [xV_d X 70 [16, 7] 40]
  simp [xent, xsl, Value.category, xr_d, xr_0, xg_nx, xg_n, xg_o, xg_c, xth_s, xth_v, xth_ite, xth_n, xd_iconst, xd_bipush, xd_sipush, xd_lconst, xd_iload, xd_iload_n, xd_lload, xd_lload_n, xd_aload, xd_aload_n, xd_istore, xd_istore_n, xd_astore, xd_astore_n, xd_lstore, xd_lstore_n, xd_iadd, xd_isub, xd_imul, xd_iand, xd_ior, xd_ishl, xd_ishr, xd_ladd, xd_lsub, xd_lmul, xd_land, xd_lor, xd_idiv, xd_irem, xd_ldiv, xd_lrem, xd_ineg, xd_lneg, xd_lshl, xd_lshr, xd_lcmp, xd_i2l, xd_l2i, xd_dup_int, xd_dup_ref, xd_pop, xd_dup2, xd_goto, xd_ifC, xd_ifI, xd_getf, xd_putI, xd_putR, xd_iald, xd_ialdX, xd_bald, xd_iast, xd_bast, xd_aald, xd_aast, xd_alen, xd_alenX, xd_newI, xd_newZ, xd_newQ, xd_newO, xd_invS, xd_invV, xd_invI, xd_iret, xd_lret, xd_vret, xd_ldc, xd_ldc2, xd_iinc, xd_aret, xd_tsw, xd_lsw, xC_d, xld, xisI, xisL, xisA, xgo_ite, xjp, xcmp, xrt, xinv, xcall, xpop, xcat, xgf, xal, xas, xpf, xle, xaq, xbite, xbite2, xsto, xsto2, xst1, xst2, xkl, xtt, xnum, xi0, xzf, v3, List.getElem?_cons_zero, List.getElem?_cons_succ, List.set_cons_zero, List.set_cons_succ, d70_0, d70_1, d70_2, d70_5, d70_6, d70_7, d70_8, d70_10, d70_13, d70_15, d70_16, d70_17, d70_19, d70_22, d70_23, d70_24, d70_25, d70_28, d70_31, d70_32, d70_35, d70_38, d70_41, d70_42, d70_45, d70_46, d70_49, d70_51, d70_52, d70_53, d70_54, d70_55, d70_57, d70_58, d70_59, d70_60, d70_61, d70_64, d70_65, d70_66, d70_69, d70_72, d70_75, d70_78, d70_81, wo70, wm70, wr70, f5_11, f5_20, m5_30, r70_81, wm81, wo81, b16_589, b8_100, b8_30, b8_50, b8_9, b8_m9, hC, h0, h1, h2, p36, p37, p38, r36, r37, r38, g1, nI_1]
set_option maxRecDepth 100000 in
set_option maxHeartbeats 4000000 in
theorem z70 (X : xX) (sh : List (Nat × Nat × List Value)) (σ G : Nat → Nat → Int32) (hc : xsrc sh) (a : Nat) (v : Value) (ha : a < 31) : xV X 70 (7, [.ref 36, .ref 17, .int (nI a), v], [], (sh, xput 3 σ 36 G)) = xV X 70 (16, [.ref 36, .ref 17, .int (nI a), .int (nI 0 - 9)], [], (sh, xput 3 σ 36 G)) := by
  have hC := hc
  obtain ⟨h0, h1, h2, h17⟩ := hc
  have g1 : ¬ 30 < nI a := by rw [ti_lt, q_30, ti_nI (by omega)]; omega
  rw [xV_d X 70 [7, 16] 40]
  simp [xent, xsl, Value.category, xr_d, xr_0, xg_nx, xg_n, xg_o, xg_c, xth_s, xth_v, xth_ite, xth_n, xd_iconst, xd_bipush, xd_sipush, xd_lconst, xd_iload, xd_iload_n, xd_lload, xd_lload_n, xd_aload, xd_aload_n, xd_istore, xd_istore_n, xd_astore, xd_astore_n, xd_lstore, xd_lstore_n, xd_iadd, xd_isub, xd_imul, xd_iand, xd_ior, xd_ishl, xd_ishr, xd_ladd, xd_lsub, xd_lmul, xd_land, xd_lor, xd_idiv, xd_irem, xd_ldiv, xd_lrem, xd_ineg, xd_lneg, xd_lshl, xd_lshr, xd_lcmp, xd_i2l, xd_l2i, xd_dup_int, xd_dup_ref, xd_pop, xd_dup2, xd_goto, xd_ifC, xd_ifI, xd_getf, xd_putI, xd_putR, xd_iald, xd_ialdX, xd_bald, xd_iast, xd_bast, xd_aald, xd_aast, xd_alen, xd_alenX, xd_newI, xd_newZ, xd_newQ, xd_newO, xd_invS, xd_invV, xd_invI, xd_iret, xd_lret, xd_vret, xd_ldc, xd_ldc2, xd_iinc, xd_aret, xd_tsw, xd_lsw, xC_d, xld, xisI, xisL, xisA, xgo_ite, xjp, xcmp, xrt, xinv, xcall, xpop, xcat, xgf, xal, xas, xpf, xle, xaq, xbite, xbite2, xsto, xsto2, xst1, xst2, xkl, xtt, xnum, xi0, xzf, v3, List.getElem?_cons_zero, List.getElem?_cons_succ, List.set_cons_zero, List.set_cons_succ, d70_0, d70_1, d70_2, d70_5, d70_6, d70_7, d70_8, d70_10, d70_13, d70_15, d70_16, d70_17, d70_19, d70_22, d70_23, d70_24, d70_25, d70_28, d70_31, d70_32, d70_35, d70_38, d70_41, d70_42, d70_45, d70_46, d70_49, d70_51, d70_52, d70_53, d70_54, d70_55, d70_57, d70_58, d70_59, d70_60, d70_61, d70_64, d70_65, d70_66, d70_69, d70_72, d70_75, d70_78, d70_81, wo70, wm70, wr70, f5_11, f5_20, m5_30, r70_81, wm81, wo81, b16_589, b8_100, b8_30, b8_50, b8_9, b8_m9, hC, h0, h1, h2, p36, p37, p38, r36, r37, r38, g1, nm90]
set_option maxRecDepth 100000 in
set_option maxHeartbeats 4000000 in
theorem x70 (X : xX) (sh : List (Nat × Nat × List Value)) (σ G : Nat → Nat → Int32) (hc : xsrc sh) (v : Value) : xV X 70 (7, [.ref 36, .ref 17, .int (nI 31), v], [], (sh, xput 3 σ 36 G)) = some (none, (sh, xput 3 σ 36 G)) := by
  have hC := hc
  obtain ⟨h0, h1, h2, h17⟩ := hc
  have g1 : 30 < nI 31 := by decide
  rw [xV_d X 70 [7] 40]
  simp [xent, xsl, Value.category, xr_d, xr_0, xg_nx, xg_n, xg_o, xg_c, xth_s, xth_v, xth_ite, xth_n, xd_iconst, xd_bipush, xd_sipush, xd_lconst, xd_iload, xd_iload_n, xd_lload, xd_lload_n, xd_aload, xd_aload_n, xd_istore, xd_istore_n, xd_astore, xd_astore_n, xd_lstore, xd_lstore_n, xd_iadd, xd_isub, xd_imul, xd_iand, xd_ior, xd_ishl, xd_ishr, xd_ladd, xd_lsub, xd_lmul, xd_land, xd_lor, xd_idiv, xd_irem, xd_ldiv, xd_lrem, xd_ineg, xd_lneg, xd_lshl, xd_lshr, xd_lcmp, xd_i2l, xd_l2i, xd_dup_int, xd_dup_ref, xd_pop, xd_dup2, xd_goto, xd_ifC, xd_ifI, xd_getf, xd_putI, xd_putR, xd_iald, xd_ialdX, xd_bald, xd_iast, xd_bast, xd_aald, xd_aast, xd_alen, xd_alenX, xd_newI, xd_newZ, xd_newQ, xd_newO, xd_invS, xd_invV, xd_invI, xd_iret, xd_lret, xd_vret, xd_ldc, xd_ldc2, xd_iinc, xd_aret, xd_tsw, xd_lsw, xC_d, xld, xisI, xisL, xisA, xgo_ite, xjp, xcmp, xrt, xinv, xcall, xpop, xcat, xgf, xal, xas, xpf, xle, xaq, xbite, xbite2, xsto, xsto2, xst1, xst2, xkl, xtt, xnum, xi0, xzf, v3, List.getElem?_cons_zero, List.getElem?_cons_succ, List.set_cons_zero, List.set_cons_succ, d70_0, d70_1, d70_2, d70_5, d70_6, d70_7, d70_8, d70_10, d70_13, d70_15, d70_16, d70_17, d70_19, d70_22, d70_23, d70_24, d70_25, d70_28, d70_31, d70_32, d70_35, d70_38, d70_41, d70_42, d70_45, d70_46, d70_49, d70_51, d70_52, d70_53, d70_54, d70_55, d70_57, d70_58, d70_59, d70_60, d70_61, d70_64, d70_65, d70_66, d70_69, d70_72, d70_75, d70_78, d70_81, wo70, wm70, wr70, f5_11, f5_20, m5_30, r70_81, wm81, wo81, b16_589, b8_100, b8_30, b8_50, b8_9, b8_m9, hC, h0, h1, h2, p36, p37, p38, r36, r37, r38, g1]
theorem m70 (X : xX) (sh : List (Nat × Nat × List Value)) (σ : Nat → Nat → Int32) (hc : xsrc sh) : ∀ d a G v, xin (G 0 2) 590 = true → a + d = 31 → xV X 70 (7, [.ref 36, .ref 17, .int (nI a), v], [], (sh, xput 3 σ 36 G)) = some (none, (sh, xput 3 σ 36 (vG2 (xget σ 17) d a G)))
  | 0, a, G, v, hG, h => by
    have e : a = 31 := by omega
    subst e
    exact x70 X sh σ G hc v
  | d + 1, a, G, v, hG, h => by
    rw [z70 X sh σ G hc a v (by omega), l70 X sh σ hc a 19 0 G hG (by omega), y70 X sh σ _ hc a, m70 X sh σ hc d (a + 1) _ _ (vG1_in 19 0 G hG) (by omega), vG2]
set_option maxRecDepth 100000 in
set_option maxHeartbeats 4000000 in
theorem k70 (X : xX) (sh : List (Nat × Nat × List Value)) (σ G : Nat → Nat → Int32) (hc : xsrc sh)  : xK X 70 [.ref 36, .ref 17] (sh, xput 3 σ 36 G) = some (none, (sh, xput 3 σ 36 (vGa (xget σ 17) G))) := by
  have hC := hc
  obtain ⟨h0, h1, h2, h17⟩ := hc
  have em := m70 X sh σ hC 31 0 (xup G 0 2 0) (.float 0) (by rw [xup_same]; decide) (by omega)
  rw [nI_0] at em
  rw [xK_d X 70 _ _ [7] 90]; simp [xent, xsl, Value.category, xr_d, xr_0, xg_nx, xg_n, xg_o, xg_c, xth_s, xth_v, xth_ite, xth_n, xd_iconst, xd_bipush, xd_sipush, xd_lconst, xd_iload, xd_iload_n, xd_lload, xd_lload_n, xd_aload, xd_aload_n, xd_istore, xd_istore_n, xd_astore, xd_astore_n, xd_lstore, xd_lstore_n, xd_iadd, xd_isub, xd_imul, xd_iand, xd_ior, xd_ishl, xd_ishr, xd_ladd, xd_lsub, xd_lmul, xd_land, xd_lor, xd_idiv, xd_irem, xd_ldiv, xd_lrem, xd_ineg, xd_lneg, xd_lshl, xd_lshr, xd_lcmp, xd_i2l, xd_l2i, xd_dup_int, xd_dup_ref, xd_pop, xd_dup2, xd_goto, xd_ifC, xd_ifI, xd_getf, xd_putI, xd_putR, xd_iald, xd_ialdX, xd_bald, xd_iast, xd_bast, xd_aald, xd_aast, xd_alen, xd_alenX, xd_newI, xd_newZ, xd_newQ, xd_newO, xd_invS, xd_invV, xd_invI, xd_iret, xd_lret, xd_vret, xd_ldc, xd_ldc2, xd_iinc, xd_aret, xd_tsw, xd_lsw, xC_d, xld, xisI, xisL, xisA, xgo_ite, xjp, xcmp, xrt, xinv, xcall, xpop, xcat, xgf, xal, xas, xpf, xle, xaq, xbite, xbite2, xsto, xsto2, xst1, xst2, xkl, xtt, xnum, xi0, xzf, v3, List.getElem?_cons_zero, List.getElem?_cons_succ, List.set_cons_zero, List.set_cons_succ, d70_0, d70_1, d70_2, d70_5, d70_6, d70_7, d70_8, d70_10, d70_13, d70_15, d70_16, d70_17, d70_19, d70_22, d70_23, d70_24, d70_25, d70_28, d70_31, d70_32, d70_35, d70_38, d70_41, d70_42, d70_45, d70_46, d70_49, d70_51, d70_52, d70_53, d70_54, d70_55, d70_57, d70_58, d70_59, d70_60, d70_61, d70_64, d70_65, d70_66, d70_69, d70_72, d70_75, d70_78, d70_81, wo70, wm70, wr70, f5_11, f5_20, m5_30, r70_81, wm81, wo81, b16_589, b8_100, b8_30, b8_50, b8_9, b8_m9, hC, h0, h1, h2, p36, p37, p38, r36, r37, r38, em, vGa]
