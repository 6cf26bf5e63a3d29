def sigC (c : Nat) : List (Nat × Nat × List Value) := [(9, 4, [.ref (c + 1), .ref (c + 2), .ref (c + 3), .int 0]), (0, 8, []), (0, 8, []), (1, 8, [])]
def padC (c : Nat) : List (Nat × Nat × List Value) := [(5, 2, [.ref (c + 1), .int 0]), (0, 60, [])]
def seaC (c : Nat) : List (Nat × Nat × List Value) := [(8, 5, [.ref (c + 1), .ref (c + 2), .int 0, .int 0, .int 0]), (0, 589, []), (0, 199, [])]
def rehC (c : Nat) : List (Nat × Nat × List Value) := (7, 4, [.ref (c + 1), .int 0, .int 0, .int 0]) :: cupC (c + 1)
def imgC (c : Nat) : List (Nat × Nat × List Value) := (4, 3, [.ref (c + 1), .ref (c + 15), .int 0]) :: (cupC (c + 1) ++ sigC (c + 15))
theorem sigC_l (c : Nat) : (sigC c).length = 4 := rfl
theorem padC_l (c : Nat) : (padC c).length = 2 := rfl
theorem seaC_l (c : Nat) : (seaC c).length = 3 := rfl
theorem rehC_l (c : Nat) : (rehC c).length = 15 := rfl
theorem imgC_l (c : Nat) : (imgC c).length = 19 := rfl
def sCup (σ : Nat → Nat → Int32) (c : Nat) : Nat → Nat → Int32 := xput 14 σ c (uAnew (uInl 8 0 (uCt (xget σ c))))
def sSig (σ : Nat → Nat → Int32) (c : Nat) : Nat → Nat → Int32 := xput 4 σ c (xup (xzr (xzr (xzr (xget σ c) 1) 2) 3) 0 3 0)
def sPad (σ : Nat → Nat → Int32) (c : Nat) : Nat → Nat → Int32 := xput 2 σ c (xup (xzr (xget σ c) 1) 0 1 0)
def sSea (σ : Nat → Nat → Int32) (c : Nat) : Nat → Nat → Int32 := xput 3 σ c (xup (xup (xup (xzr (xzr (xget σ c) 1) 2) 0 2 0) 0 3 (-6)) 0 4 (-6))
theorem e1 (X : xX) (pre : List (Nat × Nat × List Value)) (σ : Nat → Nat → Int32) (c : Nat) (hp : pre.length = c) : xK X 1 [.ref c] (pre ++ [(3, 9, [.null, .null, .null, .null, .null, .null, .null, .null, .int 0])], σ) = some (none, (pre ++ cupC c, sCup σ c)) := by
  have e := k1 X pre σ (xget σ c) c hp
  rw [xput_get] at e
  exact e
theorem e77 (X : xX) (pre : List (Nat × Nat × List Value)) (σ : Nat → Nat → Int32) (c : Nat) (hp : pre.length = c) : xK X 77 [.ref c] (pre ++ [(9, 4, [.null, .null, .null, .int 0])], σ) = some (none, (pre ++ sigC c, sSig σ c)) := by
  have e := k77 X pre σ (xget σ c) c hp
  rw [xput_get] at e
  exact e
theorem e35 (X : xX) (pre : List (Nat × Nat × List Value)) (σ : Nat → Nat → Int32) (c : Nat) (hp : pre.length = c) : xK X 35 [.ref c] (pre ++ [(5, 2, [.null, .int 0])], σ) = some (none, (pre ++ padC c, sPad σ c)) := by
  have e := k35 X pre σ (xget σ c) c hp
  rw [xput_get] at e
  exact e
theorem e69 (X : xX) (pre : List (Nat × Nat × List Value)) (σ : Nat → Nat → Int32) (c : Nat) (hp : pre.length = c) : xK X 69 [.ref c] (pre ++ [(8, 5, [.null, .null, .int 0, .int 0, .int 0])], σ) = some (none, (pre ++ seaC c, sSea σ c)) := by
  have e := k69 X pre σ (xget σ c) c hp
  rw [xput_get] at e
  exact e
def sReh (σ : Nat → Nat → Int32) (c : Nat) : Nat → Nat → Int32 := xup (xup (xup (sCup (xzr σ (c + 1)) (c + 1)) c 1 0) c 2 (-6)) c 3 (-6)
def sIma (σ : Nat → Nat → Int32) (c : Nat) : Nat → Nat → Int32 := xup (sSig (xzr (sCup (xzr σ (c + 1)) (c + 1)) (c + 15)) (c + 15)) c 2 0
set_option maxRecDepth 100000 in
set_option maxHeartbeats 4000000 in
theorem e61 (X : xX) (pre : List (Nat × Nat × List Value)) (σ : Nat → Nat → Int32) (c : Nat) (hp : pre.length = c) : xK X 61 [.ref c] (pre ++ [(7, 4, [.null, .int 0, .int 0, .int 0])], σ) = some (none, (pre ++ rehC c, sReh σ c)) := by
  have q : ∀ τ, xK X 1 [.ref (c + 1)] (pre ++ [(7, 4, [.null, .int 0, .int 0, .int 0]), (3, 9, [.null, .null, .null, .null, .null, .null, .null, .null, .int 0])], τ) = some (none, (pre ++ ((7, 4, [.null, .int 0, .int 0, .int 0]) :: cupC (c + 1)), sCup τ (c + 1))) := by
    intro τ
    have e := e1 X (pre ++ [(7, 4, [.null, .int 0, .int 0, .int 0])]) τ (c + 1) (by rw [List.length_append, hp]; rfl)
    rw [List.append_assoc, List.append_assoc] at e
    exact e
  unfold rehC sReh
  rw [xK_d X 61 _ _ [] 40]
  simp [xent, xsl, Value.category, xr_d, xr_0, xg_nx, xg_n, xg_o, xg_c, xth_s, xth_v, xth_ite, xth_n, xd_iconst, xd_bipush, xd_sipush, xd_lconst, xd_iload, xd_iload_n, xd_lload, xd_lload_n, xd_aload, xd_aload_n, xd_istore, xd_istore_n, xd_astore, xd_astore_n, xd_lstore, xd_lstore_n, xd_iadd, xd_isub, xd_imul, xd_iand, xd_ior, xd_ishl, xd_ishr, xd_ladd, xd_lsub, xd_lmul, xd_land, xd_lor, xd_idiv, xd_irem, xd_ldiv, xd_lrem, xd_ineg, xd_lneg, xd_lshl, xd_lshr, xd_lcmp, xd_i2l, xd_l2i, xd_dup_int, xd_dup_ref, xd_pop, xd_dup2, xd_goto, xd_ifC, xd_ifI, xd_getf, xd_putI, xd_putR, xd_iald, xd_ialdX, xd_bald, xd_iast, xd_bast, xd_aald, xd_aast, xd_alen, xd_alenX, xd_newI, xd_newZ, xd_newQ, xd_newO, xd_invS, xd_invV, xd_invI, xd_iret, xd_lret, xd_vret, xd_ldc, xd_ldc2, xd_iinc, xd_aret, xd_tsw, xd_lsw, xC_d, xld, xisI, xisL, xisA, xgo_ite, xjp, xcmp, xrt, xinv, xcall, xpop, xcat, xgf, xal, xas, xpf, xle, xaq, xbite, xbite2, xsto, xsto2, xst1, xst2, xkl, xtt, xnum, xi0, xzf, v3, List.getElem?_cons_zero, List.getElem?_cons_succ, List.set_cons_zero, List.set_cons_succ, d61_0, d61_1, d61_4, d61_5, d61_8, d61_9, d61_12, d61_15, d61_16, d61_17, d61_20, d61_21, d61_23, d61_26, d61_27, d61_29, d61_32, wo61, wm61, wr61, wi61, f4_12, f4_18, f4_22, f4_25, m4_11, m4_3, n4_9, qf61, ql61, r61_1, wm1, b8_m6, hp, sg, sg0, ss, ss0, xnwa, xnwo, xblank, xpr, tn_2, tl_2, tm_2, tn_8, tl_8, tm_8, tn_24, tl_24, tm_24, tn_32, tl_32, tm_32, tn_60, tl_60, tm_60, tn_199, tl_199, tm_199, tn_331, tl_331, tm_331, tn_589, tl_589, tm_589, tn_720, tl_720, tm_720, q]
set_option maxRecDepth 100000 in
set_option maxHeartbeats 4000000 in
theorem e32 (X : xX) (pre : List (Nat × Nat × List Value)) (σ : Nat → Nat → Int32) (c : Nat) (hp : pre.length = c) : xK X 32 [.ref c] (pre ++ [(4, 3, [.null, .null, .int 0])], σ) = some (none, (pre ++ imgC c, sIma σ c)) := by
  have q : ∀ τ, xK X 1 [.ref (c + 1)] (pre ++ [(4, 3, [.null, .null, .int 0]), (3, 9, [.null, .null, .null, .null, .null, .null, .null, .null, .int 0])], τ) = some (none, (pre ++ ((4, 3, [.null, .null, .int 0]) :: cupC (c + 1)), sCup τ (c + 1))) := by
    intro τ
    have e := e1 X (pre ++ [(4, 3, [.null, .null, .int 0])]) τ (c + 1) (by rw [List.length_append, hp]; rfl)
    rw [List.append_assoc, List.append_assoc] at e
    exact e
  have q2 : ∀ τ, xK X 77 [.ref (c + 15)] (pre ++ ((4, 3, [.ref (c + 1), .null, .int 0]) :: (cupC (c + 1) ++ [(9, 4, [.null, .null, .null, .int 0])])), τ) = some (none, (pre ++ ((4, 3, [.ref (c + 1), .null, .int 0]) :: (cupC (c + 1) ++ sigC (c + 15))), sSig τ (c + 15))) := by
    intro τ
    have e := e77 X (pre ++ ((4, 3, [.ref (c + 1), .null, .int 0]) :: cupC (c + 1))) τ (c + 15) (by rw [List.length_append, hp]; rfl)
    rw [List.append_assoc, List.append_assoc] at e
    exact e
  unfold imgC sIma
  rw [xK_d X 32 _ _ [] 40]
  simp [xent, xsl, Value.category, xr_d, xr_0, xg_nx, xg_n, xg_o, xg_c, xth_s, xth_v, xth_ite, xth_n, xd_iconst, xd_bipush, xd_sipush, xd_lconst, xd_iload, xd_iload_n, xd_lload, xd_lload_n, xd_aload, xd_aload_n, xd_istore, xd_istore_n, xd_astore, xd_astore_n, xd_lstore, xd_lstore_n, xd_iadd, xd_isub, xd_imul, xd_iand, xd_ior, xd_ishl, xd_ishr, xd_ladd, xd_lsub, xd_lmul, xd_land, xd_lor, xd_idiv, xd_irem, xd_ldiv, xd_lrem, xd_ineg, xd_lneg, xd_lshl, xd_lshr, xd_lcmp, xd_i2l, xd_l2i, xd_dup_int, xd_dup_ref, xd_pop, xd_dup2, xd_goto, xd_ifC, xd_ifI, xd_getf, xd_putI, xd_putR, xd_iald, xd_ialdX, xd_bald, xd_iast, xd_bast, xd_aald, xd_aast, xd_alen, xd_alenX, xd_newI, xd_newZ, xd_newQ, xd_newO, xd_invS, xd_invV, xd_invI, xd_iret, xd_lret, xd_vret, xd_ldc, xd_ldc2, xd_iinc, xd_aret, xd_tsw, xd_lsw, xC_d, xld, xisI, xisL, xisA, xgo_ite, xjp, xcmp, xrt, xinv, xcall, xpop, xcat, xgf, xal, xas, xpf, xle, xaq, xbite, xbite2, xsto, xsto2, xst1, xst2, xkl, xtt, xnum, xi0, xzf, v3, List.getElem?_cons_zero, List.getElem?_cons_succ, List.set_cons_zero, List.set_cons_succ, d32_0, d32_1, d32_4, d32_5, d32_8, d32_9, d32_12, d32_15, d32_16, d32_19, d32_20, d32_23, d32_26, d32_27, d32_28, d32_31, wo32, wm32, wr32, wi32, f1_10, f1_19, f1_23, m1_1, m1_18, m1_9, n1_16, n1_7, qf32, ql32, r32_1, r32_77, wm1, wm77, hp, sg, sg0, ss, ss0, xnwa, xnwo, xblank, xpr, tn_2, tl_2, tm_2, tn_8, tl_8, tm_8, tn_24, tl_24, tm_24, tn_32, tl_32, tm_32, tn_60, tl_60, tm_60, tn_199, tl_199, tm_199, tn_331, tl_331, tm_331, tn_589, tl_589, tm_589, tn_720, tl_720, tm_720, q, q2, cupC_l]
def sK1 (σ : Nat → Nat → Int32) : Nat → Nat → Int32 := xzr (sSea (xzr (sReh (xzr (sSig (xzr (sPad (xzr (sCup (xzr σ 1) 1) 15) 15) 17) 17) 21) 21) 36) 36) 39
set_option maxRecDepth 100000 in
set_option maxHeartbeats 4000000 in
theorem h86 (X : xX) (σ : Nat → Nat → Int32) : xK X 86 [.ref 0] ([(11, 6, [.null, .null, .null, .null, .null, .null])], σ) = xV X 86 (69, [.ref 0, .int 0], [], ((11, 6, [.ref 1, .ref 15, .ref 17, .ref 21, .ref 36, .ref 39]) :: (cupC 1 ++ (padC 15 ++ (sigC 17 ++ (rehC 21 ++ (seaC 36 ++ [(2, 2, [.null, .null])]))))), sK1 σ)) := by
  have q1 : ∀ kc τ, xK X 1 [.ref 1] ([kc, (3, 9, [.null, .null, .null, .null, .null, .null, .null, .null, .int 0])], τ) = some (none, (kc :: cupC 1, sCup τ 1)) := fun kc τ => e1 X [kc] τ 1 rfl
  have q2 : ∀ kc τ, xK X 35 [.ref 15] (kc :: (cupC 1 ++ [(5, 2, [.null, .int 0])]), τ) = some (none, (kc :: (cupC 1 ++ padC 15), sPad τ 15)) := by
    intro kc τ
    have e := e35 X (kc :: cupC 1) τ 15 rfl
    simp only [List.cons_append, List.append_assoc] at e
    exact e
  have q3 : ∀ kc τ, xK X 77 [.ref 17] (kc :: (cupC 1 ++ (padC 15 ++ [(9, 4, [.null, .null, .null, .int 0])])), τ) = some (none, (kc :: (cupC 1 ++ (padC 15 ++ sigC 17)), sSig τ 17)) := by
    intro kc τ
    have e := e77 X (kc :: (cupC 1 ++ padC 15)) τ 17 rfl
    simp only [List.cons_append, List.append_assoc] at e
    exact e
  have q4 : ∀ kc τ, xK X 61 [.ref 21] (kc :: (cupC 1 ++ (padC 15 ++ (sigC 17 ++ [(7, 4, [.null, .int 0, .int 0, .int 0])]))), τ) = some (none, (kc :: (cupC 1 ++ (padC 15 ++ (sigC 17 ++ rehC 21))), sReh τ 21)) := by
    intro kc τ
    have e := e61 X (kc :: (cupC 1 ++ (padC 15 ++ sigC 17))) τ 21 rfl
    simp only [List.cons_append, List.append_assoc] at e
    exact e
  have q5 : ∀ kc τ, xK X 69 [.ref 36] (kc :: (cupC 1 ++ (padC 15 ++ (sigC 17 ++ (rehC 21 ++ [(8, 5, [.null, .null, .int 0, .int 0, .int 0])])))), τ) = some (none, (kc :: (cupC 1 ++ (padC 15 ++ (sigC 17 ++ (rehC 21 ++ seaC 36)))), sSea τ 36)) := by
    intro kc τ
    have e := e69 X (kc :: (cupC 1 ++ (padC 15 ++ (sigC 17 ++ rehC 21)))) τ 36 rfl
    simp only [List.cons_append, List.append_assoc] at e
    exact e
  unfold sK1
  rw [xK_d X 86 _ _ [69] 60]
  simp [xent, xsl, Value.category, xr_d, xr_0, xg_nx, xg_n, xg_o, xg_c, xth_s, xth_v, xth_ite, xth_n, xd_iconst, xd_bipush, xd_sipush, xd_lconst, xd_iload, xd_iload_n, xd_lload, xd_lload_n, xd_aload, xd_aload_n, xd_istore, xd_istore_n, xd_astore, xd_astore_n, xd_lstore, xd_lstore_n, xd_iadd, xd_isub, xd_imul, xd_iand, xd_ior, xd_ishl, xd_ishr, xd_ladd, xd_lsub, xd_lmul, xd_land, xd_lor, xd_idiv, xd_irem, xd_ldiv, xd_lrem, xd_ineg, xd_lneg, xd_lshl, xd_lshr, xd_lcmp, xd_i2l, xd_l2i, xd_dup_int, xd_dup_ref, xd_pop, xd_dup2, xd_goto, xd_ifC, xd_ifI, xd_getf, xd_putI, xd_putR, xd_iald, xd_ialdX, xd_bald, xd_iast, xd_bast, xd_aald, xd_aast, xd_alen, xd_alenX, xd_newI, xd_newZ, xd_newQ, xd_newO, xd_invS, xd_invV, xd_invI, xd_iret, xd_lret, xd_vret, xd_ldc, xd_ldc2, xd_iinc, xd_aret, xd_tsw, xd_lsw, xC_d, xld, xisI, xisL, xisA, xgo_ite, xjp, xcmp, xrt, xinv, xcall, xpop, xcat, xgf, xal, xas, xpf, xle, xaq, xbite, xbite2, xsto, xsto2, xst1, xst2, xkl, xtt, xnum, xi0, xzf, v3, List.getElem?_cons_zero, List.getElem?_cons_succ, List.set_cons_zero, List.set_cons_succ, d86_0, d86_1, d86_4, d86_5, d86_8, d86_9, d86_12, d86_15, d86_16, d86_19, d86_20, d86_23, d86_26, d86_27, d86_30, d86_31, d86_34, d86_37, d86_38, d86_41, d86_42, d86_45, d86_48, d86_49, d86_52, d86_53, d86_56, d86_59, d86_60, d86_61, d86_64, d86_67, d86_68, d86_69, d86_70, d86_71, d86_74, d86_75, d86_78, d86_79, d86_82, d86_83, d86_86, d86_87, d86_90, d86_93, wo86, wm86, wr86, wi86, f8_10, f8_19, f8_26, f8_33, f8_40, f8_46, m8_1, m8_18, m8_25, m8_32, m8_39, m8_50, m8_9, n8_16, n8_23, n8_30, n8_37, n8_44, n8_7, qf86, ql86, r86_1, r86_32, r86_35, r86_61, r86_69, r86_77, wm1, wm32, wm35, wm61, wm69, wm77, xnwa, xnwo, xnwq, xblank, xpr, q1, q2, q3, q4, q5, cupC_l, padC_l, sigC_l, rehC_l, seaC_l, tn_2, tl_2, tm_2, tn_8, tl_8, tm_8, tn_24, tl_24, tm_24, tn_32, tl_32, tm_32, tn_60, tl_60, tm_60, tn_199, tl_199, tm_199, tn_331, tl_331, tm_331, tn_589, tl_589, tm_589, tn_720, tl_720, tm_720]
theorem iw0 : xin 0 2 = true := by decide
theorem iw1 : xin 1 2 = true := by decide
set_option maxRecDepth 100000 in
set_option maxHeartbeats 4000000 in
theorem l86 (X : xX) (pre : List (Nat × Nat × List Value)) (σ : Nat → Nat → Int32) (hp : pre.length = 38) : xV X 86 (69, [.ref 0, .int 0], [], ((11, 6, [.ref 1, .ref 15, .ref 17, .ref 21, .ref 36, .ref 39]) :: (pre ++ [(2, 2, [.null, .null])]), σ)) = some (none, ((11, 6, [.ref 1, .ref 15, .ref 17, .ref 21, .ref 36, .ref 39]) :: (pre ++ ((2, 2, [.ref 40, .ref 59]) :: (imgC 40 ++ imgC 59))), sIma (xzr (sIma (xzr σ 40) 40) 59) 59)) := by
  have h38 : ∀ L, (pre ++ L)[38]? = L[0]? := fun L => sg0 hp
  have h39 : ∀ L, (pre ++ L)[39]? = L[1]? := fun L => sg (k := 1) hp
  have h58 : ∀ L, (pre ++ L)[58]? = L[20]? := fun L => sg (k := 20) hp
  have s38 : ∀ L x, (pre ++ L).set 38 x = pre ++ L.set 0 x := fun L x => ss0 hp
  have i40 : (imgC 40)[0]? = some (4, 3, [.ref 41, .ref 55, .int 0]) := rfl
  have i59 : (imgC 40 ++ imgC 59)[19]? = some (4, 3, [.ref 60, .ref 74, .int 0]) := rfl
  have q1 : ∀ im τ, xK X 32 [.ref 40] ((11, 6, [.ref 1, .ref 15, .ref 17, .ref 21, .ref 36, .ref 39]) :: (pre ++ [im, (4, 3, [.null, .null, .int 0])]), τ) = some (none, ((11, 6, [.ref 1, .ref 15, .ref 17, .ref 21, .ref 36, .ref 39]) :: (pre ++ (im :: imgC 40)), sIma τ 40)) := by
    intro im τ
    have e := e32 X ((11, 6, [.ref 1, .ref 15, .ref 17, .ref 21, .ref 36, .ref 39]) :: (pre ++ [im])) τ 40 (by rw [List.length_cons, List.length_append, hp]; rfl)
    rw [List.cons_append, List.cons_append, List.append_assoc, List.append_assoc] at e
    exact e
  have q2 : ∀ im τ, xK X 32 [.ref 59] ((11, 6, [.ref 1, .ref 15, .ref 17, .ref 21, .ref 36, .ref 39]) :: (pre ++ (im :: (imgC 40 ++ [(4, 3, [.null, .null, .int 0])]))), τ) = some (none, ((11, 6, [.ref 1, .ref 15, .ref 17, .ref 21, .ref 36, .ref 39]) :: (pre ++ (im :: (imgC 40 ++ imgC 59))), sIma τ 59)) := by
    intro im τ
    have e := e32 X ((11, 6, [.ref 1, .ref 15, .ref 17, .ref 21, .ref 36, .ref 39]) :: (pre ++ (im :: imgC 40))) τ 59 (by rw [List.length_cons, List.length_append, hp]; rfl)
    rw [List.cons_append, List.cons_append, List.append_assoc, List.append_assoc] at e
    exact e
  rw [xV_d X 86 [] 60]
  simp [xent, xsl, Value.category, xr_d, xr_0, xg_nx, xg_n, xg_o, xg_c, xth_s, xth_v, xth_ite, xth_n, xd_iconst, xd_bipush, xd_sipush, xd_lconst, xd_iload, xd_iload_n, xd_lload, xd_lload_n, xd_aload, xd_aload_n, xd_istore, xd_istore_n, xd_astore, xd_astore_n, xd_lstore, xd_lstore_n, xd_iadd, xd_isub, xd_imul, xd_iand, xd_ior, xd_ishl, xd_ishr, xd_ladd, xd_lsub, xd_lmul, xd_land, xd_lor, xd_idiv, xd_irem, xd_ldiv, xd_lrem, xd_ineg, xd_lneg, xd_lshl, xd_lshr, xd_lcmp, xd_i2l, xd_l2i, xd_dup_int, xd_dup_ref, xd_pop, xd_dup2, xd_goto, xd_ifC, xd_ifI, xd_getf, xd_putI, xd_putR, xd_iald, xd_ialdX, xd_bald, xd_iast, xd_bast, xd_aald, xd_aast, xd_alen, xd_alenX, xd_newI, xd_newZ, xd_newQ, xd_newO, xd_invS, xd_invV, xd_invI, xd_iret, xd_lret, xd_vret, xd_ldc, xd_ldc2, xd_iinc, xd_aret, xd_tsw, xd_lsw, xC_d, xld, xisI, xisL, xisA, xgo_ite, xjp, xcmp, xrt, xinv, xcall, xpop, xcat, xgf, xal, xas, xpf, xle, xaq, xbite, xbite2, xsto, xsto2, xst1, xst2, xkl, xtt, xnum, xi0, xzf, v3, List.getElem?_cons_zero, List.getElem?_cons_succ, List.set_cons_zero, List.set_cons_succ, d86_0, d86_1, d86_4, d86_5, d86_8, d86_9, d86_12, d86_15, d86_16, d86_19, d86_20, d86_23, d86_26, d86_27, d86_30, d86_31, d86_34, d86_37, d86_38, d86_41, d86_42, d86_45, d86_48, d86_49, d86_52, d86_53, d86_56, d86_59, d86_60, d86_61, d86_64, d86_67, d86_68, d86_69, d86_70, d86_71, d86_74, d86_75, d86_78, d86_79, d86_82, d86_83, d86_86, d86_87, d86_90, d86_93, wo86, wm86, wr86, wi86, f8_10, f8_19, f8_26, f8_33, f8_40, f8_46, m8_1, m8_18, m8_25, m8_32, m8_39, m8_50, m8_9, n8_16, n8_23, n8_30, n8_37, n8_44, n8_7, qf86, ql86, r86_1, r86_32, r86_35, r86_61, r86_69, r86_77, wm1, wm32, wm35, wm61, wm69, wm77, hp, h38, h39, h58, s38, i40, i59, xnwo, xblank, xaw, iw0, iw1, q1, q2, imgC_l]
  exact ⟨rfl, rfl⟩
def xshK : List (Nat × Nat × List Value) := (11, 6, [.ref 1, .ref 15, .ref 17, .ref 21, .ref 36, .ref 39]) :: (cupC 1 ++ (padC 15 ++ (sigC 17 ++ (rehC 21 ++ (seaC 36 ++ ((2, 2, [.ref 40, .ref 59]) :: (imgC 40 ++ imgC 59)))))))
def sKin (σ : Nat → Nat → Int32) : Nat → Nat → Int32 := sIma (xzr (sIma (xzr (sK1 σ) 40) 40) 59) 59
theorem e86 (X : xX) (σ : Nat → Nat → Int32) : xK X 86 [.ref 0] ([(11, 6, [.null, .null, .null, .null, .null, .null])], σ) = some (none, (xshK, sKin σ)) := by
  have e := l86 X (cupC 1 ++ (padC 15 ++ (sigC 17 ++ (rehC 21 ++ seaC 36)))) (sK1 σ) rfl
  simp only [List.append_assoc] at e
  rw [h86, e]
  rfl
theorem xshK_l : xshK.length = 78 := rfl
def modC (c : Nat) : List (Nat × Nat × List Value) := [(12, 20, [.ref (c + 1), .ref (c + 2), .int 0, .ref (c + 3), .int 0, .ref (c + 4), .int 0, .int 0, .int 0, .int 0, .int 0, .int 0, .int 0, .int 0, .int 0, .int 0, .int 0, .ref (c + 5), .ref (c + 6), .ref (c + 7)]), (0, 331, []), (0, 331, []), (0, 24, []), (0, 60, []), (0, 589, []), (0, 720, []), (1, 2, [])]
def mZr (A : Nat → Nat → Int32) : Nat → Nat → Int32 := xzr (xzr (xzr (xzr (xzr (xzr (xzr A 1) 2) 3) 4) 5) 6) 7
set_option maxRecDepth 100000 in
set_option maxHeartbeats 4000000 in
theorem h120 (X : xX) (pre : List (Nat × Nat × List Value)) (σ A : Nat → Nat → Int32) (c : Nat) (hp : pre.length = c) : xK X 120 [.ref c] (pre ++ [(12, 20, [.null, .null, .int 0, .null, .int 0, .null, .int 0, .int 0, .int 0, .int 0, .int 0, .int 0, .int 0, .int 0, .int 0, .int 0, .int 0, .null, .null, .null])], xput 8 σ c A) = xV X 120 (65, [.ref c, .int 0], [], (pre ++ modC c, xput 8 σ c (mZr A))) := by
  unfold modC mZr
  rw [xK_d X 120 _ _ [65] 60]
  simp [xent, xsl, Value.category, xr_d, xr_0, xg_nx, xg_n, xg_o, xg_c, xth_s, xth_v, xth_ite, xth_n, xd_iconst, xd_bipush, xd_sipush, xd_lconst, xd_iload, xd_iload_n, xd_lload, xd_lload_n, xd_aload, xd_aload_n, xd_istore, xd_istore_n, xd_astore, xd_astore_n, xd_lstore, xd_lstore_n, xd_iadd, xd_isub, xd_imul, xd_iand, xd_ior, xd_ishl, xd_ishr, xd_ladd, xd_lsub, xd_lmul, xd_land, xd_lor, xd_idiv, xd_irem, xd_ldiv, xd_lrem, xd_ineg, xd_lneg, xd_lshl, xd_lshr, xd_lcmp, xd_i2l, xd_l2i, xd_dup_int, xd_dup_ref, xd_pop, xd_dup2, xd_goto, xd_ifC, xd_ifI, xd_getf, xd_putI, xd_putR, xd_iald, xd_ialdX, xd_bald, xd_iast, xd_bast, xd_aald, xd_aast, xd_alen, xd_alenX, xd_newI, xd_newZ, xd_newQ, xd_newO, xd_invS, xd_invV, xd_invI, xd_iret, xd_lret, xd_vret, xd_ldc, xd_ldc2, xd_iinc, xd_aret, xd_tsw, xd_lsw, xC_d, xld, xisI, xisL, xisA, xgo_ite, xjp, xcmp, xrt, xinv, xcall, xpop, xcat, xgf, xal, xas, xpf, xle, xaq, xbite, xbite2, xsto, xsto2, xst1, xst2, xkl, xtt, xnum, xi0, xzf, v3, List.getElem?_cons_zero, List.getElem?_cons_succ, List.set_cons_zero, List.set_cons_succ, d120_0, d120_1, d120_4, d120_5, d120_8, d120_10, d120_13, d120_14, d120_17, d120_19, d120_22, d120_23, d120_25, d120_27, d120_30, d120_31, d120_33, d120_35, d120_38, d120_39, d120_42, d120_44, d120_47, d120_48, d120_51, d120_53, d120_56, d120_57, d120_58, d120_60, d120_63, d120_64, d120_65, d120_66, d120_68, d120_71, d120_72, d120_75, d120_76, d120_77, d120_78, d120_79, d120_82, d120_84, d120_85, d120_86, d120_87, d120_88, d120_91, d120_92, d120_95, d120_96, d120_97, d120_98, d120_101, d120_103, d120_104, d120_105, d120_106, d120_107, d120_108, d120_111, d120_113, d120_114, d120_115, d120_117, d120_118, d120_119, d120_120, d120_123, d120_126, d120_127, d120_130, d120_131, d120_134, wo120, wm120, wr120, wi120, f9_13, f9_16, f9_19, f9_22, f9_25, f9_28, f9_7, m9_1, m9_32, m9_35, qf120, ql120, r120_121, r120_127, wm121, wm127, wo121, wo127, b16_331, b16_589, b16_720, b8_10, b8_16, b8_24, b8_60, b8_8, hp, sg, sg0, ss, ss0, xnwa, xnwo, xblank, xpr, tn_2, tl_2, tm_2, tn_8, tl_8, tm_8, tn_24, tl_24, tm_24, tn_32, tl_32, tm_32, tn_60, tl_60, tm_60, tn_199, tl_199, tm_199, tn_331, tl_331, tm_331, tn_589, tl_589, tm_589, tn_720, tl_720, tm_720, xput_zr, xput_zr0]
def mI1 (M : Nat → Nat → Int32) (i : Nat) : Nat → Nat → Int32 := xup (xup (xup (xup M 2 i 1) 2 (8 + i) (if 3 < nI i then 1 else 0)) 2 (16 + i) (nI i)) 2 (24 + i) (10 * nI i)
def mIl : Nat → Nat → (Nat → Nat → Int32) → Nat → Nat → Int32
  | 0, _, M => M
  | d + 1, i, M => mIl d (i + 1) (mI1 M i)
set_option maxRecDepth 100000 in
set_option maxHeartbeats 4000000 in
theorem i120 (X : xX) (sh : List (Nat × Nat × List Value)) (σ M : Nat → Nat → Int32) (hm : xmod sh) (i : Nat) (hi : i < 8) : xV X 120 (65, [.ref 78, .int (nI i)], [], (sh, xput 8 σ 78 M)) = xV X 120 (65, [.ref 78, .int (nI (i + 1))], [], (sh, xput 8 σ 78 (mI1 M i))) := by
  have hM := hm
  obtain ⟨m0, m1, m2, m3, m4, m5, m6, m7⟩ := hm
  have g1 : ¬ 8 ≤ nI i := nI_lt' (a := i) (b := 8) hi (by omega)
  have hi2 : i < 331 := by omega
  unfold mI1
  rw [xV_d X 120 [65] 60]
  by_cases g : 3 < nI i
  · have g' : ¬ nI i ≤ 3 := Int32.not_le.mpr g
    simp [xent, xsl, Value.category, xr_d, xr_0, xg_nx, xg_n, xg_o, xg_c, xth_s, xth_v, xth_ite, xth_n, xd_iconst, xd_bipush, xd_sipush, xd_lconst, xd_iload, xd_iload_n, xd_lload, xd_lload_n, xd_aload, xd_aload_n, xd_istore, xd_istore_n, xd_astore, xd_astore_n, xd_lstore, xd_lstore_n, xd_iadd, xd_isub, xd_imul, xd_iand, xd_ior, xd_ishl, xd_ishr, xd_ladd, xd_lsub, xd_lmul, xd_land, xd_lor, xd_idiv, xd_irem, xd_ldiv, xd_lrem, xd_ineg, xd_lneg, xd_lshl, xd_lshr, xd_lcmp, xd_i2l, xd_l2i, xd_dup_int, xd_dup_ref, xd_pop, xd_dup2, xd_goto, xd_ifC, xd_ifI, xd_getf, xd_putI, xd_putR, xd_iald, xd_ialdX, xd_bald, xd_iast, xd_bast, xd_aald, xd_aast, xd_alen, xd_alenX, xd_newI, xd_newZ, xd_newQ, xd_newO, xd_invS, xd_invV, xd_invI, xd_iret, xd_lret, xd_vret, xd_ldc, xd_ldc2, xd_iinc, xd_aret, xd_tsw, xd_lsw, xC_d, xld, xisI, xisL, xisA, xgo_ite, xjp, xcmp, xrt, xinv, xcall, xpop, xcat, xgf, xal, xas, xpf, xle, xaq, xbite, xbite2, xsto, xsto2, xst1, xst2, xkl, xtt, xnum, xi0, xzf, v3, List.getElem?_cons_zero, List.getElem?_cons_succ, List.set_cons_zero, List.set_cons_succ, d120_0, d120_1, d120_4, d120_5, d120_8, d120_10, d120_13, d120_14, d120_17, d120_19, d120_22, d120_23, d120_25, d120_27, d120_30, d120_31, d120_33, d120_35, d120_38, d120_39, d120_42, d120_44, d120_47, d120_48, d120_51, d120_53, d120_56, d120_57, d120_58, d120_60, d120_63, d120_64, d120_65, d120_66, d120_68, d120_71, d120_72, d120_75, d120_76, d120_77, d120_78, d120_79, d120_82, d120_84, d120_85, d120_86, d120_87, d120_88, d120_91, d120_92, d120_95, d120_96, d120_97, d120_98, d120_101, d120_103, d120_104, d120_105, d120_106, d120_107, d120_108, d120_111, d120_113, d120_114, d120_115, d120_117, d120_118, d120_119, d120_120, d120_123, d120_126, d120_127, d120_130, d120_131, d120_134, wo120, wm120, wr120, wi120, f9_13, f9_16, f9_19, f9_22, f9_25, f9_28, f9_7, m9_1, m9_32, m9_35, qf120, ql120, r120_121, r120_127, wm121, wm127, wo121, wo127, b16_331, b16_589, b16_720, b8_10, b8_16, b8_24, b8_60, b8_8, m0, m1, m2, m3, m4, m5, m6, m7, p78, p79, p80, p81, p82, p83, p84, p85, r78, r79, r80, r81, r82, r83, r84, r85, zb_0, zc_0, zb_8, zc_8, zb_16, zc_16, zb_24, zc_24, hi, hi2, g1, nI_1, g, g']
  · have g' : nI i ≤ 3 := Int32.not_lt.mp g
    simp [xent, xsl, Value.category, xr_d, xr_0, xg_nx, xg_n, xg_o, xg_c, xth_s, xth_v, xth_ite, xth_n, xd_iconst, xd_bipush, xd_sipush, xd_lconst, xd_iload, xd_iload_n, xd_lload, xd_lload_n, xd_aload, xd_aload_n, xd_istore, xd_istore_n, xd_astore, xd_astore_n, xd_lstore, xd_lstore_n, xd_iadd, xd_isub, xd_imul, xd_iand, xd_ior, xd_ishl, xd_ishr, xd_ladd, xd_lsub, xd_lmul, xd_land, xd_lor, xd_idiv, xd_irem, xd_ldiv, xd_lrem, xd_ineg, xd_lneg, xd_lshl, xd_lshr, xd_lcmp, xd_i2l, xd_l2i, xd_dup_int, xd_dup_ref, xd_pop, xd_dup2, xd_goto, xd_ifC, xd_ifI, xd_getf, xd_putI, xd_putR, xd_iald, xd_ialdX, xd_bald, xd_iast, xd_bast, xd_aald, xd_aast, xd_alen, xd_alenX, xd_newI, xd_newZ, xd_newQ, xd_newO, xd_invS, xd_invV, xd_invI, xd_iret, xd_lret, xd_vret, xd_ldc, xd_ldc2, xd_iinc, xd_aret, xd_tsw, xd_lsw, xC_d, xld, xisI, xisL, xisA, xgo_ite, xjp, xcmp, xrt, xinv, xcall, xpop, xcat, xgf, xal, xas, xpf, xle, xaq, xbite, xbite2, xsto, xsto2, xst1, xst2, xkl, xtt, xnum, xi0, xzf, v3, List.getElem?_cons_zero, List.getElem?_cons_succ, List.set_cons_zero, List.set_cons_succ, d120_0, d120_1, d120_4, d120_5, d120_8, d120_10, d120_13, d120_14, d120_17, d120_19, d120_22, d120_23, d120_25, d120_27, d120_30, d120_31, d120_33, d120_35, d120_38, d120_39, d120_42, d120_44, d120_47, d120_48, d120_51, d120_53, d120_56, d120_57, d120_58, d120_60, d120_63, d120_64, d120_65, d120_66, d120_68, d120_71, d120_72, d120_75, d120_76, d120_77, d120_78, d120_79, d120_82, d120_84, d120_85, d120_86, d120_87, d120_88, d120_91, d120_92, d120_95, d120_96, d120_97, d120_98, d120_101, d120_103, d120_104, d120_105, d120_106, d120_107, d120_108, d120_111, d120_113, d120_114, d120_115, d120_117, d120_118, d120_119, d120_120, d120_123, d120_126, d120_127, d120_130, d120_131, d120_134, wo120, wm120, wr120, wi120, f9_13, f9_16, f9_19, f9_22, f9_25, f9_28, f9_7, m9_1, m9_32, m9_35, qf120, ql120, r120_121, r120_127, wm121, wm127, wo121, wo127, b16_331, b16_589, b16_720, b8_10, b8_16, b8_24, b8_60, b8_8, m0, m1, m2, m3, m4, m5, m6, m7, p78, p79, p80, p81, p82, p83, p84, p85, r78, r79, r80, r81, r82, r83, r84, r85, zb_0, zc_0, zb_8, zc_8, zb_16, zc_16, zb_24, zc_24, hi, hi2, g1, nI_1, g, g']
set_option maxRecDepth 100000 in
set_option maxHeartbeats 4000000 in
theorem x120 (X : xX) (sh : List (Nat × Nat × List Value)) (σ M : Nat → Nat → Int32) (hm : xmod sh) (M1 M2 : Nat → Nat → Int32) (q1 : xK X 121 [.ref 78] (sh, xput 8 σ 78 M) = some (none, (sh, xput 8 σ 78 (M1)))) (q2 : xK X 127 [.ref 78] (sh, xput 8 σ 78 (M1)) = some (none, (sh, xput 8 σ 78 (M2)))) : xV X 120 (65, [.ref 78, .int (nI 8)], [], (sh, xput 8 σ 78 M)) = some (none, (sh, xput 8 σ 78 (M2))) := by
  have hM := hm
  obtain ⟨m0, m1, m2, m3, m4, m5, m6, m7⟩ := hm
  have g1 : 8 ≤ nI 8 := nI_le' (a := 8) (b := 8) (by omega) (by omega)
  rw [xV_d X 120 [65] 60]
  simp [xent, xsl, Value.category, xr_d, xr_0, xg_nx, xg_n, xg_o, xg_c, xth_s, xth_v, xth_ite, xth_n, xd_iconst, xd_bipush, xd_sipush, xd_lconst, xd_iload, xd_iload_n, xd_lload, xd_lload_n, xd_aload, xd_aload_n, xd_istore, xd_istore_n, xd_astore, xd_astore_n, xd_lstore, xd_lstore_n, xd_iadd, xd_isub, xd_imul, xd_iand, xd_ior, xd_ishl, xd_ishr, xd_ladd, xd_lsub, xd_lmul, xd_land, xd_lor, xd_idiv, xd_irem, xd_ldiv, xd_lrem, xd_ineg, xd_lneg, xd_lshl, xd_lshr, xd_lcmp, xd_i2l, xd_l2i, xd_dup_int, xd_dup_ref, xd_pop, xd_dup2, xd_goto, xd_ifC, xd_ifI, xd_getf, xd_putI, xd_putR, xd_iald, xd_ialdX, xd_bald, xd_iast, xd_bast, xd_aald, xd_aast, xd_alen, xd_alenX, xd_newI, xd_newZ, xd_newQ, xd_newO, xd_invS, xd_invV, xd_invI, xd_iret, xd_lret, xd_vret, xd_ldc, xd_ldc2, xd_iinc, xd_aret, xd_tsw, xd_lsw, xC_d, xld, xisI, xisL, xisA, xgo_ite, xjp, xcmp, xrt, xinv, xcall, xpop, xcat, xgf, xal, xas, xpf, xle, xaq, xbite, xbite2, xsto, xsto2, xst1, xst2, xkl, xtt, xnum, xi0, xzf, v3, List.getElem?_cons_zero, List.getElem?_cons_succ, List.set_cons_zero, List.set_cons_succ, d120_0, d120_1, d120_4, d120_5, d120_8, d120_10, d120_13, d120_14, d120_17, d120_19, d120_22, d120_23, d120_25, d120_27, d120_30, d120_31, d120_33, d120_35, d120_38, d120_39, d120_42, d120_44, d120_47, d120_48, d120_51, d120_53, d120_56, d120_57, d120_58, d120_60, d120_63, d120_64, d120_65, d120_66, d120_68, d120_71, d120_72, d120_75, d120_76, d120_77, d120_78, d120_79, d120_82, d120_84, d120_85, d120_86, d120_87, d120_88, d120_91, d120_92, d120_95, d120_96, d120_97, d120_98, d120_101, d120_103, d120_104, d120_105, d120_106, d120_107, d120_108, d120_111, d120_113, d120_114, d120_115, d120_117, d120_118, d120_119, d120_120, d120_123, d120_126, d120_127, d120_130, d120_131, d120_134, wo120, wm120, wr120, wi120, f9_13, f9_16, f9_19, f9_22, f9_25, f9_28, f9_7, m9_1, m9_32, m9_35, qf120, ql120, r120_121, r120_127, wm121, wm127, wo121, wo127, b16_331, b16_589, b16_720, b8_10, b8_16, b8_24, b8_60, b8_8, m0, m1, m2, m3, m4, m5, m6, m7, p78, p79, p80, p81, p82, p83, p84, p85, r78, r79, r80, r81, r82, r83, r84, r85, g1, q1, q2]
theorem l120 (X : xX) (sh : List (Nat × Nat × List Value)) (σ : Nat → Nat → Int32) (hm : xmod sh) : ∀ d i M, i + d = 8 → xV X 120 (65, [.ref 78, .int (nI i)], [], (sh, xput 8 σ 78 M)) = some (none, (sh, xput 8 σ 78 (rKeep (rAnew (mIl d i M)))))
  | 0, i, M, h => by
    have e : i = 8 := by omega
    subst e
    exact x120 X sh σ M hm _ _ (k121 X sh σ M hm) (k127 X sh σ _ hm)
  | d + 1, i, M, h => by
    rw [i120 X sh σ M hm i (by omega), l120 X sh σ hm d (i + 1) _ (by omega), mIl]
def xshM : List (Nat × Nat × List Value) := xshK ++ modC 78
theorem xmod_M : xmod xshM := ⟨rfl, rfl, rfl, rfl, rfl, rfl, rfl, rfl⟩
theorem xcup_a {sh : List (Nat × Nat × List Value)} {c : Nat} (pre post : List (Nat × Nat × List Value)) (hp : pre.length = c) (h : sh = pre ++ (cupC c ++ post)) : xcup sh c := by
  rw [h]
  exact xcup_C hp
theorem xkin_M : xkin xshM := by
  have c1 : xcup xshM 1 := ⟨rfl, rfl, rfl, rfl, rfl, rfl, rfl, rfl, rfl, rfl, rfl, rfl, rfl, rfl⟩
  have c22 : xcup xshM 22 := ⟨rfl, rfl, rfl, rfl, rfl, rfl, rfl, rfl, rfl, rfl, rfl, rfl, rfl, rfl⟩
  have c41 : xcup xshM 41 := ⟨rfl, rfl, rfl, rfl, rfl, rfl, rfl, rfl, rfl, rfl, rfl, rfl, rfl, rfl⟩
  have c60 : xcup xshM 60 := ⟨rfl, rfl, rfl, rfl, rfl, rfl, rfl, rfl, rfl, rfl, rfl, rfl, rfl, rfl⟩
  have s55 : xsig xshM 55 := ⟨rfl, rfl, rfl, rfl⟩
  have s74 : xsig xshM 74 := ⟨rfl, rfl, rfl, rfl⟩
  have s17 : xsig xshM 17 := ⟨rfl, rfl, rfl, rfl⟩
  exact ⟨rfl, ⟨c1, c22, ⟨rfl, rfl⟩, rfl⟩, ⟨rfl, rfl, rfl, s17⟩, rfl, ⟨rfl, c41, s55⟩, ⟨rfl, c60, s74⟩⟩
def sMod (σ : Nat → Nat → Int32) : Nat → Nat → Int32 := xput 8 σ 78 (rKeep (rAnew (mIl 8 0 (mZr (xget σ 78)))))
theorem e120 (X : xX) (σ : Nat → Nat → Int32) : xK X 120 [.ref 78] (xshK ++ [(12, 20, [.null, .null, .int 0, .null, .int 0, .null, .int 0, .int 0, .int 0, .int 0, .int 0, .int 0, .int 0, .int 0, .int 0, .int 0, .int 0, .null, .null, .null])], σ) = some (none, (xshM, sMod σ)) := by
  have e := h120 X xshK σ (xget σ 78) 78 xshK_l
  rw [xput_get] at e
  have el := l120 X xshM σ xmod_M 8 0 (mZr (xget σ 78)) (by omega)
  rw [nI_0] at el
  rw [e]
  exact el
