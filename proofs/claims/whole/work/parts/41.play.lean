def xreh (sh : List (Nat × Nat × List Value)) : Prop := xcup sh 1 ∧ xcup sh 22 ∧ xpad sh ∧ sh[21]? = some (7, 4, [.ref 22, .int 0, .int 0, .int 0])
theorem xput_upo {w : Nat} {σ : Nat → Nat → Int32} {c : Nat} {A : Nat → Nat → Int32} {a j : Nat} {v : Int32} (h : a < c ∨ c + w ≤ a) : xup (xput w σ c A) a j v = xput w (xup σ a j v) c A := by
  funext x y
  unfold xup xput
  by_cases h1 : c ≤ x ∧ x < c + w
  · rw [if_pos h1, if_pos h1, if_neg (by omega)]
  · rw [if_neg h1, if_neg h1]
def uRh (σ : Nat → Nat → Int32) (a b c : Int32) : Nat → Nat → Int32 := xup (xup (xup σ 21 1 a) 21 2 b) 21 3 c
theorem uRh_1 (σ : Nat → Nat → Int32) (a b c v : Int32) : xup (uRh σ a b c) 21 1 v = uRh σ v b c := by
  funext x y
  unfold uRh xup
  by_cases hx : x = 21
  · subst hx
    by_cases h1 : y = 1
    · subst h1; simp
    · simp [h1]
  · simp [hx]
theorem uRh_23 (σ : Nat → Nat → Int32) (a b c v w : Int32) : xup (xup (uRh σ a b c) 21 2 v) 21 3 w = uRh σ a v w := by
  funext x y
  unfold uRh xup
  by_cases hx : x = 21
  · subst hx
    by_cases h1 : y = 2
    · subst h1; simp
    · by_cases h3 : y = 3
      · subst h3; simp
      · simp [h1, h3]
  · simp [hx]
theorem uRh_a1 (σ : Nat → Nat → Int32) (a b c : Int32) : uRh σ a b c 21 1 = a := by simp [uRh, xup]
theorem uRh_o {σ : Nat → Nat → Int32} {a b c : Int32} {x y : Nat} (h : ¬ x = 21) : uRh σ a b c x y = σ x y := by simp [uRh, xup, h]
theorem vSign_c {σ τ : Nat → Nat → Int32} (h15 : τ 15 1 = σ 15 1) (h16 : ∀ b, τ 16 b = σ 16 b) (i : Int32) : vSign τ i = vSign σ i := by
  unfold vSign vIn
  rw [h15, h16]
theorem vDeed_c {σ τ : Nat → Nat → Int32} (h15 : τ 15 1 = σ 15 1) (h16 : ∀ b, τ 16 b = σ 16 b) (i : Int32) : vDeed τ i = vDeed σ i := by
  unfold vDeed
  rw [vSign_c h15 h16, vSign_c h15 h16]
theorem vLen_c {σ τ : Nat → Nat → Int32} (h15 : τ 15 1 = σ 15 1) (h16 : ∀ b, τ 16 b = σ 16 b) (i : Int32) : vLen τ i = vLen σ i := by
  unfold vLen
  rw [vDeed_c h15 h16]
theorem vFA_c {σ τ : Nat → Nat → Int32} (h15 : τ 15 1 = σ 15 1) (h16 : ∀ b, τ 16 b = σ 16 b) (i : Int32) : vFA τ i = vFA σ i := by
  unfold vFA vLet
  rw [vSign_c h15 h16, vSign_c h15 h16, vSign_c h15 h16]
theorem vFF_c {σ τ : Nat → Nat → Int32} (h15 : τ 15 1 = σ 15 1) (h16 : ∀ b, τ 16 b = σ 16 b) : ∀ (f : Nat) (i : Int32), vFF τ f i = vFF σ f i
  | 0, _ => rfl
  | f + 1, i => by rw [vFF, vFF, h15, vFA_c h15 h16, vLen_c h15 h16, vFF_c h15 h16 f]
theorem uWF_clr (A : Nat → Nat → Int32) : uWF (uClr A) := ⟨0, by omega, by simp [uClr, xup, nI_0], fun k hk => by omega⟩
theorem uWF_an {s : Int32} : ∀ (m : Nat) (A : Nat → Nat → Int32), uWF A → uWF (uAn s m A)
  | 0, A, h => h
  | m + 1, A, h => uWF_an m _ (uWF_dec h)
theorem uWF_anew (A : Nat → Nat → Int32) : uWF (uAnew A) := uWF_an _ _ (uWF_clr A)
theorem uWF_perf {A : Nat → Nat → Int32} {act d r s : Int32} (h : uWF A) : uWF (uPerf A act d r s) := by
  unfold uPerf
  split
  · exact uWF_of (A := uLp (A 0 8 + 1) act 1000 A) (by simp [xup]) (fun b => by simp [xup]) (uWF_lp 1000 A h)
  · exact uWF_anew _
def uTc (A : Nat → Nat → Int32) : Nat → Nat → Int32 := xup (xup (xup (xup (xup A 13 0 0) 13 1 0) 13 2 0) 13 3 (-6)) 13 4 (-6)
def uBeg (A B : Nat → Nat → Int32) : Nat → Nat → Int32 := uTc (uCpy A B)
theorem uWF_beg {A B : Nat → Nat → Int32} (h : uWF B) : uWF (uBeg A B) := by
  obtain ⟨n, h1, h2, h3⟩ := h
  refine ⟨n, h1, ?_, fun k hk => ?_⟩
  · simp [uBeg, uTc, xup, uCpy, h2]
  · have hk32 : k < 32 := by omega
    obtain ⟨m, a, b, e⟩ := h3 k hk
    exact ⟨m, a, b, by simp [uBeg, uTc, xup, uCpy, hk32, e]⟩
set_option maxRecDepth 100000 in
set_option maxHeartbeats 4000000 in
theorem k63 (X : xX) (sh : List (Nat × Nat × List Value)) (σ A : Nat → Nat → Int32) (hr : xreh sh) : xK X 63 [.ref 21, .ref 1] (sh, xput 14 σ 22 A) = some (none, (sh, xput 14 (uRh σ 0 (-6) (-6)) 22 (uBeg A (xget σ 1)))) := by
  have hR := hr
  obtain ⟨c1, c22, pd, r0⟩ := hr
  have s22 := c22.1
  have s35 := c22.2.2.2.2.2.2.2.2.2.2.2.2.2
  have s15 := pd.1
  have s1 := c1.1
  have e14 := k14 X sh σ A 22 1 c22 c1 (by omega)
  have e15 := k15 X sh σ (uCpy A (xget σ 1)) 22 c22
  have e84 := k84 X sh σ (uCpy A (xget σ 1)) 22 c22
  rw [xK_d X 63 _ _ [] 40]
  simp [xent, xsl, Value.category, xr_d, xr_0, xg_nx, xg_n, xg_o, xg_c, xth_s, xth_v, xth_ite, xth_n, xd_iconst, xd_bipush, xd_sipush, xd_lconst, xd_iload, xd_iload_n, xd_lload, xd_lload_n, xd_aload, xd_aload_n, xd_istore, xd_istore_n, xd_astore, xd_astore_n, xd_lstore, xd_lstore_n, xd_iadd, xd_isub, xd_imul, xd_iand, xd_ior, xd_ishl, xd_ishr, xd_ladd, xd_lsub, xd_lmul, xd_land, xd_lor, xd_idiv, xd_irem, xd_ldiv, xd_lrem, xd_ineg, xd_lneg, xd_lshl, xd_lshr, xd_lcmp, xd_i2l, xd_l2i, xd_dup_int, xd_dup_ref, xd_pop, xd_dup2, xd_goto, xd_ifC, xd_ifI, xd_getf, xd_putI, xd_putR, xd_iald, xd_ialdX, xd_bald, xd_iast, xd_bast, xd_aald, xd_aast, xd_alen, xd_alenX, xd_newI, xd_newZ, xd_newQ, xd_newO, xd_invS, xd_invV, xd_invI, xd_iret, xd_lret, xd_vret, xd_ldc, xd_ldc2, xd_iinc, xd_aret, xd_tsw, xd_lsw, xC_d, xld, xisI, xisL, xisA, xgo_ite, xjp, xcmp, xrt, xinv, xcall, xpop, xcat, xgf, xal, xas, xpf, xle, xaq, xbite, xbite2, xsto, xsto2, xst1, xst2, xkl, xtt, xnum, xi0, xzf, v3, List.getElem?_cons_zero, List.getElem?_cons_succ, List.set_cons_zero, List.set_cons_succ, d63_0, d63_1, d63_4, d63_5, d63_8, d63_9, d63_12, d63_15, d63_18, d63_19, d63_20, d63_23, d63_24, d63_26, d63_29, d63_30, d63_32, d63_35, wo63, wm63, wr63, f4_12, f4_18, f4_22, f4_25, m4_28, m4_32, m4_36, r63_14, r63_15, r63_84, wm14, wm15, wm84, wo14, wo15, wo84, b8_m6, c1, c22, pd, r0, s22, s35, s15, s1, xput_upo, e14, e15, e84, uBeg, uTc, uRh]
def uPl (σ : Nat → Nat → Int32) : Nat → Int32 → Nat → (Nat → Nat → Int32) → Int32 × Nat × Int32 × Int32 × (Nat → Nat → Int32)
  | 0, _, act, A => (1, act, -6, -6, A)
  | f + 1, i, act, A => if i < σ 15 1 then (if uHin A (vDeed σ i) (vSign σ i - 97) (vSign σ (i + 2) - 97) = 0 then uPl σ f (i + vLen σ i) (act + 1) (uPerf A (nI act) (vDeed σ i) (vSign σ i - 97) (vSign σ (i + 2) - 97)) else (0, act, nI act, uHin A (vDeed σ i) (vSign σ i - 97) (vSign σ (i + 2) - 97), A)) else (1, act, -6, -6, A)
set_option maxRecDepth 100000 in
set_option maxHeartbeats 4000000 in
theorem g62 (X : xX) (sh : List (Nat × Nat × List Value)) (σ A : Nat → Nat → Int32) (hr : xreh sh) (hw : uWF A) (i len d r s wy ln : Int32) (act : Nat) (v5 v6 : Value) (ha : act < 60) (e37 : xK X 37 [.ref 15] (sh, xput 14 (uRh σ (nI act) (-6) (-6)) 22 A) = some (some (.int len), (sh, xput 14 (uRh σ (nI act) (-6) (-6)) 22 A))) (e44 : xK X 44 [.ref 15, .int i] (sh, xput 14 (uRh σ (nI act) (-6) (-6)) 22 A) = some (some (.int d), (sh, xput 14 (uRh σ (nI act) (-6) (-6)) 22 A))) (e45 : xK X 45 [.ref 15, .int i] (sh, xput 14 (uRh σ (nI act) (-6) (-6)) 22 A) = some (some (.int r), (sh, xput 14 (uRh σ (nI act) (-6) (-6)) 22 A))) (e46 : xK X 46 [.ref 15, .int i] (sh, xput 14 (uRh σ (nI act) (-6) (-6)) 22 A) = some (some (.int s), (sh, xput 14 (uRh σ (nI act) (-6) (-6)) 22 A))) (e16 : xK X 16 [.ref 22, .int d, .int r, .int s] (sh, xput 14 (uRh σ (nI act) (-6) (-6)) 22 A) = some (some (.int wy), (sh, xput 14 (uRh σ (nI act) (-6) (-6)) 22 A))) (e43 : ∀ σ' A', xK X 43 [.ref 15, .int i] (sh, xput 14 (uRh σ σ' (-6) (-6)) 22 A') = some (some (.int ln), (sh, xput 14 (uRh σ σ' (-6) (-6)) 22 A'))) (e45' : ∀ A', xK X 45 [.ref 15, .int i] (sh, xput 14 (uRh σ (nI act) (-6) (-6)) 22 A') = some (some (.int r), (sh, xput 14 (uRh σ (nI act) (-6) (-6)) 22 A'))) :
    xV X 62 (21, [.ref 21, .ref 1, .ref 15, .int i, .int (nI act), v5, v6], [], (sh, xput 14 (uRh σ (nI act) (-6) (-6)) 22 A)) = if i < len then (if wy = 0 then xV X 62 (21, [.ref 21, .ref 1, .ref 15, .int (i + ln), .int (nI (act + 1)), .int d, .int wy], [], (sh, xput 14 (uRh σ (nI (act + 1)) (-6) (-6)) 22 (uPerf A (nI act) d r s))) else some (some (.int 0), (sh, xput 14 (uRh σ (nI act) (nI act) wy) 22 A))) else some (some (.int 1), (sh, xput 14 (uRh σ (nI act) (-6) (-6)) 22 A)) := by
  have hR := hr
  obtain ⟨c1, c22, pd, r0⟩ := hr
  have s22 := c22.1
  have s35 := c22.2.2.2.2.2.2.2.2.2.2.2.2.2
  have s15 := pd.1
  have s1 := c1.1
  have g1 : ¬ 60 ≤ nI act := nI_lt' (a := act) (b := 60) ha (by omega)
  have e20 := k20 X sh (uRh σ (nI act) (-6) (-6)) A 22 c22 hw (nI act) d r s
  rw [xV_d X 62 [21] 60]
  by_cases h1 : i < len
  · have h1' : ¬ len ≤ i := Int32.not_le.mpr h1
    by_cases h2 : wy = 0
    · subst h2
      simp [xent, xsl, Value.category, xr_d, xr_0, xg_nx, xg_n, xg_o, xg_c, xth_s, xth_v, xth_ite, xth_n, xd_iconst, xd_bipush, xd_sipush, xd_lconst, xd_iload, xd_iload_n, xd_lload, xd_lload_n, xd_aload, xd_aload_n, xd_istore, xd_istore_n, xd_astore, xd_astore_n, xd_lstore, xd_lstore_n, xd_iadd, xd_isub, xd_imul, xd_iand, xd_ior, xd_ishl, xd_ishr, xd_ladd, xd_lsub, xd_lmul, xd_land, xd_lor, xd_idiv, xd_irem, xd_ldiv, xd_lrem, xd_ineg, xd_lneg, xd_lshl, xd_lshr, xd_lcmp, xd_i2l, xd_l2i, xd_dup_int, xd_dup_ref, xd_pop, xd_dup2, xd_goto, xd_ifC, xd_ifI, xd_getf, xd_putI, xd_putR, xd_iald, xd_ialdX, xd_bald, xd_iast, xd_bast, xd_aald, xd_aast, xd_alen, xd_alenX, xd_newI, xd_newZ, xd_newQ, xd_newO, xd_invS, xd_invV, xd_invI, xd_iret, xd_lret, xd_vret, xd_ldc, xd_ldc2, xd_iinc, xd_aret, xd_tsw, xd_lsw, xC_d, xld, xisI, xisL, xisA, xgo_ite, xjp, xcmp, xrt, xinv, xcall, xpop, xcat, xgf, xal, xas, xpf, xle, xaq, xbite, xbite2, xsto, xsto2, xst1, xst2, xkl, xtt, xnum, xi0, xzf, v3, List.getElem?_cons_zero, List.getElem?_cons_succ, List.set_cons_zero, List.set_cons_succ, d62_0, d62_1, d62_2, d62_5, d62_6, d62_9, d62_11, d62_14, d62_15, d62_16, d62_17, d62_18, d62_19, d62_21, d62_23, d62_25, d62_28, d62_29, d62_30, d62_33, d62_36, d62_37, d62_38, d62_41, d62_43, d62_44, d62_47, d62_49, d62_50, d62_51, d62_54, d62_55, d62_56, d62_59, d62_62, d62_64, d62_66, d62_69, d62_70, d62_72, d62_75, d62_76, d62_78, d62_81, d62_82, d62_83, d62_84, d62_87, d62_89, d62_91, d62_92, d62_93, d62_96, d62_97, d62_98, d62_101, d62_104, d62_105, d62_106, d62_109, d62_110, d62_111, d62_114, d62_115, d62_116, d62_117, d62_120, d62_121, d62_122, d62_125, d62_128, d62_129, wo62, wm62, wr62, f4_12, f4_18, f4_22, f4_25, m4_41, m4_44, m4_50, m4_53, m4_57, m4_60, m4_63, m4_67, m4_71, r62_16, r62_20, r62_37, r62_39, r62_43, r62_44, r62_45, r62_46, r62_63, wm16, wm20, wm37, wm39, wm43, wm44, wm45, wm46, wm63, wo16, wo20, wo37, wo39, wo43, wo44, wo45, wo46, wo63, b8_60, b8_m6, c1, c22, pd, r0, s22, s35, s15, s1, xput_upo, g1, h1, h1', e37, e44, e45, e46, e16, e43, e20, nI_1, uRh_1, uRh_a1, xput_out]
    · simp [xent, xsl, Value.category, xr_d, xr_0, xg_nx, xg_n, xg_o, xg_c, xth_s, xth_v, xth_ite, xth_n, xd_iconst, xd_bipush, xd_sipush, xd_lconst, xd_iload, xd_iload_n, xd_lload, xd_lload_n, xd_aload, xd_aload_n, xd_istore, xd_istore_n, xd_astore, xd_astore_n, xd_lstore, xd_lstore_n, xd_iadd, xd_isub, xd_imul, xd_iand, xd_ior, xd_ishl, xd_ishr, xd_ladd, xd_lsub, xd_lmul, xd_land, xd_lor, xd_idiv, xd_irem, xd_ldiv, xd_lrem, xd_ineg, xd_lneg, xd_lshl, xd_lshr, xd_lcmp, xd_i2l, xd_l2i, xd_dup_int, xd_dup_ref, xd_pop, xd_dup2, xd_goto, xd_ifC, xd_ifI, xd_getf, xd_putI, xd_putR, xd_iald, xd_ialdX, xd_bald, xd_iast, xd_bast, xd_aald, xd_aast, xd_alen, xd_alenX, xd_newI, xd_newZ, xd_newQ, xd_newO, xd_invS, xd_invV, xd_invI, xd_iret, xd_lret, xd_vret, xd_ldc, xd_ldc2, xd_iinc, xd_aret, xd_tsw, xd_lsw, xC_d, xld, xisI, xisL, xisA, xgo_ite, xjp, xcmp, xrt, xinv, xcall, xpop, xcat, xgf, xal, xas, xpf, xle, xaq, xbite, xbite2, xsto, xsto2, xst1, xst2, xkl, xtt, xnum, xi0, xzf, v3, List.getElem?_cons_zero, List.getElem?_cons_succ, List.set_cons_zero, List.set_cons_succ, d62_0, d62_1, d62_2, d62_5, d62_6, d62_9, d62_11, d62_14, d62_15, d62_16, d62_17, d62_18, d62_19, d62_21, d62_23, d62_25, d62_28, d62_29, d62_30, d62_33, d62_36, d62_37, d62_38, d62_41, d62_43, d62_44, d62_47, d62_49, d62_50, d62_51, d62_54, d62_55, d62_56, d62_59, d62_62, d62_64, d62_66, d62_69, d62_70, d62_72, d62_75, d62_76, d62_78, d62_81, d62_82, d62_83, d62_84, d62_87, d62_89, d62_91, d62_92, d62_93, d62_96, d62_97, d62_98, d62_101, d62_104, d62_105, d62_106, d62_109, d62_110, d62_111, d62_114, d62_115, d62_116, d62_117, d62_120, d62_121, d62_122, d62_125, d62_128, d62_129, wo62, wm62, wr62, f4_12, f4_18, f4_22, f4_25, m4_41, m4_44, m4_50, m4_53, m4_57, m4_60, m4_63, m4_67, m4_71, r62_16, r62_20, r62_37, r62_39, r62_43, r62_44, r62_45, r62_46, r62_63, wm16, wm20, wm37, wm39, wm43, wm44, wm45, wm46, wm63, wo16, wo20, wo37, wo39, wo43, wo44, wo45, wo46, wo63, b8_60, b8_m6, c1, c22, pd, r0, s22, s35, s15, s1, xput_upo, g1, h1, h1', h2, e37, e44, e45, e46, e16, uRh_23, xput_out]
  · have h1' : len ≤ i := Int32.not_lt.mp h1
    simp [xent, xsl, Value.category, xr_d, xr_0, xg_nx, xg_n, xg_o, xg_c, xth_s, xth_v, xth_ite, xth_n, xd_iconst, xd_bipush, xd_sipush, xd_lconst, xd_iload, xd_iload_n, xd_lload, xd_lload_n, xd_aload, xd_aload_n, xd_istore, xd_istore_n, xd_astore, xd_astore_n, xd_lstore, xd_lstore_n, xd_iadd, xd_isub, xd_imul, xd_iand, xd_ior, xd_ishl, xd_ishr, xd_ladd, xd_lsub, xd_lmul, xd_land, xd_lor, xd_idiv, xd_irem, xd_ldiv, xd_lrem, xd_ineg, xd_lneg, xd_lshl, xd_lshr, xd_lcmp, xd_i2l, xd_l2i, xd_dup_int, xd_dup_ref, xd_pop, xd_dup2, xd_goto, xd_ifC, xd_ifI, xd_getf, xd_putI, xd_putR, xd_iald, xd_ialdX, xd_bald, xd_iast, xd_bast, xd_aald, xd_aast, xd_alen, xd_alenX, xd_newI, xd_newZ, xd_newQ, xd_newO, xd_invS, xd_invV, xd_invI, xd_iret, xd_lret, xd_vret, xd_ldc, xd_ldc2, xd_iinc, xd_aret, xd_tsw, xd_lsw, xC_d, xld, xisI, xisL, xisA, xgo_ite, xjp, xcmp, xrt, xinv, xcall, xpop, xcat, xgf, xal, xas, xpf, xle, xaq, xbite, xbite2, xsto, xsto2, xst1, xst2, xkl, xtt, xnum, xi0, xzf, v3, List.getElem?_cons_zero, List.getElem?_cons_succ, List.set_cons_zero, List.set_cons_succ, d62_0, d62_1, d62_2, d62_5, d62_6, d62_9, d62_11, d62_14, d62_15, d62_16, d62_17, d62_18, d62_19, d62_21, d62_23, d62_25, d62_28, d62_29, d62_30, d62_33, d62_36, d62_37, d62_38, d62_41, d62_43, d62_44, d62_47, d62_49, d62_50, d62_51, d62_54, d62_55, d62_56, d62_59, d62_62, d62_64, d62_66, d62_69, d62_70, d62_72, d62_75, d62_76, d62_78, d62_81, d62_82, d62_83, d62_84, d62_87, d62_89, d62_91, d62_92, d62_93, d62_96, d62_97, d62_98, d62_101, d62_104, d62_105, d62_106, d62_109, d62_110, d62_111, d62_114, d62_115, d62_116, d62_117, d62_120, d62_121, d62_122, d62_125, d62_128, d62_129, wo62, wm62, wr62, f4_12, f4_18, f4_22, f4_25, m4_41, m4_44, m4_50, m4_53, m4_57, m4_60, m4_63, m4_67, m4_71, r62_16, r62_20, r62_37, r62_39, r62_43, r62_44, r62_45, r62_46, r62_63, wm16, wm20, wm37, wm39, wm43, wm44, wm45, wm46, wm63, wo16, wo20, wo37, wo39, wo43, wo44, wo45, wo46, wo63, b8_60, b8_m6, c1, c22, pd, r0, s22, s35, s15, s1, xput_upo, g1, h1, h1', e37]
theorem i62 (X : xX) (sh : List (Nat × Nat × List Value)) (σ A : Nat → Nat → Int32) (hr : xreh sh) (hw : uWF A) (i : Int32) (act : Nat) (v5 v6 : Value) (ha : act < 60) : xV X 62 (21, [.ref 21, .ref 1, .ref 15, .int i, .int (nI act), v5, v6], [], (sh, xput 14 (uRh σ (nI act) (-6) (-6)) 22 A)) = if i < σ 15 1 then (if uHin A (vDeed σ i) (vSign σ i - 97) (vSign σ (i + 2) - 97) = 0 then xV X 62 (21, [.ref 21, .ref 1, .ref 15, .int (i + vLen σ i), .int (nI (act + 1)), .int (vDeed σ i), .int (uHin A (vDeed σ i) (vSign σ i - 97) (vSign σ (i + 2) - 97))], [], (sh, xput 14 (uRh σ (nI (act + 1)) (-6) (-6)) 22 (uPerf A (nI act) (vDeed σ i) (vSign σ i - 97) (vSign σ (i + 2) - 97)))) else some (some (.int 0), (sh, xput 14 (uRh σ (nI act) (nI act) (uHin A (vDeed σ i) (vSign σ i - 97) (vSign σ (i + 2) - 97))) 22 A))) else some (some (.int 1), (sh, xput 14 (uRh σ (nI act) (-6) (-6)) 22 A)) := by
  have hp := hr.2.2.1
  have hc := hr.2.1
  have h15 : ∀ a B, xput 14 (uRh σ a (-6) (-6)) 22 B 15 1 = σ 15 1 := fun a B => by rw [xput_out (by omega), uRh_o (by omega)]
  have h16 : ∀ a B b, xput 14 (uRh σ a (-6) (-6)) 22 B 16 b = σ 16 b := fun a B b => by rw [xput_out (by omega), uRh_o (by omega)]
  have e37 := k37 X sh (xput 14 (uRh σ (nI act) (-6) (-6)) 22 A) hp
  rw [h15] at e37
  have e44 := k44 X sh (xput 14 (uRh σ (nI act) (-6) (-6)) 22 A) hp i
  rw [vDeed_c (h15 _ _) (h16 _ _)] at e44
  have e45 : ∀ A', xK X 45 [.ref 15, .int i] (sh, xput 14 (uRh σ (nI act) (-6) (-6)) 22 A') = some (some (.int (vSign σ i - 97)), (sh, xput 14 (uRh σ (nI act) (-6) (-6)) 22 A')) := fun A' => by
    have e := k45 X sh (xput 14 (uRh σ (nI act) (-6) (-6)) 22 A') hp i
    rw [vSign_c (h15 _ _) (h16 _ _)] at e
    exact e
  have e46 := k46 X sh (xput 14 (uRh σ (nI act) (-6) (-6)) 22 A) hp i
  rw [vSign_c (h15 _ _) (h16 _ _)] at e46
  have e43 : ∀ σ' A', xK X 43 [.ref 15, .int i] (sh, xput 14 (uRh σ σ' (-6) (-6)) 22 A') = some (some (.int (vLen σ i)), (sh, xput 14 (uRh σ σ' (-6) (-6)) 22 A')) := fun σ' A' => by
    have e := k43 X sh (xput 14 (uRh σ σ' (-6) (-6)) 22 A') hp i
    rw [vLen_c (h15 _ _) (h16 _ _)] at e
    exact e
  exact g62 X sh σ A hr hw i _ _ _ _ _ _ act v5 v6 ha e37 e44 (e45 A) e46 (k16 X sh _ A 22 hc _ _ _) e43 e45
set_option maxRecDepth 100000 in
set_option maxHeartbeats 4000000 in
theorem x62 (X : xX) (sh : List (Nat × Nat × List Value)) (σ A : Nat → Nat → Int32) (hr : xreh sh) (i : Int32) (act : Nat) (v5 v6 : Value) (ha : act = 60) : xV X 62 (21, [.ref 21, .ref 1, .ref 15, .int i, .int (nI act), v5, v6], [], (sh, xput 14 (uRh σ (nI act) (-6) (-6)) 22 A)) = some (some (.int 1), (sh, xput 14 (uRh σ (nI act) (-6) (-6)) 22 A)) := by
  have hR := hr
  obtain ⟨c1, c22, pd, r0⟩ := hr
  have s22 := c22.1
  have s35 := c22.2.2.2.2.2.2.2.2.2.2.2.2.2
  have s15 := pd.1
  have s1 := c1.1
  have g1 : 60 ≤ nI act := nI_le' (a := 60) (b := act) (by omega) (by omega)
  rw [xV_d X 62 [21] 60]
  simp [xent, xsl, Value.category, xr_d, xr_0, xg_nx, xg_n, xg_o, xg_c, xth_s, xth_v, xth_ite, xth_n, xd_iconst, xd_bipush, xd_sipush, xd_lconst, xd_iload, xd_iload_n, xd_lload, xd_lload_n, xd_aload, xd_aload_n, xd_istore, xd_istore_n, xd_astore, xd_astore_n, xd_lstore, xd_lstore_n, xd_iadd, xd_isub, xd_imul, xd_iand, xd_ior, xd_ishl, xd_ishr, xd_ladd, xd_lsub, xd_lmul, xd_land, xd_lor, xd_idiv, xd_irem, xd_ldiv, xd_lrem, xd_ineg, xd_lneg, xd_lshl, xd_lshr, xd_lcmp, xd_i2l, xd_l2i, xd_dup_int, xd_dup_ref, xd_pop, xd_dup2, xd_goto, xd_ifC, xd_ifI, xd_getf, xd_putI, xd_putR, xd_iald, xd_ialdX, xd_bald, xd_iast, xd_bast, xd_aald, xd_aast, xd_alen, xd_alenX, xd_newI, xd_newZ, xd_newQ, xd_newO, xd_invS, xd_invV, xd_invI, xd_iret, xd_lret, xd_vret, xd_ldc, xd_ldc2, xd_iinc, xd_aret, xd_tsw, xd_lsw, xC_d, xld, xisI, xisL, xisA, xgo_ite, xjp, xcmp, xrt, xinv, xcall, xpop, xcat, xgf, xal, xas, xpf, xle, xaq, xbite, xbite2, xsto, xsto2, xst1, xst2, xkl, xtt, xnum, xi0, xzf, v3, List.getElem?_cons_zero, List.getElem?_cons_succ, List.set_cons_zero, List.set_cons_succ, d62_0, d62_1, d62_2, d62_5, d62_6, d62_9, d62_11, d62_14, d62_15, d62_16, d62_17, d62_18, d62_19, d62_21, d62_23, d62_25, d62_28, d62_29, d62_30, d62_33, d62_36, d62_37, d62_38, d62_41, d62_43, d62_44, d62_47, d62_49, d62_50, d62_51, d62_54, d62_55, d62_56, d62_59, d62_62, d62_64, d62_66, d62_69, d62_70, d62_72, d62_75, d62_76, d62_78, d62_81, d62_82, d62_83, d62_84, d62_87, d62_89, d62_91, d62_92, d62_93, d62_96, d62_97, d62_98, d62_101, d62_104, d62_105, d62_106, d62_109, d62_110, d62_111, d62_114, d62_115, d62_116, d62_117, d62_120, d62_121, d62_122, d62_125, d62_128, d62_129, wo62, wm62, wr62, f4_12, f4_18, f4_22, f4_25, m4_41, m4_44, m4_50, m4_53, m4_57, m4_60, m4_63, m4_67, m4_71, r62_16, r62_20, r62_37, r62_39, r62_43, r62_44, r62_45, r62_46, r62_63, wm16, wm20, wm37, wm39, wm43, wm44, wm45, wm46, wm63, wo16, wo20, wo37, wo39, wo43, wo44, wo45, wo46, wo63, b8_60, b8_m6, c1, c22, pd, r0, s22, s35, s15, s1, xput_upo, g1]
theorem l62 (X : xX) (sh : List (Nat × Nat × List Value)) (σ : Nat → Nat → Int32) (hr : xreh sh) : ∀ (d act : Nat) (A : Nat → Nat → Int32) (i : Int32) (v5 v6 : Value), uWF A → act + d = 60 → xV X 62 (21, [.ref 21, .ref 1, .ref 15, .int i, .int (nI act), v5, v6], [], (sh, xput 14 (uRh σ (nI act) (-6) (-6)) 22 A)) = some (some (.int (uPl σ d i act A).1), (sh, xput 14 (uRh σ (nI (uPl σ d i act A).2.1) (uPl σ d i act A).2.2.1 (uPl σ d i act A).2.2.2.1) 22 (uPl σ d i act A).2.2.2.2))
  | 0, act, A, i, v5, v6, hw, h => x62 X sh σ A hr i act v5 v6 (by omega)
  | d + 1, act, A, i, v5, v6, hw, h => by
    rw [i62 X sh σ A hr hw i act v5 v6 (by omega), uPl]
    by_cases h1 : i < σ 15 1
    · rw [if_pos h1, if_pos h1]
      by_cases h2 : uHin A (vDeed σ i) (vSign σ i - 97) (vSign σ (i + 2) - 97) = 0
      · rw [if_pos h2, if_pos h2]
        exact l62 X sh σ hr d (act + 1) _ _ _ _ (uWF_perf hw) (by omega)
      · rw [if_neg h2, if_neg h2]
    · rw [if_neg h1, if_neg h1]
def uPlay (σ A : Nat → Nat → Int32) : Int32 × Nat × Int32 × Int32 × (Nat → Nat → Int32) := if vFF σ 60 0 = -6 then uPl σ 60 0 0 (uBeg A (xget σ 1)) else (0, 0, -6, -6, uBeg A (xget σ 1))
set_option maxRecDepth 100000 in
set_option maxHeartbeats 4000000 in
theorem k62 (X : xX) (sh : List (Nat × Nat × List Value)) (σ A : Nat → Nat → Int32) (hr : xreh sh) (hw : uWF (xget σ 1)) : xK X 62 [.ref 21, .ref 1, .ref 15] (sh, xput 14 σ 22 A) = some (some (.int (uPlay σ A).1), (sh, xput 14 (uRh σ (nI (uPlay σ A).2.1) (uPlay σ A).2.2.1 (uPlay σ A).2.2.2.1) 22 (uPlay σ A).2.2.2.2)) := by
  have hR := hr
  obtain ⟨c1, c22, pd, r0⟩ := hr
  have s22 := c22.1
  have s35 := c22.2.2.2.2.2.2.2.2.2.2.2.2.2
  have s15 := pd.1
  have s1 := c1.1
  have e63 := k63 X sh σ A hR
  have e39 := k39 X sh (xput 14 (uRh σ 0 (-6) (-6)) 22 (uBeg A (xget σ 1))) pd
  rw [vFF_c (σ := σ) (by rw [xput_out (by omega), uRh_o (by omega)]) (fun b => by rw [xput_out (by omega), uRh_o (by omega)])] at e39
  rw [xK_d X 62 _ _ [21] 60]
  by_cases h : vFF σ 60 0 = -6
  · have el := l62 X sh σ hR 60 0 (uBeg A (xget σ 1)) 0 (.float 0) (.float 0) (uWF_beg hw) (by omega)
    rw [nI_0] at el
    rw [uPlay, if_pos h]
    rw [h] at e39
    simp [xent, xsl, Value.category, xr_d, xr_0, xg_nx, xg_n, xg_o, xg_c, xth_s, xth_v, xth_ite, xth_n, xd_iconst, xd_bipush, xd_sipush, xd_lconst, xd_iload, xd_iload_n, xd_lload, xd_lload_n, xd_aload, xd_aload_n, xd_istore, xd_istore_n, xd_astore, xd_astore_n, xd_lstore, xd_lstore_n, xd_iadd, xd_isub, xd_imul, xd_iand, xd_ior, xd_ishl, xd_ishr, xd_ladd, xd_lsub, xd_lmul, xd_land, xd_lor, xd_idiv, xd_irem, xd_ldiv, xd_lrem, xd_ineg, xd_lneg, xd_lshl, xd_lshr, xd_lcmp, xd_i2l, xd_l2i, xd_dup_int, xd_dup_ref, xd_pop, xd_dup2, xd_goto, xd_ifC, xd_ifI, xd_getf, xd_putI, xd_putR, xd_iald, xd_ialdX, xd_bald, xd_iast, xd_bast, xd_aald, xd_aast, xd_alen, xd_alenX, xd_newI, xd_newZ, xd_newQ, xd_newO, xd_invS, xd_invV, xd_invI, xd_iret, xd_lret, xd_vret, xd_ldc, xd_ldc2, xd_iinc, xd_aret, xd_tsw, xd_lsw, xC_d, xld, xisI, xisL, xisA, xgo_ite, xjp, xcmp, xrt, xinv, xcall, xpop, xcat, xgf, xal, xas, xpf, xle, xaq, xbite, xbite2, xsto, xsto2, xst1, xst2, xkl, xtt, xnum, xi0, xzf, v3, List.getElem?_cons_zero, List.getElem?_cons_succ, List.set_cons_zero, List.set_cons_succ, d62_0, d62_1, d62_2, d62_5, d62_6, d62_9, d62_11, d62_14, d62_15, d62_16, d62_17, d62_18, d62_19, d62_21, d62_23, d62_25, d62_28, d62_29, d62_30, d62_33, d62_36, d62_37, d62_38, d62_41, d62_43, d62_44, d62_47, d62_49, d62_50, d62_51, d62_54, d62_55, d62_56, d62_59, d62_62, d62_64, d62_66, d62_69, d62_70, d62_72, d62_75, d62_76, d62_78, d62_81, d62_82, d62_83, d62_84, d62_87, d62_89, d62_91, d62_92, d62_93, d62_96, d62_97, d62_98, d62_101, d62_104, d62_105, d62_106, d62_109, d62_110, d62_111, d62_114, d62_115, d62_116, d62_117, d62_120, d62_121, d62_122, d62_125, d62_128, d62_129, wo62, wm62, wr62, f4_12, f4_18, f4_22, f4_25, m4_41, m4_44, m4_50, m4_53, m4_57, m4_60, m4_63, m4_67, m4_71, r62_16, r62_20, r62_37, r62_39, r62_43, r62_44, r62_45, r62_46, r62_63, wm16, wm20, wm37, wm39, wm43, wm44, wm45, wm46, wm63, wo16, wo20, wo37, wo39, wo43, wo44, wo45, wo46, wo63, b8_60, b8_m6, c1, c22, pd, r0, s22, s35, s15, s1, xput_upo, e63, e39, el]
  · rw [uPlay, if_neg h]
    simp [xent, xsl, Value.category, xr_d, xr_0, xg_nx, xg_n, xg_o, xg_c, xth_s, xth_v, xth_ite, xth_n, xd_iconst, xd_bipush, xd_sipush, xd_lconst, xd_iload, xd_iload_n, xd_lload, xd_lload_n, xd_aload, xd_aload_n, xd_istore, xd_istore_n, xd_astore, xd_astore_n, xd_lstore, xd_lstore_n, xd_iadd, xd_isub, xd_imul, xd_iand, xd_ior, xd_ishl, xd_ishr, xd_ladd, xd_lsub, xd_lmul, xd_land, xd_lor, xd_idiv, xd_irem, xd_ldiv, xd_lrem, xd_ineg, xd_lneg, xd_lshl, xd_lshr, xd_lcmp, xd_i2l, xd_l2i, xd_dup_int, xd_dup_ref, xd_pop, xd_dup2, xd_goto, xd_ifC, xd_ifI, xd_getf, xd_putI, xd_putR, xd_iald, xd_ialdX, xd_bald, xd_iast, xd_bast, xd_aald, xd_aast, xd_alen, xd_alenX, xd_newI, xd_newZ, xd_newQ, xd_newO, xd_invS, xd_invV, xd_invI, xd_iret, xd_lret, xd_vret, xd_ldc, xd_ldc2, xd_iinc, xd_aret, xd_tsw, xd_lsw, xC_d, xld, xisI, xisL, xisA, xgo_ite, xjp, xcmp, xrt, xinv, xcall, xpop, xcat, xgf, xal, xas, xpf, xle, xaq, xbite, xbite2, xsto, xsto2, xst1, xst2, xkl, xtt, xnum, xi0, xzf, v3, List.getElem?_cons_zero, List.getElem?_cons_succ, List.set_cons_zero, List.set_cons_succ, d62_0, d62_1, d62_2, d62_5, d62_6, d62_9, d62_11, d62_14, d62_15, d62_16, d62_17, d62_18, d62_19, d62_21, d62_23, d62_25, d62_28, d62_29, d62_30, d62_33, d62_36, d62_37, d62_38, d62_41, d62_43, d62_44, d62_47, d62_49, d62_50, d62_51, d62_54, d62_55, d62_56, d62_59, d62_62, d62_64, d62_66, d62_69, d62_70, d62_72, d62_75, d62_76, d62_78, d62_81, d62_82, d62_83, d62_84, d62_87, d62_89, d62_91, d62_92, d62_93, d62_96, d62_97, d62_98, d62_101, d62_104, d62_105, d62_106, d62_109, d62_110, d62_111, d62_114, d62_115, d62_116, d62_117, d62_120, d62_121, d62_122, d62_125, d62_128, d62_129, wo62, wm62, wr62, f4_12, f4_18, f4_22, f4_25, m4_41, m4_44, m4_50, m4_53, m4_57, m4_60, m4_63, m4_67, m4_71, r62_16, r62_20, r62_37, r62_39, r62_43, r62_44, r62_45, r62_46, r62_63, wm16, wm20, wm37, wm39, wm43, wm44, wm45, wm46, wm63, wo16, wo20, wo37, wo39, wo43, wo44, wo45, wo46, wo63, b8_60, b8_m6, c1, c22, pd, r0, s22, s35, s15, s1, xput_upo, e63, e39, h, nI_0]
set_option maxRecDepth 100000 in
set_option maxHeartbeats 4000000 in
theorem k64 (X : xX) (sh : List (Nat × Nat × List Value)) (σ : Nat → Nat → Int32) (hr : xreh sh) : xK X 64 [.ref 21] (sh, σ) = some (some (.int (σ 21 2)), (sh, σ)) := by
  obtain ⟨c1, c22, pd, r0⟩ := hr
  rw [xK_d X 64 _ _ [] 20]
  simp [xent, xsl, Value.category, xr_d, xr_0, xg_nx, xg_n, xg_o, xg_c, xth_s, xth_v, xth_ite, xth_n, xd_iconst, xd_bipush, xd_sipush, xd_lconst, xd_iload, xd_iload_n, xd_lload, xd_lload_n, xd_aload, xd_aload_n, xd_istore, xd_istore_n, xd_astore, xd_astore_n, xd_lstore, xd_lstore_n, xd_iadd, xd_isub, xd_imul, xd_iand, xd_ior, xd_ishl, xd_ishr, xd_ladd, xd_lsub, xd_lmul, xd_land, xd_lor, xd_idiv, xd_irem, xd_ldiv, xd_lrem, xd_ineg, xd_lneg, xd_lshl, xd_lshr, xd_lcmp, xd_i2l, xd_l2i, xd_dup_int, xd_dup_ref, xd_pop, xd_dup2, xd_goto, xd_ifC, xd_ifI, xd_getf, xd_putI, xd_putR, xd_iald, xd_ialdX, xd_bald, xd_iast, xd_bast, xd_aald, xd_aast, xd_alen, xd_alenX, xd_newI, xd_newZ, xd_newQ, xd_newO, xd_invS, xd_invV, xd_invI, xd_iret, xd_lret, xd_vret, xd_ldc, xd_ldc2, xd_iinc, xd_aret, xd_tsw, xd_lsw, xC_d, xld, xisI, xisL, xisA, xgo_ite, xjp, xcmp, xrt, xinv, xcall, xpop, xcat, xgf, xal, xas, xpf, xle, xaq, xbite, xbite2, xsto, xsto2, xst1, xst2, xkl, xtt, xnum, xi0, xzf, v3, List.getElem?_cons_zero, List.getElem?_cons_succ, List.set_cons_zero, List.set_cons_succ, d64_0, d64_1, d64_4, wo64, wm64, wr64, f4_22, r0]
set_option maxRecDepth 100000 in
set_option maxHeartbeats 4000000 in
theorem k65 (X : xX) (sh : List (Nat × Nat × List Value)) (σ : Nat → Nat → Int32) (hr : xreh sh) : xK X 65 [.ref 21] (sh, σ) = some (some (.int (σ 21 3)), (sh, σ)) := by
  obtain ⟨c1, c22, pd, r0⟩ := hr
  rw [xK_d X 65 _ _ [] 20]
  simp [xent, xsl, Value.category, xr_d, xr_0, xg_nx, xg_n, xg_o, xg_c, xth_s, xth_v, xth_ite, xth_n, xd_iconst, xd_bipush, xd_sipush, xd_lconst, xd_iload, xd_iload_n, xd_lload, xd_lload_n, xd_aload, xd_aload_n, xd_istore, xd_istore_n, xd_astore, xd_astore_n, xd_lstore, xd_lstore_n, xd_iadd, xd_isub, xd_imul, xd_iand, xd_ior, xd_ishl, xd_ishr, xd_ladd, xd_lsub, xd_lmul, xd_land, xd_lor, xd_idiv, xd_irem, xd_ldiv, xd_lrem, xd_ineg, xd_lneg, xd_lshl, xd_lshr, xd_lcmp, xd_i2l, xd_l2i, xd_dup_int, xd_dup_ref, xd_pop, xd_dup2, xd_goto, xd_ifC, xd_ifI, xd_getf, xd_putI, xd_putR, xd_iald, xd_ialdX, xd_bald, xd_iast, xd_bast, xd_aald, xd_aast, xd_alen, xd_alenX, xd_newI, xd_newZ, xd_newQ, xd_newO, xd_invS, xd_invV, xd_invI, xd_iret, xd_lret, xd_vret, xd_ldc, xd_ldc2, xd_iinc, xd_aret, xd_tsw, xd_lsw, xC_d, xld, xisI, xisL, xisA, xgo_ite, xjp, xcmp, xrt, xinv, xcall, xpop, xcat, xgf, xal, xas, xpf, xle, xaq, xbite, xbite2, xsto, xsto2, xst1, xst2, xkl, xtt, xnum, xi0, xzf, v3, List.getElem?_cons_zero, List.getElem?_cons_succ, List.set_cons_zero, List.set_cons_succ, d65_0, d65_1, d65_4, wo65, wm65, wr65, f4_25, r0]
set_option maxRecDepth 100000 in
set_option maxHeartbeats 4000000 in
theorem k67 (X : xX) (sh : List (Nat × Nat × List Value)) (σ : Nat → Nat → Int32) (hr : xreh sh) : xK X 67 [.ref 21] (sh, σ) = some (some (.int (σ 21 1)), (sh, σ)) := by
  obtain ⟨c1, c22, pd, r0⟩ := hr
  rw [xK_d X 67 _ _ [] 20]
  simp [xent, xsl, Value.category, xr_d, xr_0, xg_nx, xg_n, xg_o, xg_c, xth_s, xth_v, xth_ite, xth_n, xd_iconst, xd_bipush, xd_sipush, xd_lconst, xd_iload, xd_iload_n, xd_lload, xd_lload_n, xd_aload, xd_aload_n, xd_istore, xd_istore_n, xd_astore, xd_astore_n, xd_lstore, xd_lstore_n, xd_iadd, xd_isub, xd_imul, xd_iand, xd_ior, xd_ishl, xd_ishr, xd_ladd, xd_lsub, xd_lmul, xd_land, xd_lor, xd_idiv, xd_irem, xd_ldiv, xd_lrem, xd_ineg, xd_lneg, xd_lshl, xd_lshr, xd_lcmp, xd_i2l, xd_l2i, xd_dup_int, xd_dup_ref, xd_pop, xd_dup2, xd_goto, xd_ifC, xd_ifI, xd_getf, xd_putI, xd_putR, xd_iald, xd_ialdX, xd_bald, xd_iast, xd_bast, xd_aald, xd_aast, xd_alen, xd_alenX, xd_newI, xd_newZ, xd_newQ, xd_newO, xd_invS, xd_invV, xd_invI, xd_iret, xd_lret, xd_vret, xd_ldc, xd_ldc2, xd_iinc, xd_aret, xd_tsw, xd_lsw, xC_d, xld, xisI, xisL, xisA, xgo_ite, xjp, xcmp, xrt, xinv, xcall, xpop, xcat, xgf, xal, xas, xpf, xle, xaq, xbite, xbite2, xsto, xsto2, xst1, xst2, xkl, xtt, xnum, xi0, xzf, v3, List.getElem?_cons_zero, List.getElem?_cons_succ, List.set_cons_zero, List.set_cons_succ, d67_0, d67_1, d67_4, wo67, wm67, wr67, f4_18, r0]
set_option maxRecDepth 100000 in
set_option maxHeartbeats 4000000 in
theorem k66 (X : xX) (sh : List (Nat × Nat × List Value)) (σ : Nat → Nat → Int32) (hr : xreh sh) : xK X 66 [.ref 21] (sh, σ) = some (some (.ref 22), (sh, σ)) := by
  obtain ⟨c1, c22, pd, r0⟩ := hr
  rw [xK_d X 66 _ _ [] 20]
  simp [xent, xsl, Value.category, xr_d, xr_0, xg_nx, xg_n, xg_o, xg_c, xth_s, xth_v, xth_ite, xth_n, xd_iconst, xd_bipush, xd_sipush, xd_lconst, xd_iload, xd_iload_n, xd_lload, xd_lload_n, xd_aload, xd_aload_n, xd_istore, xd_istore_n, xd_astore, xd_astore_n, xd_lstore, xd_lstore_n, xd_iadd, xd_isub, xd_imul, xd_iand, xd_ior, xd_ishl, xd_ishr, xd_ladd, xd_lsub, xd_lmul, xd_land, xd_lor, xd_idiv, xd_irem, xd_ldiv, xd_lrem, xd_ineg, xd_lneg, xd_lshl, xd_lshr, xd_lcmp, xd_i2l, xd_l2i, xd_dup_int, xd_dup_ref, xd_pop, xd_dup2, xd_goto, xd_ifC, xd_ifI, xd_getf, xd_putI, xd_putR, xd_iald, xd_ialdX, xd_bald, xd_iast, xd_bast, xd_aald, xd_aast, xd_alen, xd_alenX, xd_newI, xd_newZ, xd_newQ, xd_newO, xd_invS, xd_invV, xd_invI, xd_iret, xd_lret, xd_vret, xd_ldc, xd_ldc2, xd_iinc, xd_aret, xd_tsw, xd_lsw, xC_d, xld, xisI, xisL, xisA, xgo_ite, xjp, xcmp, xrt, xinv, xcall, xpop, xcat, xgf, xal, xas, xpf, xle, xaq, xbite, xbite2, xsto, xsto2, xst1, xst2, xkl, xtt, xnum, xi0, xzf, v3, List.getElem?_cons_zero, List.getElem?_cons_succ, List.set_cons_zero, List.set_cons_succ, d66_0, d66_1, d66_4, wo66, wm66, wr66, f4_12, r0]
