theorem xV_d (X : xX) (id : Nat) (stops : List Nat) (n pc : Nat) (ls st : List Value) (S : xS) : xV X id (pc, ls, st, S) = xgo (xr X id stops n) (xC X id) (xdo (decode (xbc id) pc) X id pc ls st S) := by
  rw [xV_eq, show xr X id stops n = xV X id from funext (xr_eq X id stops n), xstep_d]
theorem nI_d (n : Nat) : Int32.ofNat n = nI n := Eq.symm (Eq.symm rfl)
theorem nI_lt' {a b : Nat} (h : a < b) (hb : b < 2147483648) : ¬ nI b ≤ nI a := nI_ge h (by omega)
theorem nI_le' {a b : Nat} (h : a ≤ b) (hb : b < 2147483648) : nI a ≤ nI b := nI_le h (by omega)
def xfil (σ : Nat → Nat → Int32) (k n : Nat) (v : Int32) : Nat → Nat → Int32 := fun a b => if a = k ∧ b < n then v else σ a b
theorem xfil_0 (σ : Nat → Nat → Int32) (k : Nat) (v : Int32) : xfil σ k 0 v = σ := by funext a b; simp [xfil]
theorem xfil_s (σ : Nat → Nat → Int32) (k n : Nat) (v : Int32) : xup (xfil σ k n v) k n v = xfil σ k (n + 1) v := by
  funext a b
  unfold xup xfil
  by_cases h : a = k
  · subst h
    by_cases h2 : b = n
    · subst h2; simp
    · by_cases h3 : b < n
      · simp [h2, h3, Nat.lt_succ_of_lt h3]
      · have h4 : ¬ b < n + 1 := by omega
        simp [h2, h3, h4]
  · simp [h]
set_option maxRecDepth 100000 in
set_option maxHeartbeats 4000000 in
theorem l187 (X : xX) (sh : List (Nat × Nat × List Value)) (σ : Nat → Nat → Int32) (k n : Nat) (vs : List Value) (v : Int32) (hk : sh[k]? = some (0, n, vs)) (hn : n < 4000) : ∀ d i, i + d = n → xV X 187 (5, [.ref k, .int v, .int (nI i), .int (nI n)], [], (sh, xfil σ k i v)) = some (none, (sh, xfil σ k n v))
  | 0, i, h => by
    have e : i = n := by omega
    subst e
    have h1 : nI i ≤ nI i := nI_le' (by omega) (by omega)
    rw [xV_d X 187 [5] 20]
    simp [xent, xsl, Value.category, xr_d, xr_0, xg_nx, xg_n, xg_o, xg_c, xth_s, xth_v, xth_ite, xth_n, xd_iconst, xd_bipush, xd_sipush, xd_lconst, xd_iload, xd_iload_n, xd_lload, xd_lload_n, xd_aload, xd_aload_n, xd_istore, xd_istore_n, xd_astore, xd_astore_n, xd_lstore, xd_lstore_n, xd_iadd, xd_isub, xd_imul, xd_iand, xd_ior, xd_ishl, xd_ishr, xd_ladd, xd_lsub, xd_lmul, xd_land, xd_lor, xd_idiv, xd_irem, xd_ldiv, xd_lrem, xd_ineg, xd_lneg, xd_lshl, xd_lshr, xd_lcmp, xd_i2l, xd_l2i, xd_dup_int, xd_dup_ref, xd_pop, xd_dup2, xd_goto, xd_ifC, xd_ifI, xd_getf, xd_putI, xd_putR, xd_iald, xd_ialdX, xd_bald, xd_iast, xd_bast, xd_aald, xd_aast, xd_alen, xd_alenX, xd_newI, xd_newZ, xd_newQ, xd_newO, xd_invS, xd_invV, xd_invI, xd_iret, xd_lret, xd_vret, xd_ldc, xd_ldc2, xd_iinc, xd_aret, xd_tsw, xd_lsw, xC_d, xld, xisI, xisL, xisA, xgo_ite, xjp, xcmp, xrt, xinv, xcall, xpop, xcat, xgf, xal, xas, xpf, xle, xaq, xbite, xbite2, xsto, xsto2, xst1, xst2, xkl, xtt, xnum, xi0, xzf, v3, List.getElem?_cons_zero, List.getElem?_cons_succ, List.set_cons_zero, List.set_cons_succ, d187_0, d187_1, d187_2, d187_3, d187_4, d187_5, d187_6, d187_7, d187_10, d187_11, d187_12, d187_13, d187_14, d187_17, d187_20, wo187, wm187, wr187, h1]
  | d + 1, i, h => by
    have h1 : ¬ nI n ≤ nI i := nI_lt' (by omega) (by omega)
    have h2 : xin (nI i) n = true := by rw [xin_nI (by omega)]; simp; omega
    have h3 := nI_cl (n := i) (by omega)
    have ih := l187 X sh σ k n vs v hk hn d (i + 1) (by omega)
    rw [xV_d X 187 [5] 20]
    simp [xent, xsl, Value.category, xr_d, xr_0, xg_nx, xg_n, xg_o, xg_c, xth_s, xth_v, xth_ite, xth_n, xd_iconst, xd_bipush, xd_sipush, xd_lconst, xd_iload, xd_iload_n, xd_lload, xd_lload_n, xd_aload, xd_aload_n, xd_istore, xd_istore_n, xd_astore, xd_astore_n, xd_lstore, xd_lstore_n, xd_iadd, xd_isub, xd_imul, xd_iand, xd_ior, xd_ishl, xd_ishr, xd_ladd, xd_lsub, xd_lmul, xd_land, xd_lor, xd_idiv, xd_irem, xd_ldiv, xd_lrem, xd_ineg, xd_lneg, xd_lshl, xd_lshr, xd_lcmp, xd_i2l, xd_l2i, xd_dup_int, xd_dup_ref, xd_pop, xd_dup2, xd_goto, xd_ifC, xd_ifI, xd_getf, xd_putI, xd_putR, xd_iald, xd_ialdX, xd_bald, xd_iast, xd_bast, xd_aald, xd_aast, xd_alen, xd_alenX, xd_newI, xd_newZ, xd_newQ, xd_newO, xd_invS, xd_invV, xd_invI, xd_iret, xd_lret, xd_vret, xd_ldc, xd_ldc2, xd_iinc, xd_aret, xd_tsw, xd_lsw, xC_d, xld, xisI, xisL, xisA, xgo_ite, xjp, xcmp, xrt, xinv, xcall, xpop, xcat, xgf, xal, xas, xpf, xle, xaq, xbite, xbite2, xsto, xsto2, xst1, xst2, xkl, xtt, xnum, xi0, xzf, v3, List.getElem?_cons_zero, List.getElem?_cons_succ, List.set_cons_zero, List.set_cons_succ, d187_0, d187_1, d187_2, d187_3, d187_4, d187_5, d187_6, d187_7, d187_10, d187_11, d187_12, d187_13, d187_14, d187_17, d187_20, wo187, wm187, wr187, h1, h2, h3, hk, nI_1, xfil_s]
    exact ih

set_option maxRecDepth 100000 in
set_option maxHeartbeats 4000000 in
theorem k187 (X : xX) (sh : List (Nat × Nat × List Value)) (σ : Nat → Nat → Int32) (k n : Nat) (vs : List Value) (v : Int32) (hk : sh[k]? = some (0, n, vs)) (hn : n < 4000) : xK X 187 [.ref k, .int v] (sh, σ) = some (none, (sh, xfil σ k n v)) := by
  have h := l187 X sh σ k n vs v hk hn n 0 (by omega)
  rw [nI_0, xfil_0] at h
  rw [xK_d X 187 _ _ [5] 20]
  simp [xent, xsl, Value.category, xr_d, xr_0, xg_nx, xg_n, xg_o, xg_c, xth_s, xth_v, xth_ite, xth_n, xd_iconst, xd_bipush, xd_sipush, xd_lconst, xd_iload, xd_iload_n, xd_lload, xd_lload_n, xd_aload, xd_aload_n, xd_istore, xd_istore_n, xd_astore, xd_astore_n, xd_lstore, xd_lstore_n, xd_iadd, xd_isub, xd_imul, xd_iand, xd_ior, xd_ishl, xd_ishr, xd_ladd, xd_lsub, xd_lmul, xd_land, xd_lor, xd_idiv, xd_irem, xd_ldiv, xd_lrem, xd_ineg, xd_lneg, xd_lshl, xd_lshr, xd_lcmp, xd_i2l, xd_l2i, xd_dup_int, xd_dup_ref, xd_pop, xd_dup2, xd_goto, xd_ifC, xd_ifI, xd_getf, xd_putI, xd_putR, xd_iald, xd_ialdX, xd_bald, xd_iast, xd_bast, xd_aald, xd_aast, xd_alen, xd_alenX, xd_newI, xd_newZ, xd_newQ, xd_newO, xd_invS, xd_invV, xd_invI, xd_iret, xd_lret, xd_vret, xd_ldc, xd_ldc2, xd_iinc, xd_aret, xd_tsw, xd_lsw, xC_d, xld, xisI, xisL, xisA, xgo_ite, xjp, xcmp, xrt, xinv, xcall, xpop, xcat, xgf, xal, xas, xpf, xle, xaq, xbite, xbite2, xsto, xsto2, xst1, xst2, xkl, xtt, xnum, xi0, xzf, v3, List.getElem?_cons_zero, List.getElem?_cons_succ, List.set_cons_zero, List.set_cons_succ, d187_0, d187_1, d187_2, d187_3, d187_4, d187_5, d187_6, d187_7, d187_10, d187_11, d187_12, d187_13, d187_14, d187_17, d187_20, wo187, wm187, wr187, hk, nI_d]
  exact h

def uClr (A : Nat → Nat → Int32) : Nat → Nat → Int32 := xup (xup (xfil A 12 8 0) 7 5 0) 7 6 0
theorem xput_fil {w : Nat} {σ : Nat → Nat → Int32} {c : Nat} {A : Nat → Nat → Int32} {k n : Nat} {v : Int32} (h : k < w) : xfil (xput w σ c A) (c + k) n v = xput w σ c (xfil A k n v) := by
  funext a b
  unfold xfil xput
  by_cases h1 : c ≤ a ∧ a < c + w
  · rw [if_pos h1, if_pos h1]
    dsimp only
    by_cases h2 : a = c + k ∧ b < n
    · rw [if_pos h2, if_pos (by omega)]
    · rw [if_neg h2, if_neg (by omega)]
  · rw [if_neg h1, if_neg (by omega), if_neg h1]
set_option maxRecDepth 100000 in
set_option maxHeartbeats 4000000 in
theorem k48 (X : xX) (sh : List (Nat × Nat × List Value)) (σ A : Nat → Nat → Int32) (c : Nat) (hc : xcup sh c)  : xK X 48 [.ref (c + 7)] (sh, xput 14 σ c A) = some (none, (sh, xput 14 σ c (uClr A))) := by
  have hC := hc
  obtain ⟨h0, h1, h2, h3, h4, h5, h6, h7, h8, h9, h10, h11, h12, h13⟩ := hc
  have e187 := k187 X sh (xput 14 σ c A) (c + 12) 8 [] 0 h12 (by omega)
  rw [xput_fil (by omega)] at e187
  rw [xK_d X 48 _ _ [] 90]; simp [xent, xsl, Value.category, xr_d, xr_0, xg_nx, xg_n, xg_o, xg_c, xth_s, xth_v, xth_ite, xth_n, xd_iconst, xd_bipush, xd_sipush, xd_lconst, xd_iload, xd_iload_n, xd_lload, xd_lload_n, xd_aload, xd_aload_n, xd_istore, xd_istore_n, xd_astore, xd_astore_n, xd_lstore, xd_lstore_n, xd_iadd, xd_isub, xd_imul, xd_iand, xd_ior, xd_ishl, xd_ishr, xd_ladd, xd_lsub, xd_lmul, xd_land, xd_lor, xd_idiv, xd_irem, xd_ldiv, xd_lrem, xd_ineg, xd_lneg, xd_lshl, xd_lshr, xd_lcmp, xd_i2l, xd_l2i, xd_dup_int, xd_dup_ref, xd_pop, xd_dup2, xd_goto, xd_ifC, xd_ifI, xd_getf, xd_putI, xd_putR, xd_iald, xd_ialdX, xd_bald, xd_iast, xd_bast, xd_aald, xd_aast, xd_alen, xd_alenX, xd_newI, xd_newZ, xd_newQ, xd_newO, xd_invS, xd_invV, xd_invI, xd_iret, xd_lret, xd_vret, xd_ldc, xd_ldc2, xd_iinc, xd_aret, xd_tsw, xd_lsw, xC_d, xld, xisI, xisL, xisA, xgo_ite, xjp, xcmp, xrt, xinv, xcall, xpop, xcat, xgf, xal, xas, xpf, xle, xaq, xbite, xbite2, xsto, xsto2, xst1, xst2, xkl, xtt, xnum, xi0, xzf, v3, List.getElem?_cons_zero, List.getElem?_cons_succ, List.set_cons_zero, List.set_cons_succ, d48_0, d48_1, d48_4, d48_5, d48_8, d48_9, d48_10, d48_13, d48_14, d48_15, d48_18, wo48, wm48, wr48, f3_24, f3_27, f3_31, m3_40, r48_187, wm187, hC, h0, h1, h2, h3, h4, h5, h6, h7, h8, h9, h10, h11, h12, h13, xput_at, xput_at0, xput_up, xput_up0, e187, uClr]
def uE1 (A : Nat → Nat → Int32) (own x f : Int32) : Int32 := if (own = 0 ∨ uOwn A x = true) ∧ (f = -6 ∨ uSoon A x f = true) then x else f
def uE (A : Nat → Nat → Int32) (own : Int32) : Nat → Int32
  | 0 => -6
  | k + 1 => uE1 A own (nI k) (uE A own k)
set_option maxRecDepth 100000 in
set_option maxHeartbeats 4000000 in
theorem i52 (X : xX) (sh : List (Nat × Nat × List Value)) (σ A : Nat → Nat → Int32) (c : Nat) (hc : xcup sh c) (own f : Int32) (i n : Nat) (hn : A 7 5 = nI n) (hn32 : n ≤ 32) (hi : i < n) : xV X 52 (5, [.ref (c + 7), .int own, .int f, .int (nI i)], [], (sh, xput 14 σ c A)) = xV X 52 (5, [.ref (c + 7), .int own, .int (uE1 A own (nI i) f), .int (nI (i + 1))], [], (sh, xput 14 σ c A)) := by
  have hC := hc
  obtain ⟨h0, h1, h2, h3, h4, h5, h6, h7, h8, h9, h10, h11, h12, h13⟩ := hc
  have g1 : ¬ nI n ≤ nI i := nI_lt' hi (by omega)
  rw [xV_d X 52 [5] 40]
  simp [xent, xsl, Value.category, xr_d, xr_0, xg_nx, xg_n, xg_o, xg_c, xth_s, xth_v, xth_ite, xth_n, xd_iconst, xd_bipush, xd_sipush, xd_lconst, xd_iload, xd_iload_n, xd_lload, xd_lload_n, xd_aload, xd_aload_n, xd_istore, xd_istore_n, xd_astore, xd_astore_n, xd_lstore, xd_lstore_n, xd_iadd, xd_isub, xd_imul, xd_iand, xd_ior, xd_ishl, xd_ishr, xd_ladd, xd_lsub, xd_lmul, xd_land, xd_lor, xd_idiv, xd_irem, xd_ldiv, xd_lrem, xd_ineg, xd_lneg, xd_lshl, xd_lshr, xd_lcmp, xd_i2l, xd_l2i, xd_dup_int, xd_dup_ref, xd_pop, xd_dup2, xd_goto, xd_ifC, xd_ifI, xd_getf, xd_putI, xd_putR, xd_iald, xd_ialdX, xd_bald, xd_iast, xd_bast, xd_aald, xd_aast, xd_alen, xd_alenX, xd_newI, xd_newZ, xd_newQ, xd_newO, xd_invS, xd_invV, xd_invI, xd_iret, xd_lret, xd_vret, xd_ldc, xd_ldc2, xd_iinc, xd_aret, xd_tsw, xd_lsw, xC_d, xld, xisI, xisL, xisA, xgo_ite, xjp, xcmp, xrt, xinv, xcall, xpop, xcat, xgf, xal, xas, xpf, xle, xaq, xbite, xbite2, xsto, xsto2, xst1, xst2, xkl, xtt, xnum, xi0, xzf, v3, List.getElem?_cons_zero, List.getElem?_cons_succ, List.set_cons_zero, List.set_cons_succ, d52_0, d52_2, d52_3, d52_4, d52_5, d52_6, d52_7, d52_10, d52_13, d52_14, d52_17, d52_18, d52_19, d52_22, d52_25, d52_26, d52_28, d52_31, d52_32, d52_33, d52_34, d52_37, d52_40, d52_41, d52_42, d52_45, d52_48, d52_49, wo52, wm52, wr52, f3_27, m3_57, m3_60, r52_53, r52_56, wm53, wm56, wo53, wo56, b8_m6, hC, h0, h1, h2, h3, h4, h5, h6, h7, h8, h9, h10, h11, h12, h13, xput_at, xput_at0, xput_up, xput_up0, g1, hn, k53, k56, nI_1, uE1]
  clear hC h0 h1 h2 h3 h4 h5 h6 h7 h8 h9 h10 h11 h12 h13
  repeat' split
  all_goals simp_all
set_option maxRecDepth 100000 in
set_option maxHeartbeats 4000000 in
theorem x52 (X : xX) (sh : List (Nat × Nat × List Value)) (σ A : Nat → Nat → Int32) (c : Nat) (hc : xcup sh c) (own f : Int32) (n : Nat) (hn : A 7 5 = nI n) (hn32 : n ≤ 32) : xV X 52 (5, [.ref (c + 7), .int own, .int f, .int (nI n)], [], (sh, xput 14 σ c A)) = some (some (.int f), (sh, xput 14 σ c A)) := by
  have hC := hc
  obtain ⟨h0, h1, h2, h3, h4, h5, h6, h7, h8, h9, h10, h11, h12, h13⟩ := hc
  have g1 : nI n ≤ nI n := nI_le' (by omega) (by omega)
  rw [xV_d X 52 [5] 40]
  simp [xent, xsl, Value.category, xr_d, xr_0, xg_nx, xg_n, xg_o, xg_c, xth_s, xth_v, xth_ite, xth_n, xd_iconst, xd_bipush, xd_sipush, xd_lconst, xd_iload, xd_iload_n, xd_lload, xd_lload_n, xd_aload, xd_aload_n, xd_istore, xd_istore_n, xd_astore, xd_astore_n, xd_lstore, xd_lstore_n, xd_iadd, xd_isub, xd_imul, xd_iand, xd_ior, xd_ishl, xd_ishr, xd_ladd, xd_lsub, xd_lmul, xd_land, xd_lor, xd_idiv, xd_irem, xd_ldiv, xd_lrem, xd_ineg, xd_lneg, xd_lshl, xd_lshr, xd_lcmp, xd_i2l, xd_l2i, xd_dup_int, xd_dup_ref, xd_pop, xd_dup2, xd_goto, xd_ifC, xd_ifI, xd_getf, xd_putI, xd_putR, xd_iald, xd_ialdX, xd_bald, xd_iast, xd_bast, xd_aald, xd_aast, xd_alen, xd_alenX, xd_newI, xd_newZ, xd_newQ, xd_newO, xd_invS, xd_invV, xd_invI, xd_iret, xd_lret, xd_vret, xd_ldc, xd_ldc2, xd_iinc, xd_aret, xd_tsw, xd_lsw, xC_d, xld, xisI, xisL, xisA, xgo_ite, xjp, xcmp, xrt, xinv, xcall, xpop, xcat, xgf, xal, xas, xpf, xle, xaq, xbite, xbite2, xsto, xsto2, xst1, xst2, xkl, xtt, xnum, xi0, xzf, v3, List.getElem?_cons_zero, List.getElem?_cons_succ, List.set_cons_zero, List.set_cons_succ, d52_0, d52_2, d52_3, d52_4, d52_5, d52_6, d52_7, d52_10, d52_13, d52_14, d52_17, d52_18, d52_19, d52_22, d52_25, d52_26, d52_28, d52_31, d52_32, d52_33, d52_34, d52_37, d52_40, d52_41, d52_42, d52_45, d52_48, d52_49, wo52, wm52, wr52, f3_27, m3_57, m3_60, r52_53, r52_56, wm53, wm56, wo53, wo56, b8_m6, hC, h0, h1, h2, h3, h4, h5, h6, h7, h8, h9, h10, h11, h12, h13, xput_at, xput_at0, xput_up, xput_up0, g1, hn]

theorem l52 (X : xX) (sh : List (Nat × Nat × List Value)) (σ A : Nat → Nat → Int32) (c : Nat) (hc : xcup sh c) (own : Int32) (n : Nat) (hn : A 7 5 = nI n) (hn32 : n ≤ 32) : ∀ d i, i + d = n → xV X 52 (5, [.ref (c + 7), .int own, .int (uE A own i), .int (nI i)], [], (sh, xput 14 σ c A)) = some (some (.int (uE A own n)), (sh, xput 14 σ c A))
  | 0, i, h => by
    have e : i = n := by omega
    subst e
    exact x52 X sh σ A c hc own _ i hn hn32
  | d + 1, i, h => by
    rw [i52 X sh σ A c hc own _ i n hn hn32 (by omega)]
    exact l52 X sh σ A c hc own n hn hn32 d (i + 1) (by omega)
set_option maxRecDepth 100000 in
set_option maxHeartbeats 4000000 in
theorem k52 (X : xX) (sh : List (Nat × Nat × List Value)) (σ A : Nat → Nat → Int32) (c : Nat) (hc : xcup sh c) (own : Int32) (n : Nat) (hn : A 7 5 = nI n) (hn32 : n ≤ 32) : xK X 52 [.ref (c + 7), .int own] (sh, xput 14 σ c A) = some (some (.int (uE A own n)), (sh, xput 14 σ c A)) := by
  have hC := hc
  obtain ⟨h0, h1, h2, h3, h4, h5, h6, h7, h8, h9, h10, h11, h12, h13⟩ := hc
  rw [xK_d X 52 _ _ [5] 20]
  simp [xent, xsl, Value.category, xr_d, xr_0, xg_nx, xg_n, xg_o, xg_c, xth_s, xth_v, xth_ite, xth_n, xd_iconst, xd_bipush, xd_sipush, xd_lconst, xd_iload, xd_iload_n, xd_lload, xd_lload_n, xd_aload, xd_aload_n, xd_istore, xd_istore_n, xd_astore, xd_astore_n, xd_lstore, xd_lstore_n, xd_iadd, xd_isub, xd_imul, xd_iand, xd_ior, xd_ishl, xd_ishr, xd_ladd, xd_lsub, xd_lmul, xd_land, xd_lor, xd_idiv, xd_irem, xd_ldiv, xd_lrem, xd_ineg, xd_lneg, xd_lshl, xd_lshr, xd_lcmp, xd_i2l, xd_l2i, xd_dup_int, xd_dup_ref, xd_pop, xd_dup2, xd_goto, xd_ifC, xd_ifI, xd_getf, xd_putI, xd_putR, xd_iald, xd_ialdX, xd_bald, xd_iast, xd_bast, xd_aald, xd_aast, xd_alen, xd_alenX, xd_newI, xd_newZ, xd_newQ, xd_newO, xd_invS, xd_invV, xd_invI, xd_iret, xd_lret, xd_vret, xd_ldc, xd_ldc2, xd_iinc, xd_aret, xd_tsw, xd_lsw, xC_d, xld, xisI, xisL, xisA, xgo_ite, xjp, xcmp, xrt, xinv, xcall, xpop, xcat, xgf, xal, xas, xpf, xle, xaq, xbite, xbite2, xsto, xsto2, xst1, xst2, xkl, xtt, xnum, xi0, xzf, v3, List.getElem?_cons_zero, List.getElem?_cons_succ, List.set_cons_zero, List.set_cons_succ, d52_0, d52_2, d52_3, d52_4, d52_5, d52_6, d52_7, d52_10, d52_13, d52_14, d52_17, d52_18, d52_19, d52_22, d52_25, d52_26, d52_28, d52_31, d52_32, d52_33, d52_34, d52_37, d52_40, d52_41, d52_42, d52_45, d52_48, d52_49, wo52, wm52, wr52, f3_27, m3_57, m3_60, r52_53, r52_56, wm53, wm56, wo53, wo56, b8_m6, hC, h0, h1, h2, h3, h4, h5, h6, h7, h8, h9, h10, h11, h12, h13, xput_at, xput_at0, xput_up, xput_up0]
  have h := l52 X sh σ A c hC own n hn hn32 n 0 (by omega)
  rw [nI_0] at h
  exact h
def uSh (A : Nat → Nat → Int32) (k : Nat) : Nat → Nat → Int32 := xup (xup (xup (xup A 8 k (A 8 (k + 1))) 9 k (A 9 (k + 1))) 10 k (A 10 (k + 1))) 11 k (A 11 (k + 1))
def uShs (A : Nat → Nat → Int32) (k : Nat) : Nat → Nat → Nat → Int32
  | 0 => A
  | d + 1 => uShs (uSh A k) (k + 1) d
theorem uSh_7 (A : Nat → Nat → Int32) (k b : Nat) : uSh A k 7 b = A 7 b := by simp [uSh, xup]
theorem uShs_7 : ∀ (d k : Nat) (A : Nat → Nat → Int32) (b : Nat), uShs A k d 7 b = A 7 b
  | 0, _, _, _ => rfl
  | d + 1, k, A, b => by rw [uShs, uShs_7 d, uSh_7]
def uRem (A : Nat → Nat → Int32) (k n : Nat) : Nat → Nat → Int32 := xup (uShs A k (n - 1 - k)) 7 5 (A 7 5 - 1)
set_option maxRecDepth 100000 in
set_option maxHeartbeats 4000000 in
theorem i59 (X : xX) (sh : List (Nat × Nat × List Value)) (σ A : Nat → Nat → Int32) (c : Nat) (hc : xcup sh c) (i0 : Int32) (k n : Nat) (hn : A 7 5 = nI n) (hn32 : n ≤ 32) (hk : k + 1 < n) : xV X 59 (11, [.ref (c + 7), .int i0, .int (nI k)], [], (sh, xput 14 σ c A)) = xV X 59 (11, [.ref (c + 7), .int i0, .int (nI (k + 1))], [], (sh, xput 14 σ c (uSh A k))) := by
  have hC := hc
  obtain ⟨h0, h1, h2, h3, h4, h5, h6, h7, h8, h9, h10, h11, h12, h13⟩ := hc
  have g1 : ¬ nI n ≤ nI (k + 1) := nI_lt' hk (by omega)
  have g2 : xin (nI k) 32 = true := by rw [xin_nI (by omega)]; simp; omega
  have g3 : xin (nI (k + 1)) 32 = true := by rw [xin_nI (by omega)]; simp; omega
  have g4 := nI_cl (n := k) (by omega)
  have g5 := nI_cl (n := k + 1) (by omega)
  have g6 : ¬ (32 : Int32) ≤ nI (k + 1) := nI_lt' (a := k + 1) (b := 32) (by omega) (by omega)
  rw [xV_d X 59 [11] 80]
  simp [xent, xsl, Value.category, xr_d, xr_0, xg_nx, xg_n, xg_o, xg_c, xth_s, xth_v, xth_ite, xth_n, xd_iconst, xd_bipush, xd_sipush, xd_lconst, xd_iload, xd_iload_n, xd_lload, xd_lload_n, xd_aload, xd_aload_n, xd_istore, xd_istore_n, xd_astore, xd_astore_n, xd_lstore, xd_lstore_n, xd_iadd, xd_isub, xd_imul, xd_iand, xd_ior, xd_ishl, xd_ishr, xd_ladd, xd_lsub, xd_lmul, xd_land, xd_lor, xd_idiv, xd_irem, xd_ldiv, xd_lrem, xd_ineg, xd_lneg, xd_lshl, xd_lshr, xd_lcmp, xd_i2l, xd_l2i, xd_dup_int, xd_dup_ref, xd_pop, xd_dup2, xd_goto, xd_ifC, xd_ifI, xd_getf, xd_putI, xd_putR, xd_iald, xd_ialdX, xd_bald, xd_iast, xd_bast, xd_aald, xd_aast, xd_alen, xd_alenX, xd_newI, xd_newZ, xd_newQ, xd_newO, xd_invS, xd_invV, xd_invI, xd_iret, xd_lret, xd_vret, xd_ldc, xd_ldc2, xd_iinc, xd_aret, xd_tsw, xd_lsw, xC_d, xld, xisI, xisL, xisA, xgo_ite, xjp, xcmp, xrt, xinv, xcall, xpop, xcat, xgf, xal, xas, xpf, xle, xaq, xbite, xbite2, xsto, xsto2, xst1, xst2, xkl, xtt, xnum, xi0, xzf, v3, List.getElem?_cons_zero, List.getElem?_cons_succ, List.set_cons_zero, List.set_cons_succ, d59_0, d59_1, d59_2, d59_5, d59_8, d59_9, d59_10, d59_11, d59_12, d59_13, d59_14, d59_15, d59_18, d59_21, d59_22, d59_23, d59_24, d59_26, d59_29, d59_30, d59_33, d59_34, d59_35, d59_38, d59_39, d59_40, d59_41, d59_42, d59_43, d59_44, d59_47, d59_48, d59_49, d59_52, d59_53, d59_54, d59_55, d59_56, d59_57, d59_58, d59_61, d59_62, d59_63, d59_66, d59_67, d59_68, d59_69, d59_70, d59_71, d59_72, d59_75, d59_76, d59_77, d59_80, d59_81, d59_82, d59_83, d59_84, d59_85, d59_88, d59_91, d59_92, d59_93, d59_96, d59_97, d59_98, d59_101, wo59, wm59, wr59, f3_11, f3_15, f3_18, f3_21, f3_27, m3_50, r59_55, wm55, wo55, b8_32, hC, h0, h1, h2, h3, h4, h5, h6, h7, h8, h9, h10, h11, h12, h13, xput_at, xput_at0, xput_up, xput_up0, g1, g2, g3, g4, g5, g6, hn, nI_1, uSh, xup]

set_option maxRecDepth 100000 in
set_option maxHeartbeats 4000000 in
theorem x59 (X : xX) (sh : List (Nat × Nat × List Value)) (σ A : Nat → Nat → Int32) (c : Nat) (hc : xcup sh c) (i0 : Int32) (k n : Nat) (hn : A 7 5 = nI n) (hn32 : n ≤ 32) (hk : ¬ k + 1 < n) (hk2 : k < 32) : xV X 59 (11, [.ref (c + 7), .int i0, .int (nI k)], [], (sh, xput 14 σ c A)) = some (none, (sh, xput 14 σ c (xup A 7 5 (A 7 5 - 1)))) := by
  have hC := hc
  obtain ⟨h0, h1, h2, h3, h4, h5, h6, h7, h8, h9, h10, h11, h12, h13⟩ := hc
  have g1 : nI n ≤ nI (k + 1) := nI_le' (by omega) (by omega)
  rw [xV_d X 59 [11] 80]
  simp [xent, xsl, Value.category, xr_d, xr_0, xg_nx, xg_n, xg_o, xg_c, xth_s, xth_v, xth_ite, xth_n, xd_iconst, xd_bipush, xd_sipush, xd_lconst, xd_iload, xd_iload_n, xd_lload, xd_lload_n, xd_aload, xd_aload_n, xd_istore, xd_istore_n, xd_astore, xd_astore_n, xd_lstore, xd_lstore_n, xd_iadd, xd_isub, xd_imul, xd_iand, xd_ior, xd_ishl, xd_ishr, xd_ladd, xd_lsub, xd_lmul, xd_land, xd_lor, xd_idiv, xd_irem, xd_ldiv, xd_lrem, xd_ineg, xd_lneg, xd_lshl, xd_lshr, xd_lcmp, xd_i2l, xd_l2i, xd_dup_int, xd_dup_ref, xd_pop, xd_dup2, xd_goto, xd_ifC, xd_ifI, xd_getf, xd_putI, xd_putR, xd_iald, xd_ialdX, xd_bald, xd_iast, xd_bast, xd_aald, xd_aast, xd_alen, xd_alenX, xd_newI, xd_newZ, xd_newQ, xd_newO, xd_invS, xd_invV, xd_invI, xd_iret, xd_lret, xd_vret, xd_ldc, xd_ldc2, xd_iinc, xd_aret, xd_tsw, xd_lsw, xC_d, xld, xisI, xisL, xisA, xgo_ite, xjp, xcmp, xrt, xinv, xcall, xpop, xcat, xgf, xal, xas, xpf, xle, xaq, xbite, xbite2, xsto, xsto2, xst1, xst2, xkl, xtt, xnum, xi0, xzf, v3, List.getElem?_cons_zero, List.getElem?_cons_succ, List.set_cons_zero, List.set_cons_succ, d59_0, d59_1, d59_2, d59_5, d59_8, d59_9, d59_10, d59_11, d59_12, d59_13, d59_14, d59_15, d59_18, d59_21, d59_22, d59_23, d59_24, d59_26, d59_29, d59_30, d59_33, d59_34, d59_35, d59_38, d59_39, d59_40, d59_41, d59_42, d59_43, d59_44, d59_47, d59_48, d59_49, d59_52, d59_53, d59_54, d59_55, d59_56, d59_57, d59_58, d59_61, d59_62, d59_63, d59_66, d59_67, d59_68, d59_69, d59_70, d59_71, d59_72, d59_75, d59_76, d59_77, d59_80, d59_81, d59_82, d59_83, d59_84, d59_85, d59_88, d59_91, d59_92, d59_93, d59_96, d59_97, d59_98, d59_101, wo59, wm59, wr59, f3_11, f3_15, f3_18, f3_21, f3_27, m3_50, r59_55, wm55, wo55, b8_32, hC, h0, h1, h2, h3, h4, h5, h6, h7, h8, h9, h10, h11, h12, h13, xput_at, xput_at0, xput_up, xput_up0, g1, hn, nI_1]

theorem l59 (X : xX) (sh : List (Nat × Nat × List Value)) (σ : Nat → Nat → Int32) (c : Nat) (hc : xcup sh c) (i0 : Int32) (n : Nat) (hn32 : n ≤ 32) : ∀ (d k : Nat) (A : Nat → Nat → Int32), A 7 5 = nI n → k + 1 + d = n → xV X 59 (11, [.ref (c + 7), .int i0, .int (nI k)], [], (sh, xput 14 σ c A)) = some (none, (sh, xput 14 σ c (xup (uShs A k d) 7 5 (A 7 5 - 1))))
  | 0, k, A, hn, h => x59 X sh σ A c hc i0 k n hn hn32 (by omega) (by omega)
  | d + 1, k, A, hn, h => by
    rw [i59 X sh σ A c hc i0 k n hn hn32 (by omega), l59 X sh σ c hc i0 n hn32 d (k + 1) (uSh A k) (by rw [uSh_7]; exact hn) (by omega), uSh_7]
    rfl
set_option maxRecDepth 100000 in
set_option maxHeartbeats 4000000 in
theorem k59 (X : xX) (sh : List (Nat × Nat × List Value)) (σ A : Nat → Nat → Int32) (c : Nat) (hc : xcup sh c) (k n : Nat) (hn : A 7 5 = nI n) (hn32 : n ≤ 32) (hk : k < n) : xK X 59 [.ref (c + 7), .int (nI k)] (sh, xput 14 σ c A) = some (none, (sh, xput 14 σ c (uRem A k n))) := by
  have hC := hc
  obtain ⟨h0, h1, h2, h3, h4, h5, h6, h7, h8, h9, h10, h11, h12, h13⟩ := hc
  have g0 : uHere A (nI k) = true := by
    simp only [uHere, hn, Bool.and_eq_true, decide_eq_true_eq]
    exact ⟨⟨nI_pos' (by omega), nI_lt hk (by omega)⟩, nI_lt (a := k) (b := 32) (by omega) (by omega)⟩
  have h := l59 X sh σ c hC (nI k) n hn32 (n - 1 - k) k A hn (by omega)
  rw [xK_d X 59 _ _ [11] 30]; simp [xent, xsl, Value.category, xr_d, xr_0, xg_nx, xg_n, xg_o, xg_c, xth_s, xth_v, xth_ite, xth_n, xd_iconst, xd_bipush, xd_sipush, xd_lconst, xd_iload, xd_iload_n, xd_lload, xd_lload_n, xd_aload, xd_aload_n, xd_istore, xd_istore_n, xd_astore, xd_astore_n, xd_lstore, xd_lstore_n, xd_iadd, xd_isub, xd_imul, xd_iand, xd_ior, xd_ishl, xd_ishr, xd_ladd, xd_lsub, xd_lmul, xd_land, xd_lor, xd_idiv, xd_irem, xd_ldiv, xd_lrem, xd_ineg, xd_lneg, xd_lshl, xd_lshr, xd_lcmp, xd_i2l, xd_l2i, xd_dup_int, xd_dup_ref, xd_pop, xd_dup2, xd_goto, xd_ifC, xd_ifI, xd_getf, xd_putI, xd_putR, xd_iald, xd_ialdX, xd_bald, xd_iast, xd_bast, xd_aald, xd_aast, xd_alen, xd_alenX, xd_newI, xd_newZ, xd_newQ, xd_newO, xd_invS, xd_invV, xd_invI, xd_iret, xd_lret, xd_vret, xd_ldc, xd_ldc2, xd_iinc, xd_aret, xd_tsw, xd_lsw, xC_d, xld, xisI, xisL, xisA, xgo_ite, xjp, xcmp, xrt, xinv, xcall, xpop, xcat, xgf, xal, xas, xpf, xle, xaq, xbite, xbite2, xsto, xsto2, xst1, xst2, xkl, xtt, xnum, xi0, xzf, v3, List.getElem?_cons_zero, List.getElem?_cons_succ, List.set_cons_zero, List.set_cons_succ, d59_0, d59_1, d59_2, d59_5, d59_8, d59_9, d59_10, d59_11, d59_12, d59_13, d59_14, d59_15, d59_18, d59_21, d59_22, d59_23, d59_24, d59_26, d59_29, d59_30, d59_33, d59_34, d59_35, d59_38, d59_39, d59_40, d59_41, d59_42, d59_43, d59_44, d59_47, d59_48, d59_49, d59_52, d59_53, d59_54, d59_55, d59_56, d59_57, d59_58, d59_61, d59_62, d59_63, d59_66, d59_67, d59_68, d59_69, d59_70, d59_71, d59_72, d59_75, d59_76, d59_77, d59_80, d59_81, d59_82, d59_83, d59_84, d59_85, d59_88, d59_91, d59_92, d59_93, d59_96, d59_97, d59_98, d59_101, wo59, wm59, wr59, f3_11, f3_15, f3_18, f3_21, f3_27, m3_50, r59_55, wm55, wo55, b8_32, hC, h0, h1, h2, h3, h4, h5, h6, h7, h8, h9, h10, h11, h12, h13, xput_at, xput_at0, xput_up, xput_up0, k55, g0]
  exact h
