def j_yP : MethodName := ⟨"jdk/internal/util/Preconditions", "checkIndex", "(IILjava/util/function/BiFunction;)I"⟩
def j_yC : MethodName := ⟨"java/lang/String", "checkIndex", "(II)V"⟩
def j_yL : MethodName := ⟨"java/lang/StringLatin1", "charAt", "([BI)C"⟩
def j_yI : MethodName := ⟨"java/lang/String", "isLatin1", "()Z"⟩
def j_yS : MethodName := ⟨"java/lang/String", "charAt", "(I)C"⟩
theorem jw_cyP : Cond.code j_yP prog_19_method_11_code 3 (some .int) ∈ xtG := xw_in (i := 767) (by decide +kernel)
theorem jw_cyC : Cond.code j_yC prog_14_method_155_code 2 none ∈ xtG := xw_in (i := 762) (by decide +kernel)
theorem jw_cyL : Cond.code j_yL prog_15_method_2_code 2 (some .char) ∈ xtG := xw_in (i := 759) (by decide +kernel)
theorem jw_cyI : Cond.code j_yI prog_14_method_154_code 1 (some .boolean) ∈ xtG := xw_in (i := 754) (by decide +kernel)
theorem jw_cyS : Cond.code j_yS prog_14_method_56_code 2 (some .char) ∈ xtG := xw_in (i := 750) (by decide +kernel)
theorem jw_iS : Cond.initialized "java/lang/String" ∈ xtG := xw_in (i := 60) (by decide +kernel)
theorem jw_iL : Cond.initialized "java/lang/StringLatin1" ∈ xtG := xw_in (i := 61) (by decide +kernel)
theorem jw_iP : Cond.initialized "jdk/internal/util/Preconditions" ∈ xtG := xw_in (i := 62) (by decide +kernel)
theorem jw_f1053 : Cond.fieldLink "java/lang/String" 1053 "jdk/internal/util/Preconditions" "SIOOBE_FORMATTER" "Ljava/util/function/BiFunction;" ∈ xtG := xw_in (i := 763) (by decide +kernel)
theorem jw_f38 : Cond.fieldLink "java/lang/String" 38 "java/lang/String" "COMPACT_STRINGS" "Z" ∈ xtG := xw_in (i := 755) (by decide +kernel)
theorem jw_f15 : Cond.fieldLink "java/lang/String" 15 "java/lang/String" "coder" "B" ∈ xtG := xw_in (i := 1132) (by decide +kernel)
theorem jw_f9 : Cond.fieldLink "java/lang/String" 9 "java/lang/String" "value" "[B" ∈ xtG := xw_in (i := 1133) (by decide +kernel)
theorem jw_mP : Cond.methodLink "java/lang/String" 1059 j_yP ∈ xtG := xw_in (i := 765) (by decide +kernel)
theorem jw_mC : Cond.methodLink "java/lang/StringLatin1" 9 j_yC ∈ xtG := xw_in (i := 760) (by decide +kernel)
theorem jw_mI : Cond.methodLink "java/lang/String" 492 j_yI ∈ xtG := xw_in (i := 751) (by decide +kernel)
theorem jw_mL : Cond.methodLink "java/lang/String" 495 j_yL ∈ xtG := xw_in (i := 757) (by decide +kernel)
theorem jw_mS : Cond.methodLink "KineticCup$Rehearsal" 77 j_yS ∈ xtG := xw_in (i := 747) (by decide +kernel)
theorem jw_syP : Cond.static j_yP ∈ xtG := xw_in (i := 766) (by decide +kernel)
theorem jw_syC : Cond.static j_yC ∈ xtG := xw_in (i := 761) (by decide +kernel)
theorem jw_syL : Cond.static j_yL ∈ xtG := xw_in (i := 758) (by decide +kernel)
theorem jw_nyI : Cond.instanceMethod j_yI ∈ xtG := xw_in (i := 752) (by decide +kernel)
theorem jw_lyI : Cond.selects "java/lang/String" j_yI j_yI ∈ xtG := xw_in (i := 753) (by decide +kernel)
theorem jw_nyS : Cond.instanceMethod j_yS ∈ xtG := xw_in (i := 748) (by decide +kernel)
theorem jw_lyS : Cond.selects "java/lang/String" j_yS j_yS ∈ xtG := xw_in (i := 749) (by decide +kernel)
theorem jdP_0 : decode prog_19_method_11_code 0 = .ok (.iload_n 0, 1) := by decide +kernel
theorem jdP_1 : decode prog_19_method_11_code 1 = .ok (.ifCond .lt 8, 3) := by decide +kernel
theorem jdP_4 : decode prog_19_method_11_code 4 = .ok (.iload_n 0, 1) := by decide +kernel
theorem jdP_5 : decode prog_19_method_11_code 5 = .ok (.iload_n 1, 1) := by decide +kernel
theorem jdP_6 : decode prog_19_method_11_code 6 = .ok (.if_icmp .lt 10, 3) := by decide +kernel
theorem jdP_16 : decode prog_19_method_11_code 16 = .ok (.iload_n 0, 1) := by decide +kernel
theorem jdP_17 : decode prog_19_method_11_code 17 = .ok (.ireturn, 1) := by decide +kernel
theorem jdC_0 : decode prog_14_method_155_code 0 = .ok (.iload_n 0, 1) := by decide +kernel
theorem jdC_1 : decode prog_14_method_155_code 1 = .ok (.iload_n 1, 1) := by decide +kernel
theorem jdC_2 : decode prog_14_method_155_code 2 = .ok (.getstatic 1053, 3) := by decide +kernel
theorem jdC_5 : decode prog_14_method_155_code 5 = .ok (.invokestatic 1059, 3) := by decide +kernel
theorem jdC_8 : decode prog_14_method_155_code 8 = .ok (.pop, 1) := by decide +kernel
theorem jdC_9 : decode prog_14_method_155_code 9 = .ok (.return_, 1) := by decide +kernel
theorem jdL_0 : decode prog_15_method_2_code 0 = .ok (.iload_n 1, 1) := by decide +kernel
theorem jdL_1 : decode prog_15_method_2_code 1 = .ok (.aload_n 0, 1) := by decide +kernel
theorem jdL_2 : decode prog_15_method_2_code 2 = .ok (.arraylength, 1) := by decide +kernel
theorem jdL_3 : decode prog_15_method_2_code 3 = .ok (.invokestatic 9, 3) := by decide +kernel
theorem jdL_6 : decode prog_15_method_2_code 6 = .ok (.aload_n 0, 1) := by decide +kernel
theorem jdL_7 : decode prog_15_method_2_code 7 = .ok (.iload_n 1, 1) := by decide +kernel
theorem jdL_8 : decode prog_15_method_2_code 8 = .ok (.baload, 1) := by decide +kernel
theorem jdL_9 : decode prog_15_method_2_code 9 = .ok (.sipush 255, 3) := by decide +kernel
theorem jdL_12 : decode prog_15_method_2_code 12 = .ok (.iand, 1) := by decide +kernel
theorem jdL_13 : decode prog_15_method_2_code 13 = .ok (.i2c, 1) := by decide +kernel
theorem jdL_14 : decode prog_15_method_2_code 14 = .ok (.ireturn, 1) := by decide +kernel
theorem jdI_0 : decode prog_14_method_154_code 0 = .ok (.getstatic 38, 3) := by decide +kernel
theorem jdI_3 : decode prog_14_method_154_code 3 = .ok (.ifCond .eq 14, 3) := by decide +kernel
theorem jdI_6 : decode prog_14_method_154_code 6 = .ok (.aload_n 0, 1) := by decide +kernel
theorem jdI_7 : decode prog_14_method_154_code 7 = .ok (.getfield 15, 3) := by decide +kernel
theorem jdI_10 : decode prog_14_method_154_code 10 = .ok (.ifCond .ne 7, 3) := by decide +kernel
theorem jdI_13 : decode prog_14_method_154_code 13 = .ok (.iconst 1, 1) := by decide +kernel
theorem jdI_14 : decode prog_14_method_154_code 14 = .ok (.goto 4, 3) := by decide +kernel
theorem jdI_18 : decode prog_14_method_154_code 18 = .ok (.ireturn, 1) := by decide +kernel
theorem jdS_0 : decode prog_14_method_56_code 0 = .ok (.aload_n 0, 1) := by decide +kernel
theorem jdS_1 : decode prog_14_method_56_code 1 = .ok (.invokevirtual 492, 3) := by decide +kernel
theorem jdS_4 : decode prog_14_method_56_code 4 = .ok (.ifCond .eq 12, 3) := by decide +kernel
theorem jdS_7 : decode prog_14_method_56_code 7 = .ok (.aload_n 0, 1) := by decide +kernel
theorem jdS_8 : decode prog_14_method_56_code 8 = .ok (.getfield 9, 3) := by decide +kernel
theorem jdS_11 : decode prog_14_method_56_code 11 = .ok (.iload_n 1, 1) := by decide +kernel
theorem jdS_12 : decode prog_14_method_56_code 12 = .ok (.invokestatic 495, 3) := by decide +kernel
theorem jdS_15 : decode prog_14_method_56_code 15 = .ok (.ireturn, 1) := by decide +kernel
/-- no cell at all -/
def nA : Nat → Prop := fun _ => False
theorem gJ {w : Cond} (h : w ∈ xtG) : GoodIn xtG (w :: xtG) := by
  intro w' hw
  rcases List.mem_cons.mp hw with rfl | hw
  · exact ⟨h, xtG_good h⟩
  · exact ⟨hw, xtG_good hw⟩
/-- the text's world: two statics, the String, its bytes -/
def sW (a t : Nat) (fv : Value) (A : Nat → Prop) (U : State) (H : Heap) : Prop :=
  va_Z "java/lang/String" "COMPACT_STRINGS" "Z" (.int 1) A U H ∧ va_Z "jdk/internal/util/Preconditions" "SIOOBE_FORMATTER" "Ljava/util/function/BiFunction;" fv A U H ∧ vk_S 1 [8] [[43, 45, 33, 35, 37, 46, 46, 46]] (fun _ => a) (fun _ => t) A U H
theorem sW_moved {a t : Nat} {fv : Value} {A : Nat → Prop} {u U : State} {H : Heap} (hvm : u.vm.Alike U.vm) (h : sW a t fv A u H) : sW a t fv A U H := ⟨va_Z.moved hvm h.1, va_Z.moved hvm h.2.1, vk_S.moved hvm h.2.2⟩
theorem sW_kept {a t : Nat} {fv : Value} {A : Nat → Prop} {U : State} {H H1 : Heap} (h : sW a t fv A U H) (hq : ∀ a : Nat, a < H.size → ¬ A a → H1[a]? = H[a]?) : sW a t fv A U H1 := ⟨h.1.kept hq, h.2.1.kept hq, h.2.2.kept hq⟩
theorem sW_narrow {a t : Nat} {fv : Value} {A B : Nat → Prop} {U : State} {H : Heap} (h : sW a t fv A U H) (hAB : ∀ q, B q → A q) : sW a t fv B U H := ⟨h.1.narrow hAB, h.2.1.narrow hAB, h.2.2.narrow hAB⟩
/-- a reference, or none -/
def isRv (fv : Value) : Prop := fv = .null ∨ ∃ a, fv = .ref a
def sCh (k : Nat) : Int32 := ([43, 45, 33, 35, 37, 46, 46, 46] : List Int32).getD k 0
theorem sCh_c : ∀ k, k < 8 → ((sCh k &&& 255).toUInt32 % 65536).toInt32 = sCh k ∧ narrow .char (.int (sCh k)) = .int (sCh k) ∧ ¬ nI k < 0 ∧ nI k < 8 := by decide
set_option maxHeartbeats 4000000 in
set_option maxRecDepth 100000 in
theorem mP (l : Launch) (i n : Int32) (fv : Value) (hfv : isRv fv) (h0 : ¬ i < 0) (h1 : i < n) (Hh : Heap) : Met l j_yP (Cond.code j_yP prog_19_method_11_code 3 (some .int) :: xtG) ({ frames := 0, cells := 0, slots := 0, locals := 0 }) (va_Pc [.int i, .int n, fv] (fun U => U.heap = Hh)) (va_Qi (fun (r : Int32) (_ : Unit) => r = i) (fun _ t => t.heap = Hh) nA) 0 0 nA := by
  refine Met.ofW (cc := prog_19_method_11_code) (maxL := 3) (ret := some .int) (by decide) rfl ?_
  intro p e s m args below meth c s₁ B hml hv
  obtain ⟨rfl, hh⟩ := hv
  subst hh
  have hx := B.exec
  have hb := B.bytes
  have hr := B.returns
  have hlocks := B.notSynchronized
  have hS : va_S nA s.heap s.heap [] := va_S.rf
  have hl := lv_entry ([.int i, .int n, fv]) (n := 3) (by rcases hfv with rfl | ⟨a, rfl⟩ <;> exact Nat.le_of_ble_eq_true rfl)
  rw [lg_entry_eq]
  generalize (lg_sl ([.int i, .int n, fv]) ++ List.replicate (3 - (lg_sl ([.int i, .int n, fv])).length) Slot.unset).toArray = ls at hl ⊢
  have hl : lv_has ls 3 [(0, .int i), (1, .int n), (2, fv)] := hl
  refine lv_iload_n hx hb jdP_0 rfl (lv_at hl 0 rfl) ?_
  refine lv_if_lt (tgt := 9) hx hb jdP_1 (by decide) (fun q => absurd q h0) (fun _ => ?_)
  refine lv_iload_n hx hb jdP_4 rfl (lv_at hl 0 rfl) ?_
  refine lv_iload_n hx hb jdP_5 rfl (lv_at hl 1 rfl) ?_
  refine lv_icmp_lt (tgt := 16) hx hb jdP_6 (by decide) (fun _ => ?_) (fun q => absurd h1 q)
  refine lv_iload_n hx hb jdP_16 rfl (lv_at hl 0 rfl) ?_
  exact W.iret (v := i) hx hb hr (fun t ht hW => ⟨⟨i, (), rfl, rfl, ht⟩, hS.F ht⟩) hS.2.2 jdP_17 hlocks
set_option maxHeartbeats 4000000 in
set_option maxRecDepth 100000 in
theorem mC (l : Launch) (i n : Int32) (a t : Nat) (fv : Value) (hfv : isRv fv) (h0 : ¬ i < 0) (h1 : i < n) (Hh : Heap) : Met l j_yC (Cond.code j_yC prog_14_method_155_code 2 none :: xtG) ({ frames := 1, cells := 0, slots := 0, locals := 22 }) (va_Pc [.int i, .int n] (fun U => U.heap = Hh ∧ sW a t fv nA U Hh)) (va_Qv (fun _ : Unit => True) (fun _ t => t.heap = Hh) nA) 0 0 nA := by
  refine Met.ofW (cc := prog_14_method_155_code) (maxL := 2) (ret := none) (by decide) rfl ?_
  intro p e s m args below meth c s₁ B hml hv
  obtain ⟨rfl, hh, hw⟩ := hv
  subst hh
  have hx := B.exec
  have hb := B.bytes
  have hr := B.returns
  have hlocks := B.notSynchronized
  have hts0 := atoms_spec (ws := (Cond.code j_yC prog_14_method_155_code 2 none :: xtG)) B.pre
  have hts : ∀ w ∈ xtG, w.before #[.int i, .int n] s = true := fun w hw => hts0 w (List.mem_cons_of_mem _ hw)
  have hown : s.vm.findClass "java/lang/String" = some m.cls := findClass_of_methodNamed B.named
  have hS : va_S nA s.heap s.heap [] := va_S.rf
  have hl := lv_entry ([.int i, .int n]) (n := 2) (Nat.le_of_ble_eq_true rfl)
  rw [lg_entry_eq]
  generalize (lg_sl ([.int i, .int n]) ++ List.replicate (2 - (lg_sl ([.int i, .int n])).length) Slot.unset).toArray = ls at hl ⊢
  have hl : lv_has ls 2 [(0, .int i), (1, .int n)] := hl
  refine lv_iload_n hx hb jdC_0 rfl (lv_at hl 0 rfl) ?_
  refine lv_iload_n hx hb jdC_1 rfl (lv_at hl 1 rfl) ?_
  refine va_gets hx hb hw.2.1 hS hown (hts _ jw_f1053) (fun _ h => h) jdC_2 ?_
  refine va_calli (va_runS (n := 3) (As := [.int i, .int n, fv]) (rest := []) ⟨hx, hb, hml, hown, hts⟩ (mP l i n fv hfv h0 h1 s.heap) ⟨callB_of 3 hts (gJ jw_cyP) rfl rfl rfl (hts _ jw_iP) (hts _ jw_mP) ⟨by decide, by decide, by decide +kernel⟩ ⟨Nat.le_of_ble_eq_true rfl, Nat.le_of_ble_eq_true rfl⟩, hts _ jw_syP⟩ ⟨fun a U g mk q => q, fun U hU hW => ⟨rfl, hU⟩⟩ rfl rfl hl.1 rfl (lv_room (Nat.le_of_ble_eq_true rfl)) jdC_5 ⟨Nat.zero_le _, Nat.zero_le _⟩) hS (fun q _ h => h) (fun q h => h) (fun r u t1 H1 locs1 ht hvm hp hB hz hk hS1 => ?_)
  have eH : H1 = s.heap := by rw [← ht]; exact hB
  subst eH
  refine lv_pop hx hb jdC_8 rfl ?_
  exact W.vret hx hb hr (fun t ht hW => ⟨⟨(), rfl, trivial, ht⟩, hS1.F ht⟩) hS1.2.2 jdC_9 hlocks
set_option maxHeartbeats 4000000 in
set_option maxRecDepth 100000 in
theorem mL (l : Launch) (k : Nat) (hk8 : k < 8) (a t : Nat) (fv : Value) (hfv : isRv fv) (Hh : Heap) : Met l j_yL (Cond.code j_yL prog_15_method_2_code 2 (some .char) :: xtG) ({ frames := 2, cells := 0, slots := 0, locals := 43 }) (va_Pc [.ref t, .int (nI k)] (fun U => U.heap = Hh ∧ sW a t fv nA U Hh)) (va_Qi (fun (r : Int32) (_ : Unit) => r = sCh k) (fun _ t => t.heap = Hh) nA) 0 0 nA := by
  refine Met.ofW (cc := prog_15_method_2_code) (maxL := 2) (ret := some .char) (by decide) rfl ?_
  intro p e s m args below meth c s₁ B hml hv
  obtain ⟨rfl, hh, hw⟩ := hv
  subst hh
  have hx := B.exec
  have hb := B.bytes
  have hr := B.returns
  have hlocks := B.notSynchronized
  have hts0 := atoms_spec (ws := (Cond.code j_yL prog_15_method_2_code 2 (some .char) :: xtG)) B.pre
  have hts : ∀ w ∈ xtG, w.before #[.ref t, .int (nI k)] s = true := fun w hw => hts0 w (List.mem_cons_of_mem _ hw)
  have hown : s.vm.findClass "java/lang/StringLatin1" = some m.cls := findClass_of_methodNamed B.named
  have hS : va_S nA s.heap s.heap [] := va_S.rf
  obtain ⟨k1, k2, k3, k4⟩ := sCh_c k hk8
  have hT : va_T .byte t 8 (fun j => .int (sCh j)) nA s s.heap := (hw.2.2.1 0 (by decide)).2.2.2
  have hl := lv_entry ([.ref t, .int (nI k)]) (n := 2) (Nat.le_of_ble_eq_true rfl)
  rw [lg_entry_eq]
  generalize (lg_sl ([.ref t, .int (nI k)]) ++ List.replicate (2 - (lg_sl ([.ref t, .int (nI k)])).length) Slot.unset).toArray = ls at hl ⊢
  have hl : lv_has ls 2 [(0, .ref t), (1, .int (nI k))] := hl
  refine lv_iload_n hx hb jdL_0 rfl (lv_at hl 1 rfl) ?_
  refine lv_aload_n hx hb jdL_1 rfl (lv_at hl 0 rfl) ?_
  refine va_tlen hx hb hT hS (v := 8) (by decide) jdL_2 ?_
  refine va_callv (va_runS (n := 2) (As := [.int (nI k), .int 8]) (rest := []) ⟨hx, hb, hml, hown, hts⟩ (mC l (nI k) 8 a t fv hfv k3 k4 s.heap) ⟨callB_of 2 hts (gJ jw_cyC) rfl rfl rfl (hts _ jw_iS) (hts _ jw_mC) ⟨by decide, by decide, by decide +kernel⟩ ⟨Nat.le_of_ble_eq_true rfl, Nat.le_of_ble_eq_true rfl⟩, hts _ jw_syC⟩ ⟨fun a U g mk q => ⟨q.1, q.2.1, sW_moved (u := U) (U := U.calling g mk a) (Vm.Alike.refl U.vm) q.2.2⟩, fun U hU hW => ⟨rfl, hU, sW_moved hW.alike hw⟩⟩ rfl rfl hl.1 rfl (lv_room (Nat.le_of_ble_eq_true rfl)) jdL_3 ⟨Nat.zero_le _, Nat.zero_le _⟩) hS (fun q _ h => h) (fun q h => h) (fun u t1 H1 locs1 ht hvm hp hB hz hk hS1 => ?_)
  have eH : H1 = s.heap := by rw [← ht]; exact hB
  subst eH
  refine lv_aload_n hx hb jdL_6 rfl (lv_at hl 0 rfl) ?_
  refine lv_iload_n hx hb jdL_7 rfl (lv_at hl 1 rfl) ?_
  refine va_tb (v := .int (sCh k)) hx hb hT hS1 (vp_in_nI hk8 (by decide)) (by show Value.int (sCh (nI k).toNatClampNeg) = _; rw [nI_cl (by omega)]) jdL_8 ?_
  refine lv_sipush (v := 255) hx hb jdL_9 (by decide) ?_
  refine lv_iand hx hb jdL_12 ?_
  refine lv_i2c (v := sCh k) hx hb jdL_13 k1 ?_
  exact W.zret (v := sCh k) (ty := .char) hx hb hr k2 (fun t ht hW => ⟨⟨sCh k, (), rfl, rfl, ht⟩, hS1.F ht⟩) hS1.2.2 jdL_14 hlocks
set_option maxHeartbeats 4000000 in
set_option maxRecDepth 100000 in
theorem m_IL (l : Launch) (a t : Nat) (fv : Value) (Hh : Heap) : Met l j_yI (Cond.code j_yI prog_14_method_154_code 1 (some .boolean) :: xtG) ({ frames := 0, cells := 0, slots := 0, locals := 0 }) (va_Pc [.ref a] (fun U => U.heap = Hh ∧ sW a t fv nA U Hh)) (va_Qi (fun (r : Int32) (_ : Unit) => r = 1) (fun _ t => t.heap = Hh) nA) 0 0 nA := by
  refine Met.ofW (cc := prog_14_method_154_code) (maxL := 1) (ret := some .boolean) (by decide) rfl ?_
  intro p e s m args below meth c s₁ B hml hv
  obtain ⟨rfl, hh, hw⟩ := hv
  subst hh
  have hx := B.exec
  have hb := B.bytes
  have hr := B.returns
  have hlocks := B.notSynchronized
  have hts0 := atoms_spec (ws := (Cond.code j_yI prog_14_method_154_code 1 (some .boolean) :: xtG)) B.pre
  have hts : ∀ w ∈ xtG, w.before #[.ref a] s = true := fun w hw => hts0 w (List.mem_cons_of_mem _ hw)
  have hown : s.vm.findClass "java/lang/String" = some m.cls := findClass_of_methodNamed B.named
  have hS : va_S nA s.heap s.heap [] := va_S.rf
  have hl := lv_entry ([.ref a]) (n := 1) (Nat.le_of_ble_eq_true rfl)
  rw [lg_entry_eq]
  generalize (lg_sl ([.ref a]) ++ List.replicate (1 - (lg_sl ([.ref a])).length) Slot.unset).toArray = ls at hl ⊢
  have hl : lv_has ls 1 [(0, .ref a)] := hl
  refine va_gets hx hb hw.1 hS hown (hts _ jw_f38) (fun _ h => h) jdI_0 ?_
  refine lv_if_eq (tgt := 17) hx hb jdI_3 (by decide) (fun q => absurd q (by decide)) (fun _ => ?_)
  refine lv_aload_n hx hb jdI_6 rfl (lv_at hl 0 rfl) ?_
  refine vk_getf hx hb (hw.2.2.1 0 (by decide)).2.1 hS hown (hts _ jw_f15) (fun _ h => h) jdI_7 ?_
  refine lv_if_ne (tgt := 17) hx hb jdI_10 (by decide) (fun q => absurd rfl q) (fun _ => ?_)
  refine lv_iconst (v := 1) hx hb jdI_13 (by decide) ?_
  refine lv_goto (tgt := 18) hx hb jdI_14 (by decide) ?_
  exact W.zret (v := 1) (ty := .boolean) hx hb hr (by decide) (fun t ht hW => ⟨⟨1, (), rfl, rfl, ht⟩, hS.F ht⟩) hS.2.2 jdI_18 hlocks
set_option maxHeartbeats 4000000 in
set_option maxRecDepth 100000 in
theorem mS (l : Launch) (k : Nat) (hk8 : k < 8) (a t : Nat) (fv : Value) (hfv : isRv fv) (Hh : Heap) : Met l j_yS (Cond.code j_yS prog_14_method_56_code 2 (some .char) :: xtG) ({ frames := 3, cells := 0, slots := 0, locals := 64 }) (va_Pc [.ref a, .int (nI k)] (fun U => U.heap = Hh ∧ sW a t fv nA U Hh)) (va_Qi (fun (r : Int32) (_ : Unit) => r = sCh k) (fun _ t => t.heap = Hh) nA) 0 0 nA := by
  refine Met.ofW (cc := prog_14_method_56_code) (maxL := 2) (ret := some .char) (by decide) rfl ?_
  intro p e s m args below meth c s₁ B hml hv
  obtain ⟨rfl, hh, hw⟩ := hv
  subst hh
  have hx := B.exec
  have hb := B.bytes
  have hr := B.returns
  have hlocks := B.notSynchronized
  have hts0 := atoms_spec (ws := (Cond.code j_yS prog_14_method_56_code 2 (some .char) :: xtG)) B.pre
  have hts : ∀ w ∈ xtG, w.before #[.ref a, .int (nI k)] s = true := fun w hw => hts0 w (List.mem_cons_of_mem _ hw)
  have hown : s.vm.findClass "java/lang/String" = some m.cls := findClass_of_methodNamed B.named
  have hS : va_S nA s.heap s.heap [] := va_S.rf
  obtain ⟨k1, k2, k3, k4⟩ := sCh_c k hk8
  have hl := lv_entry ([.ref a, .int (nI k)]) (n := 2) (Nat.le_of_ble_eq_true rfl)
  rw [lg_entry_eq]
  generalize (lg_sl ([.ref a, .int (nI k)]) ++ List.replicate (2 - (lg_sl ([.ref a, .int (nI k)])).length) Slot.unset).toArray = ls at hl ⊢
  have hl : lv_has ls 2 [(0, .ref a), (1, .int (nI k))] := hl
  refine lv_aload_n hx hb jdS_0 rfl (lv_at hl 0 rfl) ?_
  refine va_calli (va_runV (n := 0) (C := "java/lang/String") (As := []) (rest := []) ⟨hx, hb, hml, hown, hts⟩ (m_IL l a t fv s.heap) ⟨callB_of 0 hts (gJ jw_cyI) rfl rfl rfl (hts _ jw_iS) (hts _ jw_mI) ⟨by decide, by decide, by decide +kernel⟩ ⟨Nat.le_of_ble_eq_true rfl, Nat.le_of_ble_eq_true rfl⟩, hts _ jw_nyI, hts _ jw_lyI⟩ ⟨fun a U g mk q => ⟨q.1, q.2.1, sW_moved (u := U) (U := U.calling g mk a) (Vm.Alike.refl U.vm) q.2.2⟩, vk_recv (i := 0) hw.2.2 (by decide) hS, fun U hU hW => ⟨rfl, hU, sW_moved hW.alike hw⟩⟩ rfl rfl hl.1 rfl (lv_room (Nat.le_of_ble_eq_true rfl)) jdS_1 ⟨Nat.zero_le _, Nat.zero_le _⟩) hS (fun q _ h => h) (fun q h => h) (fun r u t1 H1 locs1 ht hvm hp hB hz hk hS1 => ?_)
  have eH : H1 = s.heap := by rw [← ht]; exact hB
  subst eH
  subst hp
  refine lv_if_eq (tgt := 16) hx hb jdS_4 (by decide) (fun q => absurd q (by decide)) (fun _ => ?_)
  refine lv_aload_n hx hb jdS_7 rfl (lv_at hl 0 rfl) ?_
  refine vk_getf hx hb (hw.2.2.1 0 (by decide)).2.2.1 hS1 hown (hts _ jw_f9) (fun _ h => h) jdS_8 ?_
  refine lv_iload_n hx hb jdS_11 rfl (lv_at hl 1 rfl) ?_
  refine va_calli (va_runS (n := 2) (As := [.ref t, .int (nI k)]) (rest := []) ⟨hx, hb, hml, hown, hts⟩ (mL l k hk8 a t fv hfv s.heap) ⟨callB_of 2 hts (gJ jw_cyL) rfl rfl rfl (hts _ jw_iL) (hts _ jw_mL) ⟨by decide, by decide, by decide +kernel⟩ ⟨Nat.le_of_ble_eq_true rfl, Nat.le_of_ble_eq_true rfl⟩, hts _ jw_syL⟩ ⟨fun a U g mk q => ⟨q.1, q.2.1, sW_moved (u := U) (U := U.calling g mk a) (Vm.Alike.refl U.vm) q.2.2⟩, fun U hU hW => ⟨rfl, hU, sW_moved hW.alike hw⟩⟩ rfl rfl hl.1 rfl (lv_room (Nat.le_of_ble_eq_true rfl)) jdS_12 ⟨Nat.zero_le _, Nat.zero_le _⟩) hS1 (fun q _ h => h) (fun q h => h) (fun r u t2 H2 locs2 ht2 hvm2 hp2 hB2 hz2 hk2 hS2 => ?_)
  have eH2 : H2 = s.heap := by rw [← ht2]; exact hB2
  subst eH2
  subst hp2
  exact W.zret (v := sCh k) (ty := .char) hx hb hr k2 (fun t ht hW => ⟨⟨sCh k, (), rfl, rfl, ht⟩, hS2.F ht⟩) hS2.2.2 jdS_15 hlocks
/-- what is known of the text, from the start on -/
def xZs (base : Nat) (ex : Nat → Nat) (H00 : Heap) (U : State) : Prop := vk_R "KineticCup$Rehearsal" 75 "+-!#%..." (ex 1) U ∧ ∃ t fv, isRv fv ∧ sW (ex 1) t fv (fun q => base ≤ q) U H00
theorem xZs_ok (base : Nat) (ex : Nat → Nat) (H00 : Heap) : xZok (xZs base ex H00) := by
  refine ⟨fun s U hW h => ?_, fun U g mk a h => ?_⟩
  · obtain ⟨h1, t, fv, h2, h3⟩ := h
    exact ⟨vk_R.warm hW h1, t, fv, h2, sW_moved hW.alike h3⟩
  · obtain ⟨h1, t, fv, h2, h3⟩ := h
    exact ⟨vk_R.same (u := U) rfl h1, t, fv, h2, sW_moved (u := U) (U := U.calling g mk a) (Vm.Alike.refl U.vm) h3⟩
theorem xk_8 : xmt.all (fun e => !decide (e.2.1 = 8) || decide (e.1 = (4, 77))) = true := by decide +kernel
theorem xk_r4 : (List.range 188).all (fun id => !decide (xown id = 4) || !decide (81 ≤ xrl id) || decide (85 ≤ xrl id)) = true := by decide +kernel
theorem xk_rl {id : Nat} (h : xown id = 4) (h2 : 81 ≤ xrl id) : 85 ≤ xrl id := by
  by_cases g : id < 188
  · have q := List.all_eq_true.mp xk_r4 id (List.mem_range.mpr g)
    rw [decide_eq_true h, decide_eq_true h2] at q
    simpa using q
  · have : xtab.length = 188 := by decide +kernel
    unfold xown xm at h
    rw [List.getD_eq_getElem?_getD, List.getElem?_eq_none (by omega)] at h
    cases h
theorem xstr_Z (l : Launch) (base : Nat) (ex : Nat → Nat) (D : va_G) (cA : Nat → ClassId) (H00 : Heap) (X : xX) : xstrR l base ex D cA H00 X (xZs base ex H00) := by
  refine ⟨?_, ?_⟩
  · intro p e R s m args below meth c H locs cells slots Q id pc j pl arr rest F hd hc k
    have hm := List.all_eq_true.mp xk_cst _ (xlook hc)
    have hm : ((xown id, j) == (4, 75)) = true := hm
    obtain ⟨e4, e75⟩ := Prod.mk.inj (eq_of_beq hm)
    subst e75
    obtain ⟨hx, hb, hr0, hml, hown, hts, hkw, hlk, hnm, hrf, hrl⟩ := F
    rw [e4] at hown
    exact va_ldcS hx hb hown hkw.2.2.2.2.1 hd k
  · intro p e R s m args below meth c H locs cells slots Q id pc j a b p1 p2 p3 arr r S i v F hH hL hsz hd hm hcat hrf4 hrl81 hch hcs hsl kk
    have hq := List.all_eq_true.mp xk_8 _ (xlook hm)
    have e47 : (xown id, j) = (4, 77) := by simpa using hq
    obtain ⟨e4, e77⟩ := Prod.mk.inj e47
    subst e77
    have hrl85 := xk_rl e4 hrl81
    obtain ⟨hx, hb, hr0, hml, hown, hts, hkw, hlk, hnm, hrf, hrl⟩ := F
    rw [e4] at hown
    obtain ⟨-, t, fv, hfv, hw0⟩ := hkw.2.2.2.2
    have hw : sW (ex 1) t fv nA s H := sW_narrow (sW_kept hw0 (fun q _ h => hH.2.2 q (Nat.not_le.mp h))) (fun q h => h.elim)
    obtain ⟨k, hk8, rfl, rfl⟩ : ∃ k, k < 8 ∧ i = nI k ∧ v = sCh k := by
      unfold xchr at hch
      by_cases g : xin i 8 = true
      · rw [if_pos g] at hch
        obtain ⟨k, hk, rfl⟩ := xin_of g (by omega)
        rw [nI_cl (by omega)] at hch
        exact ⟨k, hk, rfl, (Option.some.inj hch).symm⟩
      · rw [if_neg g] at hch
        cases hch
    have hS : va_S (fun q => base ≤ q) H H locs := ⟨Nat.le_refl _, fun _ _ _ => rfl, hL⟩
    have hS0 : va_S nA H H [] := va_S.rf
    have hrecv : ∃ cell : Cell, H[ex 1]? = some cell ∧ cell.vm.isStatics = false ∧ s.vm.findClass "java/lang/String" = some cell.cls := by
      obtain ⟨cell, h1, h2, h3, -⟩ := (hw.2.2.1 0 (by decide)).1
      exact ⟨cell, h1, h2, h3⟩
    refine va_calli (va_runV (n := 1) (C := "java/lang/String") (As := [.int (nI k)]) (rest := r.map (xtv base ex)) ⟨hx, hb, hml, hown, hts⟩ (mS l k hk8 (ex 1) t fv hfv H) ⟨callB_of 1 hts (gJ jw_cyS) rfl rfl rfl (hts _ jw_iS) (hts _ jw_mS) ⟨by decide, by decide, by decide +kernel⟩ ⟨Nat.le_trans hrf4 hrf, Nat.le_trans hrl85 hrl⟩, hts _ jw_nyS, hts _ jw_lyS⟩ ⟨fun a U g mk q => ⟨q.1, q.2.1, sW_moved (u := U) (U := U.calling g mk a) (Vm.Alike.refl U.vm) q.2.2⟩, hrecv, fun U hU hW => ⟨rfl, hU, sW_moved hW.alike hw⟩⟩ rfl rfl hsz rfl (lv_room (by rw [xcats]; exact hcat)) hd ⟨hcs, hsl⟩) hS (fun q _ h => h.elim) (fun q h => h.elim) (fun r0 u t1 H1 locs1 ht hvm hp hB hz hk hS1 => ?_)
    have eH : H1 = H := by rw [← ht]; exact hB
    subst eH
    subst hp
    exact kk H1 locs1 hH hS1.2.2
