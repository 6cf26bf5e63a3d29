section
-- ===== PART A: goes FIRST, ahead of the names: the tables' words, and 'selects' of the private methods out of them =====
/-- a private method of a class that the tables say can be made, by its rows of tables_1 -/
def lw_okq (q : MethodName × Nat) : Prop := (q.1.cls ≠ "java/lang/invoke/MethodHandle" ∧ q.1.cls ≠ "java/lang/invoke/VarHandle") ∧ Cond.instantiable q.1.cls q.2 ∈ tables_1 ∧ Cond.privateMethod q.1 ∈ tables_1 ∧ Cond.instanceMethod q.1 ∈ tables_1
theorem lw_p0 : lw_okq (⟨"KineticCup$Cup", "beginAnew", "()V"⟩, 9) := ⟨⟨by decide +kernel, by decide +kernel⟩, List.mem_of_getElem? (i := 28) (by decide +kernel), List.mem_of_getElem? (i := 91) (by decide +kernel), List.mem_of_getElem? (i := 92) (by decide +kernel)⟩
theorem lw_p1 : lw_okq (⟨"KineticCup$Cup", "decide", "(III)Z"⟩, 9) := ⟨⟨by decide +kernel, by decide +kernel⟩, List.mem_of_getElem? (i := 28) (by decide +kernel), List.mem_of_getElem? (i := 102) (by decide +kernel), List.mem_of_getElem? (i := 103) (by decide +kernel)⟩
theorem lw_p2 : lw_okq (⟨"KineticCup$Cup", "comer", "(I)I"⟩, 9) := ⟨⟨by decide +kernel, by decide +kernel⟩, List.mem_of_getElem? (i := 28) (by decide +kernel), List.mem_of_getElem? (i := 109) (by decide +kernel), List.mem_of_getElem? (i := 110) (by decide +kernel)⟩
theorem lw_p3 : lw_okq (⟨"KineticCup$Cup", "whoIsInOn", "(I)I"⟩, 9) := ⟨⟨by decide +kernel, by decide +kernel⟩, List.mem_of_getElem? (i := 28) (by decide +kernel), List.mem_of_getElem? (i := 117) (by decide +kernel), List.mem_of_getElem? (i := 118) (by decide +kernel)⟩
theorem lw_p4 : lw_okq (⟨"KineticCup$Cup", "ahead", "(IIII)I"⟩, 9) := ⟨⟨by decide +kernel, by decide +kernel⟩, List.mem_of_getElem? (i := 28) (by decide +kernel), List.mem_of_getElem? (i := 121) (by decide +kernel), List.mem_of_getElem? (i := 122) (by decide +kernel)⟩
theorem lw_p5 : lw_okq (⟨"KineticCup$Cup", "certify", "(III)V"⟩, 9) := ⟨⟨by decide +kernel, by decide +kernel⟩, List.mem_of_getElem? (i := 28) (by decide +kernel), List.mem_of_getElem? (i := 128) (by decide +kernel), List.mem_of_getElem? (i := 129) (by decide +kernel)⟩
theorem lw_p6 : lw_okq (⟨"KineticCup$Pad", "faultOfActAt", "(I)I"⟩, 2) := ⟨⟨by decide +kernel, by decide +kernel⟩, List.mem_of_getElem? (i := 169) (by decide +kernel), List.mem_of_getElem? (i := 339) (by decide +kernel), List.mem_of_getElem? (i := 340) (by decide +kernel)⟩
theorem lw_p7 : lw_okq (⟨"KineticCup$Pad", "signAt", "(I)I"⟩, 2) := ⟨⟨by decide +kernel, by decide +kernel⟩, List.mem_of_getElem? (i := 169) (by decide +kernel), List.mem_of_getElem? (i := 343) (by decide +kernel), List.mem_of_getElem? (i := 344) (by decide +kernel)⟩
theorem lw_p8 : lw_okq (⟨"KineticCup$Pad", "isLetterAt", "(I)Z"⟩, 2) := ⟨⟨by decide +kernel, by decide +kernel⟩, List.mem_of_getElem? (i := 169) (by decide +kernel), List.mem_of_getElem? (i := 347) (by decide +kernel), List.mem_of_getElem? (i := 348) (by decide +kernel)⟩
theorem lw_p9 : lw_okq (⟨"KineticCup$Rehearsal", "begin", "(LKineticCup$Cup;)V"⟩, 4) := ⟨⟨by decide +kernel, by decide +kernel⟩, List.mem_of_getElem? (i := 201) (by decide +kernel), List.mem_of_getElem? (i := 368) (by decide +kernel), List.mem_of_getElem? (i := 369) (by decide +kernel)⟩
theorem lw_p10 : lw_okq (⟨"KineticCup$Cup", "swapHindrance", "(II)I"⟩, 9) := ⟨⟨by decide +kernel, by decide +kernel⟩, List.mem_of_getElem? (i := 28) (by decide +kernel), List.mem_of_getElem? (i := 407) (by decide +kernel), List.mem_of_getElem? (i := 408) (by decide +kernel)⟩
theorem lw_p11 : lw_okq (⟨"KineticCup$Cup", "pushHindrance", "(II)I"⟩, 9) := ⟨⟨by decide +kernel, by decide +kernel⟩, List.mem_of_getElem? (i := 28) (by decide +kernel), List.mem_of_getElem? (i := 414) (by decide +kernel), List.mem_of_getElem? (i := 415) (by decide +kernel)⟩
theorem lw_p12 : lw_okq (⟨"KineticCup$Cup", "change", "(III)V"⟩, 9) := ⟨⟨by decide +kernel, by decide +kernel⟩, List.mem_of_getElem? (i := 28) (by decide +kernel), List.mem_of_getElem? (i := 426) (by decide +kernel), List.mem_of_getElem? (i := 427) (by decide +kernel)⟩
theorem lw_p13 : lw_okq (⟨"KineticCup$Cup", "push", "(II)V"⟩, 9) := ⟨⟨by decide +kernel, by decide +kernel⟩, List.mem_of_getElem? (i := 28) (by decide +kernel), List.mem_of_getElem? (i := 430) (by decide +kernel), List.mem_of_getElem? (i := 431) (by decide +kernel)⟩
theorem lw_p14 : lw_okq (⟨"KineticCup$Cup", "swap", "(II)V"⟩, 9) := ⟨⟨by decide +kernel, by decide +kernel⟩, List.mem_of_getElem? (i := 28) (by decide +kernel), List.mem_of_getElem? (i := 434) (by decide +kernel), List.mem_of_getElem? (i := 435) (by decide +kernel)⟩
theorem lw_p15 : lw_okq (⟨"KineticCup$Cup", "takeDue", "(II)Z"⟩, 9) := ⟨⟨by decide +kernel, by decide +kernel⟩, List.mem_of_getElem? (i := 28) (by decide +kernel), List.mem_of_getElem? (i := 438) (by decide +kernel), List.mem_of_getElem? (i := 439) (by decide +kernel)⟩
def lw_privs_1 : List (MethodName × Nat) := [(⟨"KineticCup$Cup", "beginAnew", "()V"⟩, 9), (⟨"KineticCup$Cup", "decide", "(III)Z"⟩, 9), (⟨"KineticCup$Cup", "comer", "(I)I"⟩, 9), (⟨"KineticCup$Cup", "whoIsInOn", "(I)I"⟩, 9), (⟨"KineticCup$Cup", "ahead", "(IIII)I"⟩, 9), (⟨"KineticCup$Cup", "certify", "(III)V"⟩, 9), (⟨"KineticCup$Pad", "faultOfActAt", "(I)I"⟩, 2), (⟨"KineticCup$Pad", "signAt", "(I)I"⟩, 2), (⟨"KineticCup$Pad", "isLetterAt", "(I)Z"⟩, 2), (⟨"KineticCup$Rehearsal", "begin", "(LKineticCup$Cup;)V"⟩, 4), (⟨"KineticCup$Cup", "swapHindrance", "(II)I"⟩, 9), (⟨"KineticCup$Cup", "pushHindrance", "(II)I"⟩, 9), (⟨"KineticCup$Cup", "change", "(III)V"⟩, 9), (⟨"KineticCup$Cup", "push", "(II)V"⟩, 9), (⟨"KineticCup$Cup", "swap", "(II)V"⟩, 9), (⟨"KineticCup$Cup", "takeDue", "(II)Z"⟩, 9)]
theorem lw_r1 : ∀ q ∈ lw_privs_1, lw_okq q := List.forall_mem_cons.mpr ⟨lw_p0, List.forall_mem_cons.mpr ⟨lw_p1, List.forall_mem_cons.mpr ⟨lw_p2, List.forall_mem_cons.mpr ⟨lw_p3, List.forall_mem_cons.mpr ⟨lw_p4, List.forall_mem_cons.mpr ⟨lw_p5, List.forall_mem_cons.mpr ⟨lw_p6, List.forall_mem_cons.mpr ⟨lw_p7, List.forall_mem_cons.mpr ⟨lw_p8, List.forall_mem_cons.mpr ⟨lw_p9, List.forall_mem_cons.mpr ⟨lw_p10, List.forall_mem_cons.mpr ⟨lw_p11, List.forall_mem_cons.mpr ⟨lw_p12, List.forall_mem_cons.mpr ⟨lw_p13, List.forall_mem_cons.mpr ⟨lw_p14, List.forall_mem_cons.mpr ⟨lw_p15, fun _ h => absurd h List.not_mem_nil⟩⟩⟩⟩⟩⟩⟩⟩⟩⟩⟩⟩⟩⟩⟩⟩
theorem lw_p16 : lw_okq (⟨"KineticCup$Queue", "isHere", "(I)Z"⟩, 7) := ⟨⟨by decide +kernel, by decide +kernel⟩, List.mem_of_getElem? (i := 34) (by decide +kernel), List.mem_of_getElem? (i := 454) (by decide +kernel), List.mem_of_getElem? (i := 455) (by decide +kernel)⟩
theorem lw_p17 : lw_okq (⟨"KineticCup$Queue", "isSooner", "(II)Z"⟩, 7) := ⟨⟨by decide +kernel, by decide +kernel⟩, List.mem_of_getElem? (i := 34) (by decide +kernel), List.mem_of_getElem? (i := 458) (by decide +kernel), List.mem_of_getElem? (i := 459) (by decide +kernel)⟩
theorem lw_p18 : lw_okq (⟨"KineticCup$Cup", "successor", "(III)I"⟩, 9) := ⟨⟨by decide +kernel, by decide +kernel⟩, List.mem_of_getElem? (i := 28) (by decide +kernel), List.mem_of_getElem? (i := 575) (by decide +kernel), List.mem_of_getElem? (i := 576) (by decide +kernel)⟩
theorem lw_p19 : lw_okq (⟨"KineticCup$Search", "countAt", "(I)V"⟩, 5) := ⟨⟨by decide +kernel, by decide +kernel⟩, List.mem_of_getElem? (i := 222) (by decide +kernel), List.mem_of_getElem? (i := 670) (by decide +kernel), List.mem_of_getElem? (i := 671) (by decide +kernel)⟩
theorem lw_p20 : lw_okq (⟨"KineticCup", "toldOfAll", "(I)I"⟩, 6) := ⟨⟨by decide +kernel, by decide +kernel⟩, List.mem_of_getElem? (i := 20) (by decide +kernel), List.mem_of_getElem? (i := 770) (by decide +kernel), List.mem_of_getElem? (i := 771) (by decide +kernel)⟩
theorem lw_p21 : lw_okq (⟨"KineticCup", "toldOfOne", "(II)I"⟩, 6) := ⟨⟨by decide +kernel, by decide +kernel⟩, List.mem_of_getElem? (i := 20) (by decide +kernel), List.mem_of_getElem? (i := 778) (by decide +kernel), List.mem_of_getElem? (i := 779) (by decide +kernel)⟩
theorem lw_p22 : lw_okq (⟨"KineticCupModel", "anew", "()V"⟩, 20) := ⟨⟨by decide +kernel, by decide +kernel⟩, List.mem_of_getElem? (i := 782) (by decide +kernel), List.mem_of_getElem? (i := 788) (by decide +kernel), List.mem_of_getElem? (i := 789) (by decide +kernel)⟩
theorem lw_p23 : lw_okq (⟨"KineticCupModel", "comer", "(II)I"⟩, 20) := ⟨⟨by decide +kernel, by decide +kernel⟩, List.mem_of_getElem? (i := 782) (by decide +kernel), List.mem_of_getElem? (i := 792) (by decide +kernel), List.mem_of_getElem? (i := 793) (by decide +kernel)⟩
theorem lw_p24 : lw_okq (⟨"KineticCupModel", "onPlace", "(I)I"⟩, 20) := ⟨⟨by decide +kernel, by decide +kernel⟩, List.mem_of_getElem? (i := 782) (by decide +kernel), List.mem_of_getElem? (i := 796) (by decide +kernel), List.mem_of_getElem? (i := 797) (by decide +kernel)⟩
theorem lw_p25 : lw_okq (⟨"KineticCupModel", "better", "(IIII)I"⟩, 20) := ⟨⟨by decide +kernel, by decide +kernel⟩, List.mem_of_getElem? (i := 782) (by decide +kernel), List.mem_of_getElem? (i := 800) (by decide +kernel), List.mem_of_getElem? (i := 801) (by decide +kernel)⟩
theorem lw_p26 : lw_okq (⟨"KineticCupModel", "isAhead", "(IIII)Z"⟩, 20) := ⟨⟨by decide +kernel, by decide +kernel⟩, List.mem_of_getElem? (i := 782) (by decide +kernel), List.mem_of_getElem? (i := 804) (by decide +kernel), List.mem_of_getElem? (i := 805) (by decide +kernel)⟩
theorem lw_p27 : lw_okq (⟨"KineticCupModel", "certify", "(I)V"⟩, 20) := ⟨⟨by decide +kernel, by decide +kernel⟩, List.mem_of_getElem? (i := 782) (by decide +kernel), List.mem_of_getElem? (i := 808) (by decide +kernel), List.mem_of_getElem? (i := 809) (by decide +kernel)⟩
theorem lw_p28 : lw_okq (⟨"KineticCupModel", "keep", "()V"⟩, 20) := ⟨⟨by decide +kernel, by decide +kernel⟩, List.mem_of_getElem? (i := 782) (by decide +kernel), List.mem_of_getElem? (i := 812) (by decide +kernel), List.mem_of_getElem? (i := 813) (by decide +kernel)⟩
theorem lw_p29 : lw_okq (⟨"KineticCupModel", "asNow", "()V"⟩, 20) := ⟨⟨by decide +kernel, by decide +kernel⟩, List.mem_of_getElem? (i := 782) (by decide +kernel), List.mem_of_getElem? (i := 887) (by decide +kernel), List.mem_of_getElem? (i := 888) (by decide +kernel)⟩
theorem lw_p30 : lw_okq (⟨"KineticCupModel", "faultOf", "()I"⟩, 20) := ⟨⟨by decide +kernel, by decide +kernel⟩, List.mem_of_getElem? (i := 782) (by decide +kernel), List.mem_of_getElem? (i := 903) (by decide +kernel), List.mem_of_getElem? (i := 904) (by decide +kernel)⟩
theorem lw_p31 : lw_okq (⟨"KineticCupModel", "goDays", "()I"⟩, 20) := ⟨⟨by decide +kernel, by decide +kernel⟩, List.mem_of_getElem? (i := 782) (by decide +kernel), List.mem_of_getElem? (i := 914) (by decide +kernel), List.mem_of_getElem? (i := 915) (by decide +kernel)⟩
def lw_privs_2 : List (MethodName × Nat) := [(⟨"KineticCup$Queue", "isHere", "(I)Z"⟩, 7), (⟨"KineticCup$Queue", "isSooner", "(II)Z"⟩, 7), (⟨"KineticCup$Cup", "successor", "(III)I"⟩, 9), (⟨"KineticCup$Search", "countAt", "(I)V"⟩, 5), (⟨"KineticCup", "toldOfAll", "(I)I"⟩, 6), (⟨"KineticCup", "toldOfOne", "(II)I"⟩, 6), (⟨"KineticCupModel", "anew", "()V"⟩, 20), (⟨"KineticCupModel", "comer", "(II)I"⟩, 20), (⟨"KineticCupModel", "onPlace", "(I)I"⟩, 20), (⟨"KineticCupModel", "better", "(IIII)I"⟩, 20), (⟨"KineticCupModel", "isAhead", "(IIII)Z"⟩, 20), (⟨"KineticCupModel", "certify", "(I)V"⟩, 20), (⟨"KineticCupModel", "keep", "()V"⟩, 20), (⟨"KineticCupModel", "asNow", "()V"⟩, 20), (⟨"KineticCupModel", "faultOf", "()I"⟩, 20), (⟨"KineticCupModel", "goDays", "()I"⟩, 20)]
theorem lw_r2 : ∀ q ∈ lw_privs_2, lw_okq q := List.forall_mem_cons.mpr ⟨lw_p16, List.forall_mem_cons.mpr ⟨lw_p17, List.forall_mem_cons.mpr ⟨lw_p18, List.forall_mem_cons.mpr ⟨lw_p19, List.forall_mem_cons.mpr ⟨lw_p20, List.forall_mem_cons.mpr ⟨lw_p21, List.forall_mem_cons.mpr ⟨lw_p22, List.forall_mem_cons.mpr ⟨lw_p23, List.forall_mem_cons.mpr ⟨lw_p24, List.forall_mem_cons.mpr ⟨lw_p25, List.forall_mem_cons.mpr ⟨lw_p26, List.forall_mem_cons.mpr ⟨lw_p27, List.forall_mem_cons.mpr ⟨lw_p28, List.forall_mem_cons.mpr ⟨lw_p29, List.forall_mem_cons.mpr ⟨lw_p30, List.forall_mem_cons.mpr ⟨lw_p31, fun _ h => absurd h List.not_mem_nil⟩⟩⟩⟩⟩⟩⟩⟩⟩⟩⟩⟩⟩⟩⟩⟩
theorem lw_p32 : lw_okq (⟨"KineticCupModel", "oneAct", "(I)I"⟩, 20) := ⟨⟨by decide +kernel, by decide +kernel⟩, List.mem_of_getElem? (i := 782) (by decide +kernel), List.mem_of_getElem? (i := 918) (by decide +kernel), List.mem_of_getElem? (i := 919) (by decide +kernel)⟩
theorem lw_p33 : lw_okq (⟨"KineticCupModel", "endSecond", "(I)I"⟩, 20) := ⟨⟨by decide +kernel, by decide +kernel⟩, List.mem_of_getElem? (i := 782) (by decide +kernel), List.mem_of_getElem? (i := 922) (by decide +kernel), List.mem_of_getElem? (i := 923) (by decide +kernel)⟩
theorem lw_p34 : lw_okq (⟨"KineticCupModel", "dueBy", "(I)I"⟩, 20) := ⟨⟨by decide +kernel, by decide +kernel⟩, List.mem_of_getElem? (i := 782) (by decide +kernel), List.mem_of_getElem? (i := 926) (by decide +kernel), List.mem_of_getElem? (i := 927) (by decide +kernel)⟩
theorem lw_p35 : lw_okq (⟨"KineticCupModel", "take", "(II)V"⟩, 20) := ⟨⟨by decide +kernel, by decide +kernel⟩, List.mem_of_getElem? (i := 782) (by decide +kernel), List.mem_of_getElem? (i := 930) (by decide +kernel), List.mem_of_getElem? (i := 931) (by decide +kernel)⟩
theorem lw_p36 : lw_okq (⟨"KineticCupModel", "bend", "(II)I"⟩, 20) := ⟨⟨by decide +kernel, by decide +kernel⟩, List.mem_of_getElem? (i := 782) (by decide +kernel), List.mem_of_getElem? (i := 934) (by decide +kernel), List.mem_of_getElem? (i := 935) (by decide +kernel)⟩
theorem lw_p37 : lw_okq (⟨"KineticCupModel", "goOut", "(IZ)I"⟩, 20) := ⟨⟨by decide +kernel, by decide +kernel⟩, List.mem_of_getElem? (i := 782) (by decide +kernel), List.mem_of_getElem? (i := 938) (by decide +kernel), List.mem_of_getElem? (i := 939) (by decide +kernel)⟩
theorem lw_p38 : lw_okq (⟨"KineticCupModel", "exchange", "(II)I"⟩, 20) := ⟨⟨by decide +kernel, by decide +kernel⟩, List.mem_of_getElem? (i := 782) (by decide +kernel), List.mem_of_getElem? (i := 942) (by decide +kernel), List.mem_of_getElem? (i := 943) (by decide +kernel)⟩
theorem lw_p39 : lw_okq (⟨"KineticCupModel", "barOfDays", "()I"⟩, 20) := ⟨⟨by decide +kernel, by decide +kernel⟩, List.mem_of_getElem? (i := 782) (by decide +kernel), List.mem_of_getElem? (i := 950) (by decide +kernel), List.mem_of_getElem? (i := 951) (by decide +kernel)⟩
theorem lw_p40 : lw_okq (⟨"KineticCupModel", "best", "(III)I"⟩, 20) := ⟨⟨by decide +kernel, by decide +kernel⟩, List.mem_of_getElem? (i := 782) (by decide +kernel), List.mem_of_getElem? (i := 973) (by decide +kernel), List.mem_of_getElem? (i := 974) (by decide +kernel)⟩
theorem lw_p41 : lw_okq (⟨"KineticCupModel", "isOf", "(II)Z"⟩, 20) := ⟨⟨by decide +kernel, by decide +kernel⟩, List.mem_of_getElem? (i := 782) (by decide +kernel), List.mem_of_getElem? (i := 977) (by decide +kernel), List.mem_of_getElem? (i := 978) (by decide +kernel)⟩
theorem lw_p42 : lw_okq (⟨"KineticCupModel", "nextMatch", "()I"⟩, 20) := ⟨⟨by decide +kernel, by decide +kernel⟩, List.mem_of_getElem? (i := 782) (by decide +kernel), List.mem_of_getElem? (i := 986) (by decide +kernel), List.mem_of_getElem? (i := 987) (by decide +kernel)⟩
theorem lw_p43 : lw_okq (⟨"KineticCupModel", "layNext", "(II)Z"⟩, 20) := ⟨⟨by decide +kernel, by decide +kernel⟩, List.mem_of_getElem? (i := 782) (by decide +kernel), List.mem_of_getElem? (i := 990) (by decide +kernel), List.mem_of_getElem? (i := 991) (by decide +kernel)⟩
theorem lw_p44 : lw_okq (⟨"KineticCupModel", "isFit", "(I)Z"⟩, 20) := ⟨⟨by decide +kernel, by decide +kernel⟩, List.mem_of_getElem? (i := 782) (by decide +kernel), List.mem_of_getElem? (i := 1055) (by decide +kernel), List.mem_of_getElem? (i := 1056) (by decide +kernel)⟩
def lw_privs_3 : List (MethodName × Nat) := [(⟨"KineticCupModel", "oneAct", "(I)I"⟩, 20), (⟨"KineticCupModel", "endSecond", "(I)I"⟩, 20), (⟨"KineticCupModel", "dueBy", "(I)I"⟩, 20), (⟨"KineticCupModel", "take", "(II)V"⟩, 20), (⟨"KineticCupModel", "bend", "(II)I"⟩, 20), (⟨"KineticCupModel", "goOut", "(IZ)I"⟩, 20), (⟨"KineticCupModel", "exchange", "(II)I"⟩, 20), (⟨"KineticCupModel", "barOfDays", "()I"⟩, 20), (⟨"KineticCupModel", "best", "(III)I"⟩, 20), (⟨"KineticCupModel", "isOf", "(II)Z"⟩, 20), (⟨"KineticCupModel", "nextMatch", "()I"⟩, 20), (⟨"KineticCupModel", "layNext", "(II)Z"⟩, 20), (⟨"KineticCupModel", "isFit", "(I)Z"⟩, 20)]
theorem lw_r3 : ∀ q ∈ lw_privs_3, lw_okq q := List.forall_mem_cons.mpr ⟨lw_p32, List.forall_mem_cons.mpr ⟨lw_p33, List.forall_mem_cons.mpr ⟨lw_p34, List.forall_mem_cons.mpr ⟨lw_p35, List.forall_mem_cons.mpr ⟨lw_p36, List.forall_mem_cons.mpr ⟨lw_p37, List.forall_mem_cons.mpr ⟨lw_p38, List.forall_mem_cons.mpr ⟨lw_p39, List.forall_mem_cons.mpr ⟨lw_p40, List.forall_mem_cons.mpr ⟨lw_p41, List.forall_mem_cons.mpr ⟨lw_p42, List.forall_mem_cons.mpr ⟨lw_p43, List.forall_mem_cons.mpr ⟨lw_p44, fun _ h => absurd h List.not_mem_nil⟩⟩⟩⟩⟩⟩⟩⟩⟩⟩⟩⟩⟩
def lw_privs : List (MethodName × Nat) := lw_privs_1 ++ (lw_privs_2 ++ (lw_privs_3))
def lw_tbl : List Cond := k2_sels lw_privs ++ tables_1
theorem lw_privs_ok : ∀ q ∈ lw_privs, lw_okq q := by
  show ∀ q ∈ lw_privs_1 ++ (lw_privs_2 ++ (lw_privs_3)), lw_okq q
  exact List.forall_mem_append.mpr ⟨lw_r1, List.forall_mem_append.mpr ⟨lw_r2, lw_r3⟩⟩
end
section
def RX0 : String := "KineticCup$Cup"
def TX0 : u_T := fun k => match k with
  | 0 => ("KineticCup$Cup", "kind", "[I", true)
  | 1 => ("KineticCup$Cup", "place", "[I", true)
  | 2 => ("KineticCup$Cup", "base", "[I", true)
  | 3 => ("KineticCup$Cup", "slope", "[I", true)
  | 4 => ("KineticCup$Cup", "in", "[Z", true)
  | 5 => ("KineticCup$Cup", "best", "[I", true)
  | 6 => ("KineticCup$Cup", "queue", "LKineticCup$Queue;", true)
  | 7 => ("KineticCup$Cup", "tally", "LKineticCup$Tally;", true)
  | _ => ("KineticCup$Cup", "second", "I", false)
def tyX0 : Nat → FieldType := fun k => match k with
  | 0 => .array .int
  | 1 => .array .int
  | 2 => .array .int
  | 3 => .array .int
  | 4 => .array .boolean
  | 5 => .array .int
  | 6 => .object "KineticCup$Queue"
  | 7 => .object "KineticCup$Tally"
  | _ => .int
theorem nmX0 : ∀ a, a < 9 → ∀ b, b < 9 → a ≠ b → (TX0 a).2.1 ≠ (TX0 b).2.1 := by decide +kernel
theorem tyX0_ok : ∀ k, k < 9 → parseFieldDescriptor (TX0 k).2.2.1 = some (tyX0 k) := by decide +kernel
def RX1 : String := "KineticCup$Image"
def TX1 : u_T := fun k => match k with
  | 0 => ("KineticCup$Image", "cup", "LKineticCup$Cup;", true)
  | 1 => ("KineticCup$Image", "sights", "LKineticCup$Sights;", true)
  | _ => ("KineticCup$Image", "kept", "Z", false)
def tyX1 : Nat → FieldType := fun k => match k with
  | 0 => .object "KineticCup$Cup"
  | 1 => .object "KineticCup$Sights"
  | _ => .boolean
theorem nmX1 : ∀ a, a < 3 → ∀ b, b < 3 → a ≠ b → (TX1 a).2.1 ≠ (TX1 b).2.1 := by decide +kernel
theorem tyX1_ok : ∀ k, k < 3 → parseFieldDescriptor (TX1 k).2.2.1 = some (tyX1 k) := by decide +kernel
def RX2 : String := "KineticCup$Nearest"
def TX2 : u_T := fun k => match k with
  | _ => ("", "", "", false)
def tyX2 : Nat → FieldType := fun k => match k with
  | _ => .int
theorem nmX2 : ∀ a, a < 0 → ∀ b, b < 0 → a ≠ b → (TX2 a).2.1 ≠ (TX2 b).2.1 := by decide +kernel
theorem tyX2_ok : ∀ k, k < 0 → parseFieldDescriptor (TX2 k).2.2.1 = some (tyX2 k) := by decide +kernel
def RX3 : String := "KineticCup$Pad"
def TX3 : u_T := fun k => match k with
  | 0 => ("KineticCup$Pad", "signs", "[I", true)
  | _ => ("KineticCup$Pad", "length", "I", false)
def tyX3 : Nat → FieldType := fun k => match k with
  | 0 => .array .int
  | _ => .int
theorem nmX3 : ∀ a, a < 2 → ∀ b, b < 2 → a ≠ b → (TX3 a).2.1 ≠ (TX3 b).2.1 := by decide +kernel
theorem tyX3_ok : ∀ k, k < 2 → parseFieldDescriptor (TX3 k).2.2.1 = some (tyX3 k) := by decide +kernel
def RX4 : String := "KineticCup$Queue"
def TX4 : u_T := fun k => match k with
  | 0 => ("KineticCup$Queue", "match", "[I", true)
  | 1 => ("KineticCup$Queue", "upper", "[I", true)
  | 2 => ("KineticCup$Queue", "lower", "[I", true)
  | 3 => ("KineticCup$Queue", "serial", "[I", true)
  | 4 => ("KineticCup$Queue", "lastSerial", "[I", true)
  | 5 => ("KineticCup$Queue", "size", "I", false)
  | _ => ("KineticCup$Queue", "made", "I", false)
def tyX4 : Nat → FieldType := fun k => match k with
  | 0 => .array .int
  | 1 => .array .int
  | 2 => .array .int
  | 3 => .array .int
  | 4 => .array .int
  | 5 => .int
  | _ => .int
theorem nmX4 : ∀ a, a < 7 → ∀ b, b < 7 → a ≠ b → (TX4 a).2.1 ≠ (TX4 b).2.1 := by decide +kernel
theorem tyX4_ok : ∀ k, k < 7 → parseFieldDescriptor (TX4 k).2.2.1 = some (tyX4 k) := by decide +kernel
def RX5 : String := "KineticCup$Rehearsal"
def TX5 : u_T := fun k => match k with
  | 0 => ("KineticCup$Rehearsal", "cup", "LKineticCup$Cup;", true)
  | 1 => ("KineticCup$Rehearsal", "acts", "I", false)
  | 2 => ("KineticCup$Rehearsal", "stoppedAct", "I", false)
  | _ => ("KineticCup$Rehearsal", "stoppedWhy", "I", false)
def tyX5 : Nat → FieldType := fun k => match k with
  | 0 => .object "KineticCup$Cup"
  | 1 => .int
  | 2 => .int
  | _ => .int
theorem nmX5 : ∀ a, a < 4 → ∀ b, b < 4 → a ≠ b → (TX5 a).2.1 ≠ (TX5 b).2.1 := by decide +kernel
theorem tyX5_ok : ∀ k, k < 4 → parseFieldDescriptor (TX5 k).2.2.1 = some (tyX5 k) := by decide +kernel
def RX6 : String := "KineticCup$Search"
def TX6 : u_T := fun k => match k with
  | 0 => ("KineticCup$Search", "codes", "[I", true)
  | 1 => ("KineticCup$Search", "linesAtKey", "[I", true)
  | 2 => ("KineticCup$Search", "size", "I", false)
  | 3 => ("KineticCup$Search", "look", "I", false)
  | _ => ("KineticCup$Search", "left", "I", false)
def tyX6 : Nat → FieldType := fun k => match k with
  | 0 => .array .int
  | 1 => .array .int
  | 2 => .int
  | 3 => .int
  | _ => .int
theorem nmX6 : ∀ a, a < 5 → ∀ b, b < 5 → a ≠ b → (TX6 a).2.1 ≠ (TX6 b).2.1 := by decide +kernel
theorem tyX6_ok : ∀ k, k < 5 → parseFieldDescriptor (TX6 k).2.2.1 = some (tyX6 k) := by decide +kernel
def RX7 : String := "KineticCup$Sights"
def TX7 : u_T := fun k => match k with
  | 0 => ("KineticCup$Sights", "time", "[I", true)
  | 1 => ("KineticCup$Sights", "key", "[I", true)
  | 2 => ("KineticCup$Sights", "atLeast", "[Z", true)
  | _ => ("KineticCup$Sights", "size", "I", false)
def tyX7 : Nat → FieldType := fun k => match k with
  | 0 => .array .int
  | 1 => .array .int
  | 2 => .array .boolean
  | _ => .int
theorem nmX7 : ∀ a, a < 4 → ∀ b, b < 4 → a ≠ b → (TX7 a).2.1 ≠ (TX7 b).2.1 := by decide +kernel
theorem tyX7_ok : ∀ k, k < 4 → parseFieldDescriptor (TX7 k).2.2.1 = some (tyX7 k) := by decide +kernel
def RX8 : String := "KineticCup$Tally"
def TX8 : u_T := fun k => match k with
  | 0 => ("KineticCup$Tally", "taken", "I", false)
  | 1 => ("KineticCup$Tally", "stale", "I", false)
  | 2 => ("KineticCup$Tally", "events", "I", false)
  | 3 => ("KineticCup$Tally", "eventAct", "I", false)
  | _ => ("KineticCup$Tally", "eventMatch", "I", false)
def tyX8 : Nat → FieldType := fun k => match k with
  | 0 => .int
  | 1 => .int
  | 2 => .int
  | 3 => .int
  | _ => .int
theorem nmX8 : ∀ a, a < 5 → ∀ b, b < 5 → a ≠ b → (TX8 a).2.1 ≠ (TX8 b).2.1 := by decide +kernel
theorem tyX8_ok : ∀ k, k < 5 → parseFieldDescriptor (TX8 k).2.2.1 = some (tyX8 k) := by decide +kernel
def RX9 : String := "KineticCup"
def TX9 : u_T := fun k => match k with
  | 0 => ("KineticCup", "cup", "LKineticCup$Cup;", true)
  | 1 => ("KineticCup", "pad", "LKineticCup$Pad;", true)
  | 2 => ("KineticCup", "sights", "LKineticCup$Sights;", true)
  | 3 => ("KineticCup", "rehearsal", "LKineticCup$Rehearsal;", true)
  | 4 => ("KineticCup", "search", "LKineticCup$Search;", true)
  | _ => ("KineticCup", "images", "[LKineticCup$Image;", true)
def tyX9 : Nat → FieldType := fun k => match k with
  | 0 => .object "KineticCup$Cup"
  | 1 => .object "KineticCup$Pad"
  | 2 => .object "KineticCup$Sights"
  | 3 => .object "KineticCup$Rehearsal"
  | 4 => .object "KineticCup$Search"
  | _ => .array (.object "KineticCup$Image")
theorem nmX9 : ∀ a, a < 6 → ∀ b, b < 6 → a ≠ b → (TX9 a).2.1 ≠ (TX9 b).2.1 := by decide +kernel
theorem tyX9_ok : ∀ k, k < 6 → parseFieldDescriptor (TX9 k).2.2.1 = some (tyX9 k) := by decide +kernel
def RX10 : String := "KineticCupModel"
def TX10 : u_T := fun k => match k with
  | 0 => ("KineticCupModel", "book", "[I", true)
  | 1 => ("KineticCupModel", "now", "[I", true)
  | 2 => ("KineticCupModel", "sights", "I", false)
  | 3 => ("KineticCupModel", "sight", "[I", true)
  | 4 => ("KineticCupModel", "signs", "I", false)
  | 5 => ("KineticCupModel", "pad", "[I", true)
  | 6 => ("KineticCupModel", "taken", "I", false)
  | 7 => ("KineticCupModel", "stale", "I", false)
  | 8 => ("KineticCupModel", "events", "I", false)
  | 9 => ("KineticCupModel", "eventAt", "I", false)
  | 10 => ("KineticCupModel", "eventMatch", "I", false)
  | 11 => ("KineticCupModel", "reason", "I", false)
  | 12 => ("KineticCupModel", "acts", "I", false)
  | 13 => ("KineticCupModel", "nextUp", "I", false)
  | 14 => ("KineticCupModel", "nextLow", "I", false)
  | 15 => ("KineticCupModel", "foundUp", "I", false)
  | 16 => ("KineticCupModel", "foundLow", "I", false)
  | 17 => ("KineticCupModel", "fitting", "[I", true)
  | 18 => ("KineticCupModel", "image", "[I", true)
  | _ => ("KineticCupModel", "isKept", "[Z", true)
def tyX10 : Nat → FieldType := fun k => match k with
  | 0 => .array .int
  | 1 => .array .int
  | 2 => .int
  | 3 => .array .int
  | 4 => .int
  | 5 => .array .int
  | 6 => .int
  | 7 => .int
  | 8 => .int
  | 9 => .int
  | 10 => .int
  | 11 => .int
  | 12 => .int
  | 13 => .int
  | 14 => .int
  | 15 => .int
  | 16 => .int
  | 17 => .array .int
  | 18 => .array .int
  | _ => .array .boolean
theorem nmX10 : ∀ a, a < 20 → ∀ b, b < 20 → a ≠ b → (TX10 a).2.1 ≠ (TX10 b).2.1 := by decide +kernel
theorem tyX10_ok : ∀ k, k < 20 → parseFieldDescriptor (TX10 k).2.2.1 = some (tyX10 k) := by decide +kernel
def xcn : List String := ["KineticCup$Cup", "KineticCup$Image", "KineticCup$Pad", "KineticCup$Queue", "KineticCup$Rehearsal", "KineticCup$Search", "KineticCup$Sights", "KineticCup$Tally", "KineticCup", "KineticCupModel", "KineticCup$Nearest", "KineticCupLaw", "java/lang/Math", "java/util/Arrays"]
def xnm (c : Nat) : String := xcn.getD c ""
def xcl : List vw_C := [(RX0, TX0, 9), (RX1, TX1, 3), (RX3, TX3, 2), (RX4, TX4, 7), (RX5, TX5, 4), (RX6, TX6, 5), (RX7, TX7, 4), (RX8, TX8, 5), (RX9, TX9, 6), (RX10, TX10, 20)]
abbrev xM : Type := MethodName × ByteArray × Nat × Option FieldType × Nat × Nat × Nat
def xtab_0 : List xM := [
  (⟨"KineticCupLaw", "law", "([I)Z"⟩, code, 4, (some .boolean), 11, 10, 402),
  (⟨"KineticCup$Cup", "<init>", "()V"⟩, prog_2_method_1_code, 2, none, 0, 5, 114),
  (⟨"KineticCup$Cup", "beginAnew", "()V"⟩, prog_2_method_21_code, 2, none, 0, 4, 93),
  (⟨"KineticCup$Cup", "decide", "(III)Z"⟩, prog_2_method_23_code, 8, (some .boolean), 0, 3, 66),
  (⟨"KineticCup$Cup", "comer", "(I)I"⟩, prog_2_method_24_code, 2, (some .int), 0, 2, 41),
  (⟨"KineticCup$Cup", "bestOf", "(I)I"⟩, prog_2_method_8_code, 2, (some .int), 0, 1, 20),
  (⟨"KineticCup$Cup", "whoIsInOn", "(I)I"⟩, prog_2_method_25_code, 3, (some .int), 0, 0, 0),
  (⟨"KineticCup$Cup", "ahead", "(IIII)I"⟩, prog_2_method_26_code, 6, (some .int), 0, 1, 20),
  (⟨"KineticCup$Cup", "certify", "(III)V"⟩, prog_2_method_27_code, 4, none, 0, 2, 43),
  (⟨"KineticCup$Cup", "placeOf", "(I)I"⟩, prog_2_method_4_code, 2, (some .int), 0, 1, 20),
  (⟨"KineticCup$Cup", "laneTakes", "(II)Z"⟩, prog_2_method_12_code, 2, (some .boolean), 0, 0, 0),
  (⟨"KineticCup$Cup", "kindOf", "(I)I"⟩, prog_2_method_3_code, 2, (some .int), 0, 1, 20),
  (⟨"KineticCup$Cup", "inOf", "(I)I"⟩, prog_2_method_7_code, 2, (some .int), 0, 1, 20),
  (⟨"KineticCup$Cup", "enroll", "(IIII)V"⟩, prog_2_method_13_code, 5, none, 0, 5, 114),
  (⟨"KineticCup$Cup", "copy", "(LKineticCup$Cup;)V"⟩, prog_2_method_2_code, 2, none, 0, 2, 49),
  (⟨"KineticCup$Cup", "tally", "()LKineticCup$Tally;"⟩, prog_2_method_11_code, 1, (some (.object "KineticCup$Tally")), 0, 0, 0),
  (⟨"KineticCup$Cup", "hindrance", "(III)I"⟩, prog_2_method_14_code, 4, (some .int), 0, 3, 64),
  (⟨"KineticCup$Cup", "swapHindrance", "(II)I"⟩, prog_2_method_15_code, 4, (some .int), 0, 2, 41),
  (⟨"KineticCup$Cup", "pushHindrance", "(II)I"⟩, prog_2_method_16_code, 4, (some .int), 0, 2, 41),
  (⟨"KineticCup$Cup", "slopeOf", "(I)I"⟩, prog_2_method_6_code, 2, (some .int), 0, 1, 20),
  (⟨"KineticCup$Cup", "perform", "(IIII)V"⟩, prog_2_method_17_code, 8, none, 0, 5, 121),
  (⟨"KineticCup$Cup", "change", "(III)V"⟩, prog_2_method_18_code, 4, none, 0, 2, 43),
  (⟨"KineticCup$Cup", "push", "(II)V"⟩, prog_2_method_19_code, 3, none, 0, 1, 20),
  (⟨"KineticCup$Cup", "swap", "(II)V"⟩, prog_2_method_20_code, 4, none, 0, 1, 20),
  (⟨"KineticCup$Cup", "takeDue", "(II)Z"⟩, prog_2_method_22_code, 9, (some .boolean), 0, 4, 93),
  (⟨"KineticCup$Cup", "baseOf", "(I)I"⟩, prog_2_method_5_code, 2, (some .int), 0, 1, 20),
  (⟨"KineticCup$Cup", "second", "()I"⟩, prog_2_method_9_code, 1, (some .int), 0, 0, 0),
  (⟨"KineticCup$Cup", "leaderAt", "(II)I"⟩, prog_2_method_29_code, 5, (some .int), 0, 2, 45),
  (⟨"KineticCup$Cup", "queue", "()LKineticCup$Queue;"⟩, prog_2_method_10_code, 1, (some (.object "KineticCup$Queue")), 0, 0, 0),
  (⟨"KineticCup$Cup", "leadersUpTo", "(II)I"⟩, prog_2_method_30_code, 6, (some .int), 0, 4, 98),
  (⟨"KineticCup$Cup", "successor", "(III)I"⟩, prog_2_method_31_code, 10, (some .int), 0, 3, 69),
  (⟨"KineticCup$Cup", "keyOf", "(III)I"⟩, prog_2_method_28_code, 4, (some .int), 0, 2, 41),
  (⟨"KineticCup$Image", "<init>", "()V"⟩, prog_3_method_1_code, 1, none, 1, 6, 135),
  (⟨"KineticCup$Image", "keep", "(LKineticCup$Cup;LKineticCup$Sights;)V"⟩, prog_3_method_2_code, 3, none, 1, 3, 70),
  (⟨"KineticCup$Image", "giveBack", "(LKineticCup$Cup;LKineticCup$Sights;)Z"⟩, prog_3_method_3_code, 3, (some .boolean), 1, 3, 70),
  (⟨"KineticCup$Pad", "<init>", "()V"⟩, prog_5_method_1_code, 1, none, 2, 1, 20),
  (⟨"KineticCup$Pad", "add", "(I)Z"⟩, prog_5_method_4_code, 2, (some .boolean), 2, 0, 0),
  (⟨"KineticCup$Pad", "length", "()I"⟩, prog_5_method_2_code, 1, (some .int), 2, 0, 0),
  (⟨"KineticCup$Pad", "clear", "()V"⟩, prog_5_method_3_code, 1, none, 2, 0, 0),
  (⟨"KineticCup$Pad", "firstFault", "()I"⟩, prog_5_method_7_code, 4, (some .int), 2, 3, 63),
  (⟨"KineticCup$Pad", "faultOfActAt", "(I)I"⟩, prog_5_method_8_code, 2, (some .int), 2, 2, 42),
  (⟨"KineticCup$Pad", "signAt", "(I)I"⟩, prog_5_method_5_code, 2, (some .int), 2, 0, 0),
  (⟨"KineticCup$Pad", "isLetterAt", "(I)Z"⟩, prog_5_method_6_code, 2, (some .boolean), 2, 1, 21),
  (⟨"KineticCup$Pad", "lengthAt", "(I)I"⟩, prog_5_method_9_code, 2, (some .int), 2, 2, 42),
  (⟨"KineticCup$Pad", "deedAt", "(I)I"⟩, prog_5_method_10_code, 2, (some .int), 2, 1, 21),
  (⟨"KineticCup$Pad", "runnerAt", "(I)I"⟩, prog_5_method_11_code, 2, (some .int), 2, 1, 21),
  (⟨"KineticCup$Pad", "otherAt", "(I)I"⟩, prog_5_method_12_code, 2, (some .int), 2, 1, 21),
  (⟨"KineticCup$Queue", "<init>", "()V"⟩, prog_6_method_1_code, 1, none, 3, 1, 20)]
def xtab_1 : List xM := [
  (⟨"KineticCup$Queue", "clear", "()V"⟩, prog_6_method_3_code, 1, none, 3, 1, 23),
  (⟨"KineticCup$Queue", "disown", "(I)V"⟩, prog_6_method_5_code, 2, none, 3, 1, 20),
  (⟨"KineticCup$Queue", "put", "(III)V"⟩, prog_6_method_6_code, 4, none, 3, 1, 20),
  (⟨"KineticCup$Queue", "copy", "(LKineticCup$Queue;)V"⟩, prog_6_method_2_code, 2, none, 3, 1, 28),
  (⟨"KineticCup$Queue", "earliest", "(Z)I"⟩, prog_6_method_13_code, 4, (some .int), 3, 3, 66),
  (⟨"KineticCup$Queue", "isOwn", "(I)Z"⟩, prog_6_method_12_code, 3, (some .boolean), 3, 2, 42),
  (⟨"KineticCup$Queue", "matchOf", "(I)I"⟩, prog_6_method_9_code, 2, (some .int), 3, 1, 21),
  (⟨"KineticCup$Queue", "isHere", "(I)Z"⟩, prog_6_method_8_code, 2, (some .boolean), 3, 0, 0),
  (⟨"KineticCup$Queue", "isSooner", "(II)Z"⟩, prog_6_method_14_code, 5, (some .boolean), 3, 2, 42),
  (⟨"KineticCup$Queue", "upperOf", "(I)I"⟩, prog_6_method_10_code, 2, (some .int), 3, 1, 21),
  (⟨"KineticCup$Queue", "lowerOf", "(I)I"⟩, prog_6_method_11_code, 2, (some .int), 3, 1, 21),
  (⟨"KineticCup$Queue", "remove", "(I)V"⟩, prog_6_method_7_code, 3, none, 3, 1, 21),
  (⟨"KineticCup$Queue", "size", "()I"⟩, prog_6_method_4_code, 1, (some .int), 3, 0, 0),
  (⟨"KineticCup$Rehearsal", "<init>", "()V"⟩, prog_7_method_1_code, 1, none, 4, 6, 135),
  (⟨"KineticCup$Rehearsal", "play", "(LKineticCup$Cup;LKineticCup$Pad;)Z"⟩, prog_7_method_7_code, 7, (some .boolean), 4, 6, 148),
  (⟨"KineticCup$Rehearsal", "begin", "(LKineticCup$Cup;)V"⟩, prog_7_method_6_code, 2, none, 4, 3, 70),
  (⟨"KineticCup$Rehearsal", "stoppedAct", "()I"⟩, prog_7_method_4_code, 1, (some .int), 4, 0, 0),
  (⟨"KineticCup$Rehearsal", "stoppedWhy", "()I"⟩, prog_7_method_5_code, 1, (some .int), 4, 0, 0),
  (⟨"KineticCup$Rehearsal", "cup", "()LKineticCup$Cup;"⟩, prog_7_method_2_code, 1, (some (.object "KineticCup$Cup")), 4, 0, 0),
  (⟨"KineticCup$Rehearsal", "acts", "()I"⟩, prog_7_method_3_code, 1, (some .int), 4, 0, 0),
  (⟨"KineticCup$Rehearsal", "draw", "(LKineticCup$Cup;II)V"⟩, prog_7_method_8_code, 9, none, 4, 6, 148),
  (⟨"KineticCup$Search", "<init>", "()V"⟩, prog_8_method_1_code, 1, none, 5, 1, 20),
  (⟨"KineticCup$Search", "gather", "(LKineticCup$Sights;)V"⟩, prog_8_method_6_code, 4, none, 5, 1, 23),
  (⟨"KineticCup$Search", "size", "()I"⟩, prog_8_method_2_code, 1, (some .int), 5, 0, 0),
  (⟨"KineticCup$Search", "codeOf", "(I)I"⟩, prog_8_method_3_code, 2, (some .int), 5, 0, 0),
  (⟨"KineticCup$Search", "weigh", "()V"⟩, prog_8_method_7_code, 5, none, 5, 2, 49),
  (⟨"KineticCup$Search", "countAt", "(I)V"⟩, prog_8_method_8_code, 7, none, 5, 1, 23),
  (⟨"KineticCup$Search", "look", "()I"⟩, prog_8_method_4_code, 1, (some .int), 5, 0, 0),
  (⟨"KineticCup$Search", "left", "()I"⟩, prog_8_method_5_code, 1, (some .int), 5, 0, 0),
  (⟨"KineticCup$Sights", "<init>", "()V"⟩, prog_9_method_1_code, 1, none, 6, 1, 20),
  (⟨"KineticCup$Sights", "add", "(IIZ)Z"⟩, prog_9_method_5_code, 4, (some .boolean), 6, 0, 0),
  (⟨"KineticCup$Sights", "size", "()I"⟩, prog_9_method_3_code, 1, (some .int), 6, 0, 0),
  (⟨"KineticCup$Sights", "clear", "()V"⟩, prog_9_method_4_code, 1, none, 6, 0, 0),
  (⟨"KineticCup$Sights", "allow", "(II)Z"⟩, prog_9_method_6_code, 4, (some .boolean), 6, 0, 0),
  (⟨"KineticCup$Sights", "copy", "(LKineticCup$Sights;)V"⟩, prog_9_method_2_code, 2, none, 6, 1, 28),
  (⟨"KineticCup$Tally", "<init>", "()V"⟩, prog_10_method_1_code, 1, none, 7, 1, 20),
  (⟨"KineticCup$Tally", "clear", "()V"⟩, prog_10_method_2_code, 1, none, 7, 0, 0),
  (⟨"KineticCup$Tally", "count", "(ZII)V"⟩, prog_10_method_3_code, 4, none, 7, 0, 0),
  (⟨"KineticCup", "<init>", "()V"⟩, prog_1_method_1_code, 2, none, 8, 7, 155),
  (⟨"KineticCup", "isMatch", "(I)Z"⟩, prog_1_method_30_code, 1, (some .boolean), 8, 0, 0),
  (⟨"KineticCup", "isRunner", "(I)Z"⟩, prog_1_method_29_code, 1, (some .boolean), 8, 0, 0),
  (⟨"KineticCup", "runner", "(IIII)I"⟩, prog_1_method_2_code, 6, (some .int), 8, 6, 138),
  (⟨"KineticCup", "isWithin", "(II)Z"⟩, prog_1_method_31_code, 2, (some .boolean), 8, 0, 0),
  (⟨"KineticCup", "say", "(I)I"⟩, prog_1_method_3_code, 2, (some .int), 8, 1, 21),
  (⟨"KineticCup", "wipe", "()I"⟩, prog_1_method_4_code, 2, (some .int), 8, 1, 20),
  (⟨"KineticCup", "fault", "()I"⟩, prog_1_method_5_code, 1, (some .int), 8, 4, 86),
  (⟨"KineticCup", "judge", "(I)I"⟩, prog_1_method_6_code, 2, (some .int), 8, 7, 174),
  (⟨"KineticCup", "done", "()I"⟩, prog_1_method_7_code, 1, (some .int), 8, 7, 174)]
def xtab_2 : List xM := [
  (⟨"KineticCup", "behind", "(II)I"⟩, prog_1_method_8_code, 4, (some .int), 8, 7, 174),
  (⟨"KineticCup", "winner", "(I)I"⟩, prog_1_method_9_code, 2, (some .int), 8, 7, 174),
  (⟨"KineticCup", "then", "(I)I"⟩, prog_1_method_10_code, 4, (some .int), 8, 7, 174),
  (⟨"KineticCup", "leads", "(II)I"⟩, prog_1_method_11_code, 3, (some .int), 8, 3, 69),
  (⟨"KineticCup", "isTime", "(II)Z"⟩, prog_1_method_32_code, 2, (some .boolean), 8, 0, 0),
  (⟨"KineticCup", "next", "(I)J"⟩, prog_1_method_12_code, 4, (some .long), 8, 4, 89),
  (⟨"KineticCup", "isPart", "(I)Z"⟩, prog_1_method_33_code, 1, (some .boolean), 8, 0, 0),
  (⟨"KineticCup", "lowestTerms", "(III)J"⟩, prog_1_method_34_code, 7, (some .long), 8, 1, 21),
  (⟨"KineticCup", "where", "()I"⟩, prog_1_method_13_code, 2, (some .int), 8, 4, 89),
  (⟨"KineticCup", "ever", "(II)I"⟩, prog_1_method_14_code, 3, (some .int), 8, 5, 123),
  (⟨"KineticCup", "value", "(IIII)J"⟩, prog_1_method_15_code, 5, (some .long), 8, 3, 64),
  (⟨"KineticCup", "number", "(IIII)J"⟩, prog_1_method_16_code, 6, (some .long), 8, 3, 85),
  (⟨"KineticCup", "heap", "(III)J"⟩, prog_1_method_17_code, 9, (some .long), 8, 3, 84),
  (⟨"KineticCup", "seen", "(IIZ)I"⟩, prog_1_method_18_code, 4, (some .int), 8, 1, 23),
  (⟨"KineticCup", "forget", "()I"⟩, prog_1_method_19_code, 2, (some .int), 8, 1, 20),
  (⟨"KineticCup", "lines", "(I)I"⟩, prog_1_method_20_code, 2, (some .int), 8, 2, 46),
  (⟨"KineticCup", "ask", "(I)I"⟩, prog_1_method_21_code, 2, (some .int), 8, 3, 73),
  (⟨"KineticCup", "cross", "(III)J"⟩, prog_1_method_22_code, 6, (some .long), 8, 2, 47),
  (⟨"KineticCup", "run", "(III)I"⟩, prog_1_method_23_code, 5, (some .int), 8, 7, 176),
  (⟨"KineticCup", "image", "(I)I"⟩, prog_1_method_24_code, 2, (some .int), 8, 4, 92),
  (⟨"KineticCup", "restore", "(I)I"⟩, prog_1_method_25_code, 2, (some .int), 8, 4, 92),
  (⟨"KineticCup", "told", "(I)I"⟩, prog_1_method_26_code, 2, (some .int), 8, 3, 63),
  (⟨"KineticCup", "toldOfAll", "(I)I"⟩, prog_1_method_27_code, 2, (some .int), 8, 2, 41),
  (⟨"KineticCup", "toldOfOne", "(II)I"⟩, prog_1_method_28_code, 3, (some .int), 8, 2, 41),
  (⟨"KineticCupModel", "<init>", "()V"⟩, prog_12_method_1_code, 2, none, 9, 3, 70),
  (⟨"KineticCupModel", "anew", "()V"⟩, prog_12_method_11_code, 2, none, 9, 2, 49),
  (⟨"KineticCupModel", "comer", "(II)I"⟩, prog_12_method_9_code, 3, (some .int), 9, 1, 22),
  (⟨"KineticCupModel", "onPlace", "(I)I"⟩, prog_12_method_8_code, 3, (some .int), 9, 0, 0),
  (⟨"KineticCupModel", "better", "(IIII)I"⟩, prog_12_method_7_code, 5, (some .int), 9, 1, 25),
  (⟨"KineticCupModel", "isAhead", "(IIII)Z"⟩, prog_12_method_6_code, 6, (some .boolean), 9, 0, 0),
  (⟨"KineticCupModel", "certify", "(I)V"⟩, prog_12_method_10_code, 8, none, 9, 0, 0),
  (⟨"KineticCupModel", "keep", "()V"⟩, prog_12_method_5_code, 2, none, 9, 0, 0),
  (⟨"KineticCupModel", "runner", "(IIII)I"⟩, prog_12_method_14_code, 6, (some .int), 9, 3, 70),
  (⟨"KineticCupModel", "isRunner", "(I)Z"⟩, prog_12_method_3_code, 1, (some .boolean), 9, 1, 22),
  (⟨"KineticCupModel", "in", "(III)Z"⟩, prog_12_method_2_code, 3, (some .boolean), 9, 0, 0),
  (⟨"KineticCupModel", "asNow", "()V"⟩, prog_12_method_4_code, 2, none, 9, 0, 0),
  (⟨"KineticCupModel", "say", "(I)I"⟩, prog_12_method_15_code, 2, (some .int), 9, 1, 22),
  (⟨"KineticCupModel", "wipe", "()I"⟩, prog_12_method_16_code, 2, (some .int), 9, 0, 0),
  (⟨"KineticCupModel", "fault", "()I"⟩, prog_12_method_19_code, 1, (some .int), 9, 3, 66),
  (⟨"KineticCupModel", "faultOf", "()I"⟩, prog_12_method_18_code, 3, (some .int), 9, 2, 44),
  (⟨"KineticCupModel", "step", "(II)I"⟩, prog_12_method_17_code, 3, (some .int), 9, 1, 22),
  (⟨"KineticCupModel", "judge", "(I)I"⟩, prog_12_method_26_code, 3, (some .int), 9, 6, 147),
  (⟨"KineticCupModel", "goDays", "()I"⟩, prog_12_method_25_code, 2, (some .int), 9, 5, 126),
  (⟨"KineticCupModel", "oneAct", "(I)I"⟩, prog_12_method_24_code, 3, (some .int), 9, 4, 104),
  (⟨"KineticCupModel", "endSecond", "(I)I"⟩, prog_12_method_23_code, 3, (some .int), 9, 3, 82),
  (⟨"KineticCupModel", "dueBy", "(I)I"⟩, prog_12_method_12_code, 6, (some .int), 9, 0, 0),
  (⟨"KineticCupModel", "take", "(II)V"⟩, prog_12_method_13_code, 14, none, 9, 2, 49),
  (⟨"KineticCupModel", "bend", "(II)I"⟩, prog_12_method_20_code, 3, (some .int), 9, 3, 70)]
def xtab_3 : List xM := [
  (⟨"KineticCupModel", "goOut", "(IZ)I"⟩, prog_12_method_21_code, 3, (some .int), 9, 3, 70),
  (⟨"KineticCupModel", "exchange", "(II)I"⟩, prog_12_method_22_code, 5, (some .int), 9, 3, 70),
  (⟨"KineticCupModel", "done", "()I"⟩, prog_12_method_28_code, 1, (some .int), 9, 7, 167),
  (⟨"KineticCupModel", "barOfDays", "()I"⟩, prog_12_method_27_code, 1, (some .int), 9, 6, 147),
  (⟨"KineticCupModel", "behind", "(II)I"⟩, prog_12_method_29_code, 3, (some .int), 9, 7, 167),
  (⟨"KineticCupModel", "winner", "(I)I"⟩, prog_12_method_30_code, 2, (some .int), 9, 7, 167),
  (⟨"KineticCupModel", "then", "(I)I"⟩, prog_12_method_31_code, 2, (some .int), 9, 7, 167),
  (⟨"KineticCupModel", "leads", "(II)I"⟩, prog_12_method_35_code, 3, (some .int), 9, 3, 74),
  (⟨"KineticCupModel", "isTime", "(II)Z"⟩, prog_12_method_32_code, 2, (some .boolean), 9, 1, 22),
  (⟨"KineticCupModel", "best", "(III)I"⟩, prog_12_method_34_code, 6, (some .int), 9, 2, 49),
  (⟨"KineticCupModel", "isOf", "(II)Z"⟩, prog_12_method_33_code, 4, (some .boolean), 9, 0, 0),
  (⟨"KineticCupModel", "next", "(I)J"⟩, prog_12_method_39_code, 2, (some .long), 9, 4, 96),
  (⟨"KineticCupModel", "nextMatch", "()I"⟩, prog_12_method_37_code, 3, (some .int), 9, 3, 74),
  (⟨"KineticCupModel", "layNext", "(II)Z"⟩, prog_12_method_36_code, 8, (some .boolean), 9, 1, 23),
  (⟨"KineticCupModel", "lowest", "(JJI)J"⟩, prog_12_method_38_code, 11, (some .long), 9, 0, 0),
  (⟨"KineticCupModel", "where", "()I"⟩, prog_12_method_40_code, 1, (some .int), 9, 4, 96),
  (⟨"KineticCupModel", "ever", "(II)I"⟩, prog_12_method_41_code, 6, (some .int), 9, 3, 74),
  (⟨"KineticCupModel", "value", "(IIII)J"⟩, prog_12_method_42_code, 5, (some .long), 9, 2, 43),
  (⟨"KineticCupModel", "number", "(IIII)J"⟩, prog_12_method_49_code, 9, (some .long), 9, 3, 85),
  (⟨"KineticCupModel", "bitsOfDouble", "(JJ)J"⟩, prog_12_method_48_code, 13, (some .long), 9, 0, 0),
  (⟨"KineticCupModel", "single", "(JJ)J"⟩, prog_12_method_45_code, 12, (some .long), 9, 2, 54),
  (⟨"KineticCupModel", "round", "(JZZZ)J"⟩, prog_12_method_44_code, 13, (some .long), 9, 1, 22),
  (⟨"KineticCupModel", "length", "(J)I"⟩, prog_12_method_43_code, 3, (some .int), 9, 0, 0),
  (⟨"KineticCupModel", "bitsOfSingle", "(J)J"⟩, prog_12_method_46_code, 9, (some .long), 9, 1, 22),
  (⟨"KineticCupModel", "whole", "(J)J"⟩, prog_12_method_47_code, 2, (some .long), 9, 0, 0),
  (⟨"KineticCupModel", "heap", "(III)J"⟩, prog_12_method_50_code, 9, (some .long), 9, 3, 85),
  (⟨"KineticCupModel", "seen", "(IIZ)I"⟩, prog_12_method_51_code, 4, (some .int), 9, 1, 22),
  (⟨"KineticCupModel", "forget", "()I"⟩, prog_12_method_52_code, 2, (some .int), 9, 0, 0),
  (⟨"KineticCupModel", "lines", "(I)I"⟩, prog_12_method_55_code, 4, (some .int), 9, 2, 45),
  (⟨"KineticCupModel", "isFit", "(I)Z"⟩, prog_12_method_54_code, 4, (some .boolean), 9, 1, 22),
  (⟨"KineticCupModel", "isLeast", "(III)Z"⟩, prog_12_method_53_code, 3, (some .boolean), 9, 0, 0),
  (⟨"KineticCupModel", "ask", "(I)I"⟩, prog_12_method_56_code, 9, (some .int), 9, 2, 45),
  (⟨"KineticCupModel", "cross", "(III)J"⟩, prog_12_method_57_code, 6, (some .long), 9, 2, 42),
  (⟨"KineticCupModel", "run", "(III)I"⟩, prog_12_method_58_code, 7, (some .int), 9, 4, 104),
  (⟨"KineticCupModel", "image", "(I)I"⟩, prog_12_method_59_code, 4, (some .int), 9, 1, 22),
  (⟨"KineticCupModel", "restore", "(I)I"⟩, prog_12_method_60_code, 4, (some .int), 9, 1, 22),
  (⟨"KineticCupModel", "told", "(I)I"⟩, prog_12_method_61_code, 4, (some .int), 9, 2, 42),
  (⟨"KineticCup$Nearest", "singleBits", "(JJ)J"⟩, prog_4_method_3_code, 5, (some .long), 10, 2, 60),
  (⟨"KineticCup$Nearest", "sizeBits", "(JJII)J"⟩, prog_4_method_5_code, 13, (some .long), 10, 1, 28),
  (⟨"KineticCup$Nearest", "shiftFor", "(JJI)I"⟩, prog_4_method_6_code, 6, (some .int), 10, 0, 0),
  (⟨"KineticCup$Nearest", "nearestWhole", "(JJ)J"⟩, prog_4_method_7_code, 9, (some .long), 10, 0, 0),
  (⟨"KineticCup$Nearest", "doubleBits", "(JJ)J"⟩, prog_4_method_4_code, 6, (some .long), 10, 2, 60),
  (⟨"KineticCup$Nearest", "single", "(JJ)J"⟩, prog_4_method_2_code, 11, (some .long), 10, 1, 28),
  (⟨"java/util/Arrays", "fill", "([II)V"⟩, prog_18_method_103_code, 4, none, 13, 0, 0)]
def xtab : List xM := xtab_0 ++ (xtab_1 ++ (xtab_2 ++ (xtab_3)))
def xm (id : Nat) : xM := xtab.getD id (⟨"", "", ""⟩, .empty, 0, none, 0, 0, 0)
def xy (id : Nat) : MethodName := (xm id).1
def xbc (id : Nat) : ByteArray := (xm id).2.1
def xml (id : Nat) : Nat := (xm id).2.2.1
def xret (id : Nat) : Option FieldType := (xm id).2.2.2.1
def xown (id : Nat) : Nat := (xm id).2.2.2.2.1
def xrf (id : Nat) : Nat := (xm id).2.2.2.2.2.1
def xrl (id : Nat) : Nat := (xm id).2.2.2.2.2.2
def xfl : List ((Nat × Nat) × Nat × Nat × Bool × Bool × Nat) := [
  ((0, 9), 0, 0, false, false, 185),
  ((0, 15), 0, 1, false, false, 186),
  ((0, 18), 0, 2, false, false, 187),
  ((0, 21), 0, 3, false, false, 188),
  ((0, 24), 0, 4, false, false, 189),
  ((0, 28), 0, 5, false, false, 190),
  ((0, 34), 0, 6, false, false, 191),
  ((0, 41), 0, 7, false, false, 192),
  ((0, 45), 0, 8, false, true, 193),
  ((1, 10), 1, 0, false, false, 299),
  ((1, 19), 1, 1, false, false, 300),
  ((1, 23), 1, 2, false, true, 301),
  ((2, 11), 2, 0, false, false, 219),
  ((2, 15), 2, 1, false, true, 220),
  ((3, 11), 3, 0, false, false, 84),
  ((3, 15), 3, 1, false, false, 85),
  ((3, 18), 3, 2, false, false, 86),
  ((3, 21), 3, 3, false, false, 87),
  ((3, 24), 3, 4, false, false, 88),
  ((3, 27), 3, 5, false, true, 89),
  ((3, 31), 3, 6, false, true, 90),
  ((4, 12), 4, 0, false, false, 253),
  ((4, 18), 4, 1, false, true, 254),
  ((4, 22), 4, 2, false, true, 255),
  ((4, 25), 4, 3, false, true, 256),
  ((5, 11), 5, 0, false, false, 272),
  ((5, 17), 5, 1, false, false, 273),
  ((5, 20), 5, 2, false, true, 274),
  ((5, 24), 5, 3, false, true, 275),
  ((5, 27), 5, 4, false, true, 276),
  ((6, 9), 6, 0, false, false, 232),
  ((6, 13), 6, 1, false, false, 233),
  ((6, 16), 6, 2, false, false, 234),
  ((6, 20), 6, 3, false, true, 235),
  ((7, 9), 7, 0, false, true, 114),
  ((7, 15), 7, 1, false, true, 116),
  ((7, 18), 7, 2, false, true, 118),
  ((7, 21), 7, 3, false, true, 120),
  ((7, 24), 7, 4, false, true, 122),
  ((8, 10), 8, 0, false, false, 309),
  ((8, 19), 8, 1, false, false, 310),
  ((8, 26), 8, 2, false, false, 311),
  ((8, 33), 8, 3, false, false, 312),
  ((8, 40), 8, 4, false, false, 313),
  ((8, 46), 8, 5, false, false, 314),
  ((8, 128), 7, 0, true, true, 115),
  ((8, 134), 7, 1, true, true, 117),
  ((8, 137), 7, 2, true, true, 119),
  ((8, 140), 7, 3, true, true, 121),
  ((8, 143), 7, 4, true, true, 123),
  ((9, 7), 9, 0, false, false, 860),
  ((9, 13), 9, 1, false, false, 861),
  ((9, 16), 9, 3, false, false, 863),
  ((9, 19), 9, 5, false, false, 865),
  ((9, 22), 9, 17, false, false, 877),
  ((9, 25), 9, 18, false, false, 878),
  ((9, 28), 9, 19, false, false, 879),
  ((9, 42), 9, 6, false, true, 866),
  ((9, 46), 9, 7, false, true, 867),
  ((9, 49), 9, 8, false, true, 868),
  ((9, 52), 9, 9, false, true, 869),
  ((9, 55), 9, 10, false, true, 870),
  ((9, 85), 9, 4, false, true, 864),
  ((9, 102), 9, 12, false, true, 872),
  ((9, 121), 9, 11, false, true, 871),
  ((9, 141), 9, 14, false, true, 874),
  ((9, 144), 9, 13, false, true, 873),
  ((9, 150), 9, 16, false, true, 876),
  ((9, 153), 9, 15, false, true, 875),
  ((9, 203), 9, 2, false, true, 862)]
def xfld (own idx : Nat) : Option (Nat × Nat × Bool × Bool × Nat) := xfl.lookup (own, idx)
def xcs : List ((Nat × Nat) × Value × Nat) := [
  ((4, 74), .int (65537 : Int32), 745),
  ((4, 75), .retAddr 1, 0),
  ((8, 156), .long (-1000000000000000002 : Int64), 590),
  ((8, 168), .long (-1000000000000000003 : Int64), 596),
  ((8, 186), .long (-1000000000000000001 : Int64), 628),
  ((8, 204), .long (1073741824 : Int64), 661),
  ((9, 156), .long (-1000000000000000002 : Int64), 1029),
  ((9, 161), .long (-1000000000000000003 : Int64), 1038),
  ((9, 167), .long (-1000000000000000001 : Int64), 1054),
  ((9, 173), .long (2 : Int64), 1063),
  ((9, 179), .long (8388608 : Int64), 1078),
  ((9, 181), .long (2147483648 : Int64), 1079),
  ((9, 183), .long (4503599627370496 : Int64), 1062),
  ((9, 185), .long (9007199254740992 : Int64), 1064),
  ((9, 187), .long (-9223372036854775808 : Int64), 1065),
  ((9, 212), .int (1000000 : Int32), 1110),
  ((9, 213), .int (65537 : Int32), 1119),
  ((10, 29), .int (-2147483648 : Int32), 653),
  ((10, 32), .long (-9223372036854775808 : Int64), 657),
  ((10, 34), .long (2 : Int64), 652)]
def xcst (own idx : Nat) : Option (Value × Nat) := xcs.lookup (own, idx)
def xmt : List ((Nat × Nat) × Nat × Nat × Nat × Nat × Nat × Nat) := [
  ((0, 3), 6, 0, 0, 77, 70, 0),
  ((0, 33), 5, 47, 0, 80, 81, 0),
  ((0, 40), 5, 83, 0, 110, 111, 0),
  ((0, 49), 1, 2, 0, 135, 137, 0),
  ((0, 52), 7, 0, 5, 420, 421, 0),
  ((0, 58), 1, 51, 1, 423, 424, 425),
  ((0, 62), 3, 88, 1, 169, 170, 0),
  ((0, 66), 3, 87, 1, 150, 151, 0),
  ((0, 69), 1, 17, 2, 451, 453, 10),
  ((0, 73), 1, 18, 2, 458, 460, 11),
  ((0, 76), 1, 9, 1, 455, 337, 338),
  ((0, 80), 1, 11, 1, 456, 344, 345),
  ((0, 83), 0, 10, 2, 457, 341, 0),
  ((0, 87), 1, 19, 1, 462, 463, 464),
  ((0, 90), 1, 21, 3, 470, 472, 12),
  ((0, 94), 1, 24, 2, 482, 484, 15),
  ((0, 97), 1, 22, 2, 474, 476, 13),
  ((0, 101), 1, 23, 2, 478, 480, 14),
  ((0, 104), 1, 48, 0, 139, 140, 141),
  ((0, 107), 1, 3, 3, 146, 148, 1),
  ((0, 111), 1, 52, 1, 486, 487, 488),
  ((0, 115), 1, 54, 1, 514, 495, 496),
  ((0, 118), 1, 57, 1, 515, 507, 508),
  ((0, 121), 1, 58, 1, 516, 511, 512),
  ((0, 124), 1, 53, 1, 517, 491, 492),
  ((0, 127), 1, 59, 1, 518, 519, 520),
  ((0, 131), 1, 85, 3, 522, 523, 524),
  ((0, 135), 1, 4, 1, 153, 155, 2),
  ((0, 138), 1, 7, 4, 165, 167, 4),
  ((0, 142), 1, 8, 3, 172, 174, 5),
  ((0, 145), 1, 5, 1, 157, 158, 159),
  ((0, 148), 1, 6, 1, 161, 163, 3),
  ((0, 151), 1, 49, 1, 176, 177, 178),
  ((0, 154), 1, 50, 3, 181, 182, 183),
  ((0, 157), 1, 25, 1, 623, 553, 554),
  ((0, 160), 1, 27, 2, 618, 580, 581),
  ((0, 163), 1, 30, 3, 619, 621, 18),
  ((1, 1), 6, 0, 0, 294, 70, 0),
  ((1, 9), 2, 1, 0, 296, 75, 0),
  ((1, 18), 5, 77, 0, 298, 229, 0),
  ((1, 27), 1, 14, 1, 796, 417, 418),
  ((1, 31), 1, 82, 1, 797, 798, 799),
  ((2, 3), 6, 0, 0, 218, 70, 0),
  ((2, 19), 1, 41, 1, 387, 389, 7),
  ((2, 23), 3, 88, 1, 395, 170, 0),
  ((2, 27), 1, 40, 1, 383, 385, 6),
  ((2, 30), 1, 43, 1, 396, 397, 398),
  ((2, 33), 1, 42, 1, 391, 393, 8),
  ((2, 36), 1, 44, 1, 400, 401, 402),
  ((3, 3), 6, 0, 0, 83, 70, 0),
  ((3, 34), 7, 0, 5, 427, 421, 0),
  ((3, 40), 0, 187, 2, 143, 144, 0),
  ((3, 46), 3, 87, 1, 180, 151, 0),
  ((3, 50), 1, 55, 1, 498, 500, 16),
  ((3, 53), 1, 54, 1, 494, 495, 496),
  ((3, 57), 1, 53, 1, 490, 491, 492),
  ((3, 60), 1, 56, 2, 502, 504, 17),
  ((3, 64), 1, 57, 1, 506, 507, 508),
  ((3, 67), 1, 58, 1, 510, 511, 512),
  ((4, 3), 6, 0, 0, 250, 70, 0),
  ((4, 11), 2, 1, 0, 252, 75, 0),
  ((4, 28), 1, 14, 1, 416, 417, 418),
  ((4, 32), 1, 15, 0, 428, 429, 430),
  ((4, 36), 1, 84, 0, 432, 433, 434),
  ((4, 41), 1, 63, 1, 412, 414, 9),
  ((4, 44), 1, 39, 0, 436, 380, 381),
  ((4, 50), 1, 37, 0, 437, 364, 365),
  ((4, 53), 1, 44, 1, 438, 401, 402),
  ((4, 57), 1, 45, 1, 439, 440, 441),
  ((4, 60), 1, 46, 1, 443, 444, 445),
  ((4, 63), 1, 16, 3, 447, 448, 449),
  ((4, 67), 1, 20, 4, 466, 467, 468),
  ((4, 71), 1, 43, 1, 526, 397, 398),
  ((4, 77), 8, 0, 1, 747, 748, 749),
  ((5, 5), 6, 0, 0, 271, 70, 0),
  ((5, 30), 1, 81, 2, 694, 695, 696),
  ((5, 34), 1, 74, 1, 714, 716, 19),
  ((5, 38), 11, 0, 2, 722, 723, 724),
  ((5, 44), 0, 187, 2, 718, 144, 0),
  ((5, 50), 12, 0, 2, 719, 720, 721),
  ((6, 1), 6, 0, 0, 231, 70, 0),
  ((6, 24), 7, 0, 5, 801, 421, 0),
  ((7, 3), 6, 0, 0, 113, 70, 0),
  ((8, 1), 6, 0, 0, 69, 70, 0),
  ((8, 9), 2, 1, 0, 74, 75, 0),
  ((8, 18), 5, 35, 0, 215, 216, 0),
  ((8, 25), 5, 77, 0, 228, 229, 0),
  ((8, 32), 5, 61, 0, 247, 248, 0),
  ((8, 39), 5, 69, 0, 268, 269, 0),
  ((8, 50), 5, 32, 0, 291, 292, 0),
  ((8, 51), 0, 88, 1, 332, 170, 0),
  ((8, 55), 0, 90, 2, 333, 334, 0),
  ((8, 59), 1, 9, 1, 336, 337, 338),
  ((8, 63), 0, 10, 2, 340, 341, 0),
  ((8, 66), 1, 11, 1, 343, 344, 345),
  ((8, 69), 1, 12, 1, 347, 348, 349),
  ((8, 72), 1, 13, 4, 351, 352, 353),
  ((8, 76), 1, 36, 1, 359, 360, 361),
  ((8, 79), 1, 37, 0, 363, 364, 365),
  ((8, 83), 1, 38, 0, 371, 372, 373),
  ((8, 86), 1, 39, 0, 379, 380, 381),
  ((8, 89), 1, 62, 2, 408, 409, 410),
  ((8, 93), 1, 64, 0, 527, 528, 529),
  ((8, 96), 1, 65, 0, 531, 532, 533),
  ((8, 99), 1, 66, 0, 539, 540, 541),
  ((8, 102), 1, 14, 1, 543, 417, 418),
  ((8, 106), 1, 67, 0, 544, 545, 546),
  ((8, 109), 1, 25, 1, 552, 553, 554),
  ((8, 112), 1, 19, 1, 556, 463, 464),
  ((8, 115), 0, 87, 1, 561, 151, 0),
  ((8, 118), 1, 5, 1, 562, 158, 159),
  ((8, 121), 1, 15, 0, 567, 429, 430),
  ((8, 125), 1, 26, 0, 568, 569, 570),
  ((8, 146), 0, 100, 2, 576, 577, 0),
  ((8, 149), 1, 27, 2, 579, 580, 581),
  ((8, 153), 0, 102, 1, 587, 588, 0),
  ((8, 158), 1, 28, 0, 591, 592, 593),
  ((8, 162), 1, 52, 1, 595, 487, 488),
  ((8, 170), 1, 57, 1, 597, 507, 508),
  ((8, 173), 1, 58, 1, 598, 511, 512),
  ((8, 176), 0, 103, 3, 599, 600, 0),
  ((8, 180), 1, 54, 1, 609, 495, 496),
  ((8, 183), 1, 29, 2, 614, 615, 616),
  ((8, 188), 1, 31, 3, 629, 630, 631),
  ((8, 192), 0, 181, 2, 637, 638, 0),
  ((8, 198), 0, 185, 2, 654, 655, 0),
  ((8, 201), 0, 186, 2, 658, 659, 0),
  ((8, 206), 1, 78, 3, 670, 671, 672),
  ((8, 209), 1, 79, 0, 674, 675, 676),
  ((8, 212), 1, 80, 0, 682, 683, 684),
  ((8, 213), 1, 70, 1, 690, 691, 692),
  ((8, 217), 1, 71, 0, 698, 699, 700),
  ((8, 218), 1, 72, 1, 702, 703, 704),
  ((8, 221), 1, 73, 0, 710, 711, 712),
  ((8, 224), 1, 75, 0, 725, 726, 727),
  ((8, 227), 1, 76, 0, 729, 730, 731),
  ((8, 230), 1, 68, 3, 741, 742, 743),
  ((8, 234), 1, 33, 2, 792, 793, 794),
  ((8, 238), 1, 34, 2, 806, 807, 808),
  ((8, 242), 1, 118, 1, 814, 816, 20),
  ((8, 245), 1, 119, 2, 822, 824, 21),
  ((8, 248), 1, 60, 0, 818, 819, 820),
  ((8, 249), 9, 0, 1, 602, 603, 604),
  ((9, 1), 6, 0, 0, 831, 70, 0),
  ((9, 32), 1, 121, 0, 832, 834, 22),
  ((9, 35), 1, 127, 0, 856, 858, 28),
  ((9, 38), 0, 130, 3, 928, 929, 0),
  ((9, 58), 1, 125, 4, 848, 850, 26),
  ((9, 62), 1, 123, 1, 840, 842, 24),
  ((9, 66), 1, 122, 2, 836, 838, 23),
  ((9, 70), 1, 124, 4, 844, 846, 25),
  ((9, 74), 1, 126, 1, 852, 854, 27),
  ((9, 78), 0, 129, 1, 925, 926, 0),
  ((9, 82), 1, 131, 0, 931, 933, 29),
  ((9, 88), 0, 136, 2, 951, 952, 0),
  ((9, 91), 1, 135, 0, 947, 949, 30),
  ((9, 95), 1, 141, 1, 970, 972, 34),
  ((9, 98), 1, 142, 2, 974, 976, 35),
  ((9, 105), 1, 140, 1, 966, 968, 33),
  ((9, 108), 1, 143, 2, 978, 980, 36),
  ((9, 111), 1, 144, 2, 982, 984, 37),
  ((9, 115), 1, 145, 2, 986, 988, 38),
  ((9, 118), 1, 139, 1, 962, 964, 32),
  ((9, 124), 1, 138, 0, 958, 960, 31),
  ((9, 127), 1, 147, 0, 994, 996, 39),
  ((9, 130), 1, 154, 2, 1021, 1023, 41),
  ((9, 134), 0, 152, 2, 1014, 1015, 0),
  ((9, 137), 1, 153, 3, 1017, 1019, 40),
  ((9, 147), 1, 157, 2, 1034, 1036, 43),
  ((9, 158), 1, 156, 0, 1030, 1032, 42),
  ((9, 163), 0, 158, 3, 1039, 1040, 0),
  ((9, 169), 0, 166, 1, 1072, 1073, 0),
  ((9, 175), 0, 165, 4, 1069, 1070, 0),
  ((9, 189), 0, 163, 2, 1059, 1060, 0),
  ((9, 193), 0, 164, 2, 1066, 1067, 0),
  ((9, 196), 0, 167, 1, 1075, 1076, 0),
  ((9, 200), 0, 168, 1, 1080, 1081, 0),
  ((9, 206), 0, 174, 3, 1103, 1104, 0),
  ((9, 209), 1, 173, 1, 1099, 1101, 44),
  ((10, 9), 10, 0, 1, 643, 644, 645),
  ((10, 15), 0, 183, 3, 646, 647, 0),
  ((10, 19), 0, 184, 2, 649, 650, 0),
  ((10, 23), 0, 182, 4, 640, 641, 0),
  ((11, 9), 2, 86, 0, 66, 67, 0),
  ((11, 12), 2, 120, 0, 828, 829, 0),
  ((11, 13), 1, 89, 4, 328, 329, 330),
  ((11, 17), 1, 128, 4, 921, 922, 923),
  ((11, 18), 1, 91, 1, 355, 356, 357),
  ((11, 22), 1, 132, 1, 935, 936, 937),
  ((11, 23), 1, 92, 0, 367, 368, 369),
  ((11, 27), 1, 133, 0, 939, 940, 941),
  ((11, 28), 1, 93, 0, 375, 376, 377),
  ((11, 31), 1, 134, 0, 943, 944, 945),
  ((11, 32), 1, 94, 1, 404, 405, 406),
  ((11, 35), 1, 137, 1, 954, 955, 956),
  ((11, 36), 1, 95, 0, 535, 536, 537),
  ((11, 39), 1, 146, 0, 990, 991, 992),
  ((11, 40), 1, 96, 2, 548, 549, 550),
  ((11, 44), 1, 148, 2, 998, 999, 1000),
  ((11, 45), 1, 97, 1, 557, 558, 559),
  ((11, 48), 1, 149, 1, 1002, 1003, 1004),
  ((11, 49), 1, 98, 1, 563, 564, 565),
  ((11, 52), 1, 150, 1, 1006, 1007, 1008),
  ((11, 53), 1, 99, 2, 572, 573, 574),
  ((11, 56), 1, 151, 2, 1010, 1011, 1012),
  ((11, 57), 1, 101, 1, 583, 584, 585),
  ((11, 61), 1, 155, 1, 1025, 1026, 1027),
  ((11, 62), 1, 104, 0, 605, 606, 607),
  ((11, 65), 1, 159, 0, 1042, 1043, 1044),
  ((11, 66), 1, 105, 2, 610, 611, 612),
  ((11, 69), 1, 160, 2, 1046, 1047, 1048),
  ((11, 70), 1, 106, 4, 624, 625, 626),
  ((11, 74), 1, 161, 4, 1050, 1051, 1052),
  ((11, 75), 1, 107, 4, 633, 634, 635),
  ((11, 78), 1, 162, 4, 1055, 1056, 1057),
  ((11, 79), 1, 108, 3, 662, 663, 664),
  ((11, 83), 1, 169, 3, 1083, 1084, 1085),
  ((11, 84), 1, 109, 3, 666, 667, 668),
  ((11, 88), 1, 170, 3, 1087, 1088, 1089),
  ((11, 89), 1, 110, 0, 678, 679, 680),
  ((11, 92), 1, 171, 0, 1091, 1092, 1093),
  ((11, 93), 1, 111, 1, 686, 687, 688),
  ((11, 96), 1, 172, 1, 1095, 1096, 1097),
  ((11, 97), 1, 112, 1, 706, 707, 708),
  ((11, 100), 1, 175, 1, 1106, 1107, 1108),
  ((11, 101), 1, 113, 3, 733, 734, 735),
  ((11, 104), 1, 176, 3, 1111, 1112, 1113),
  ((11, 105), 1, 114, 3, 737, 738, 739),
  ((11, 109), 1, 177, 3, 1115, 1116, 1117),
  ((11, 110), 1, 115, 1, 788, 789, 790),
  ((11, 113), 1, 178, 1, 1120, 1121, 1122),
  ((11, 114), 1, 116, 1, 802, 803, 804),
  ((11, 117), 1, 179, 1, 1124, 1125, 1126),
  ((11, 118), 1, 117, 1, 810, 811, 812),
  ((11, 121), 1, 180, 1, 1128, 1129, 1130)]
def xmth (own idx : Nat) : Option (Nat × Nat × Nat × Nat × Nat × Nat) := xmt.lookup (own, idx)
def xnw : List ((Nat × Nat) × Nat × Nat) := [((0, 31), 3, 78), ((0, 38), 7, 108), ((1, 7), 0, 295), ((1, 16), 6, 297), ((4, 9), 0, 251), ((8, 7), 0, 72), ((8, 16), 2, 213), ((8, 23), 6, 226), ((8, 30), 4, 245), ((8, 37), 5, 266), ((8, 44), 1, 288), ((11, 7), 8, 64), ((11, 10), 9, 826)]
def xnew (own idx : Nat) : Option (Nat × Nat) := xnw.lookup (own, idx)
def xpC : List Nat := [0, 76, 138, 149, 156, 160, 164, 168, 175, 339, 342, 346, 350, 354, 419, 431, 450, 454, 461, 465, 469, 473, 477, 481, 485, 555, 571, 582, 594, 617, 622, 632, 293, 795, 809, 217, 362, 366, 374, 382, 386, 390, 394, 399, 403, 442, 446, 82, 142, 179, 184, 426, 489, 493, 497, 501, 505, 509, 513, 521, 821, 249, 411, 415, 530, 534, 542, 547, 744, 270, 693, 701, 705, 713, 717, 728, 732, 230, 673, 677, 685, 697, 800, 112, 435, 525, 68, 152, 171, 331, 335, 358, 370, 378, 407, 538, 551, 560, 566, 575, 578, 586, 589, 601, 608, 613, 627, 636, 665, 669, 681, 689, 709, 736, 740, 791, 805, 813, 817, 825, 830, 835, 839, 843, 847, 851, 855, 859, 924, 927, 930, 934, 938, 942, 946, 950, 953, 957, 961, 965, 969, 973, 977, 981, 985, 989, 993, 997, 1001, 1005, 1009, 1013, 1016, 1020, 1024, 1028, 1033, 1037, 1041, 1045, 1049, 1053, 1058, 1061, 1068, 1071, 1074, 1077, 1082, 1086, 1090, 1094, 1098, 1102, 1105, 1109, 1114, 1118, 1123, 1127, 1131, 639, 642, 648, 651, 656, 660, 145]
def xpI : List Nat := [47, 55, 51, 48, 53, 54, 52, 49, 46, 56, 59, 45, 58, 50]
def xpN : List Nat := [73, 290, 214, 79, 246, 267, 227, 109, 65, 827]
def xpL : List (List Nat) := [[194, 196, 198, 200, 202, 204, 206, 208, 210], [302, 304, 306], [221, 223], [91, 93, 95, 97, 99, 101, 103], [257, 259, 261, 263], [277, 279, 281, 283, 285], [236, 238, 240, 242], [124, 126, 128, 130, 132], [315, 317, 319, 321, 323, 325], [880, 882, 884, 886, 888, 890, 892, 894, 896, 898, 900, 902, 904, 906, 908, 910, 912, 914, 916, 918]]
def xty (c : Nat) : Nat → FieldType := match c with
  | 0 => tyX0
  | 1 => tyX1
  | 2 => tyX3
  | 3 => tyX4
  | 4 => tyX5
  | 5 => tyX6
  | 6 => tyX7
  | 7 => tyX8
  | 8 => tyX9
  | 9 => tyX10
  | _ => fun _ => .int
end
section
abbrev xS : Type := List (Nat × Nat × List Value) × (Nat → Nat → Int32)
abbrev xF : Type := Nat × List Value × List Value × xS
abbrev xO : Type := Option Value × xS
abbrev xR : Type := xF ⊕ (xO ⊕ (Nat × List Value × xF))
abbrev xX : Type := Nat × (Nat → Int32)
def xin (i : Int32) (n : Nat) : Bool := decide (0 ≤ i.toInt) && decide (i.toInt < (n : Int))
def xup (σ : Nat → Nat → Int32) (k j : Nat) (v : Int32) : Nat → Nat → Int32 := fun a b => if a = k ∧ b = j then v else σ a b
def xzr (σ : Nat → Nat → Int32) (k : Nat) : Nat → Nat → Int32 := fun a b => if a = k then 0 else σ a b
def xcp (σ : Nat → Nat → Int32) (k0 k1 sp dp n : Nat) : Nat → Nat → Int32 := fun a b => if a = k1 ∧ dp ≤ b ∧ b < dp + n then σ k0 (sp + (b - dp)) else σ a b
def xcat : List Value → Nat
  | [] => 0
  | v :: r => v.category + xcat r
def xkl (ls : List Value) (i : Nat) : List Value := match i with
  | 0 => ls
  | j + 1 => match ls[j]? with
    | some (.long _) => ls.set j (.float 0)
    | _ => ls
def xst1 (ls : List Value) (i : Nat) (v : Value) : List Value := (xkl ls i).set i v
def xst2 (ls : List Value) (i : Nat) (v : Value) : List Value := ((xkl ls i).set i v).set (i + 1) (.float 0)
def xcmp (c : Jvm.ClassFile.Cond) (x y : Int32) : Bool := match c with
  | .eq => decide (x = y)
  | .ne => decide (¬ x = y)
  | .lt => decide (x < y)
  | .ge => decide (y ≤ x)
  | .gt => decide (y < x)
  | .le => decide (x ≤ y)
def xnx (pc : Nat) (ls st : List Value) (S : xS) : Option xR := some (.inl (pc, ls, st, S))
def xjp (pc : Nat) (off : Int) (ls st : List Value) (S : xS) : Option xR := if 0 ≤ (pc : Int) + off then xnx ((pc : Int) + off).toNat ls st S else none
def xtt (pc : Nat) (x : Int32) (ls st : List Value) (S : xS) (d : Int) : List (Int × Int) → Option xR
  | [] => xjp pc d ls st S
  | (a, o) :: r => if x.toInt = a then xjp pc o ls st S else xtt pc x ls st S d r
def xnum : Int → List Int → List (Int × Int)
  | _, [] => []
  | a, o :: r => (a, o) :: xnum (a + 1) r
def xbi (f : Int32 → Int32 → Int32) (pc : Nat) (ls st : List Value) (S : xS) : Option xR := match st with
  | .int y :: .int x :: r => xnx (pc + 1) ls (.int (f x y) :: r) S
  | _ => none
def xbl (f : Int64 → Int64 → Int64) (pc : Nat) (ls st : List Value) (S : xS) : Option xR := match st with
  | .long y :: .long x :: r => xnx (pc + 1) ls (.long (f x y) :: r) S
  | _ => none
def xld (ls : List Value) (i pc : Nat) (st : List Value) (S : xS) (ok : Value → Bool) : Option xR := match ls[i]? with
  | some v => if ok v then xnx pc ls (v :: st) S else none
  | none => none
def xisI : Value → Bool
  | .int _ => true
  | _ => false
def xisL : Value → Bool
  | .long _ => true
  | _ => false
def xisA : Value → Bool
  | .ref _ => true
  | .retAddr _ => true
  | _ => false
def xsto (ls : List Value) (i pc : Nat) (st : List Value) (S : xS) (ok : Value → Bool) : Option xR := match st with
  | v :: r => if ok v = true ∧ i < ls.length then xnx pc (xst1 ls i v) r S else none
  | _ => none
def xsto2 (ls : List Value) (i pc : Nat) (st : List Value) (S : xS) : Option xR := match st with
  | .long x :: r => if i + 1 < ls.length then xnx pc (xst2 ls i (.long x)) r S else none
  | _ => none
def xgf (S : xS) (k ci j : Nat) : Option Value := match S.1[k]? with
  | some (t, _, vs) => if t = ci + 3 then (match vs[j]? with
    | some (.int _) => some (.int (S.2 k j))
    | some (.ref a) => some (.ref a)
    | _ => none) else none
  | none => none
def xzf (ci j : Nat) : Bool := ci == 1 && j == 2
def xpf (S : xS) (k ci j : Nat) (x : Int32) : Option xS := match S.1[k]? with
  | some (t, _, vs) => if t = ci + 3 then (match vs[j]? with
    | some (.int _) => if xzf ci j = true ∧ ¬ (x = 0 ∨ x = 1) then none else some (S.1, xup S.2 k j x)
    | _ => none) else none
  | none => none
def xpr (S : xS) (k ci j a : Nat) : Option xS := match S.1[k]? with
  | some (t, n, vs) => if t = ci + 3 then (match vs[j]? with
    | some .null => some (S.1.set k (t, n, vs.set j (.ref a)), S.2)
    | _ => none) else none
  | none => none
def xal (S : xS) (k t : Nat) (i : Int32) : Option Int32 := match S.1[k]? with
  | some (t', n, _) => if t' = t ∧ xin i n = true then some (S.2 k i.toNatClampNeg) else none
  | none => none
def xas (S : xS) (k t : Nat) (i x : Int32) : Option xS := match S.1[k]? with
  | some (t', n, _) => if t' = t ∧ xin i n = true then some (S.1, xup S.2 k i.toNatClampNeg x) else none
  | none => none
def xaq (S : xS) (k : Nat) (i : Int32) : Option Value := match S.1[k]? with
  | some (t, n, vs) => if t = 2 ∧ xin i n = true then (match vs[i.toNatClampNeg]? with
    | some (.ref a) => some (.ref a)
    | _ => none) else none
  | none => none
def xaw (S : xS) (k : Nat) (i : Int32) (a : Nat) : Option xS := match S.1[k]? with
  | some (t, n, vs) => if t = 2 ∧ xin i n = true ∧ vs.length = n then (match S.1[a]? with
    | some (t', _, _) => if t' = 4 then some (S.1.set k (t, n, vs.set i.toNatClampNeg (.ref a)), S.2) else none
    | none => none) else none
  | none => none
def xle (S : xS) (k : Nat) : Option Int32 := match S.1[k]? with
  | some (t, n, _) => if t < 3 then some (Int32.ofNat n) else none
  | none => none
def xblank : List (List Value) := [
  [.null, .null, .null, .null, .null, .null, .null, .null, .int 0],
  [.null, .null, .int 0],
  [.null, .int 0],
  [.null, .null, .null, .null, .null, .int 0, .int 0],
  [.null, .int 0, .int 0, .int 0],
  [.null, .null, .int 0, .int 0, .int 0],
  [.null, .null, .null, .int 0],
  [.int 0, .int 0, .int 0, .int 0, .int 0],
  [.null, .null, .null, .null, .null, .null],
  [.null, .null, .int 0, .null, .int 0, .null, .int 0, .int 0, .int 0, .int 0, .int 0, .int 0, .int 0, .int 0, .int 0, .int 0, .int 0, .null, .null, .null]]
def xnwo (S : xS) (ci : Nat) : Option xS := match xblank[ci]? with
  | some vs => some (S.1 ++ [(ci + 3, vs.length, vs)], xzr S.2 S.1.length)
  | none => none
def xnwa (S : xS) (t : Nat) (n : Int32) : Option xS := if 0 ≤ n ∧ n ≤ 4000 then some (S.1 ++ [(t, n.toNatClampNeg, [])], xzr S.2 S.1.length) else none
def xnwq (S : xS) (n : Int32) : Option xS := if 0 ≤ n ∧ n ≤ 4000 then some (S.1 ++ [(2, n.toNatClampNeg, List.replicate n.toNatClampNeg .null)], xzr S.2 S.1.length) else none
def xpop : Nat → List Value → List Value → Option (List Value × List Value)
  | 0, as, st => some (as, st)
  | n + 1, as, v :: st => xpop n (v :: as) st
  | _ + 1, _, [] => none
def xchr (i : Int32) : Option Int32 := if xin i 8 = true then some (([43, 45, 33, 35, 37, 46, 46, 46] : List Int32).getD i.toNatClampNeg 0) else none
def xacp (S : xS) (k0 k1 : Nat) (sp dp n : Int32) : Option xS := match S.1[k0]?, S.1[k1]? with
  | some (t0, n0, _), some (t1, n1, _) => if t0 = t1 ∧ t0 < 2 ∧ 0 ≤ sp ∧ 0 ≤ dp ∧ 0 ≤ n ∧ sp.toNatClampNeg + n.toNatClampNeg ≤ n0 ∧ dp.toNatClampNeg + n.toNatClampNeg ≤ n1 then some (S.1, xcp S.2 k0 k1 sp.toNatClampNeg dp.toNatClampNeg n.toNatClampNeg) else none
  | _, _ => none
def xcall (id pc : Nat) (ls st : List Value) (S : xS) (kind j n : Nat) : Option xR := match kind with
  | 0 => (xpop n [] st).bind fun w => if xcat w.2 ≤ 8 then some (.inr (.inr (j, w.1, (pc + 3, ls, w.2, S)))) else none
  | 3 => (xpop n [] st).bind fun w => if xcat w.2 ≤ 8 then some (.inr (.inr (j, w.1, (pc + 3, ls, w.2, S)))) else none
  | 1 => (xpop (n + 1) [] st).bind fun w => match w.1 with
    | .ref k :: as => if xcat w.2 ≤ 8 ∧ (S.1[k]?).map (fun c => c.1) = some (xown j + 3) then some (.inr (.inr (j, .ref k :: as, (pc + 3, ls, w.2, S)))) else none
    | _ => none
  | 2 => (xpop (n + 1) [] st).bind fun w => match w.1 with
    | .ref k :: as => if xcat w.2 ≤ 8 then some (.inr (.inr (j, .ref k :: as, (pc + 3, ls, w.2, S)))) else none
    | _ => none
  | 5 => (xpop (n + 1) [] st).bind fun w => match w.1 with
    | .ref k :: as => if xcat w.2 ≤ 8 then some (.inr (.inr (j, .ref k :: as, (pc + 3, ls, w.2, S)))) else none
    | _ => none
  | 6 => match st with
    | .ref _ :: r => if xcat r ≤ 8 ∧ 1 ≤ xrf id ∧ 20 ≤ xrl id then xnx (pc + 3) ls r S else none
    | _ => none
  | 7 => match st with
    | .int n :: .int dp :: .ref k1 :: .int sp :: .ref k0 :: r => if xcat r ≤ 8 ∧ 1 ≤ xrf id ∧ 28 ≤ xrl id then (xacp S k0 k1 sp dp n).bind fun S' => xnx (pc + 3) ls r S' else none
    | _ => none
  | 8 => match st with
    | .int i :: .retAddr 1 :: r => if xcat r ≤ 8 ∧ 4 ≤ xrf id ∧ 81 ≤ xrl id then (xchr i).bind fun v => xnx (pc + 3) ls (.int v :: r) S else none
    | _ => none
  | 9 => match st with
    | .int x :: r => if xcat r ≤ 8 ∧ 1 ≤ xrf id ∧ 21 ≤ xrl id then xnx (pc + 3) ls (.int (if 0 ≤ x then x else 0 - x) :: r) S else none
    | _ => none
  | 10 => match st with
    | .long x :: r => if xcat r ≤ 8 ∧ 1 ≤ xrf id ∧ 21 ≤ xrl id then xnx (pc + 3) ls (.long (if 0 < x then x else -x) :: r) S else none
    | _ => none
  | 11 => match st with
    | .int y :: .int x :: r => if xcat r ≤ 8 ∧ 1 ≤ xrf id ∧ 21 ≤ xrl id then xnx (pc + 3) ls (.int (if x < y then y else x) :: r) S else none
    | _ => none
  | 12 => match st with
    | .int y :: .int x :: r => if xcat r ≤ 8 ∧ 1 ≤ xrf id ∧ 21 ≤ xrl id then xnx (pc + 3) ls (.int (if y < x then y else x) :: r) S else none
    | _ => none
  | _ => none
def xinv (id pc : Nat) (ls st : List Value) (S : xS) (idx : Nat) (ks : List Nat) : Option xR := (xmth (xown id) idx).bind fun w => if ks.contains w.1 = true then xcall id pc ls st S w.1 w.2.1 w.2.2.1 else none
def xrt (id : Nat) (st : List Value) (S : xS) : Option xR := match st with
  | [.int x] => match xret id with
    | some .int => some (.inr (.inl (some (.int x), S)))
    | some .boolean => if x = 0 ∨ x = 1 then some (.inr (.inl (some (.int x), S))) else none
    | _ => none
  | _ => none
def xlen (i : Instr) (n : Nat) : Nat := match i with
  | .bipush _ => 2
  | .iload _ => 2
  | .lload _ => 2
  | .aload _ => 2
  | .istore _ => 2
  | .lstore _ => 2
  | .astore _ => 2
  | .ldc _ => 2
  | .newarray _ => 2
  | .sipush _ => 3
  | .ldc2_w _ => 3
  | .iinc _ _ => 3
  | .ifCond _ _ => 3
  | .if_icmp _ _ => 3
  | .goto _ => 3
  | .getfield _ => 3
  | .putfield _ => 3
  | .invokestatic _ => 3
  | .invokevirtual _ => 3
  | .invokespecial _ => 3
  | .new _ => 3
  | .anewarray _ => 3
  | .tableswitch _ _ _ _ => n
  | .lookupswitch _ _ => n
  | _ => 1
def xex (X : xX) (id : Nat) (i : Instr) (pc : Nat) (ls st : List Value) (S : xS) : Option xR := match i with
  | .iconst k => xnx (pc + 1) ls (.int (Int32.ofInt k) :: st) S
  | .bipush k => xnx (pc + 2) ls (.int (Int8.ofInt k).toInt32 :: st) S
  | .sipush k => xnx (pc + 3) ls (.int (Int16.ofInt k).toInt32 :: st) S
  | .lconst k => xnx (pc + 1) ls (.long (Int64.ofNat k.val) :: st) S
  | .ldc j => (xcst (xown id) j).bind fun w => match w.1 with
    | .int v => xnx (pc + 2) ls (.int v :: st) S
    | .retAddr 1 => xnx (pc + 2) ls (.retAddr 1 :: st) S
    | _ => none
  | .ldc2_w j => (xcst (xown id) j).bind fun w => match w.1 with
    | .long v => xnx (pc + 3) ls (.long v :: st) S
    | _ => none
  | .iload j => xld ls j (pc + 2) st S xisI
  | .iload_n j => xld ls j.val (pc + 1) st S xisI
  | .lload j => xld ls j (pc + 2) st S xisL
  | .lload_n j => xld ls j.val (pc + 1) st S xisL
  | .aload j => xld ls j (pc + 2) st S xisA
  | .aload_n j => xld ls j.val (pc + 1) st S xisA
  | .istore j => xsto ls j (pc + 2) st S xisI
  | .istore_n j => xsto ls j.val (pc + 1) st S xisI
  | .astore j => xsto ls j (pc + 2) st S xisA
  | .astore_n j => xsto ls j.val (pc + 1) st S xisA
  | .lstore j => xsto2 ls j (pc + 2) st S
  | .lstore_n j => xsto2 ls j.val (pc + 1) st S
  | .iinc j k => match ls[j]? with
    | some (.int x) => xnx (pc + 3) (xst1 ls j (.int (x + Int32.ofInt k))) st S
    | _ => none
  | .iadd => xbi (fun x y => x + y) pc ls st S
  | .isub => xbi (fun x y => x - y) pc ls st S
  | .imul => xbi (fun x y => x * y) pc ls st S
  | .iand => xbi (fun x y => x &&& y) pc ls st S
  | .ior => xbi (fun x y => x ||| y) pc ls st S
  | .ishl => xbi (fun x y => x <<< (y &&& 31)) pc ls st S
  | .ishr => xbi (fun x y => x >>> (y &&& 31)) pc ls st S
  | .idiv => match st with
    | .int y :: .int x :: r => if y = 0 then none else xnx (pc + 1) ls (.int (x / y) :: r) S
    | _ => none
  | .irem => match st with
    | .int y :: .int x :: r => if y = 0 then none else xnx (pc + 1) ls (.int (x - x / y * y) :: r) S
    | _ => none
  | .ineg => match st with
    | .int x :: r => xnx (pc + 1) ls (.int (-x) :: r) S
    | _ => none
  | .ladd => xbl (fun x y => x + y) pc ls st S
  | .lsub => xbl (fun x y => x - y) pc ls st S
  | .lmul => xbl (fun x y => x * y) pc ls st S
  | .land => xbl (fun x y => x &&& y) pc ls st S
  | .lor => xbl (fun x y => x ||| y) pc ls st S
  | .ldiv => match st with
    | .long y :: .long x :: r => if y = 0 then none else xnx (pc + 1) ls (.long (x / y) :: r) S
    | _ => none
  | .lrem => match st with
    | .long y :: .long x :: r => if y = 0 then none else xnx (pc + 1) ls (.long (x - x / y * y) :: r) S
    | _ => none
  | .lneg => match st with
    | .long x :: r => xnx (pc + 1) ls (.long (-x) :: r) S
    | _ => none
  | .lshl => match st with
    | .int y :: .long x :: r => xnx (pc + 1) ls (.long (x <<< (y.toInt64 &&& 63)) :: r) S
    | _ => none
  | .lshr => match st with
    | .int y :: .long x :: r => xnx (pc + 1) ls (.long (x >>> (y.toInt64 &&& 63)) :: r) S
    | _ => none
  | .lcmp => match st with
    | .long y :: .long x :: r => xnx (pc + 1) ls (.int (lg_cmp x y) :: r) S
    | _ => none
  | .i2l => match st with
    | .int x :: r => xnx (pc + 1) ls (.long x.toInt64 :: r) S
    | _ => none
  | .l2i => match st with
    | .long x :: r => xnx (pc + 1) ls (.int x.toInt32 :: r) S
    | _ => none
  | .dup => match st with
    | v :: r => if v.category = 1 then xnx (pc + 1) ls (v :: v :: r) S else none
    | _ => none
  | .pop => match st with
    | v :: r => if v.category = 1 then xnx (pc + 1) ls r S else none
    | _ => none
  | .dup2 => match st with
    | v :: w :: r => if v.category = 1 ∧ w.category = 1 then xnx (pc + 1) ls (v :: w :: v :: w :: r) S else none
    | _ => none
  | .goto off => xjp pc off ls st S
  | .ifCond c off => match st with
    | .int x :: r => if 0 ≤ (pc : Int) + off then (if xcmp c x 0 = true then xnx ((pc : Int) + off).toNat ls r S else xnx (pc + 3) ls r S) else none
    | _ => none
  | .if_icmp c off => match st with
    | .int y :: .int x :: r => if 0 ≤ (pc : Int) + off then (if xcmp c x y = true then xnx ((pc : Int) + off).toNat ls r S else xnx (pc + 3) ls r S) else none
    | _ => none
  | .tableswitch d lo hi offs => match st with
    | .int x :: r => if hi - lo + 1 = (offs.toList.length : Int) then xtt pc x ls r S d (xnum lo offs.toList) else none
    | _ => none
  | .lookupswitch d ps => match st with
    | .int x :: r => if (ps.toList.zip (ps.toList.drop 1)).all (fun (a, next) => a.1 < next.1) = true then xtt pc x ls r S d ps.toList else none
    | _ => none
  | .getfield j => match st with
    | .ref k :: r => (xfld (xown id) j).bind fun f => (xgf S k f.1 f.2.1).bind fun v => xnx (pc + 3) ls (v :: r) S
    | _ => none
  | .putfield j => match st with
    | .int x :: .ref k :: r => (xfld (xown id) j).bind fun f => if f.2.2.1 = true ∨ f.2.2.2.1 = false then none else (xpf S k f.1 f.2.1 x).bind fun S' => xnx (pc + 3) ls r S'
    | .ref a :: .ref k :: r => (xfld (xown id) j).bind fun f => if f.2.2.1 = true ∨ f.2.2.2.1 = true ∨ ¬ (xy id).name = "<init>" ∨ ¬ f.1 = xown id then none else (xpr S k f.1 f.2.1 a).bind fun S' => xnx (pc + 3) ls r S'
    | _ => none
  | .iaload => match st with
    | .int i :: .ref k :: r => (xal S k 0 i).bind fun v => xnx (pc + 1) ls (.int v :: r) S
    | .int i :: .retAddr 0 :: r => if xin i X.1 = true then xnx (pc + 1) ls (.int (X.2 i.toNatClampNeg) :: r) S else none
    | _ => none
  | .baload => match st with
    | .int i :: .ref k :: r => (xal S k 1 i).bind fun v => xnx (pc + 1) ls (.int v :: r) S
    | _ => none
  | .iastore => match st with
    | .int x :: .int i :: .ref k :: r => (xas S k 0 i x).bind fun S' => xnx (pc + 1) ls r S'
    | _ => none
  | .bastore => match st with
    | .int x :: .int i :: .ref k :: r => if x = 0 ∨ x = 1 then (xas S k 1 i x).bind fun S' => xnx (pc + 1) ls r S' else none
    | _ => none
  | .aaload => match st with
    | .int i :: .ref k :: r => (xaq S k i).bind fun v => xnx (pc + 1) ls (v :: r) S
    | _ => none
  | .aastore => match st with
    | .ref a :: .int i :: .ref k :: r => (xaw S k i a).bind fun S' => xnx (pc + 1) ls r S'
    | _ => none
  | .arraylength => match st with
    | .ref k :: r => (xle S k).bind fun v => xnx (pc + 1) ls (.int v :: r) S
    | .retAddr 0 :: r => xnx (pc + 1) ls (.int (Int32.ofNat X.1) :: r) S
    | _ => none
  | .newarray t => match st with
    | .int n :: r => match t with
      | .int => (xnwa S 0 n).bind fun S' => xnx (pc + 2) ls (.ref S.1.length :: r) S'
      | .boolean => (xnwa S 1 n).bind fun S' => xnx (pc + 2) ls (.ref S.1.length :: r) S'
      | _ => none
    | _ => none
  | .anewarray j => match st with
    | .int n :: r => (xnew (xown id) j).bind fun w => if w.1 = 1 then (xnwq S n).bind fun S' => xnx (pc + 3) ls (.ref S.1.length :: r) S' else none
    | _ => none
  | .new j => (xnew (xown id) j).bind fun w => (xnwo S w.1).bind fun S' => xnx (pc + 3) ls (.ref S.1.length :: st) S'
  | .invokestatic j => xinv id pc ls st S j [0, 3, 7, 9, 10, 11, 12]
  | .invokevirtual j => xinv id pc ls st S j [1, 8]
  | .invokespecial j => xinv id pc ls st S j [2, 5, 6]
  | .ireturn => xrt id st S
  | .lreturn => match st with
    | [.long x] => if xret id = some .long then some (.inr (.inl (some (.long x), S))) else none
    | _ => none
  | .areturn => match st with
    | [.ref a] => match xret id with
      | some (.object _) => some (.inr (.inl (some (.ref a), S)))
      | _ => none
    | _ => none
  | .return_ => match st with
    | [] => if xret id = none then some (.inr (.inl (none, S))) else none
    | _ => none
  | _ => none
def xstep (X : xX) (id : Nat) (fr : xF) : Option xR := match decode (xbc id) fr.1 with
  | .ok (i, n) => if n = xlen i n then xex X id i fr.1 fr.2.1 fr.2.2.1 fr.2.2.2 else none
  | .error _ => none
def xgo (k : xF → Option xO) (c : Nat → List Value → xS → Option xO) (r : Option xR) : Option xO := match r with
  | none => none
  | some (.inl fr) => k fr
  | some (.inr (.inl o)) => some o
  | some (.inr (.inr (j, as, fr))) => (c j as fr.2.2.2).bind (fun o => k (fr.1, fr.2.1, o.1.toList ++ fr.2.2.1, o.2))
def xsl : List Value → List Value
  | [] => []
  | v :: r => if v.category = 2 then v :: .float 0 :: xsl r else v :: xsl r
def xent (m : Nat) (as : List Value) : List Value := xsl as ++ List.replicate (m - (xsl as).length) (.float 0)
def xrm (id j : Nat) : Bool := decide (xrf j + 1 ≤ xrf id) && decide (19 + xml j + xrl j ≤ xrl id)
def xrun (X : xX) : Nat → Nat → xF → Option xO
  | 0, _, _ => none
  | n + 1, id, fr => xgo (xrun X n id) (fun j as S => if xrm id j = true ∧ (xsl as).length ≤ xml j then xrun X n j (0, xent (xml j) as, [], S) else none) (xstep X id fr)
end
section
theorem xgo_mono {k k' : xF → Option xO} {c c' : Nat → List Value → xS → Option xO} (hk : ∀ fr o, k fr = some o → k' fr = some o) (hc : ∀ j as S o, c j as S = some o → c' j as S = some o) {r : Option xR} {o : xO} (h : xgo k c r = some o) : xgo k' c' r = some o := by
  rcases r with _ | (fr | (o' | ⟨j, as, fr⟩))
  · exact h
  · exact hk _ _ h
  · exact h
  · simp only [xgo] at h ⊢
    obtain ⟨o1, h1, h2⟩ := Option.bind_eq_some_iff.mp h
    rw [hc _ _ _ _ h1]
    exact hk _ _ h2
theorem xrun_succ (X : xX) (n id : Nat) (fr : xF) : xrun X (n + 1) id fr = xgo (xrun X n id) (fun j as S => if xrm id j = true ∧ (xsl as).length ≤ xml j then xrun X n j (0, xent (xml j) as, [], S) else none) (xstep X id fr) := rfl
theorem xrun_mono1 (X : xX) : ∀ (n id : Nat) (fr : xF) (o : xO), xrun X n id fr = some o → xrun X (n + 1) id fr = some o
  | 0, _, _, _, h => by cases h
  | n + 1, id, fr, o, h => by
    rw [xrun_succ] at h ⊢
    refine xgo_mono (fun fr o => xrun_mono1 X n id fr o) (fun j as S o h => ?_) h
    by_cases hc : xrm id j = true ∧ (xsl as).length ≤ xml j
    · rw [if_pos hc] at h ⊢
      exact xrun_mono1 X n j _ o h
    · rw [if_neg hc] at h
      cases h
theorem xrun_mono (X : xX) {n m id : Nat} {fr : xF} {o : xO} (hnm : n ≤ m) (h : xrun X n id fr = some o) : xrun X m id fr = some o := by
  induction hnm with
  | refl => exact h
  | step _ ih => exact xrun_mono1 X _ _ _ _ ih
noncomputable def xV (X : xX) (id : Nat) (fr : xF) : Option xO := @dite (Option xO) (∃ o n, xrun X n id fr = some o) (Classical.propDecidable _) (fun h => some h.choose) (fun _ => none)
theorem xV_some {X : xX} {id : Nat} {fr : xF} {o : xO} : xV X id fr = some o ↔ ∃ n, xrun X n id fr = some o := by
  unfold xV
  by_cases h : ∃ o n, xrun X n id fr = some o
  · rw [dif_pos h]
    obtain ⟨n, hn⟩ := h.choose_spec
    constructor
    · intro e
      cases e
      exact ⟨n, hn⟩
    · rintro ⟨m, hm⟩
      have h1 := xrun_mono X (Nat.le_max_left n m) hn
      have h2 := xrun_mono X (Nat.le_max_right n m) hm
      rw [h1] at h2
      exact h2
  · rw [dif_neg h]
    constructor
    · intro e; cases e
    · rintro ⟨n, hn⟩
      exact absurd ⟨o, n, hn⟩ h
noncomputable def xK (X : xX) (j : Nat) (as : List Value) (S : xS) : Option xO := xV X j (0, xent (xml j) as, [], S)
noncomputable def xC (X : xX) (id j : Nat) (as : List Value) (S : xS) : Option xO := if xrm id j = true ∧ (xsl as).length ≤ xml j then xK X j as S else none
theorem xV_eq (X : xX) (id : Nat) (fr : xF) : xV X id fr = xgo (xV X id) (xC X id) (xstep X id fr) := by
  have key : ∀ o, xV X id fr = some o ↔ xgo (xV X id) (xC X id) (xstep X id fr) = some o := by
    intro o
    constructor
    · intro h
      obtain ⟨n, hn⟩ := xV_some.mp h
      cases n with
      | zero => cases hn
      | succ n =>
        rw [xrun_succ] at hn
        refine xgo_mono (fun fr o h => xV_some.mpr ⟨n, h⟩) (fun j as S o h => ?_) hn
        unfold xC
        by_cases hc : xrm id j = true ∧ (xsl as).length ≤ xml j
        · rw [if_pos hc] at h ⊢
          exact xV_some.mpr ⟨n, h⟩
        · rw [if_neg hc] at h
          cases h
    · intro h
      refine xV_some.mpr ?_
      rcases hr : xstep X id fr with _ | (fr' | (o' | ⟨j, as, fr'⟩))
      · rw [hr] at h; cases h
      · rw [hr] at h
        obtain ⟨n, hn⟩ := xV_some.mp h
        exact ⟨n + 1, by rw [xrun_succ, hr]; exact hn⟩
      · rw [hr] at h
        exact ⟨1, by rw [xrun_succ, hr]; exact h⟩
      · rw [hr] at h
        simp only [xgo] at h
        obtain ⟨o1, h1, h2⟩ := Option.bind_eq_some_iff.mp h
        obtain ⟨n2, hn2⟩ := xV_some.mp h2
        unfold xC at h1
        by_cases hc : xrm id j = true ∧ (xsl as).length ≤ xml j
        · rw [if_pos hc] at h1
          obtain ⟨n1, hn1⟩ := xV_some.mp h1
          refine ⟨max n1 n2 + 1, ?_⟩
          rw [xrun_succ, hr]
          simp only [xgo]
          rw [if_pos hc, xrun_mono X (Nat.le_max_left n1 n2) hn1]
          exact xrun_mono X (Nat.le_max_right n1 n2) hn2
        · rw [if_neg hc] at h1
          cases h1
  cases h : xgo (xV X id) (xC X id) (xstep X id fr) with
  | some o => exact (key o).mpr h
  | none =>
    cases h2 : xV X id fr with
    | none => rfl
    | some o => rw [(key o).mp h2] at h; cases h
noncomputable def xr (X : xX) (id : Nat) (stops : List Nat) : Nat → xF → Option xO
  | 0, fr => xV X id fr
  | n + 1, fr => if stops.contains fr.1 = true then xV X id fr else xgo (xr X id stops n) (xC X id) (xstep X id fr)
theorem xr_eq (X : xX) (id : Nat) (stops : List Nat) : ∀ (n : Nat) (fr : xF), xr X id stops n fr = xV X id fr
  | 0, _ => rfl
  | n + 1, fr => by
    have e : xr X id stops n = xV X id := funext (xr_eq X id stops n)
    rw [xr, e]
    by_cases h : stops.contains fr.1 = true
    · rw [if_pos h]
    · rw [if_neg h, ← xV_eq]
theorem xgo_ite {k : xF → Option xO} {c : Nat → List Value → xS → Option xO} {p : Prop} [Decidable p] {a b : Option xR} : xgo k c (if p then a else b) = if p then xgo k c a else xgo k c b := apply_ite _ _ _ _
theorem xr_s (X : xX) (id : Nat) (stops : List Nat) (n pc : Nat) (ls st : List Value) (S : xS) : xr X id stops (n + 1) (pc, ls, st, S) = if stops.contains pc = true then xV X id (pc, ls, st, S) else xgo (xr X id stops n) (xC X id) (xstep X id (pc, ls, st, S)) := rfl
theorem xgo_nx {k : xF → Option xO} {c : Nat → List Value → xS → Option xO} {pc : Nat} {ls st : List Value} {S : xS} : xgo k c (xnx pc ls st S) = k (pc, ls, st, S) := rfl
theorem xgo_n {k : xF → Option xO} {c : Nat → List Value → xS → Option xO} : xgo k c none = none := rfl
theorem xgo_o {k : xF → Option xO} {c : Nat → List Value → xS → Option xO} {o : xO} : xgo k c (some (.inr (.inl o))) = some o := rfl
theorem xgo_c {k : xF → Option xO} {c : Nat → List Value → xS → Option xO} {j : Nat} {as : List Value} {pc : Nat} {ls st : List Value} {S : xS} : xgo k c (some (.inr (.inr (j, as, (pc, ls, st, S))))) = (c j as S).bind (fun o => k (pc, ls, o.1.toList ++ st, o.2)) := rfl
theorem xstep_s (X : xX) (id pc : Nat) (ls st : List Value) (S : xS) : xstep X id (pc, ls, st, S) = match decode (xbc id) pc with
  | .ok (i, n) => if n = xlen i n then xex X id i pc ls st S else none
  | .error _ => none := rfl
theorem xK_s (X : xX) (j : Nat) (as : List Value) (S : xS) (stops : List Nat) (n : Nat) : xK X j as S = xr X j stops n (0, xent (xml j) as, [], S) := (xr_eq X j stops n _).symm
theorem xC_s (X : xX) (id j : Nat) (as : List Value) (S : xS) : xC X id j as S = if xrm id j = true ∧ (xsl as).length ≤ xml j then xK X j as S else none := rfl
end
section
def xtG : List Cond := lw_tbl.filter goodWord
def xw (w : Cond) (i : Nat) : Bool := decide (lw_tbl[i]? = some w) && goodWord w
theorem xw_in {w : Cond} {i : Nat} (h : xw w i = true) : w ∈ xtG := by
  simp only [xw, Bool.and_eq_true, decide_eq_true_eq] at h
  exact List.mem_filter.mpr ⟨List.mem_of_getElem? h.1, h.2⟩
def xisN : Cond → Bool
  | .methodLinkNest _ _ _ _ => true
  | .fieldLinkNest _ _ _ _ _ _ => true
  | _ => false
def xtN : List Cond := lw_tbl.filter xisN
def xwN (w : Cond) (i : Nat) : Bool := decide (lw_tbl[i]? = some w) && xisN w
theorem xwN_in {w : Cond} {i : Nat} (h : xwN w i = true) : w ∈ xtN := by
  simp only [xwN, Bool.and_eq_true, decide_eq_true_eq] at h
  exact List.mem_filter.mpr ⟨List.mem_of_getElem? h.1, h.2⟩
set_option maxRecDepth 100000 in
set_option maxHeartbeats 4000000 in
theorem xk_code0 : (xtab.drop 1).map (fun M => some (Cond.code M.1 M.2.1 M.2.2.1 M.2.2.2.1)) = (xpC.drop 1).map (fun i => lw_tbl[i]?) := rfl
set_option maxRecDepth 100000 in
theorem xk_cls : (List.range 188).all (fun id => decide ((xy id).cls = xnm (xown id)) && Jvm.plainName (xy id).cls && decide (xown id < 14)) = true := by decide +kernel
theorem xk_ini : (List.range 14).all (fun c => xw (.initialized (xnm c)) (xpI.getD c 0) && decide (xnm c ≠ "java/lang/invoke/MethodHandle") && decide (xnm c ≠ "java/lang/invoke/VarHandle")) = true := by decide +kernel
def xkf (e : (Nat × Nat) × Nat × Nat × Bool × Bool × Nat) : Bool := match e with
  | ((o, i), ci, f, nest, dat, pl) => match xcl[ci]? with
    | some (C, T, N) => decide (f < N) && (if nest = true then xwN (.fieldLinkNest (xnm o) i C (T f).2.1 (T f).2.2.1 "KineticCup") pl else xw (.fieldLink (xnm o) i C (T f).2.1 (T f).2.2.1) pl) && (if dat = true then decide ((T f).2.2.2 = false) && decide (xty ci f = .int ∨ (xty ci f = .boolean ∧ xzf ci f = true)) else decide ((T f).2.2.2 = true) && decide (narrow (xty ci f) (.ref 0) = .ref 0) && fits (xty ci f) (.ref 0))
    | none => false
set_option maxRecDepth 100000 in
theorem xk_fld : xfl.all xkf = true := by decide +kernel
def xkc (e : (Nat × Nat) × Value × Nat) : Bool := match e.2.1 with
  | .int v => xw (.constant (xnm e.1.1) e.1.2 v) e.2.2
  | .long v => xw (.constantLong (xnm e.1.1) e.1.2 v) e.2.2
  | .retAddr 1 => e.1 == (4, 75)
  | _ => false
set_option maxRecDepth 100000 in
theorem xk_cst : xcs.all xkc = true := by decide +kernel
def xkm (e : (Nat × Nat) × Nat × Nat × Nat × Nat × Nat × Nat) : Bool := match e with
  | ((o, i), kind, j, n, p1, p2, p3) => match kind with
    | 0 => xw (.methodLink (xnm o) i (xy j)) p1 && xw (.static (xy j)) p2 && decide ((parseMethodDescriptor (xy j).desc).map (fun d => d.parameters.length) = some n) && decide (1 ≤ j) && decide (j < 188)
    | 3 => xwN (.methodLinkNest (xnm o) i (xy j) "KineticCup") p1 && xw (.static (xy j)) p2 && decide ((parseMethodDescriptor (xy j).desc).map (fun d => d.parameters.length) = some n) && decide (1 ≤ j) && decide (j < 188)
    | 1 => xw (.methodLink (xnm o) i (xy j)) p1 && xw (.instanceMethod (xy j)) p2 && xw (.selects (xnm (xown j)) (xy j) (xy j)) p3 && decide ((parseMethodDescriptor (xy j).desc).map (fun d => d.parameters.length) = some n) && decide (1 ≤ j) && decide (j < 188)
    | 2 => xw (.methodLink (xnm o) i (xy j)) p1 && xw (.instanceMethod (xy j)) p2 && decide ((xy j).name = "<init>") && decide (xret j = none) && decide ((parseMethodDescriptor (xy j).desc).map (fun d => d.parameters.length) = some n) && decide (1 ≤ j) && decide (j < 188)
    | 5 => xwN (.methodLinkNest (xnm o) i (xy j) "KineticCup") p1 && xw (.instanceMethod (xy j)) p2 && decide ((xy j).name = "<init>") && decide (xret j = none) && decide ((parseMethodDescriptor (xy j).desc).map (fun d => d.parameters.length) = some n) && decide (1 ≤ j) && decide (j < 188)
    | 6 => xw (.methodLink (xnm o) i objectInit) p1 && xw (.instanceMethod objectInit) p2
    | 7 => xw (.methodLink (xnm o) i arraycopyName) p1 && xw (.static arraycopyName) p2
    | 9 => xw (.methodLink (xnm o) i Lib.Math.abs.name) p1 && xw (.static Lib.Math.abs.name) p2
    | 10 => xw (.methodLink (xnm o) i Lib.MathLoose.abs_long.x) p1 && xw (.static Lib.MathLoose.abs_long.x) p2
    | 11 => xw (.methodLink (xnm o) i Lib.Math.max.name) p1 && xw (.static Lib.Math.max.name) p2
    | 12 => xw (.methodLink (xnm o) i Lib.Math.min.name) p1 && xw (.static Lib.Math.min.name) p2
    | 8 => xw (.methodLink (xnm o) i ⟨"java/lang/String", "charAt", "(I)C"⟩) p1
    | _ => false
set_option maxRecDepth 100000 in
theorem xk_mth : xmt.all xkm = true := by decide +kernel
def xkn (e : (Nat × Nat) × Nat × Nat) : Bool := xw (.classLink (xnm e.1.1) e.1.2 (xnm e.2.1)) e.2.2 && decide (e.2.1 < 10)
set_option maxRecDepth 100000 in
theorem xk_new : xnw.all xkn = true := by decide +kernel
def xko (c : Nat) : Bool := match xcl[c]? with
  | some (C, T, N) => decide (C = xnm c) && xw (.instantiable C N) (xpN.getD c 0) && (List.range N).all (fun k => xw (u_lay C T k) ((xpL.getD c []).getD k 0) && decide ((T k).1 = C) && decide (parseFieldDescriptor (T k).2.2.1 = some (xty c k))) && decide (∀ a, a < N → ∀ b, b < N → a ≠ b → (T a).2.1 ≠ (T b).2.1) && decide ((xblank.getD c []).length = N) && (List.range N).all (fun k => decide (defaultValue (xty c k) = (xblank.getD c []).getD k .null))
  | none => false
set_option maxRecDepth 100000 in
theorem xk_cl : (List.range 10).all xko = true := by decide +kernel
theorem xk_cln : xcl.length = 10 := by decide +kernel
end
section
set_option maxRecDepth 100000 in
theorem xk_abs : Cond.code Lib.Math.abs.name Lib.Math.abs.code 1 (some .int) ∈ xtG := List.mem_filter.mpr ⟨List.mem_of_getElem? (i := 604) rfl, rfl⟩
set_option maxRecDepth 100000 in
theorem xk_absl : Cond.code Lib.MathLoose.abs_long.x Lib.MathLoose.abs_long.code 2 (some .long) ∈ xtG := List.mem_filter.mpr ⟨List.mem_of_getElem? (i := 645) rfl, rfl⟩
set_option maxRecDepth 100000 in
theorem xk_max : Cond.code Lib.Math.max.name Lib.Math.max.code 2 (some .int) ∈ xtG := List.mem_filter.mpr ⟨List.mem_of_getElem? (i := 724) rfl, rfl⟩
set_option maxRecDepth 100000 in
theorem xk_min : Cond.code Lib.Math.min.name Lib.Math.min.code 2 (some .int) ∈ xtG := List.mem_filter.mpr ⟨List.mem_of_getElem? (i := 721) rfl, rfl⟩
theorem xk_obj : Cond.code objectInit ⟨#[0xb1]⟩ 1 none ∈ xtG := List.mem_filter.mpr ⟨List.mem_of_getElem? (i := 71) rfl, rfl⟩
theorem xk_sys : xw (.initialized "java/lang/System") 57 = true := by decide +kernel
theorem xk_mat : xw (.initialized "java/lang/Math") 58 = true := by decide +kernel
theorem xk_nat : xw (.native arraycopyName) 422 = true := by decide +kernel
theorem xk_arI : xw (.arrayClass .int) 106 = true := by decide +kernel
theorem xk_arZ : xw (.arrayClass .boolean) 107 = true := by decide +kernel
theorem xtab_len : xtab.length = 188 := by decide +kernel
theorem xk_code {id : Nat} (h1 : 1 ≤ id) (h2 : id < 188) : Cond.code (xy id) (xbc id) (xml id) (xret id) ∈ xtG := by
  have e := congrArg (fun l => l[id - 1]?) xk_code0
  have hl : id < xtab.length := by rw [xtab_len]; exact h2
  have e1 : xtab[id]? = some (xm id) := by
    unfold xm
    rw [List.getElem?_eq_getElem hl, List.getD_eq_getElem?_getD, List.getElem?_eq_getElem hl]
    rfl
  simp only [List.getElem?_map, List.getElem?_drop] at e
  rw [show 1 + (id - 1) = id by omega, e1] at e
  cases hp : xpC[id]? with
  | none => rw [hp] at e; cases e
  | some i =>
    rw [hp] at e
    have e2 : lw_tbl[i]? = some (Cond.code (xy id) (xbc id) (xml id) (xret id)) := by
      have := Option.some.inj e
      exact this.symm
    exact List.mem_filter.mpr ⟨List.mem_of_getElem? e2, rfl⟩
theorem xk_own {id : Nat} (h2 : id < 188) : (xy id).cls = xnm (xown id) ∧ Jvm.plainName (xy id).cls = true ∧ xown id < 14 := by
  have h := List.all_eq_true.mp xk_cls id (List.mem_range.mpr h2)
  simp only [Bool.and_eq_true, decide_eq_true_eq] at h
  exact ⟨h.1.1, h.1.2, h.2⟩
theorem xk_init {c : Nat} (h : c < 14) : Cond.initialized (xnm c) ∈ xtG ∧ xnm c ≠ "java/lang/invoke/MethodHandle" ∧ xnm c ≠ "java/lang/invoke/VarHandle" := by
  have h := List.all_eq_true.mp xk_ini c (List.mem_range.mpr h)
  simp only [Bool.and_eq_true, decide_eq_true_eq] at h
  exact ⟨xw_in h.1.1, h.1.2, h.2⟩
theorem xlook {α β : Type} [BEq α] [LawfulBEq α] {a : α} {b : β} : ∀ {l : List (α × β)}, l.lookup a = some b → (a, b) ∈ l
  | [], h => by cases h
  | (x, y) :: l, h => by
    rw [List.lookup_cons] at h
    cases he : a == x with
    | true =>
      rw [he] at h
      cases h
      rw [eq_of_beq he]
      exact List.mem_cons_self
    | false =>
      rw [he] at h
      exact List.mem_cons_of_mem _ (xlook h)
theorem xk_fldw {o i ci f p : Nat} {b d : Bool} (h : xfld o i = some (ci, f, b, d, p)) : ∃ C T N, xcl[ci]? = some (C, T, N) ∧ f < N ∧ (b = true → Cond.fieldLinkNest (xnm o) i C (T f).2.1 (T f).2.2.1 "KineticCup" ∈ xtN) ∧ (b = false → Cond.fieldLink (xnm o) i C (T f).2.1 (T f).2.2.1 ∈ xtG) ∧ (d = true → (T f).2.2.2 = false ∧ (xty ci f = .int ∨ (xty ci f = .boolean ∧ xzf ci f = true))) ∧ (d = false → (T f).2.2.2 = true ∧ narrow (xty ci f) (.ref 0) = .ref 0 ∧ fits (xty ci f) (.ref 0) = true) := by
  have h := List.all_eq_true.mp xk_fld _ (xlook h)
  unfold xkf at h
  dsimp only at h
  split at h
  · rename_i C T N hc
    simp only [Bool.and_eq_true, decide_eq_true_eq] at h
    obtain ⟨⟨h1, h2⟩, h3⟩ := h
    refine ⟨C, T, N, hc, h1, fun hb => ?_, fun hb => ?_, fun hd => ?_, fun hd => ?_⟩
    · rw [if_pos hb] at h2; exact xwN_in h2
    · rw [if_neg (by rw [hb]; decide)] at h2; exact xw_in h2
    · rw [if_pos hd] at h3
      simp only [Bool.and_eq_true, decide_eq_true_eq] at h3
      exact h3
    · rw [if_neg (by rw [hd]; decide)] at h3
      simp only [Bool.and_eq_true, decide_eq_true_eq] at h3
      exact ⟨h3.1.1, h3.1.2, h3.2⟩
  · cases h
theorem xk_clw {c : Nat} {C : String} {T : u_T} {N : Nat} (h : xcl[c]? = some (C, T, N)) : C = xnm c ∧ Cond.instantiable C N ∈ xtG ∧ (∀ w ∈ u_ws C T N, w ∈ xtG) ∧ (∀ k, k < N → (T k).1 = C) ∧ (∀ k, k < N → parseFieldDescriptor (T k).2.2.1 = some (xty c k)) ∧ (∀ a, a < N → ∀ b, b < N → a ≠ b → (T a).2.1 ≠ (T b).2.1) ∧ (xblank.getD c []).length = N ∧ (∀ k, k < N → defaultValue (xty c k) = (xblank.getD c []).getD k .null) ∧ c < 10 := by
  have hlt : c < 10 := by rw [← xk_cln]; exact (List.getElem?_eq_some_iff.mp h).1
  have h2 := List.all_eq_true.mp xk_cl c (List.mem_range.mpr hlt)
  unfold xko at h2
  rw [h] at h2
  simp only [Bool.and_eq_true, decide_eq_true_eq, List.all_eq_true, List.mem_range] at h2
  obtain ⟨⟨⟨⟨⟨a1, a2⟩, a3⟩, a4⟩, a5⟩, a6⟩ := h2
  refine ⟨a1, xw_in a2, fun w hw => ?_, fun k hk => (a3 k hk).1.2, fun k hk => (a3 k hk).2, a4, a5, a6, hlt⟩
  obtain ⟨k, hk, rfl⟩ := List.mem_map.mp hw
  exact xw_in (a3 k (List.mem_range.mp hk)).1.1
end
section
def xtv (base : Nat) (ex : Nat → Nat) (v : Value) : Value := match v with
  | .ref k => .ref (base + k)
  | .retAddr n => .ref (ex n)
  | v => v
def xfv (σ : Nat → Nat → Int32) (k j : Nat) (v : Value) : Value := match v with
  | .int _ => .int (σ k j)
  | v => v
def xce (base : Nat) (ex : Nat → Nat) (D : va_G) (cA : Nat → ClassId) (σ : Nat → Nat → Int32) (H : Heap) (k t n : Nat) (vs : List Value) : Prop :=
  (t = 0 → H[base + k]? = some (arrV (cA 0) n (fun j => .int (σ k j)))) ∧
  (t = 1 → (∀ j, σ k j = 0 ∨ σ k j = 1) ∧ H[base + k]? = some (arrV (cA 1) n (fun j => .int (σ k j)))) ∧
  (t = 2 → vs.length = n ∧ H[base + k]? = some (arrV (cA 2) n (fun j => xtv base ex (vs.getD j .null)))) ∧
  (∀ ci, t = ci + 3 → ∃ C T, xcl[ci]? = some (C, T, n) ∧ vs.length = n ∧ t_OB (base + k) (D.1 ci) n (D.2 ci) H (fun j => xtv base ex (xfv σ k j (vs.getD j .null))))
def xhp (base : Nat) (ex : Nat → Nat) (D : va_G) (cA : Nat → ClassId) (H00 : Heap) (S : xS) (H : Heap) : Prop :=
  H.size = base + S.1.length ∧ (∀ k t n vs, S.1[k]? = some (t, n, vs) → xce base ex D cA S.2 H k t n vs) ∧ ∀ q, q < base → H[q]? = H00[q]?
def xkw (base : Nat) (ex : Nat → Nat) (D : va_G) (cA : Nat → ClassId) (H00 : Heap) (X : xX) (Z : State → Prop) (U : State) : Prop :=
  va_K D xcl [(cA 0, .int), (cA 1, .boolean), (cA 2, .object "KineticCup$Image")] U ∧ (∀ w ∈ xtN, va_Nw w U) ∧ va_AO "KineticCup$Image" U ∧ (va_X (ex 0) X.1 X.2 U H00 ∧ ex 0 < base) ∧ Z U
def xfx (base : Nat) (ex : Nat → Nat) (D : va_G) (cA : Nat → ClassId) (H00 : Heap) (X : xX) (Z : State → Prop) (p : Program) (R : Room) (s : State) (m : MethodId) (args : Array Value) (meth : Method) (c : Code) (id : Nat) : Prop :=
  p.tables.exec = Jvm.exec ∧ c.code = xbc id ∧ meth.sig.returnType = xret id ∧ c.maxLocals = xml id ∧ s.vm.findClass (xnm (xown id)) = some m.cls ∧ (∀ w ∈ xtG, w.before args s = true) ∧ xkw base ex D cA H00 X Z s ∧ meth.locks = false ∧ meth.name = (xy id).name ∧ xrf id ≤ R.frames ∧ xrl id ≤ R.locals
def xbad : Value → Bool
  | .float _ => true
  | .double _ => true
  | _ => false
def xlr (base : Nat) (ex : Nat → Nat) (arr : Array Slot) (nL : Nat) (ls : List Value) : Prop :=
  arr.size = nL ∧ ls.length = nL ∧ lv_wf arr ∧ ∀ (i : Nat) (v : Value), ls[i]? = some v → xbad v = false → arr[i]? = some (Slot.val (xtv base ex v))
def xps (base : Nat) (ex : Nat → Nat) (ls : List Value) : List (Nat × Value) := ls.zipIdx.filterMap (fun q => if xbad q.1 = true then none else some (q.2, xtv base ex q.1))
theorem xtv_cat (base : Nat) (ex : Nat → Nat) (v : Value) : (xtv base ex v).category = v.category := by cases v <;> rfl
theorem xps_mem {base : Nat} {ex : Nat → Nat} {ls : List Value} {i : Nat} {w : Value} : (i, w) ∈ xps base ex ls ↔ ∃ v, ls[i]? = some v ∧ xbad v = false ∧ w = xtv base ex v := by
  unfold xps
  rw [List.mem_filterMap]
  constructor
  · rintro ⟨⟨v, j⟩, h1, h2⟩
    have h1 := List.mem_zipIdx_iff_getElem?.mp h1
    dsimp only at h1 h2
    by_cases hb : xbad v = true
    · rw [if_pos hb] at h2; cases h2
    · rw [if_neg hb] at h2
      cases h2
      exact ⟨v, h1, by simpa using hb, rfl⟩
  · rintro ⟨v, h1, h2, rfl⟩
    exact ⟨(v, i), List.mem_zipIdx_iff_getElem?.mpr h1, by dsimp only; rw [if_neg (by rw [h2]; decide)]⟩
theorem xlr_has {base : Nat} {ex : Nat → Nat} {arr : Array Slot} {nL : Nat} {ls : List Value} (h : xlr base ex arr nL ls) : lv_has arr nL (xps base ex ls) := by
  obtain ⟨h1, h2, h3, h4⟩ := h
  refine ⟨h1, h3, ?_⟩
  rintro ⟨i, w⟩ hq
  obtain ⟨v, a, b, rfl⟩ := xps_mem.mp hq
  exact h4 i v a b
theorem xkl_get {ls : List Value} {i j : Nat} {w : Value} (h : (xkl ls i)[j]? = some w) (hw : xbad w = false) : ls[j]? = some w ∧ ¬ (j + 1 = i ∧ w.category = 2) := by
  unfold xkl at h
  split at h
  · exact ⟨h, by omega⟩
  · rename_i k
    split at h
    · rename_i y hy
      by_cases hjk : j = k
      · subst hjk
        have hl := (List.getElem?_eq_some_iff.mp hy).1
        rw [List.getElem?_set_self hl] at h
        cases h
        cases hw
      · rw [List.getElem?_set_ne (Ne.symm hjk)] at h
        exact ⟨h, by omega⟩
    · rename_i hn
      refine ⟨h, ?_⟩
      rintro ⟨e, hc⟩
      have : j = k := by omega
      subst this
      cases w with
      | long y => exact hn y h
      | double _ => cases hw
      | _ => cases hc
theorem xkl_len (ls : List Value) (i : Nat) : (xkl ls i).length = ls.length := by
  unfold xkl
  split
  · rfl
  · split <;> simp
theorem xlr_st1 {base : Nat} {ex : Nat → Nat} {arr' : Array Slot} {nL i : Nat} {ls : List Value} {v : Value} (hls : ls.length = nL) (h : lv_has arr' nL ((i, xtv base ex v) :: (xps base ex ls).filter (fun q => !(q.1 == i) && !(q.1 + 1 == i && q.2.category == 2)))) : xlr base ex arr' nL (xst1 ls i v) := by
  obtain ⟨h1, h2, h3⟩ := h
  refine ⟨h1, by simp [xst1, xkl_len, hls], h2, fun j w hj hw => ?_⟩
  unfold xst1 at hj
  by_cases hji : j = i
  · subst hji
    have hl : j < (xkl ls j).length := by simpa using (List.getElem?_eq_some_iff.mp hj).1
    rw [List.getElem?_set_self hl] at hj
    cases hj
    exact h3 (j, _) List.mem_cons_self
  · rw [List.getElem?_set_ne (Ne.symm hji)] at hj
    obtain ⟨a, b⟩ := xkl_get hj hw
    refine h3 (j, _) (List.mem_cons_of_mem _ (List.mem_filter.mpr ⟨xps_mem.mpr ⟨w, a, hw, rfl⟩, ?_⟩))
    simp only [xtv_cat, Bool.and_eq_true, Bool.not_eq_true', beq_eq_false_iff_ne, Bool.and_eq_false_iff, ne_eq]
    refine ⟨hji, ?_⟩
    by_cases c : j + 1 = i
    · exact Or.inr (fun e => b ⟨c, (xtv_cat base ex w).symm.trans e⟩)
    · exact Or.inl c
theorem xlr_st2 {base : Nat} {ex : Nat → Nat} {arr' : Array Slot} {nL i : Nat} {ls : List Value} {v : Value} (hls : ls.length = nL) (h : lv_has arr' nL ((i, xtv base ex v) :: (xps base ex ls).filter (fun q => !(q.1 == i) && (!(q.1 == i + 1) && !(q.1 + 1 == i && q.2.category == 2))))) : xlr base ex arr' nL (xst2 ls i v) := by
  obtain ⟨h1, h2, h3⟩ := h
  refine ⟨h1, by simp [xst2, xkl_len, hls], h2, fun j w hj hw => ?_⟩
  unfold xst2 at hj
  by_cases hj2 : j = i + 1
  · subst hj2
    have hl : i + 1 < ((xkl ls i).set i v).length := by simpa using (List.getElem?_eq_some_iff.mp hj).1
    rw [List.getElem?_set_self hl] at hj
    cases hj
    cases hw
  · rw [List.getElem?_set_ne (Ne.symm hj2)] at hj
    by_cases hji : j = i
    · subst hji
      have hl : j < (xkl ls j).length := by simpa using (List.getElem?_eq_some_iff.mp hj).1
      rw [List.getElem?_set_self hl] at hj
      cases hj
      exact h3 (j, _) List.mem_cons_self
    · rw [List.getElem?_set_ne (Ne.symm hji)] at hj
      obtain ⟨a, b⟩ := xkl_get hj hw
      refine h3 (j, _) (List.mem_cons_of_mem _ (List.mem_filter.mpr ⟨xps_mem.mpr ⟨w, a, hw, rfl⟩, ?_⟩))
      simp only [xtv_cat, Bool.and_eq_true, Bool.not_eq_true', beq_eq_false_iff_ne, Bool.and_eq_false_iff, ne_eq]
      refine ⟨hji, hj2, ?_⟩
      by_cases c : j + 1 = i
      · exact Or.inr (fun e => b ⟨c, (xtv_cat base ex w).symm.trans e⟩)
      · exact Or.inl c
theorem xce_kept {base : Nat} {ex : Nat → Nat} {D : va_G} {cA : Nat → ClassId} {σ σ' : Nat → Nat → Int32} {H H' : Heap} {k t n : Nat} {vs : List Value} (h : xce base ex D cA σ H k t n vs) (hH : H'[base + k]? = H[base + k]?) (hs : ∀ j, σ' k j = σ k j) : xce base ex D cA σ' H' k t n vs := by
  obtain ⟨h0, h1, h2, h3⟩ := h
  have e : σ' k = σ k := funext hs
  refine ⟨fun ht => ?_, fun ht => ?_, fun ht => ?_, fun ci ht => ?_⟩
  · rw [hH, h0 ht, e]
  · rw [hH, (h1 ht).2, e]; exact ⟨(h1 ht).1, rfl⟩
  · rw [hH]; exact h2 ht
  · obtain ⟨C, T, a, b, c⟩ := h3 ci ht
    refine ⟨C, T, a, b, (c.kept hH).to (fun j _ => ?_)⟩
    unfold xfv
    cases vs.getD j .null <;> simp only [hs]
theorem xin_iff {i : Int32} {n : Nat} : xin i n = true ↔ vp_in i n := by
  rw [vp_in_iff]
  simp [xin]
end
section
theorem xnx_inj {a : Nat} {b d : List Value} {e : xS} {fr' : xF} (h : xnx a b d e = some (.inl fr')) : (a, b, d, e) = fr' := Sum.inl.inj (Option.some.inj h)
theorem xbi_inv {f : Int32 → Int32 → Int32} {pc : Nat} {ls st : List Value} {S : xS} {fr' : xF} (h : xbi f pc ls st S = some (.inl fr')) : ∃ y x r, st = .int y :: .int x :: r ∧ (pc + 1, ls, .int (f x y) :: r, S) = fr' := by
  unfold xbi at h
  split at h
  · exact ⟨_, _, _, rfl, xnx_inj h⟩
  · cases h
theorem xbl_inv {f : Int64 → Int64 → Int64} {pc : Nat} {ls st : List Value} {S : xS} {fr' : xF} (h : xbl f pc ls st S = some (.inl fr')) : ∃ y x r, st = .long y :: .long x :: r ∧ (pc + 1, ls, .long (f x y) :: r, S) = fr' := by
  unfold xbl at h
  split at h
  · exact ⟨_, _, _, rfl, xnx_inj h⟩
  · cases h
theorem xld_inv {ls : List Value} {i pc : Nat} {st : List Value} {S : xS} {ok : Value → Bool} {fr' : xF} (h : xld ls i pc st S ok = some (.inl fr')) : ∃ v, ls[i]? = some v ∧ ok v = true ∧ (pc, ls, v :: st, S) = fr' := by
  unfold xld at h
  split at h
  · rename_i v hv
    split at h
    · rename_i ho
      exact ⟨v, hv, ho, xnx_inj h⟩
    · cases h
  · cases h
theorem xsto_inv {ls : List Value} {i pc : Nat} {st : List Value} {S : xS} {ok : Value → Bool} {fr' : xF} (h : xsto ls i pc st S ok = some (.inl fr')) : ∃ v r, st = v :: r ∧ ok v = true ∧ i < ls.length ∧ (pc, xst1 ls i v, r, S) = fr' := by
  unfold xsto at h
  split at h
  · split at h
    · rename_i ho
      exact ⟨_, _, rfl, ho.1, ho.2, xnx_inj h⟩
    · cases h
  · cases h
theorem xsto2_inv {ls : List Value} {i pc : Nat} {st : List Value} {S : xS} {fr' : xF} (h : xsto2 ls i pc st S = some (.inl fr')) : ∃ x r, st = .long x :: r ∧ i + 1 < ls.length ∧ (pc, xst2 ls i (.long x), r, S) = fr' := by
  unfold xsto2 at h
  split at h
  · split at h
    · rename_i ho
      exact ⟨_, _, rfl, ho, xnx_inj h⟩
    · cases h
  · cases h
theorem xjp_inv {pc : Nat} {off : Int} {ls st : List Value} {S : xS} {fr' : xF} (h : xjp pc off ls st S = some (.inl fr')) : (pc : Int) + off = ((((pc : Int) + off).toNat : Nat) : Int) ∧ (((pc : Int) + off).toNat, ls, st, S) = fr' := by
  unfold xjp at h
  split at h
  · rename_i ho
    exact ⟨by omega, xnx_inj h⟩
  · cases h
section XP
variable {p : Program} {l : Launch} {e : Env} {R : Room} {s : State} {m : MethodId} {args : Array Value} {below : List Frame} {meth : Method} {c : Code} {H : Heap} {locs : List Loc} {cells slots : Nat} {Q : State → Prop}
variable {base : Nat} {ex : Nat → Nat} {D : va_G} {cA : Nat → ClassId} {H00 : Heap} {X : xX} {Z : State → Prop}
theorem xtt_sim {pc : Nat} {x : Int32} {ls st : List Value} {S : xS} {d : Int} {fr' : xF} {ps : List (Int × Int)} (h : xtt pc x ls st S d ps = some (.inl fr')) : (pc : Int) + Op.lookupswitch.offset ps d x.toInt = ((fr'.1 : Nat) : Int) ∧ fr'.2 = (ls, st, S) := by
  induction ps with
  | nil =>
    obtain ⟨a, rfl⟩ := xjp_inv h
    exact ⟨a, rfl⟩
  | cons q r ih =>
    obtain ⟨k, o⟩ := q
    rw [Op.lookupswitch.offset_cons]
    rw [xtt] at h
    by_cases hk : x.toInt = k
    · rw [if_pos hk] at h
      rw [if_pos hk.symm]
      obtain ⟨a, rfl⟩ := xjp_inv h
      exact ⟨a, rfl⟩
    · rw [if_neg hk] at h
      rw [if_neg (fun q => hk q.symm)]
      exact ih h
theorem xnum_off {x : Int} {d : Int} : ∀ (offs : List Int) (lo : Int), (x < lo ∨ lo + offs.length ≤ x → Op.lookupswitch.offset (xnum lo offs) d x = d) ∧ (lo ≤ x → x < lo + offs.length → offs[(x - lo).toNat]? = some (Op.lookupswitch.offset (xnum lo offs) d x))
  | [], lo => ⟨fun _ => rfl, fun h1 h2 => by simp at h2; omega⟩
  | o :: r, lo => by
    have ih := xnum_off (x := x) (d := d) r (lo + 1)
    rw [xnum, Op.lookupswitch.offset_cons]
    constructor
    · intro h
      rw [if_neg (by simp at h; omega)]
      exact ih.1 (by simp at h; omega)
    · intro h1 h2
      by_cases e : lo = x
      · rw [if_pos e]
        subst e
        simp
      · rw [if_neg e]
        have h3 := ih.2 (by omega) (by simp at h2; omega)
        rw [show (x - lo).toNat = (x - (lo + 1)).toNat + 1 by omega, List.getElem?_cons_succ]
        exact h3
end XP
end
section
theorem xfits {ty : FieldType} {a b : Nat} (h : fits ty (.ref a) = true) : fits ty (.ref b) = true := by cases ty <;> first | exact h | rfl
theorem xnarr {ty : FieldType} (b : Nat) : narrow ty (.ref b) = .ref b := by cases ty <;> rfl
theorem xn01 {x : Int32} (h : x = 0 ∨ x = 1) : narrow .boolean (.int x) = .int x ∧ fits .boolean (.int x) = true := by
  rcases h with rfl | rfl <;> decide
section XH
variable {p : Program} {l : Launch} {e : Env} {R : Room} {s : State} {m : MethodId} {args : Array Value} {below : List Frame} {meth : Method} {c : Code} {H : Heap} {locs : List Loc} {cells slots : Nat} {Q : State → Prop}
variable {base : Nat} {ex : Nat → Nat} {D : va_G} {cA : Nat → ClassId} {H00 : Heap} {X : xX} {Z : State → Prop} {id pc : Nat} {arr : Array Slot} {rest : List Value} {S S' : xS}
theorem xg_get {j k ci f pl : Nat} {b d : Bool} {v : Value} (F : xfx base ex D cA H00 X Z p R s m args meth c id) (hH : xhp base ex D cA H00 S H) (hd : decode (xbc id) pc = .ok (.getfield j, 3)) (hf : xfld (xown id) j = some (ci, f, b, d, pl)) (hg : xgf S k ci f = some v)
    (kk : W p l e R s m args below meth c H locs cells slots Q (F0 m (pc + 3) arr (xtv base ex v :: rest))) : W p l e R s m args below meth c H locs cells slots Q (F0 m pc arr (.ref (base + k) :: rest)) := by
  obtain ⟨hx, hb, hr, hml, hown, hts, hkw, hlk, hnm, hrf, hrl⟩ := F
  obtain ⟨C, T, N, hc, hfN, hn1, hn2, -, -⟩ := xk_fldw hf
  obtain ⟨hC, hinst, hlay, hdecl, hpar, hne, -⟩ := xk_clw hc
  unfold xgf at hg
  split at hg
  · rename_i t n vs hS
    split at hg
    · rename_i ht
      obtain ⟨C', T', hc', hvs, cell, q1, q2, q3, q4⟩ := (hH.2.1 k t n vs hS).2.2.2 ci ht
      rw [hc] at hc'
      cases hc'
      obtain ⟨hSl, hfc, kC, hkC, hkind⟩ := hkw.1.1 ci _ hc
      obtain ⟨cf, kf, fi, fd, hi, hsl⟩ := hSl f hfN
      have hi2 : s.fieldFound? C (T f).2.1 (T f).2.2.1 = some (cf, kf, fi, fd) := by
        have := hi
        dsimp only at this
        rwa [hdecl f hfN] at this
      have hst := (u_facts hfc hkC (u_lays hts hlay hfN) hi).1
      have hv : cell.slots[fd.slot]? = some (xtv base ex v) := by
        rw [hsl, q4 f hfN]
        congr 1
        have hl : f < vs.length := by omega
        rw [List.getElem?_eq_getElem hl] at hg
        dsimp only
        rw [List.getD_eq_getElem?_getD, List.getElem?_eq_getElem hl]
        show xtv base ex (xfv S.2 k f vs[f]) = _
        cases hvf : vs[f] <;> rw [hvf] at hg <;> simp only [Option.some.injEq, reduceCtorEq] at hg <;> subst hg <;> rfl
      cases b with
      | false => exact W.getf hx hb hown (hts _ (hn2 rfl)) hi2 hst q1 (by rw [q3]; exact fun h => by cases h) hv rfl rfl hd kk
      | true => exact va_Wgetf hx hb hown (va_Nw.use rfl (hkw.2.1 _ (hn1 rfl))) hi2 hst q1 (by rw [q3]; exact fun h => by cases h) hv rfl rfl hd kk
    · cases hg
  · cases hg
theorem xhp_upd {k t n : Nat} {vs : List Value} {H' : Heap} (hH : xhp base ex D cA H00 S H) (hS : S.1[k]? = some (t, n, vs)) (z : H'.size = H.size) (oq : ∀ q : Nat, q ≠ base + k → H'[q]? = H[q]?) {σ' : Nat → Nat → Int32} (hσ : ∀ a j, a ≠ k → σ' a j = S.2 a j) {vs' : List Value} (he : xce base ex D cA σ' H' k t n vs') : xhp base ex D cA H00 (S.1.set k (t, n, vs'), σ') H' := by
  have hl := (List.getElem?_eq_some_iff.mp hS).1
  refine ⟨by rw [z, hH.1]; simp, fun k' t' n' vs'' h => ?_, fun q hq => ?_⟩
  · by_cases hk : k' = k
    · subst hk
      dsimp only at h
      rw [List.getElem?_set_self hl] at h
      cases h
      exact he
    · dsimp only at h
      rw [List.getElem?_set_ne (Ne.symm hk)] at h
      exact xce_kept (hH.2.1 k' t' n' vs'' h) (oq _ (by omega)) (fun j => hσ k' j hk)
  · rw [oq q (by omega)]; exact hH.2.2 q hq
theorem xset_self {α : Type} {l : List α} {k : Nat} {x : α} (h : l[k]? = some x) : l.set k x = l := by
  obtain ⟨hl, e⟩ := List.getElem?_eq_some_iff.mp h
  subst e
  simp
theorem xg_put {j k ci f pl : Nat} {x : Int32} (F : xfx base ex D cA H00 X Z p R s m args meth c id) (hH : xhp base ex D cA H00 S H) (hL : ∀ q ∈ locs, base ≤ q.base) (hd : decode (xbc id) pc = .ok (.putfield j, 3)) (hf : xfld (xown id) j = some (ci, f, false, true, pl)) (hg : xpf S k ci f x = some S')
    (kk : ∀ (H' : Heap) (locs' : List Loc), xhp base ex D cA H00 S' H' → (∀ q ∈ locs', base ≤ q.base) → W p l e R s m args below meth c H' locs' cells slots Q (F0 m (pc + 3) arr rest)) : W p l e R s m args below meth c H locs cells slots Q (F0 m pc arr (.int x :: .ref (base + k) :: rest)) := by
  obtain ⟨hx, hb, hr, hml, hown, hts, hkw, hlk, hnm, hrf, hrl⟩ := F
  obtain ⟨C, T, N, hc, hfN, -, hn2, hdat, -⟩ := xk_fldw hf
  obtain ⟨hC, hinst, hlay, hdecl, hpar, hne, -⟩ := xk_clw hc
  unfold xpf at hg
  split at hg
  · rename_i t n vs hS
    split at hg
    · rename_i ht
      split at hg
      · rename_i y hvf
        split at hg
        · cases hg
        · rename_i hz
          cases hg
          obtain ⟨C', T', hc', hvs, cell, q1, q2, q3, q4⟩ := (hH.2.1 k t n vs hS).2.2.2 ci ht
          rw [hc] at hc'
          cases hc'
          obtain ⟨hSl, hfc, kC, hkC, hkind⟩ := hkw.1.1 ci _ hc
          have hap := va_apart (own := C) hts hlay (xty ci) hpar hne hkw.1 hc
          obtain ⟨cf, kf, fi, fd, hi, hsl⟩ := hSl f hfN
          have hi2 : s.fieldFound? C (T f).2.1 (T f).2.2.1 = some (cf, kf, fi, fd) := by
            have := hi
            dsimp only at this
            rwa [hdecl f hfN] at this
          have hst := (u_facts hfc hkC (u_lays hts hlay hfN) hi).1
          have hl1 := hts _ (hlay _ (u_in_lay hfN))
          unfold u_lay at hl1
          rw [if_neg (by rw [(hdat rfl).1]; decide)] at hl1
          have hnf : narrow (xty ci f) (.int x) = .int x ∧ fits (xty ci f) (.int x) = true := by
            rcases (hdat rfl).2 with h | ⟨h, h2⟩
            · rw [h]; exact ⟨rfl, rfl⟩
            · rw [h]
              refine xn01 ?_
              by_cases q : x = 0 ∨ x = 1
              · exact q
              · exact absurd ⟨h2, q⟩ hz
          have h6 := u_store hfc hkC hkind hl1 hi (hpar f hfN) hnf.1 hnf.2
          refine W.putK hx hb (f := fd) ⟨hown, hts _ (hn2 rfl), ⟨_, _, _, hi2⟩, hst⟩ (by rw [q2]; exact h6) q1 q3 (by rw [hsl]; exact k2_hasslot (q4 f hfN)) rfl rfl hd fun H' e1 e2 e3 => ?_
          rw [hsl] at e1
          refine kk H' _ ?_ (fun q hq => ?_)
          · have := xhp_upd (σ' := xup S.2 k f x) (vs' := vs) hH hS e2 e3 (fun a j h => by simp [xup, h]) ⟨fun h => by omega, fun h => by omega, fun h => by omega, fun ci' h => ?_⟩
            · rw [xset_self hS] at this; exact this
            · have : ci' = ci := by omega
              subst this
              refine ⟨C, T, hc, hvs, _, e1, q2, q3, fun j hj => ?_⟩
              rw [t_set q4 hap hfN (.int x) j hj]
              congr 1
              unfold updV
              dsimp only
              by_cases hjf : j = f
              · subst hjf
                rw [if_pos rfl, List.getD_eq_getElem?_getD, hvf]
                simp [xfv, xtv, xup]
              · rw [if_neg hjf]
                unfold xfv
                cases vs.getD j .null <;> simp [xup, hjf]
          · rcases List.mem_append.mp hq with h | h
            · exact hL q h
            · rw [List.mem_singleton.mp h]; show base ≤ base + k; omega
      · cases hg
    · cases hg
  · cases hg
theorem xg_putF {j k ci f pl a : Nat} (F : xfx base ex D cA H00 X Z p R s m args meth c id) (hH : xhp base ex D cA H00 S H) (hL : ∀ q ∈ locs, base ≤ q.base) (hd : decode (xbc id) pc = .ok (.putfield j, 3)) (hf : xfld (xown id) j = some (ci, f, false, false, pl)) (hini : (xy id).name = "<init>") (hco : ci = xown id) (hg : xpr S k ci f a = some S')
    (kk : ∀ (H' : Heap) (locs' : List Loc), xhp base ex D cA H00 S' H' → (∀ q ∈ locs', base ≤ q.base) → W p l e R s m args below meth c H' locs' cells slots Q (F0 m (pc + 3) arr rest)) : W p l e R s m args below meth c H locs cells slots Q (F0 m pc arr (.ref (base + a) :: .ref (base + k) :: rest)) := by
  obtain ⟨hx, hb, hr, hml, hown, hts, hkw, hlk, hnm, hrf, hrl⟩ := F
  obtain ⟨C, T, N, hc, hfN, -, hn2, -, hdat⟩ := xk_fldw hf
  obtain ⟨hC, hinst, hlay, hdecl, hpar, hne, -⟩ := xk_clw hc
  unfold xpr at hg
  split at hg
  · rename_i t n vs hS
    split at hg
    · rename_i ht
      split at hg
      · rename_i hvf
        cases hg
        obtain ⟨C', T', hc', hvs, cell, q1, q2, q3, q4⟩ := (hH.2.1 k t n vs hS).2.2.2 ci ht
        rw [hc] at hc'
        cases hc'
        obtain ⟨hSl, hfc, kC, hkC, hkind⟩ := hkw.1.1 ci _ hc
        have hap := va_apart (own := C) hts hlay (xty ci) hpar hne hkw.1 hc
        obtain ⟨cf, kf, fi, fd, hi, hsl⟩ := hSl f hfN
        have hi2 : s.fieldFound? C (T f).2.1 (T f).2.2.1 = some (cf, kf, fi, fd) := by
          have := hi
          dsimp only at this
          rwa [hdecl f hfN] at this
        have hst := (u_facts hfc hkC (u_lays hts hlay hfN) hi).1
        have hl1 := hts _ (hlay _ (u_in_lay hfN))
        unfold u_lay at hl1
        rw [if_pos (hdat rfl).1] at hl1
        have hcf : m.cls = cf := by
          obtain ⟨_, _, c', _, _, _, -, -, hf', -, -, -, hown2, -⟩ := Cond.laysFinal_spec hl1
          have e1 : c' = cf := by have := hi.symm.trans hf'; simp at this; exact this.1.symm
          rw [hdecl f hfN, hC, hco] at hown2
          rw [← e1]; exact Option.some.inj (hown.symm.trans hown2)
        have h6 := u_fits (v := .ref (base + a)) hfc hkC hkind (Or.inr hl1) hi (hpar f hfN) (xnarr _) (xfits (hdat rfl).2.2)
        refine W.putFinK hx hb hown (hts _ (hn2 rfl)) hi2 hst hcf (by rw [hnm]; exact hini) (by rw [q2]; exact h6) q1 q3 (by rw [hsl]; exact k2_hasslot (q4 f hfN)) rfl rfl hd fun H' e1 e2 e3 => ?_
        rw [hsl] at e1
        have hfl : f < vs.length := (List.getElem?_eq_some_iff.mp hvf).1
        refine kk H' _ ?_ (fun q hq => ?_)
        · refine xhp_upd hH hS e2 e3 (fun _ _ _ => rfl) ⟨fun h => by omega, fun h => by omega, fun h => by omega, fun ci' h => ?_⟩
          have : ci' = ci := by omega
          subst this
          refine ⟨C, T, hc, by simpa using hvs, _, e1, q2, q3, fun j hj => ?_⟩
          rw [t_set q4 hap hfN (.ref (base + a)) j hj]
          congr 1
          unfold updV
          dsimp only
          by_cases hjf : j = f
          · subst hjf
            rw [if_pos rfl, List.getD_eq_getElem?_getD, List.getElem?_set_self hfl]
            rfl
          · rw [if_neg hjf, List.getD_eq_getElem?_getD, List.getD_eq_getElem?_getD, List.getElem?_set_ne (Ne.symm hjf)]
        · rcases List.mem_append.mp hq with h | h
          · exact hL q h
          · rw [List.mem_singleton.mp h]; show base ≤ base + k; omega
      · cases hg
    · cases hg
  · cases hg
end XH
end
section
def xsz (sh : List (Nat × Nat × List Value)) : Nat := (sh.map (fun q => q.2.1)).sum
theorem xsz_app (sh : List (Nat × Nat × List Value)) (q : Nat × Nat × List Value) : xsz (sh ++ [q]) = xsz sh + q.2.1 := by simp [xsz]
theorem xupd_v (f : Nat → Int32) (k : Nat) (x : Int32) : updV (fun j => Value.int (f j)) k (.int x) = fun j => .int (if j = k then x else f j) := by
  funext j
  unfold updV
  by_cases h : j = k <;> simp [h]
section XA
variable {p : Program} {l : Launch} {e : Env} {R : Room} {s : State} {m : MethodId} {args : Array Value} {below : List Frame} {meth : Method} {c : Code} {H : Heap} {locs : List Loc} {cells slots : Nat} {Q : State → Prop}
variable {base : Nat} {ex : Nat → Nat} {D : va_G} {cA : Nat → ClassId} {H00 : Heap} {X : xX} {Z : State → Prop} {id pc : Nat} {arr : Array Slot} {rest : List Value} {S S' : xS}
theorem xal_inv {k t : Nat} {i v : Int32} (h : xal S k t i = some v) : ∃ n vs, S.1[k]? = some (t, n, vs) ∧ vp_in i n ∧ v = S.2 k i.toNatClampNeg := by
  unfold xal at h
  split at h
  · rename_i t' n vs hS
    split at h
    · rename_i hc
      obtain ⟨rfl, h2⟩ := hc
      exact ⟨n, vs, hS, xin_iff.mp h2, (Option.some.inj h).symm⟩
    · cases h
  · cases h
theorem xas_inv {k t : Nat} {i x : Int32} (h : xas S k t i x = some S') : ∃ n vs, S.1[k]? = some (t, n, vs) ∧ vp_in i n ∧ S' = (S.1, xup S.2 k i.toNatClampNeg x) := by
  unfold xas at h
  split at h
  · rename_i t' n vs hS
    split at h
    · rename_i hc
      obtain ⟨rfl, h2⟩ := hc
      exact ⟨n, vs, hS, xin_iff.mp h2, (Option.some.inj h).symm⟩
    · cases h
  · cases h
theorem xg_iald {k : Nat} {i v : Int32} (F : xfx base ex D cA H00 X Z p R s m args meth c id) (hH : xhp base ex D cA H00 S H) (hd : decode (xbc id) pc = .ok (.iaload, 1)) (hg : xal S k 0 i = some v)
    (kk : W p l e R s m args below meth c H locs cells slots Q (F0 m (pc + 1) arr (.int v :: rest))) : W p l e R s m args below meth c H locs cells slots Q (F0 m pc arr (.int i :: .ref (base + k) :: rest)) := by
  obtain ⟨hx, hb, hr, hml, hown, hts, hkw, hlk, hnm, hrf, hrl⟩ := F
  obtain ⟨n, vs, hS, hin, rfl⟩ := xal_inv hg
  have hc := (hH.2.1 k 0 n vs hS).1 rfl
  have hlt : i.toNatClampNeg < n := Nat.not_le.mp fun q => hin (Or.inr q)
  exact W.iald (v := .int (S.2 k i.toNatClampNeg)) hx hb hc ((hkw.1.2 0 _ rfl).1 n _) (fun q => by cases q) (by rw [arrV_size]; exact hin) (by rw [arrV_read _ _ hlt]) rfl rfl hd kk
theorem xg_zald {k : Nat} {i v : Int32} (F : xfx base ex D cA H00 X Z p R s m args meth c id) (hH : xhp base ex D cA H00 S H) (hd : decode (xbc id) pc = .ok (.baload, 1)) (hg : xal S k 1 i = some v)
    (kk : W p l e R s m args below meth c H locs cells slots Q (F0 m (pc + 1) arr (.int v :: rest))) : W p l e R s m args below meth c H locs cells slots Q (F0 m pc arr (.int i :: .ref (base + k) :: rest)) := by
  obtain ⟨hx, hb, hr, hml, hown, hts, hkw, hlk, hnm, hrf, hrl⟩ := F
  obtain ⟨n, vs, hS, hin, rfl⟩ := xal_inv hg
  have hc := ((hH.2.1 k 1 n vs hS).2.1 rfl).2
  have hP : va_P D xcl [(base + k, .inl (cA 1, n, .inl (S.2 k)))] H := by
    intro k' q hq
    have hz : k' < 1 := (List.getElem?_eq_some_iff.mp hq).1
    rw [show k' = 0 by omega] at hq
    cases hq
    exact hc
  exact va_zald hx hb hkw.1 hP 0 1 rfl rfl hin hd kk
theorem xg_iast {k : Nat} {i x : Int32} (F : xfx base ex D cA H00 X Z p R s m args meth c id) (hH : xhp base ex D cA H00 S H) (hL : ∀ q ∈ locs, base ≤ q.base) (hd : decode (xbc id) pc = .ok (.iastore, 1)) (hg : xas S k 0 i x = some S')
    (kk : ∀ (H' : Heap) (locs' : List Loc), xhp base ex D cA H00 S' H' → (∀ q ∈ locs', base ≤ q.base) → W p l e R s m args below meth c H' locs' cells slots Q (F0 m (pc + 1) arr rest)) : W p l e R s m args below meth c H locs cells slots Q (F0 m pc arr (.int x :: .int i :: .ref (base + k) :: rest)) := by
  obtain ⟨hx, hb, hr, hml, hown, hts, hkw, hlk, hnm, hrf, hrl⟩ := F
  obtain ⟨n, vs, hS, hin, rfl⟩ := xas_inv hg
  have hc := (hH.2.1 k 0 n vs hS).1 rfl
  refine W.iast hx hb hc ((hkw.1.2 0 _ rfl).1 n _) (fun q => by cases q) (by rw [arrV_size]; exact hin) rfl rfl hd fun H' e1 z oq => ?_
  rw [arrV_store, xupd_v] at e1
  refine kk H' _ ?_ (fun q hq => ?_)
  · have := xhp_upd (σ' := xup S.2 k i.toNatClampNeg x) (vs' := vs) hH hS z oq (fun a j h => by simp [xup, h]) ⟨fun _ => ?_, fun h => by omega, fun h => by omega, fun ci h => by omega⟩
    · rw [xset_self hS] at this; exact this
    · rw [e1]; simp [xup]
  · rcases List.mem_append.mp hq with h | h
    · exact hL q h
    · rw [List.mem_singleton.mp h]; show base ≤ base + k; omega
theorem xg_zast {k : Nat} {i x : Int32} (F : xfx base ex D cA H00 X Z p R s m args meth c id) (hH : xhp base ex D cA H00 S H) (hL : ∀ q ∈ locs, base ≤ q.base) (hd : decode (xbc id) pc = .ok (.bastore, 1)) (hx01 : x = 0 ∨ x = 1) (hg : xas S k 1 i x = some S')
    (kk : ∀ (H' : Heap) (locs' : List Loc), xhp base ex D cA H00 S' H' → (∀ q ∈ locs', base ≤ q.base) → W p l e R s m args below meth c H' locs' cells slots Q (F0 m (pc + 1) arr rest)) : W p l e R s m args below meth c H locs cells slots Q (F0 m pc arr (.int x :: .int i :: .ref (base + k) :: rest)) := by
  obtain ⟨hx, hb, hr, hml, hown, hts, hkw, hlk, hnm, hrf, hrl⟩ := F
  obtain ⟨n, vs, hS, hin, rfl⟩ := xas_inv hg
  have hc := (hH.2.1 k 1 n vs hS).2.1 rfl
  refine W.zast hx hb hc.2 ((hkw.1.2 1 _ rfl).1 n _) (fun q => by cases q) (by rw [arrV_size]; exact hin) rfl rfl hd fun H' e1 z oq => ?_
  rw [(xn01 hx01).1, arrV_store, xupd_v] at e1
  refine kk H' _ ?_ (fun q hq => ?_)
  · have := xhp_upd (σ' := xup S.2 k i.toNatClampNeg x) (vs' := vs) hH hS z oq (fun a j h => by simp [xup, h]) ⟨fun h => by omega, fun _ => ⟨fun j => ?_, ?_⟩, fun h => by omega, fun ci h => by omega⟩
    · rw [xset_self hS] at this; exact this
    · unfold xup
      by_cases q : k = k ∧ j = i.toNatClampNeg
      · rw [if_pos q]; exact hx01
      · rw [if_neg q]; exact hc.1 j
    · rw [e1]; simp [xup]
  · rcases List.mem_append.mp hq with h | h
    · exact hL q h
    · rw [List.mem_singleton.mp h]; show base ≤ base + k; omega
theorem xg_aald {k : Nat} {i : Int32} {v : Value} (F : xfx base ex D cA H00 X Z p R s m args meth c id) (hH : xhp base ex D cA H00 S H) (hd : decode (xbc id) pc = .ok (.aaload, 1)) (hg : xaq S k i = some v)
    (kk : W p l e R s m args below meth c H locs cells slots Q (F0 m (pc + 1) arr (xtv base ex v :: rest))) : W p l e R s m args below meth c H locs cells slots Q (F0 m pc arr (.int i :: .ref (base + k) :: rest)) := by
  obtain ⟨hx, hb, hr, hml, hown, hts, hkw, hlk, hnm, hrf, hrl⟩ := F
  unfold xaq at hg
  split at hg
  · rename_i t n vs hS
    split at hg
    · rename_i hc
      obtain ⟨rfl, h2⟩ := hc
      have hin := xin_iff.mp h2
      obtain ⟨hvl, hc⟩ := (hH.2.1 k 2 n vs hS).2.2.1 rfl
      have hlt : i.toNatClampNeg < n := Nat.not_le.mp fun q => hin (Or.inr q)
      split at hg
      · rename_i a ha
        cases hg
        exact W.aald (v := .ref (base + a)) (ty := .object "KineticCup$Image") hx hb hc ((hkw.1.2 2 _ rfl).1 n _) rfl (fun q => by cases q) (by rw [arrV_size]; exact hin) (by rw [arrV_read _ _ hlt, List.getD_eq_getElem?_getD, ha]; rfl) rfl rfl hd kk
      · cases hg
    · cases hg
  · cases hg
theorem xg_aast {k a : Nat} {i : Int32} (F : xfx base ex D cA H00 X Z p R s m args meth c id) (hH : xhp base ex D cA H00 S H) (hL : ∀ q ∈ locs, base ≤ q.base) (hd : decode (xbc id) pc = .ok (.aastore, 1)) (hg : xaw S k i a = some S')
    (kk : ∀ (H' : Heap) (locs' : List Loc), xhp base ex D cA H00 S' H' → (∀ q ∈ locs', base ≤ q.base) → W p l e R s m args below meth c H' locs' cells slots Q (F0 m (pc + 1) arr rest)) : W p l e R s m args below meth c H locs cells slots Q (F0 m pc arr (.ref (base + a) :: .int i :: .ref (base + k) :: rest)) := by
  obtain ⟨hx, hb, hr, hml, hown, hts, hkw, hlk, hnm, hrf, hrl⟩ := F
  unfold xaw at hg
  split at hg
  · rename_i t n vs hS
    split at hg
    · rename_i hc
      obtain ⟨rfl, h2, hvn⟩ := hc
      have hin := xin_iff.mp h2
      obtain ⟨hvl, hc⟩ := (hH.2.1 k 2 n vs hS).2.2.1 rfl
      have hlt : i.toNatClampNeg < n := Nat.not_le.mp fun q => hin (Or.inr q)
      have h0 : ¬ i < 0 := fun q => hin (Or.inl q)
      split at hg
      · rename_i t' n' vs' hA
        split at hg
        · rename_i ht'
          subst ht'
          cases hg
          obtain ⟨C, T, hC, -, cellV, g1, g2, g3, -⟩ := (hH.2.1 a 4 n' vs' hA).2.2.2 1 rfl
          have hCn : C = "KineticCup$Image" := (xk_clw hC).1
          have hcls := (hkw.1.1 1 _ hC).2
          rw [hCn] at hcls
          obtain ⟨kA, comp, k1, k2, k3, -⟩ := (hkw.1.2 2 _ rfl).2
          have hcomp : comp = D.1 1 := Option.some.inj (k3.symm.trans hcls.1)
          subst hcomp
          obtain ⟨kC, hkC, hkd⟩ := hcls.2
          refine W.aast hx hb hc (fun q h => by cases h) (fun h => by cases h) k1 k2 rfl hkC ⟨h0, by rw [arrV_size]; exact hlt⟩ g1 (fun q h => by rw [g3] at h; cases h) (by rw [g2]; exact hkC) (by rw [g2]; exact va_assign hcls) rfl rfl hd fun H' e1 z oq => ?_
          rw [arrV_store] at e1
          refine kk H' _ ?_ (fun q hq => ?_)
          · refine xhp_upd hH hS z oq (fun _ _ _ => rfl) ⟨fun h => by omega, fun h => by omega, fun _ => ⟨by simpa using hvl, ?_⟩, fun ci h => by omega⟩
            rw [e1]
            congr 2
            funext j
            unfold updV
            dsimp only
            by_cases hj : j = i.toNatClampNeg
            · subst hj
              rw [if_pos rfl, List.getD_eq_getElem?_getD, List.getElem?_set_self (by omega)]
              rfl
            · rw [if_neg hj, List.getD_eq_getElem?_getD, List.getD_eq_getElem?_getD, List.getElem?_set_ne (Ne.symm hj)]
          · rcases List.mem_append.mp hq with h | h
            · exact hL q h
            · rw [List.mem_singleton.mp h]; show base ≤ base + k; omega
        · cases hg
      · cases hg
    · cases hg
  · cases hg
theorem xg_alen {k : Nat} {v : Int32} (F : xfx base ex D cA H00 X Z p R s m args meth c id) (hH : xhp base ex D cA H00 S H) (hd : decode (xbc id) pc = .ok (.arraylength, 1)) (hg : xle S k = some v)
    (kk : W p l e R s m args below meth c H locs cells slots Q (F0 m (pc + 1) arr (.int v :: rest))) : W p l e R s m args below meth c H locs cells slots Q (F0 m pc arr (.ref (base + k) :: rest)) := by
  obtain ⟨hx, hb, hr, hml, hown, hts, hkw, hlk, hnm, hrf, hrl⟩ := F
  unfold xle at hg
  split at hg
  · rename_i t n vs hS
    split at hg
    · rename_i ht
      cases hg
      obtain ⟨a0, a1, a2, -⟩ := hH.2.1 k t n vs hS
      have key : ∃ (f : Nat → Value) (t0 : Nat) (ty : FieldType), [(cA 0, FieldType.int), (cA 1, .boolean), (cA 2, .object "KineticCup$Image")][t0]? = some (cA t, ty) ∧ H[base + k]? = some (arrV (cA t) n f) := by
        rcases (by omega : t = 0 ∨ t = 1 ∨ t = 2) with rfl | rfl | rfl
        · exact ⟨_, 0, _, rfl, a0 rfl⟩
        · exact ⟨_, 1, _, rfl, (a1 rfl).2⟩
        · exact ⟨_, 2, _, rfl, (a2 rfl).2⟩
      obtain ⟨f, t0, ty, ht0, hc⟩ := key
      exact W.alen (n := Int32.ofNat n) hx hb hc ((hkw.1.2 t0 _ ht0).1 n f) (by rw [arrV_size] <;> rfl) rfl rfl hd kk
    · cases hg
  · cases hg
theorem xhp_new {H' : Heap} {t n : Nat} {vs : List Value} (hH : xhp base ex D cA H00 S H) (z : H'.size = H.size + 1) (o1 : ∀ q : Nat, q < H.size → H'[q]? = H[q]?) (he : xce base ex D cA (xzr S.2 S.1.length) H' S.1.length t n vs) : xhp base ex D cA H00 (S.1 ++ [(t, n, vs)], xzr S.2 S.1.length) H' := by
  refine ⟨by rw [z, hH.1]; simp; omega, fun k t' n' vs' h => ?_, fun q hq => ?_⟩
  · dsimp only at h
    by_cases hk : k < S.1.length
    · rw [List.getElem?_append_left hk] at h
      refine xce_kept (hH.2.1 k t' n' vs' h) (o1 _ (by rw [hH.1]; omega)) (fun j => ?_)
      simp [xzr, Nat.ne_of_lt hk]
    · rw [List.getElem?_append_right (by omega)] at h
      have hz : k - S.1.length < 1 := (List.getElem?_eq_some_iff.mp h).1
      have hk2 : k = S.1.length := by omega
      subst hk2
      rw [Nat.sub_self] at h
      cases h
      exact he
  · rw [o1 q (by rw [hH.1]; omega)]; exact hH.2.2 q hq
theorem xg_newo {j ci pl : Nat} (F : xfx base ex D cA H00 X Z p R s m args meth c id) (hH : xhp base ex D cA H00 S H) (hL : ∀ q ∈ locs, base ≤ q.base) (hd : decode (xbc id) pc = .ok (.new j, 3)) (hf : xnew (xown id) j = some (ci, pl)) (hg : xnwo S ci = some S') (hc : cells + 1 ≤ R.cells) (hz : slots + (xsz S'.1 - xsz S.1) ≤ R.slots)
    (kk : ∀ (H' : Heap), S'.1.length = S.1.length + 1 → xhp base ex D cA H00 S' H' → W p l e R s m args below meth c H' locs (cells + 1) (slots + (xsz S'.1 - xsz S.1)) Q (F0 m (pc + 3) arr (.ref (base + S.1.length) :: rest))) : W p l e R s m args below meth c H locs cells slots Q (F0 m pc arr rest) := by
  obtain ⟨hx, hb, hr, hml, hown, hts, hkw, hlk, hnm, hrf, hrl⟩ := F
  have hw := List.all_eq_true.mp xk_new _ (xlook hf)
  simp only [xkn, Bool.and_eq_true, decide_eq_true_eq] at hw
  obtain ⟨hw1, hci⟩ := hw
  have hcl : ∃ C T N, xcl[ci]? = some (C, T, N) := by
    have : ci < xcl.length := by rw [xk_cln]; exact hci
    exact ⟨_, _, _, List.getElem?_eq_getElem this⟩
  obtain ⟨C, T, N, hcl⟩ := hcl
  obtain ⟨hC, hinst, hlay, hdecl, hpar, hne, hbl, hdef, -⟩ := xk_clw hcl
  unfold xnwo at hg
  split at hg
  · rename_i vs hvs
    cases hg
    have hvs2 : xblank.getD ci [] = vs := by rw [List.getD_eq_getElem?_getD, hvs]; rfl
    rw [hvs2] at hbl hdef
    have hKn := hkw.1.1 ci _ hcl
    rw [xsz_app] at hz kk
    dsimp only at hz kk
    rw [Nat.add_sub_cancel_left, hbl] at hz kk
    refine W.newcK hx hb hown (by have := hts _ (xw_in hw1); rw [← hC] at this; exact this) (hts _ hinst) (by rw [hC]; exact hts _ (xk_init (by omega)).1) rfl hd hc hz hKn.2.1 hH.1 fun H' kC hkC e1 z1 o1 => ?_
    refine kk H' (by simp) (xhp_new (vs := vs) hH (by rw [z1, hH.1]) (by rw [hH.1]; exact o1) ⟨fun h => by omega, fun h => by omega, fun h => by omega, fun ci' h => ?_⟩)
    have : ci' = ci := by omega
    subst this
    refine ⟨C, T, hcl, hbl, (u_born (xty ci') hts hlay hKn hkC e1 hpar).to (fun k hk => ?_)⟩
    rw [hdef k hk]
    have hk2 : k < vs.length := by omega
    rw [List.getD_eq_getElem?_getD, List.getElem?_eq_getElem hk2]
    have hb2 : ∀ (ci : Nat) (v : Value) (k : Nat), (xblank.getD ci [])[k]? = some v → v = .null ∨ v = .int 0 := by
      intro ci v k h
      have hall : xblank.all (fun l => l.all (fun v => decide (v = .null ∨ v = .int 0))) = true := by decide +kernel
      by_cases hci : ci < xblank.length
      · rw [List.getD_eq_getElem?_getD, List.getElem?_eq_getElem hci] at h
        have h2 := List.all_eq_true.mp hall _ (List.getElem_mem hci)
        have h3 := List.all_eq_true.mp h2 v (List.mem_of_getElem? h)
        simpa using h3
      · rw [List.getD_eq_getElem?_getD, show xblank[ci]? = none from List.getElem?_eq_none (by omega)] at h
        cases h
    have h4 := hb2 ci' vs[k] k (by rw [hvs2, List.getElem?_eq_getElem hk2])
    simp only [Option.getD_some]
    rcases h4 with h4 | h4
    · rw [h4]; rfl
    · rw [h4]; simp [xfv, xtv, xzr]
  · cases hg
end XA
end
section
theorem xn4000 {n : Int32} (h : 0 ≤ n ∧ n ≤ 4000) : ¬ n < 0 ∧ n.toNatClampNeg ≤ 4000 := by
  obtain ⟨h1, h2⟩ := h
  rw [Int32.le_iff_toInt_le] at h1 h2
  refine ⟨fun q => ?_, ?_⟩
  · rw [Int32.lt_iff_toInt_lt] at q
    omega
  · show n.toInt.toNat ≤ 4000
    have e4 : (4000 : Int32).toInt = 4000 := by decide
    rw [e4] at h2
    omega
section XB
variable {p : Program} {l : Launch} {e : Env} {R : Room} {s : State} {m : MethodId} {args : Array Value} {below : List Frame} {meth : Method} {c : Code} {H : Heap} {locs : List Loc} {cells slots : Nat} {Q : State → Prop}
variable {base : Nat} {ex : Nat → Nat} {D : va_G} {cA : Nat → ClassId} {H00 : Heap} {X : xX} {Z : State → Prop} {id pc : Nat} {arr : Array Slot} {rest : List Value} {S S' : xS}
theorem xg_newI {n : Int32} (F : xfx base ex D cA H00 X Z p R s m args meth c id) (hH : xhp base ex D cA H00 S H) (hd : decode (xbc id) pc = .ok (.newarray .int, 2)) (hg : xnwa S 0 n = some S') (hc : cells + 1 ≤ R.cells) (hz : slots + (xsz S'.1 - xsz S.1) ≤ R.slots)
    (kk : ∀ (H' : Heap), S'.1.length = S.1.length + 1 → xhp base ex D cA H00 S' H' → W p l e R s m args below meth c H' locs (cells + 1) (slots + (xsz S'.1 - xsz S.1)) Q (F0 m (pc + 2) arr (.ref (base + S.1.length) :: rest))) : W p l e R s m args below meth c H locs cells slots Q (F0 m pc arr (.int n :: rest)) := by
  obtain ⟨hx, hb, hr, hml, hown, hts, hkw, hlk, hnm, hrf, hrl⟩ := F
  unfold xnwa at hg
  split at hg
  · rename_i hn
    cases hg
    obtain ⟨hn0, hn4⟩ := xn4000 hn
    rw [xsz_app] at hz kk
    dsimp only at hz kk
    rw [Nat.add_sub_cancel_left] at hz kk
    refine va_newaK (atype := .int) hx hb (hts _ (xw_in xk_arI)) rfl hd rfl hn0 rfl (by show _ * 4 ≤ _; omega) hc hz hH.1 fun H' cI e1 z1 o1 _ hfc => ?_
    have hcI : cI = cA 0 := by
      have h2 : s.vm.findClass ("[" ++ FieldType.int.toString) = some (cA 0) := (hkw.1.2 0 _ rfl).2
      exact Option.some.inj (hfc.symm.trans h2)
    subst hcI
    refine kk H' (by simp) (xhp_new hH (by rw [z1, hH.1]) (by rw [hH.1]; exact o1) ⟨fun _ => ?_, fun h => by omega, fun h => by omega, fun ci' h => by omega⟩)
    rw [e1]
    congr 2
    funext j
    simp [xzr]
    rfl
  · cases hg
theorem xg_newZ {n : Int32} (F : xfx base ex D cA H00 X Z p R s m args meth c id) (hH : xhp base ex D cA H00 S H) (hd : decode (xbc id) pc = .ok (.newarray .boolean, 2)) (hg : xnwa S 1 n = some S') (hc : cells + 1 ≤ R.cells) (hz : slots + (xsz S'.1 - xsz S.1) ≤ R.slots)
    (kk : ∀ (H' : Heap), S'.1.length = S.1.length + 1 → xhp base ex D cA H00 S' H' → W p l e R s m args below meth c H' locs (cells + 1) (slots + (xsz S'.1 - xsz S.1)) Q (F0 m (pc + 2) arr (.ref (base + S.1.length) :: rest))) : W p l e R s m args below meth c H locs cells slots Q (F0 m pc arr (.int n :: rest)) := by
  obtain ⟨hx, hb, hr, hml, hown, hts, hkw, hlk, hnm, hrf, hrl⟩ := F
  unfold xnwa at hg
  split at hg
  · rename_i hn
    cases hg
    obtain ⟨hn0, hn4⟩ := xn4000 hn
    rw [xsz_app] at hz kk
    dsimp only at hz kk
    rw [Nat.add_sub_cancel_left] at hz kk
    refine va_newaK (atype := .boolean) hx hb (hts _ (xw_in xk_arZ)) rfl hd rfl hn0 rfl (by show _ * 1 ≤ _; omega) hc hz hH.1 fun H' cI e1 z1 o1 _ hfc => ?_
    have hcI : cI = cA 1 := by
      have h2 : s.vm.findClass ("[" ++ FieldType.boolean.toString) = some (cA 1) := (hkw.1.2 1 _ rfl).2
      exact Option.some.inj (hfc.symm.trans h2)
    subst hcI
    refine kk H' (by simp) (xhp_new hH (by rw [z1, hH.1]) (by rw [hH.1]; exact o1) ⟨fun h => by omega, fun _ => ⟨fun j => Or.inl (by simp [xzr]), ?_⟩, fun h => by omega, fun ci' h => by omega⟩)
    rw [e1]
    congr 2
    funext j
    simp [xzr]
    rfl
  · cases hg
theorem xg_newQ {j pl : Nat} {n : Int32} (F : xfx base ex D cA H00 X Z p R s m args meth c id) (hH : xhp base ex D cA H00 S H) (hd : decode (xbc id) pc = .ok (.anewarray j, 3)) (hf : xnew (xown id) j = some (1, pl)) (hg : xnwq S n = some S') (hc : cells + 1 ≤ R.cells) (hz : slots + (xsz S'.1 - xsz S.1) ≤ R.slots)
    (kk : ∀ (H' : Heap), S'.1.length = S.1.length + 1 → xhp base ex D cA H00 S' H' → W p l e R s m args below meth c H' locs (cells + 1) (slots + (xsz S'.1 - xsz S.1)) Q (F0 m (pc + 3) arr (.ref (base + S.1.length) :: rest))) : W p l e R s m args below meth c H locs cells slots Q (F0 m pc arr (.int n :: rest)) := by
  obtain ⟨hx, hb, hr, hml, hown, hts, hkw, hlk, hnm, hrf, hrl⟩ := F
  have hw := List.all_eq_true.mp xk_new _ (xlook hf)
  simp only [xkn, Bool.and_eq_true, decide_eq_true_eq] at hw
  unfold xnwq at hg
  split at hg
  · rename_i hn
    cases hg
    obtain ⟨hn0, hn4⟩ := xn4000 hn
    rw [xsz_app] at hz kk
    dsimp only at hz kk
    rw [Nat.add_sub_cancel_left] at hz kk
    refine W.anew (C := "KineticCup$Image") hx hb hown (hts _ (xw_in hw.1)) (va_AO.use hkw.2.2.1) rfl hd rfl hn0 (by omega) hc hz fun cI kA comp f1 f2 f3 f4 => ?_
    have hcI : cI = cA 2 := by
      obtain ⟨_, _, -, -, -, h2⟩ := (hkw.1.2 2 _ rfl).2
      exact Option.some.inj (f1.symm.trans h2)
    subst hcI
    have hsz := hH.1
    have e1 : (H.push ({ cls := cA 2, slots := Array.replicate n.toNatClampNeg .null, vm := .none } : Cell))[H.size]? = some (arrV (cA 2) n.toNatClampNeg (fun _ => .null)) := by rw [Array.getElem?_push_size, ← arrV_new]
    have o1 : ∀ q : Nat, q < H.size → (H.push ({ cls := cA 2, slots := Array.replicate n.toNatClampNeg .null, vm := .none } : Cell))[q]? = H[q]? := fun q hq => by rw [Array.getElem?_push, if_neg (Nat.ne_of_lt hq)]
    have z1 : (H.push ({ cls := cA 2, slots := Array.replicate n.toNatClampNeg .null, vm := .none } : Cell)).size = H.size + 1 := by rw [Array.size_push]
    rw [show H.size = base + S.1.length from hsz]
    refine kk _ (by simp) (xhp_new hH z1 o1 ⟨fun h => by omega, fun h => by omega, fun _ => ⟨by simp, ?_⟩, fun ci' h => by omega⟩)
    rw [← hsz, e1]
    congr 2
    funext j
    by_cases hj : j < n.toNatClampNeg
    · simp [List.getD_eq_getElem?_getD, List.getElem?_replicate, hj, xtv]
    · simp [List.getD_eq_getElem?_getD, List.getElem?_replicate, hj, xtv]
  · cases hg
theorem xcats (r : List Value) : ((r.map (xtv base ex)).map fun v => v.category).sum = xcat r := by
  induction r with
  | nil => rfl
  | cons v r ih => simp only [List.map_cons, List.sum_cons, xcat, xtv_cat, ih]
theorem xg_copy {j k0 k1 p1 p2 p3 a b : Nat} {sp dp n : Int32} {r : List Value} (F : xfx base ex D cA H00 X Z p R s m args meth c id) (hH : xhp base ex D cA H00 S H) (hL : ∀ q ∈ locs, base ≤ q.base) (hsize : arr.size = xml id) (hd : decode (xbc id) pc = .ok (.invokestatic j, 3)) (hf : xmth (xown id) j = some (7, a, b, p1, p2, p3)) (hr8 : xcat r ≤ 8) (hf1 : 1 ≤ xrf id) (hf2 : 28 ≤ xrl id) (hg : xacp S k0 k1 sp dp n = some S')
    (kk : ∀ (H' : Heap) (locs' : List Loc), xhp base ex D cA H00 S' H' → (∀ q ∈ locs', base ≤ q.base) → W p l e R s m args below meth c H' locs' cells slots Q (F0 m (pc + 3) arr (r.map (xtv base ex)))) : W p l e R s m args below meth c H locs cells slots Q (F0 m pc arr (.int n :: .int dp :: .ref (base + k1) :: .int sp :: .ref (base + k0) :: r.map (xtv base ex))) := by
  obtain ⟨hx, hb, hr, hml, hown, hts, hkw, hlk, hnm, hrf, hrl⟩ := F
  have hw := List.all_eq_true.mp xk_mth _ (xlook hf)
  simp only [xkm, Bool.and_eq_true] at hw
  unfold xacp at hg
  split at hg
  · rename_i t0 n0 v0 t1 n1 v1 hS0 hS1
    split at hg
    · rename_i hc
      obtain ⟨rfl, ht2, h1, h2, h3, h4, h5⟩ := hc
      cases hg
      have nn : ∀ z : Int32, 0 ≤ z → ¬ z < 0 ∧ z.toInt = (z.toNatClampNeg : Int) := by
        intro z hz
        have hz0 : (0 : Int) ≤ z.toInt := by simpa using Int32.le_iff_toInt_le.mp hz
        refine ⟨fun q => ?_, ?_⟩
        · have := Int32.lt_iff_toInt_lt.mp q
          simp at this
          omega
        · show z.toInt = ((z.toInt.toNat : Nat) : Int)
          omega
      have key : ∃ (ty : FieldType), [(cA 0, FieldType.int), (cA 1, .boolean), (cA 2, .object "KineticCup$Image")][t0]? = some (cA t0, ty) ∧ refKind ty = false ∧ (∀ i, fits ty (.int (S.2 k0 i)) = true) ∧ H[base + k0]? = some (arrV (cA t0) n0 (fun j => .int (S.2 k0 j))) ∧ H[base + k1]? = some (arrV (cA t0) n1 (fun j => .int (S.2 k1 j))) := by
        rcases (by omega : t0 = 0 ∨ t0 = 1) with rfl | rfl
        · exact ⟨_, rfl, rfl, fun _ => rfl, (hH.2.1 _ _ _ _ hS0).1 rfl, (hH.2.1 _ _ _ _ hS1).1 rfl⟩
        · refine ⟨_, rfl, rfl, fun i => ?_, ((hH.2.1 _ _ _ _ hS0).2.1 rfl).2, ((hH.2.1 _ _ _ _ hS1).2.1 rfl).2⟩
          exact (xn01 (((hH.2.1 _ _ _ _ hS0).2.1 rfl).1 i)).2
      obtain ⟨ty, hty, hprim, hfit, hc0, hc1⟩ := key
      obtain ⟨-, kk0, hk0, cm0, hkk0⟩ := (hkw.1.2 t0 _ hty).1 n0 (fun j => .int (S.2 k0 j))
      intro T hT Y
      obtain ⟨vm', Y', step⟩ := Y.arraycopy hx hown (hts _ (xw_in hw.1)) (hts _ (xw_in xk_nat)) (hts _ (xw_in hw.2)) (hts _ (xw_in xk_sys)) (src := base + k0) (dst := base + k1) (cs := arrV (cA t0) n0 (fun j => .int (S.2 k0 j))) (cd := arrV (cA t0) n1 (fun j => .int (S.2 k1 j))) (srcPos := sp) (destPos := dp) (n := n) (by rw [hT]; exact hc0) (by rw [hT]; exact hc1)
        (fun _ h => by cases h) (fun _ h => by cases h) (fun h => by cases h) (fun h => by cases h) hk0 hk0 hkk0 hkk0 (by simp [hprim]) (nn sp h1).1 (nn dp h2).1 (nn n h3).1
        (by rw [(nn sp h1).2, (nn n h3).2, arrV_size]; omega)
        (by rw [(nn dp h2).2, (nn n h3).2, arrV_size]; omega)
        (fun vm₁ _ i hi => by
          have ee : (arrV (cA t0) n0 (fun j => .int (S.2 k0 j))).slots.getD (sp.toNatClampNeg + i) .null = .int (S.2 k0 (sp.toNatClampNeg + i)) := by
            rw [Array.getD_eq_getD_getElem?, arrV_read _ _ (by omega)]
            rfl
          rw [ee]
          exact ⟨hfit _, trivial⟩)
        (g := F0 m pc arr (.int n :: .int dp :: .ref (base + k1) :: .int sp :: .ref (base + k0) :: r.map (xtv base ex))) rfl (by rw [hml]; exact hsize) (rest := r.map (xtv base ex)) rfl (by rw [hb]; exact hd) (by omega) (by
          have e8 := xcats (base := base) (ex := ex) r
          have e18 : nativeFrameWords "java/lang/System" "arraycopy" 5 = 7 := by decide +kernel
          rw [e8, e18]
          show 2 * 0 + _ + _ ≤ _
          omega)
      have e1 : copied (arrV (cA t0) n0 (fun j => .int (S.2 k0 j))) (arrV (cA t0) n1 (fun j => .int (S.2 k1 j))) sp dp n = arrV (cA t0) n1 (fun j => .int (va_cpy (S.2 k0) (S.2 k1) sp.toNatClampNeg dp.toNatClampNeg n.toNatClampNeg j)) := va_copied (fun z => .int z) (cA t0) (cA t0) (S.2 k0) (S.2 k1) h4
      rw [e1] at Y' step
      have hl : base + k1 < H.size := (Array.getElem?_eq_some_iff.mp hc1).1
      have e2 : xcp S.2 k0 k1 sp.toNatClampNeg dp.toNatClampNeg n.toNatClampNeg k1 = va_cpy (S.2 k0) (S.2 k1) sp.toNatClampNeg dp.toNatClampNeg n.toNatClampNeg := by
        funext j
        simp [xcp, va_cpy]
      have hheap : ((T.setVm vm').setCell (base + k1) (arrV (cA t0) n1 (fun j => .int (va_cpy (S.2 k0) (S.2 k1) sp.toNatClampNeg dp.toNatClampNeg n.toNatClampNeg j)))).heap = H.setIfInBounds (base + k1) (arrV (cA t0) n1 (fun j => .int (va_cpy (S.2 k0) (S.2 k1) sp.toNatClampNeg dp.toNatClampNeg n.toNatClampNeg j))) := by rw [← hT]; rfl
      have hnew : (H.setIfInBounds (base + k1) (arrV (cA t0) n1 (fun j => .int (va_cpy (S.2 k0) (S.2 k1) sp.toNatClampNeg dp.toNatClampNeg n.toNatClampNeg j))))[base + k1]? = some (arrV (cA t0) n1 (fun j => .int (va_cpy (S.2 k0) (S.2 k1) sp.toNatClampNeg dp.toNatClampNeg n.toNatClampNeg j))) := by simp [Array.getElem?_setIfInBounds, hl]
      have hx2 := xhp_upd (H' := H.setIfInBounds (base + k1) (arrV (cA t0) n1 (fun j => .int (va_cpy (S.2 k0) (S.2 k1) sp.toNatClampNeg dp.toNatClampNeg n.toNatClampNeg j)))) (σ' := xcp S.2 k0 k1 sp.toNatClampNeg dp.toNatClampNeg n.toNatClampNeg) (vs' := v1) hH hS1 (by simp) (fun q hq => by simp [Array.getElem?_setIfInBounds, Ne.symm hq]) (fun a j h => by simp [xcp, h]) ⟨fun h => by rw [hnew, e2, h], fun h => ⟨fun j => by
          rw [e2]
          have b0 := ((hH.2.1 _ _ _ _ hS0).2.1 h).1
          have b1 := ((hH.2.1 _ _ _ _ hS1).2.1 h).1
          unfold va_cpy
          split
          · exact b0 _
          · exact b1 _, by rw [hnew, e2, h]⟩, fun h => by omega, fun ci h => by omega⟩
      rw [xset_self hS1] at hx2
      obtain ⟨t, a1, b1⟩ := kk _ _ hx2 (fun q hq => by
          rcases List.mem_append.mp hq with h | h
          · exact hL q h
          · obtain ⟨z, -, hz⟩ := List.mem_map.mp h
            rw [← hz]
            show base ≤ base + k1
            omega) _ hheap Y'
      exact ⟨t, step t a1, b1⟩
    · cases hg
  · cases hg
end XB
end
section
def xstrR (l : Launch) (base : Nat) (ex : Nat → Nat) (D : va_G) (cA : Nat → ClassId) (H00 : Heap) (X : xX) (Z : State → Prop) : Prop :=
  (∀ (p : Program) (e : Env) (R : Room) (s : State) (m : MethodId) (args : Array Value) (below : List Frame) (meth : Method) (c : Code) (H : Heap) (locs : List Loc) (cells slots : Nat) (Q : State → Prop) (id pc j pl : Nat) (arr : Array Slot) (rest : List Value), xfx base ex D cA H00 X Z p R s m args meth c id → decode (xbc id) pc = .ok (.ldc j, 2) → xcst (xown id) j = some (.retAddr 1, pl) → W p l e R s m args below meth c H locs cells slots Q (F0 m (pc + 2) arr (.ref (ex 1) :: rest)) → W p l e R s m args below meth c H locs cells slots Q (F0 m pc arr rest)) ∧
  (∀ (p : Program) (e : Env) (R : Room) (s : State) (m : MethodId) (args : Array Value) (below : List Frame) (meth : Method) (c : Code) (H : Heap) (locs : List Loc) (cells slots : Nat) (Q : State → Prop) (id pc j a b p1 p2 p3 : Nat) (arr : Array Slot) (r : List Value) (S : xS) (i v : Int32), xfx base ex D cA H00 X Z p R s m args meth c id → xhp base ex D cA H00 S H → (∀ q ∈ locs, base ≤ q.base) → arr.size = xml id → decode (xbc id) pc = .ok (.invokevirtual j, 3) → xmth (xown id) j = some (8, a, b, p1, p2, p3) → xcat r ≤ 8 → 4 ≤ xrf id → 81 ≤ xrl id → xchr i = some v → cells ≤ R.cells → slots ≤ R.slots → (∀ (H' : Heap) (locs' : List Loc), xhp base ex D cA H00 S H' → (∀ q ∈ locs', base ≤ q.base) → W p l e R s m args below meth c H' locs' cells slots Q (F0 m (pc + 3) arr (.int v :: r.map (xtv base ex)))) → W p l e R s m args below meth c H locs cells slots Q (F0 m pc arr (.int i :: .ref (ex 1) :: r.map (xtv base ex))))
section XT
variable {p : Program} {l : Launch} {e : Env} {R : Room} {s : State} {m : MethodId} {args : Array Value} {below : List Frame} {meth : Method} {c : Code} {H : Heap} {locs : List Loc} {cells slots : Nat} {Q : State → Prop}
variable {base : Nat} {ex : Nat → Nat} {D : va_G} {cA : Nat → ClassId} {H00 : Heap} {X : xX} {Z : State → Prop} {id : Nat} {arr : Array Slot}
theorem xisI_inv {v : Value} (h : xisI v = true) : ∃ x, v = .int x := by cases v <;> first | exact ⟨_, rfl⟩ | cases h
theorem xisL_inv {v : Value} (h : xisL v = true) : ∃ x, v = .long x := by cases v <;> first | exact ⟨_, rfl⟩ | cases h
theorem xisA_inv {v : Value} (h : xisA v = true) : ∃ x, xtv base ex v = .ref x ∧ xbad v = false ∧ v.category = 1 := by cases v <;> first | exact ⟨_, rfl, rfl, rfl⟩ | cases h
theorem xbp {α β : Type} {o : Option α} {f : α → Option β} {b : β} (h : o.bind f = some b) : ∃ a, o = some a ∧ f a = some b := Option.bind_eq_some_iff.mp h
set_option maxHeartbeats 4000000 in
theorem xsim (hZ : xstrR l base ex D cA H00 X Z) {fr fr' : xF} (F : xfx base ex D cA H00 X Z p R s m args meth c id) (hs : xstep X id fr = some (.inl fr')) (hH : xhp base ex D cA H00 fr.2.2.2 H) (hL : ∀ q ∈ locs, base ≤ q.base) (hA : xlr base ex arr (xml id) fr.2.1)
    (hc : cells + (fr'.2.2.2.1.length - fr.2.2.2.1.length) ≤ R.cells) (hz : slots + (xsz fr'.2.2.2.1 - xsz fr.2.2.2.1) ≤ R.slots)
    (kk : ∀ (H' : Heap) (locs' : List Loc) (arr' : Array Slot) (c' z' : Nat), c' = cells + (fr'.2.2.2.1.length - fr.2.2.2.1.length) → z' = slots + (xsz fr'.2.2.2.1 - xsz fr.2.2.2.1) → xhp base ex D cA H00 fr'.2.2.2 H' → (∀ q ∈ locs', base ≤ q.base) → xlr base ex arr' (xml id) fr'.2.1 → W p l e R s m args below meth c H' locs' c' z' Q (F0 m fr'.1 arr' (fr'.2.2.1.map (xtv base ex)))) :
    W p l e R s m args below meth c H locs cells slots Q (F0 m fr.1 arr (fr.2.2.1.map (xtv base ex))) := by
  obtain ⟨pc, ls, st, S⟩ := fr
  have F' := F
  obtain ⟨hx, hb, hr, hml, hown, hts, hkw, hlk, hnm, hrf, hrl⟩ := F
  dsimp only at hH hA hc hz kk ⊢
  have hcap : xlr base ex arr (xml id) ls := hA
  obtain ⟨ha1, ha2, ha3, ha4⟩ := hA
  rw [xstep_s] at hs
  split at hs
  · rename_i i n hd
    split at hs
    · rename_i hn
      have pure : ∀ {pc' : Nat} {st' : List Value}, (pc', ls, st', S) = fr' → W p l e R s m args below meth c H locs cells slots Q (F0 m pc' arr (st'.map (xtv base ex))) := by
        rintro pc' st' rfl
        exact kk H locs arr cells slots (by simp) (by simp) hH hL hcap
      have pureS : ∀ {pc' : Nat} {st' : List Value} {S' : xS}, (pc', ls, st', S') = fr' → S'.1.length = S.1.length → xsz S'.1 = xsz S.1 → ∀ (H' : Heap) (locs' : List Loc), xhp base ex D cA H00 S' H' → (∀ q ∈ locs', base ≤ q.base) → W p l e R s m args below meth c H' locs' cells slots Q (F0 m pc' arr (st'.map (xtv base ex))) := by
        rintro pc' st' S' rfl h1 h2 H' locs' hH' hL'
        exact kk H' locs' arr cells slots (by simp [h1]) (by simp [h2]) hH' hL' hcap
      have ldI : ∀ {k : Nat} {x : Int32}, ls[k]? = some (.int x) → arr[k]? = some (Slot.val (.int x)) := fun h => ha4 _ _ h rfl
      have ldL : ∀ {k : Nat} {x : Int64}, ls[k]? = some (.long x) → arr[k]? = some (Slot.val (.long x)) := fun h => ha4 _ _ h rfl
      cases i
      case iconst k =>
        (have hn : n = 1 := hn); subst hn
        exact lv_iconst hx hb hd rfl (pure (xnx_inj hs))
      case bipush k =>
        (have hn : n = 2 := hn); subst hn
        exact lv_bipush hx hb hd rfl (pure (xnx_inj hs))
      case sipush k =>
        (have hn : n = 3 := hn); subst hn
        exact lv_sipush hx hb hd rfl (pure (xnx_inj hs))
      case lconst k =>
        (have hn : n = 1 := hn); subst hn
        exact lv_lconst hx hb hd rfl (pure (xnx_inj hs))
      case ldc k =>
        (have hn : n = 2 := hn); subst hn
        obtain ⟨⟨w, pl⟩, h1, h2⟩ := xbp hs
        dsimp only at h2
        split at h2
        · have hw := List.all_eq_true.mp xk_cst _ (xlook h1)
          exact lv_ldc hx hb hown (hts _ (xw_in hw)) hd (pure (xnx_inj h2))
        · exact hZ.1 _ _ _ _ _ _ _ _ _ _ _ _ _ _ _ _ _ _ _ _ F' hd h1 (pure (xnx_inj h2))
        · cases h2
      case ldc2_w k =>
        (have hn : n = 3 := hn); subst hn
        obtain ⟨⟨w, pl⟩, h1, h2⟩ := xbp hs
        dsimp only at h2
        split at h2
        · have hw := List.all_eq_true.mp xk_cst _ (xlook h1)
          exact lv_ldc2 hx hb hown (hts _ (xw_in hw)) hd (pure (xnx_inj h2))
        · cases h2
      case iload k =>
        (have hn : n = 2 := hn); subst hn
        obtain ⟨v, h1, h2, h3⟩ := xld_inv hs
        obtain ⟨x, rfl⟩ := xisI_inv h2
        exact lv_iload hx hb hd (ldI h1) (pure h3)
      case iload_n k =>
        (have hn : n = 1 := hn); subst hn
        obtain ⟨v, h1, h2, h3⟩ := xld_inv hs
        obtain ⟨x, rfl⟩ := xisI_inv h2
        exact lv_iload_n hx hb hd rfl (ldI h1) (pure h3)
      case lload k =>
        (have hn : n = 2 := hn); subst hn
        obtain ⟨v, h1, h2, h3⟩ := xld_inv hs
        obtain ⟨x, rfl⟩ := xisL_inv h2
        exact lv_lload hx hb hd (ldL h1) (pure h3)
      case lload_n k =>
        (have hn : n = 1 := hn); subst hn
        obtain ⟨v, h1, h2, h3⟩ := xld_inv hs
        obtain ⟨x, rfl⟩ := xisL_inv h2
        exact lv_lload_n hx hb hd rfl (ldL h1) (pure h3)
      case aload k =>
        (have hn : n = 2 := hn); subst hn
        obtain ⟨v, h1, h2, h3⟩ := xld_inv hs
        obtain ⟨x, e1, e2, -⟩ := xisA_inv (base := base) (ex := ex) h2
        have h5 := ha4 _ _ h1 e2
        rw [e1] at h5
        refine lv_aload hx hb hd h5 ?_
        rw [← e1]
        exact pure h3
      case aload_n k =>
        (have hn : n = 1 := hn); subst hn
        obtain ⟨v, h1, h2, h3⟩ := xld_inv hs
        obtain ⟨x, e1, e2, -⟩ := xisA_inv (base := base) (ex := ex) h2
        have h5 := ha4 _ _ h1 e2
        rw [e1] at h5
        refine lv_aload_n hx hb hd rfl h5 ?_
        rw [← e1]
        exact pure h3
      case istore k =>
        (have hn : n = 2 := hn); subst hn
        obtain ⟨v, r, rfl, h1, h2, rfl⟩ := xsto_inv hs
        obtain ⟨x, rfl⟩ := xisI_inv h1
        exact lv_istore hx hb hd (xlr_has hcap) (by omega) rfl fun ls' hl => kk H locs ls' cells slots (by simp) (by simp) hH hL (xlr_st1 (v := .int x) ha2 hl)
      case istore_n k =>
        (have hn : n = 1 := hn); subst hn
        obtain ⟨v, r, rfl, h1, h2, rfl⟩ := xsto_inv hs
        obtain ⟨x, rfl⟩ := xisI_inv h1
        exact lv_istore_n hx hb hd rfl (xlr_has hcap) (by omega) rfl fun ls' hl => kk H locs ls' cells slots (by simp) (by simp) hH hL (xlr_st1 (v := .int x) ha2 hl)
      case astore k =>
        (have hn : n = 2 := hn); subst hn
        obtain ⟨v, r, rfl, h1, h2, rfl⟩ := xsto_inv hs
        obtain ⟨x, e1, e2, -⟩ := xisA_inv (base := base) (ex := ex) h1
        rw [List.map_cons, e1]
        refine lv_astore hx hb hd (xlr_has hcap) (by omega) rfl fun ls' hl => kk H locs ls' cells slots (by simp) (by simp) hH hL (xlr_st1 (v := v) ha2 ?_)
        rw [e1]; exact hl
      case astore_n k =>
        (have hn : n = 1 := hn); subst hn
        obtain ⟨v, r, rfl, h1, h2, rfl⟩ := xsto_inv hs
        obtain ⟨x, e1, e2, -⟩ := xisA_inv (base := base) (ex := ex) h1
        rw [List.map_cons, e1]
        refine lv_astore_n hx hb hd rfl (xlr_has hcap) (by omega) rfl fun ls' hl => kk H locs ls' cells slots (by simp) (by simp) hH hL (xlr_st1 (v := v) ha2 ?_)
        rw [e1]; exact hl
      case lstore k =>
        (have hn : n = 2 := hn); subst hn
        obtain ⟨x, r, rfl, h2, rfl⟩ := xsto2_inv hs
        exact lv_lstore hx hb hd (xlr_has hcap) (by omega) rfl fun ls' hl => kk H locs ls' cells slots (by simp) (by simp) hH hL (xlr_st2 (v := .long x) ha2 hl)
      case lstore_n k =>
        (have hn : n = 1 := hn); subst hn
        obtain ⟨x, r, rfl, h2, rfl⟩ := xsto2_inv hs
        exact lv_lstore_n hx hb hd rfl (xlr_has hcap) (by omega) rfl fun ls' hl => kk H locs ls' cells slots (by simp) (by simp) hH hL (xlr_st2 (v := .long x) ha2 hl)
      case iinc k d =>
        (have hn : n = 3 := hn); subst hn
        simp only [xex] at hs
        split at hs
        · rename_i x hk
          have hkl : k < ls.length := (List.getElem?_eq_some_iff.mp hk).1
          cases xnx_inj hs
          obtain ⟨q, hq⟩ := List.getElem?_of_mem (xps_mem (base := base) (ex := ex).mpr ⟨.int x, hk, rfl, rfl⟩)
          exact lv_iinc hx hb hd (xlr_has hcap) hq rfl (by omega) rfl fun ls' hl => kk H locs ls' cells slots (by simp) (by simp) hH hL (xlr_st1 (v := .int (x + Int32.ofInt d)) ha2 hl)
        · cases hs
      case iadd => (have hn : n = 1 := hn); subst hn; obtain ⟨y, x, r, rfl, h⟩ := xbi_inv hs; exact lv_iadd hx hb hd (pure h)
      case isub => (have hn : n = 1 := hn); subst hn; obtain ⟨y, x, r, rfl, h⟩ := xbi_inv hs; exact lv_isub hx hb hd (pure h)
      case imul => (have hn : n = 1 := hn); subst hn; obtain ⟨y, x, r, rfl, h⟩ := xbi_inv hs; exact lv_imul hx hb hd (pure h)
      case iand => (have hn : n = 1 := hn); subst hn; obtain ⟨y, x, r, rfl, h⟩ := xbi_inv hs; exact lv_iand hx hb hd (pure h)
      case ior => (have hn : n = 1 := hn); subst hn; obtain ⟨y, x, r, rfl, h⟩ := xbi_inv hs; exact lv_ior hx hb hd (pure h)
      case ishl => (have hn : n = 1 := hn); subst hn; obtain ⟨y, x, r, rfl, h⟩ := xbi_inv hs; exact lv_ishl hx hb hd (pure h)
      case ishr => (have hn : n = 1 := hn); subst hn; obtain ⟨y, x, r, rfl, h⟩ := xbi_inv hs; exact lv_ishr hx hb hd (pure h)
      case ladd => (have hn : n = 1 := hn); subst hn; obtain ⟨y, x, r, rfl, h⟩ := xbl_inv hs; exact lv_ladd hx hb hd (pure h)
      case lsub => (have hn : n = 1 := hn); subst hn; obtain ⟨y, x, r, rfl, h⟩ := xbl_inv hs; exact lv_lsub hx hb hd (pure h)
      case lmul => (have hn : n = 1 := hn); subst hn; obtain ⟨y, x, r, rfl, h⟩ := xbl_inv hs; exact lv_lmul hx hb hd (pure h)
      case land => (have hn : n = 1 := hn); subst hn; obtain ⟨y, x, r, rfl, h⟩ := xbl_inv hs; exact lv_land hx hb hd (pure h)
      case lor => (have hn : n = 1 := hn); subst hn; obtain ⟨y, x, r, rfl, h⟩ := xbl_inv hs; exact lv_lor hx hb hd (pure h)
      case idiv =>
        (have hn : n = 1 := hn); subst hn
        simp only [xex] at hs
        split at hs
        · split at hs
          · cases hs
          · rename_i hy; exact lv_idiv hx hb hd hy (pure (xnx_inj hs))
        · cases hs
      case irem =>
        (have hn : n = 1 := hn); subst hn
        simp only [xex] at hs
        split at hs
        · split at hs
          · cases hs
          · rename_i hy; exact lv_irem hx hb hd hy (pure (xnx_inj hs))
        · cases hs
      case ldiv =>
        (have hn : n = 1 := hn); subst hn
        simp only [xex] at hs
        split at hs
        · split at hs
          · cases hs
          · rename_i hy; exact lv_ldiv hx hb hd hy (pure (xnx_inj hs))
        · cases hs
      case lrem =>
        (have hn : n = 1 := hn); subst hn
        simp only [xex] at hs
        split at hs
        · split at hs
          · cases hs
          · rename_i hy; exact lv_lrem hx hb hd hy (pure (xnx_inj hs))
        · cases hs
      case ineg =>
        (have hn : n = 1 := hn); subst hn
        simp only [xex] at hs
        split at hs
        · exact lv_ineg hx hb hd (pure (xnx_inj hs))
        · cases hs
      case lneg =>
        (have hn : n = 1 := hn); subst hn
        simp only [xex] at hs
        split at hs
        · exact lv_lneg hx hb hd (pure (xnx_inj hs))
        · cases hs
      case lshl =>
        (have hn : n = 1 := hn); subst hn
        simp only [xex] at hs
        split at hs
        · exact lv_lshl hx hb hd rfl (pure (xnx_inj hs))
        · cases hs
      case lshr =>
        (have hn : n = 1 := hn); subst hn
        simp only [xex] at hs
        split at hs
        · exact lv_lshr hx hb hd rfl (pure (xnx_inj hs))
        · cases hs
      case lcmp =>
        (have hn : n = 1 := hn); subst hn
        simp only [xex] at hs
        split at hs
        · exact W.lcmp hx hb hd (pure (xnx_inj hs))
        · cases hs
      case i2l =>
        (have hn : n = 1 := hn); subst hn
        simp only [xex] at hs
        split at hs
        · exact lv_i2l hx hb hd rfl (pure (xnx_inj hs))
        · cases hs
      case l2i =>
        (have hn : n = 1 := hn); subst hn
        simp only [xex] at hs
        split at hs
        · exact lv_l2i hx hb hd rfl (pure (xnx_inj hs))
        · cases hs
      case dup =>
        (have hn : n = 1 := hn); subst hn
        simp only [xex] at hs
        split at hs
        · split at hs
          · rename_i hv; exact lv_dup hx hb hd (by rw [xtv_cat]; exact hv) (pure (xnx_inj hs))
          · cases hs
        · cases hs
      case pop =>
        (have hn : n = 1 := hn); subst hn
        simp only [xex] at hs
        split at hs
        · split at hs
          · rename_i hv; exact lv_pop hx hb hd (by rw [xtv_cat]; exact hv) (pure (xnx_inj hs))
          · cases hs
        · cases hs
      case dup2 =>
        (have hn : n = 1 := hn); subst hn
        simp only [xex] at hs
        split at hs
        · split at hs
          · rename_i hv; exact lv_dup2_11 hx hb hd (by rw [xtv_cat]; exact hv.1) (by rw [xtv_cat]; exact hv.2) (pure (xnx_inj hs))
          · cases hs
        · cases hs
      case goto off =>
        (have hn : n = 3 := hn); subst hn
        obtain ⟨h1, h2⟩ := xjp_inv hs
        exact lv_goto hx hb hd h1 (pure h2)
      case ifCond cd off =>
        have hn : n = 3 := hn
        subst hn
        simp only [xex] at hs
        split at hs
        · rename_i x r
          split at hs
          · rename_i h0
            have h1 : (pc : Int) + off = ((((pc : Int) + off).toNat : Nat) : Int) := by omega
            split at hs
            · rename_i hcm
              have h2 := xnx_inj hs
              cases cd
              case eq => exact lv_if_eq hx hb hd h1 (fun _ => pure h2) (fun q => absurd q (by simpa [xcmp] using hcm))
              case ne => exact lv_if_ne hx hb hd h1 (fun _ => pure h2) (fun q => absurd q (by simpa [xcmp] using hcm))
              case lt => exact lv_if_lt hx hb hd h1 (fun _ => pure h2) (fun q => absurd q (by simpa [xcmp] using hcm))
              case ge => exact lv_if_ge hx hb hd h1 (fun _ => pure h2) (fun q => absurd q (by simpa [xcmp] using hcm))
              case gt => exact lv_if_gt hx hb hd h1 (fun _ => pure h2) (fun q => absurd q (by simpa [xcmp] using hcm))
              case le => exact lv_if_le hx hb hd h1 (fun _ => pure h2) (fun q => absurd q (by simpa [xcmp] using hcm))
            · rename_i hcm
              have h2 := xnx_inj hs
              cases cd
              case eq => exact lv_if_eq hx hb hd h1 (fun q => absurd q (by simpa [xcmp] using hcm)) (fun _ => pure h2)
              case ne => exact lv_if_ne hx hb hd h1 (fun q => absurd q (by simpa [xcmp] using hcm)) (fun _ => pure h2)
              case lt => exact lv_if_lt hx hb hd h1 (fun q => absurd q (by simpa [xcmp] using hcm)) (fun _ => pure h2)
              case ge => exact lv_if_ge hx hb hd h1 (fun q => absurd q (by simpa [xcmp] using hcm)) (fun _ => pure h2)
              case gt => exact lv_if_gt hx hb hd h1 (fun q => absurd q (by simpa [xcmp] using hcm)) (fun _ => pure h2)
              case le => exact lv_if_le hx hb hd h1 (fun q => absurd q (by simpa [xcmp] using hcm)) (fun _ => pure h2)
          · cases hs
        · cases hs
      case if_icmp cd off =>
        have hn : n = 3 := hn
        subst hn
        simp only [xex] at hs
        split at hs
        · rename_i y x r
          split at hs
          · rename_i h0
            have h1 : (pc : Int) + off = ((((pc : Int) + off).toNat : Nat) : Int) := by omega
            split at hs
            · rename_i hcm
              have h2 := xnx_inj hs
              cases cd
              case eq => exact lv_icmp_eq hx hb hd h1 (fun _ => pure h2) (fun q => absurd q (by simpa [xcmp] using hcm))
              case ne => exact lv_icmp_ne hx hb hd h1 (fun _ => pure h2) (fun q => absurd q (by simpa [xcmp] using hcm))
              case lt => exact lv_icmp_lt hx hb hd h1 (fun _ => pure h2) (fun q => absurd q (by simpa [xcmp] using hcm))
              case ge => exact lv_icmp_ge hx hb hd h1 (fun _ => pure h2) (fun q => absurd q (by simpa [xcmp] using hcm))
              case gt => exact lv_icmp_gt hx hb hd h1 (fun _ => pure h2) (fun q => absurd q (by simpa [xcmp] using hcm))
              case le => exact lv_icmp_le hx hb hd h1 (fun _ => pure h2) (fun q => absurd q (by simpa [xcmp] using hcm))
            · rename_i hcm
              have h2 := xnx_inj hs
              cases cd
              case eq => exact lv_icmp_eq hx hb hd h1 (fun q => absurd q (by simpa [xcmp] using hcm)) (fun _ => pure h2)
              case ne => exact lv_icmp_ne hx hb hd h1 (fun q => absurd q (by simpa [xcmp] using hcm)) (fun _ => pure h2)
              case lt => exact lv_icmp_lt hx hb hd h1 (fun q => absurd q (by simpa [xcmp] using hcm)) (fun _ => pure h2)
              case ge => exact lv_icmp_ge hx hb hd h1 (fun q => absurd q (by simpa [xcmp] using hcm)) (fun _ => pure h2)
              case gt => exact lv_icmp_gt hx hb hd h1 (fun q => absurd q (by simpa [xcmp] using hcm)) (fun _ => pure h2)
              case le => exact lv_icmp_le hx hb hd h1 (fun q => absurd q (by simpa [xcmp] using hcm)) (fun _ => pure h2)
          · cases hs
        · cases hs
      case tableswitch d lo hi offs =>
        simp only [xex] at hs
        split at hs
        · rename_i x r
          split at hs
          · rename_i hlen
            obtain ⟨h1, h2⟩ := xtt_sim hs
            have h3 := xnum_off (x := x.toInt) (d := d) offs.toList lo
            have hp : (fr'.1, ls, r, S) = fr' := by rw [← h2]
            by_cases hout : x.toInt < lo ∨ hi < x.toInt
            · rw [h3.1 (by omega)] at h1
              exact lv_tableOut hx hb hd hout h1 (pure hp)
            · have h4 := h3.2 (by omega) (by omega)
              rw [Array.getElem?_toList] at h4
              exact lv_tableIn hx hb hd (by omega) (by omega) h4 h1 (pure hp)
          · cases hs
        · cases hs
      case lookupswitch d ps =>
        simp only [xex] at hs
        split at hs
        · rename_i x r
          split at hs
          · rename_i hps
            obtain ⟨h1, h2⟩ := xtt_sim hs
            exact lv_lookup hx hb hd hps rfl h1 (pure (by rw [← h2]))
          · cases hs
        · cases hs
      case getfield j =>
        have hn : n = 3 := hn
        subst hn
        simp only [xex] at hs
        split at hs
        · obtain ⟨⟨ci, f, b, dt, pl⟩, h1, h2⟩ := xbp hs
          obtain ⟨v, h3, h4⟩ := xbp h2
          exact xg_get F' hH hd h1 h3 (pure (xnx_inj h4))
        · cases hs
      case putfield j =>
        have hn : n = 3 := hn
        subst hn
        simp only [xex] at hs
        split at hs
        · obtain ⟨⟨ci, f, b, dt, pl⟩, h1, h2⟩ := xbp hs
          dsimp only at h2
          split at h2
          · cases h2
          · rename_i hbd
            obtain ⟨S', h3, h4⟩ := xbp h2
            simp only [not_or, Bool.not_eq_true, Bool.not_eq_false] at hbd
            obtain ⟨hb', hd'⟩ := hbd
            subst hb'; subst hd'
            have e3 : S'.1 = S.1 := by
              unfold xpf at h3
              split at h3
              · split at h3
                · split at h3
                  · split at h3
                    · cases h3
                    · cases h3; rfl
                  · cases h3
                · cases h3
              · cases h3
            exact xg_put F' hH hL hd h1 h3 (pureS (xnx_inj h4) (by rw [e3]) (by rw [e3]))
        · obtain ⟨⟨ci, f, b, dt, pl⟩, h1, h2⟩ := xbp hs
          dsimp only at h2
          split at h2
          · cases h2
          · rename_i hbd
            obtain ⟨S', h3, h4⟩ := xbp h2
            simp only [not_or, Bool.not_eq_true, Decidable.not_not] at hbd
            obtain ⟨hb', hd', hi', hc'⟩ := hbd
            subst hb'; subst hd'
            have e3 : S'.1.length = S.1.length ∧ xsz S'.1 = xsz S.1 := by
              unfold xpr at h3
              split at h3
              · rename_i t0 n0 vs0 hS0
                split at h3
                · split at h3
                  · cases h3
                    refine ⟨by simp, ?_⟩
                    unfold xsz
                    rw [List.map_set]
                    congr 1
                    exact xset_self (by rw [List.getElem?_map, hS0]; rfl)
                  · cases h3
                · cases h3
              · cases h3
            exact xg_putF F' hH hL hd h1 hi' hc' h3 (pureS (xnx_inj h4) e3.1 e3.2)
        · cases hs
      case iaload =>
        have hn : n = 1 := hn
        subst hn
        simp only [xex] at hs
        split at hs
        · obtain ⟨v, h1, h2⟩ := xbp hs
          exact xg_iald F' hH hd h1 (pure (xnx_inj h2))
        · split at hs
          · rename_i hin
            obtain ⟨scr, q1, q2, q3, q4, q5⟩ := hkw.2.2.2.1.1
            have hin := xin_iff.mp hin
            have hlt : _ < X.1 := Nat.not_le.mp fun q => hin (Or.inr q)
            exact W.iald hx hb (by rw [hH.2.2 _ hkw.2.2.2.1.2]; exact q1) q2 q3 (by rw [q4]; exact hin) (q5 _ hlt) rfl rfl hd (pure (xnx_inj hs))
          · cases hs
        · cases hs
      case baload =>
        have hn : n = 1 := hn
        subst hn
        simp only [xex] at hs
        split at hs
        · obtain ⟨v, h1, h2⟩ := xbp hs
          exact xg_zald F' hH hd h1 (pure (xnx_inj h2))
        · cases hs
      case iastore =>
        have hn : n = 1 := hn
        subst hn
        simp only [xex] at hs
        split at hs
        · obtain ⟨S', h1, h2⟩ := xbp hs
          have e3 : S'.1 = S.1 := by obtain ⟨_, _, _, _, rfl⟩ := xas_inv h1; rfl
          exact xg_iast F' hH hL hd h1 (pureS (xnx_inj h2) (by rw [e3]) (by rw [e3]))
        · cases hs
      case bastore =>
        have hn : n = 1 := hn
        subst hn
        simp only [xex] at hs
        split at hs
        · split at hs
          · rename_i h01
            obtain ⟨S', h1, h2⟩ := xbp hs
            have e3 : S'.1 = S.1 := by obtain ⟨_, _, _, _, rfl⟩ := xas_inv h1; rfl
            exact xg_zast F' hH hL hd h01 h1 (pureS (xnx_inj h2) (by rw [e3]) (by rw [e3]))
          · cases hs
        · cases hs
      case aaload =>
        have hn : n = 1 := hn
        subst hn
        simp only [xex] at hs
        split at hs
        · obtain ⟨v, h1, h2⟩ := xbp hs
          exact xg_aald F' hH hd h1 (pure (xnx_inj h2))
        · cases hs
      case aastore =>
        have hn : n = 1 := hn
        subst hn
        simp only [xex] at hs
        split at hs
        · obtain ⟨S', h1, h2⟩ := xbp hs
          have e3 : S'.1.length = S.1.length ∧ xsz S'.1 = xsz S.1 := by
            unfold xaw at h1
            split at h1
            · rename_i t0 n0 vs0 hS0
              split at h1
              · split at h1
                · split at h1
                  · cases h1
                    refine ⟨by simp, ?_⟩
                    unfold xsz
                    rw [List.map_set]
                    congr 1
                    exact xset_self (by rw [List.getElem?_map, hS0]; rfl)
                  · cases h1
                · cases h1
              · cases h1
            · cases h1
          exact xg_aast F' hH hL hd h1 (pureS (xnx_inj h2) e3.1 e3.2)
        · cases hs
      case arraylength =>
        have hn : n = 1 := hn
        subst hn
        simp only [xex] at hs
        split at hs
        · obtain ⟨v, h1, h2⟩ := xbp hs
          exact xg_alen F' hH hd h1 (pure (xnx_inj h2))
        · obtain ⟨scr, q1, q2, q3, q4, q5⟩ := hkw.2.2.2.1.1
          exact W.alen (n := Int32.ofNat X.1) hx hb (by rw [hH.2.2 _ hkw.2.2.2.1.2]; exact q1) q2 (by rw [q4] <;> rfl) rfl rfl hd (pure (xnx_inj hs))
        · cases hs
      case newarray ty =>
        have hn : n = 2 := hn
        subst hn
        simp only [xex] at hs
        split at hs
        · split at hs
          · obtain ⟨S', h1, h2⟩ := xbp hs
            cases xnx_inj h2
            have e1 : S'.1.length = S.1.length + 1 := by
              unfold xnwa at h1
              split at h1
              · cases h1; simp
              · cases h1
            dsimp only at hc hz kk
            exact xg_newI F' hH hd h1 (by rw [e1] at hc; omega) hz (fun H' e2 hH' => kk H' locs arr _ _ (by rw [e1]; omega) rfl hH' hL hcap)
          · obtain ⟨S', h1, h2⟩ := xbp hs
            cases xnx_inj h2
            have e1 : S'.1.length = S.1.length + 1 := by
              unfold xnwa at h1
              split at h1
              · cases h1; simp
              · cases h1
            dsimp only at hc hz kk
            exact xg_newZ F' hH hd h1 (by rw [e1] at hc; omega) hz (fun H' e2 hH' => kk H' locs arr _ _ (by rw [e1]; omega) rfl hH' hL hcap)
          · cases hs
        · cases hs
      case anewarray j =>
        have hn : n = 3 := hn
        subst hn
        simp only [xex] at hs
        split at hs
        · obtain ⟨⟨ci, pl⟩, h0, h00⟩ := xbp hs
          dsimp only at h00
          split at h00
          · rename_i hci
            subst hci
            obtain ⟨S', h1, h2⟩ := xbp h00
            cases xnx_inj h2
            have e1 : S'.1.length = S.1.length + 1 := by
              unfold xnwq at h1
              split at h1
              · cases h1; simp
              · cases h1
            dsimp only at hc hz kk
            exact xg_newQ F' hH hd h0 h1 (by rw [e1] at hc; omega) hz (fun H' e2 hH' => kk H' locs arr _ _ (by rw [e1]; omega) rfl hH' hL hcap)
          · cases h00
        · cases hs
      case new j =>
        have hn : n = 3 := hn
        subst hn
        simp only [xex] at hs
        obtain ⟨⟨ci, pl⟩, h0, h00⟩ := xbp hs
        obtain ⟨S', h1, h2⟩ := xbp h00
        cases xnx_inj h2
        have e1 : S'.1.length = S.1.length + 1 := by
          unfold xnwo at h1
          split at h1
          · cases h1; simp
          · cases h1
        dsimp only at hc hz kk
        exact xg_newo F' hH hL hd h0 h1 (by rw [e1] at hc; omega) hz (fun H' e2 hH' => kk H' locs arr _ _ (by rw [e1]; omega) rfl hH' hL hcap)
      case invokestatic j =>
        have hn : n = 3 := hn
        subst hn
        simp only [xex] at hs
        obtain ⟨⟨kind, jj, nn, p1, p2, p3⟩, h1, h2⟩ := xbp hs
        dsimp only at h2
        split at h2
        · rename_i hks
          have h3 := h2
          unfold xcall at h3
          split at h3
          · obtain ⟨w, h4, h5⟩ := xbp h3
            split at h5 <;> cases h5
          · obtain ⟨w, h4, h5⟩ := xbp h3
            split at h5 <;> cases h5
          · cases hks
          · cases hks
          · cases hks
          · cases hks
          · split at h3
            · split at h3
              · rename_i hq
                obtain ⟨S', h4, h5⟩ := xbp h3
                have e3 : S'.1 = S.1 := by
                  unfold xacp at h4
                  split at h4
                  · split at h4
                    · cases h4; rfl
                    · cases h4
                  · cases h4
                exact xg_copy F' hH hL ha1 hd h1 hq.1 hq.2.1 hq.2.2 h4 (pureS (xnx_inj h5) (by rw [e3]) (by rw [e3]))
              · cases h3
            · cases h3
          · cases hks
          · split at h3
            · split at h3
              · rename_i hq
                have hw := List.all_eq_true.mp xk_mth _ (xlook h1)
                simp only [xkm, Bool.and_eq_true] at hw
                have h8 := xcats (base := base) (ex := ex)
                refine va_mabs hx hb (by rw [hml, ha1]) hown (hts _ (xw_in hw.1)) (hts _ (xw_in hw.2)) (hts _ (xw_in xk_mat)) (hts _ xk_abs) (by omega) (by rw [h8]; omega) (by omega) (by omega) hd ?_
                exact pure (xnx_inj h3)
              · cases h3
            · cases h3
          · split at h3
            · split at h3
              · rename_i hq
                have hw := List.all_eq_true.mp xk_mth _ (xlook h1)
                simp only [xkm, Bool.and_eq_true] at hw
                have h8 := xcats (base := base) (ex := ex)
                refine va_mabs_long hx hb (by rw [hml, ha1]) hown (hts _ (xw_in hw.1)) (hts _ (xw_in hw.2)) (hts _ (xw_in xk_mat)) (hts _ xk_absl) (by omega) (by rw [h8]; omega) (by omega) (by omega) hd ?_
                exact pure (xnx_inj h3)
              · cases h3
            · cases h3
          · split at h3
            · split at h3
              · rename_i hq
                have hw := List.all_eq_true.mp xk_mth _ (xlook h1)
                simp only [xkm, Bool.and_eq_true] at hw
                have h8 := xcats (base := base) (ex := ex)
                refine va_mmax hx hb (by rw [hml, ha1]) hown (hts _ (xw_in hw.1)) (hts _ (xw_in hw.2)) (hts _ (xw_in xk_mat)) (hts _ xk_max) (by omega) (by rw [h8]; omega) (by omega) (by omega) hd ?_
                exact pure (xnx_inj h3)
              · cases h3
            · cases h3
          · split at h3
            · split at h3
              · rename_i hq
                have hw := List.all_eq_true.mp xk_mth _ (xlook h1)
                simp only [xkm, Bool.and_eq_true] at hw
                have h8 := xcats (base := base) (ex := ex)
                refine va_mmin hx hb (by rw [hml, ha1]) hown (hts _ (xw_in hw.1)) (hts _ (xw_in hw.2)) (hts _ (xw_in xk_mat)) (hts _ xk_min) (by omega) (by rw [h8]; omega) (by omega) (by omega) hd ?_
                exact pure (xnx_inj h3)
              · cases h3
            · cases h3
          · cases h3
        · cases h2
      case invokevirtual j =>
        have hn : n = 3 := hn
        subst hn
        simp only [xex] at hs
        obtain ⟨⟨kind, jj, nn, p1, p2, p3⟩, h1, h2⟩ := xbp hs
        dsimp only at h2
        split at h2
        · rename_i hks
          have h3 := h2
          unfold xcall at h3
          split at h3
          · cases hks
          · cases hks
          · obtain ⟨w, h4, h5⟩ := xbp h3
            split at h5
            · split at h5 <;> cases h5
            · cases h5
          · cases hks
          · cases hks
          · cases hks
          · cases hks
          · split at h3
            · split at h3
              · rename_i hq
                obtain ⟨v, h4, h5⟩ := xbp h3
                exact hZ.2 _ _ _ _ _ _ _ _ _ _ _ _ _ _ _ _ _ _ _ _ _ _ _ _ _ _ _ F' hH hL ha1 hd h1 hq.1 hq.2.1 hq.2.2 h4 (by omega) (by omega) (pureS (xnx_inj h5) rfl rfl)
              · cases h3
            · cases h3
          · cases hks
          · cases hks
          · cases hks
          · cases hks
          · cases h3
        · cases h2
      case invokespecial j =>
        have hn : n = 3 := hn
        subst hn
        simp only [xex] at hs
        obtain ⟨⟨kind, jj, nn, p1, p2, p3⟩, h1, h2⟩ := xbp hs
        dsimp only at h2
        split at h2
        · rename_i hks
          have h3 := h2
          unfold xcall at h3
          split at h3
          · cases hks
          · cases hks
          · cases hks
          · obtain ⟨w, h4, h5⟩ := xbp h3
            split at h5
            · split at h5 <;> cases h5
            · cases h5
          · obtain ⟨w, h4, h5⟩ := xbp h3
            split at h5
            · split at h5 <;> cases h5
            · cases h5
          · split at h3
            · split at h3
              · rename_i hq
                have hw := List.all_eq_true.mp xk_mth _ (xlook h1)
                simp only [xkm, Bool.and_eq_true] at hw
                have h8 := xcats (base := base) (ex := ex)
                refine W.objInit hx hb hown (hts _ (xw_in hw.1)) (hts _ (xw_in hw.2)) (hts _ xk_obj) rfl (by rw [hml]; exact ha1) rfl hd (by omega) (by rw [h8]; show 2 * 0 + _ + 12 ≤ _; omega) ?_
                exact pure (xnx_inj h3)
              · cases h3
            · cases h3
          · cases hks
          · cases hks
          · cases hks
          · cases hks
          · cases hks
          · cases hks
          · cases h3
        · cases h2
      case ireturn =>
        simp only [xex, xrt] at hs
        repeat' split at hs
        all_goals cases hs
      case lreturn =>
        simp only [xex] at hs
        repeat' split at hs
        all_goals cases hs
      case areturn =>
        simp only [xex] at hs
        repeat' split at hs
        all_goals cases hs
      case return_ =>
        simp only [xex] at hs
        repeat' split at hs
        all_goals cases hs
      all_goals cases hs
    · cases hs
  · cases hs
end XT
end
section
theorem xtt_inl {pc : Nat} {x : Int32} {ls st : List Value} {S : xS} {d : Int} {r : xR} {ps : List (Int × Int)} (h : xtt pc x ls st S d ps = some r) : ∃ fr : xF, r = .inl fr ∧ fr.2.2.2 = S := by
  induction ps with
  | nil =>
    unfold xtt xjp at h
    split at h
    · exact ⟨_, (Option.some.inj h).symm, rfl⟩
    · cases h
  | cons q t ih =>
    obtain ⟨a, o⟩ := q
    rw [xtt] at h
    split at h
    · unfold xjp at h
      split at h
      · exact ⟨_, (Option.some.inj h).symm, rfl⟩
      · cases h
    · exact ih h
theorem xpop_inv : ∀ (n : Nat) (acc st as r : List Value), xpop n acc st = some (as, r) → ∃ bs, as = bs ++ acc ∧ bs.length = n ∧ st = bs.reverse ++ r
  | 0, acc, st, as, r, h => by cases h; exact ⟨[], rfl, rfl, rfl⟩
  | n + 1, acc, [], as, r, h => by cases h
  | n + 1, acc, v :: st, as, r, h => by
    obtain ⟨bs, e1, e2, e3⟩ := xpop_inv n (v :: acc) st as r h
    refine ⟨bs ++ [v], by simp [e1], by simp [e2], by simp [e3]⟩
theorem xpf_len {S S' : xS} {k ci j : Nat} {x : Int32} (h : xpf S k ci j x = some S') : S'.1 = S.1 := by
  unfold xpf at h
  repeat' split at h
  all_goals first | cases h; done | (cases h; rfl)
theorem xas_len {S S' : xS} {k t : Nat} {i x : Int32} (h : xas S k t i x = some S') : S'.1 = S.1 := by
  unfold xas at h
  repeat' split at h
  all_goals first | cases h; done | (cases h; rfl)
theorem xacp_len {S S' : xS} {k0 k1 : Nat} {sp dp n : Int32} (h : xacp S k0 k1 sp dp n = some S') : S'.1 = S.1 := by
  unfold xacp at h
  repeat' split at h
  all_goals first | cases h; done | (cases h; rfl)
theorem xpr_len {S S' : xS} {k ci j a : Nat} (h : xpr S k ci j a = some S') : S'.1.length = S.1.length ∧ xsz S'.1 = xsz S.1 := by
  unfold xpr at h
  split at h
  · rename_i t0 n0 vs0 hS0
    split at h
    · split at h
      · cases h
        refine ⟨by simp, ?_⟩
        unfold xsz
        rw [List.map_set]
        congr 1
        exact xset_self (by rw [List.getElem?_map, hS0]; rfl)
      · cases h
    · cases h
  · cases h
theorem xaw_len {S S' : xS} {k a : Nat} {i : Int32} (h1 : xaw S k i a = some S') : S'.1.length = S.1.length ∧ xsz S'.1 = xsz S.1 := by
  unfold xaw at h1
  split at h1
  · rename_i t0 n0 vs0 hS0
    split at h1
    · split at h1
      · split at h1
        · cases h1
          refine ⟨by simp, ?_⟩
          unfold xsz
          rw [List.map_set]
          congr 1
          exact xset_self (by rw [List.getElem?_map, hS0]; rfl)
        · cases h1
      · cases h1
    · cases h1
  · cases h1
theorem xnwo_len {S S' : xS} {ci : Nat} (h : xnwo S ci = some S') : S.1.length ≤ S'.1.length ∧ xsz S.1 ≤ xsz S'.1 := by
  unfold xnwo at h
  split at h
  · cases h; exact ⟨by simp, by rw [xsz_app]; omega⟩
  · cases h
theorem xnwa_len {S S' : xS} {t : Nat} {n : Int32} (h : xnwa S t n = some S') : S.1.length ≤ S'.1.length ∧ xsz S.1 ≤ xsz S'.1 := by
  unfold xnwa at h
  split at h
  · cases h; exact ⟨by simp, by rw [xsz_app]; omega⟩
  · cases h
theorem xnwq_len {S S' : xS} {n : Int32} (h : xnwq S n = some S') : S.1.length ≤ S'.1.length ∧ xsz S.1 ≤ xsz S'.1 := by
  unfold xnwq at h
  split at h
  · cases h; exact ⟨by simp, by rw [xsz_app]; omega⟩
  · cases h
theorem xle2 {S S' : xS} (h : S'.1 = S.1) : S.1.length ≤ S'.1.length ∧ xsz S.1 ≤ xsz S'.1 := by rw [h]; exact ⟨Nat.le_refl _, Nat.le_refl _⟩
theorem xle3 {S S' : xS} (h : S'.1.length = S.1.length ∧ xsz S'.1 = xsz S.1) : S.1.length ≤ S'.1.length ∧ xsz S.1 ≤ xsz S'.1 := by rw [h.1, h.2]; exact ⟨Nat.le_refl _, Nat.le_refl _⟩
def xG (S : xS) (r : xR) : Prop := ∃ fr' : xF, r = .inl fr' ∧ S.1.length ≤ fr'.2.2.2.1.length ∧ xsz S.1 ≤ xsz fr'.2.2.2.1
theorem xG_nx {a : Nat} {b d : List Value} {S S' : xS} {r : xR} (h : xnx a b d S' = some r) (hs : S.1.length ≤ S'.1.length ∧ xsz S.1 ≤ xsz S'.1) : xG S r := ⟨_, (Option.some.inj h).symm, hs⟩
theorem xG_n {a : Nat} {b d : List Value} {S : xS} {r : xR} (h : xnx a b d S = some r) : xG S r := xG_nx h ⟨Nat.le_refl _, Nat.le_refl _⟩
theorem xG_jp {pc : Nat} {off : Int} {ls st : List Value} {S : xS} {r : xR} (h : xjp pc off ls st S = some r) : xG S r := by
  unfold xjp at h
  split at h
  · exact xG_n h
  · cases h
theorem xG_bi {f : Int32 → Int32 → Int32} {pc : Nat} {ls st : List Value} {S : xS} {r : xR} (h : xbi f pc ls st S = some r) : xG S r := by
  unfold xbi at h
  split at h
  · exact xG_n h
  · cases h
theorem xG_bl {f : Int64 → Int64 → Int64} {pc : Nat} {ls st : List Value} {S : xS} {r : xR} (h : xbl f pc ls st S = some r) : xG S r := by
  unfold xbl at h
  split at h
  · exact xG_n h
  · cases h
theorem xG_ld {ls : List Value} {i pc : Nat} {st : List Value} {S : xS} {ok : Value → Bool} {r : xR} (h : xld ls i pc st S ok = some r) : xG S r := by
  unfold xld at h
  split at h
  · split at h
    · exact xG_n h
    · cases h
  · cases h
theorem xG_sto {ls : List Value} {i pc : Nat} {st : List Value} {S : xS} {ok : Value → Bool} {r : xR} (h : xsto ls i pc st S ok = some r) : xG S r := by
  unfold xsto at h
  split at h
  · split at h
    · exact xG_n h
    · cases h
  · cases h
theorem xG_sto2 {ls : List Value} {i pc : Nat} {st : List Value} {S : xS} {r : xR} (h : xsto2 ls i pc st S = some r) : xG S r := by
  unfold xsto2 at h
  split at h
  · split at h
    · exact xG_n h
    · cases h
  · cases h
theorem xG_tt {pc : Nat} {x : Int32} {ls st : List Value} {S : xS} {d : Int} {r : xR} {ps : List (Int × Int)} (h : xtt pc x ls st S d ps = some r) : xG S r := by
  obtain ⟨fr, e, e2⟩ := xtt_inl h
  exact ⟨fr, e, by rw [e2]; exact ⟨Nat.le_refl _, Nat.le_refl _⟩⟩
def xplain (i : Instr) : Bool := match i with
  | .ireturn => false
  | .lreturn => false
  | .areturn => false
  | .return_ => false
  | .invokestatic _ => false
  | .invokevirtual _ => false
  | .invokespecial _ => false
  | _ => true
set_option maxHeartbeats 4000000 in
theorem xex_cls {X : xX} {id : Nat} {i : Instr} {pc : Nat} {ls st : List Value} {S : xS} {r : xR} (hi : xplain i = true) (h : xex X id i pc ls st S = some r) : xG S r := by
  cases i
  case ireturn => cases hi
  case lreturn => cases hi
  case areturn => cases hi
  case return_ => cases hi
  case invokestatic j => cases hi
  case invokevirtual j => cases hi
  case invokespecial j => cases hi
  case tableswitch d lo hi offs =>
    simp only [xex] at h
    split at h
    · split at h
      · exact xG_tt h
      · cases h
    · cases h
  case lookupswitch d ps =>
    simp only [xex] at h
    split at h
    · split at h
      · exact xG_tt h
      · cases h
    · cases h
  case putfield j =>
    simp only [xex] at h
    split at h
    · obtain ⟨f, h1, h2⟩ := xbp h
      split at h2
      · cases h2
      · obtain ⟨S', h3, h4⟩ := xbp h2
        exact xG_nx h4 (xle2 (xpf_len h3))
    · obtain ⟨f, h1, h2⟩ := xbp h
      split at h2
      · cases h2
      · obtain ⟨S', h3, h4⟩ := xbp h2
        exact xG_nx h4 (xle3 (xpr_len h3))
    · cases h
  case iastore =>
    simp only [xex] at h
    split at h
    · obtain ⟨S', h3, h4⟩ := xbp h
      exact xG_nx h4 (xle2 (xas_len h3))
    · cases h
  case bastore =>
    simp only [xex] at h
    split at h
    · split at h
      · obtain ⟨S', h3, h4⟩ := xbp h
        exact xG_nx h4 (xle2 (xas_len h3))
      · cases h
    · cases h
  case aastore =>
    simp only [xex] at h
    split at h
    · obtain ⟨S', h3, h4⟩ := xbp h
      exact xG_nx h4 (xle3 (xaw_len h3))
    · cases h
  case newarray t =>
    simp only [xex] at h
    split at h
    · split at h
      · obtain ⟨S', h3, h4⟩ := xbp h
        exact xG_nx h4 (xnwa_len h3)
      · obtain ⟨S', h3, h4⟩ := xbp h
        exact xG_nx h4 (xnwa_len h3)
      · cases h
    · cases h
  case anewarray j =>
    simp only [xex] at h
    split at h
    · obtain ⟨w, h1, h2⟩ := xbp h
      split at h2
      · obtain ⟨S', h3, h4⟩ := xbp h2
        exact xG_nx h4 (xnwq_len h3)
      · cases h2
    · cases h
  case new j =>
    simp only [xex] at h
    obtain ⟨w, h1, h2⟩ := xbp h
    obtain ⟨S', h3, h4⟩ := xbp h2
    exact xG_nx h4 (xnwo_len h3)
  case ldc j =>
    simp only [xex] at h
    obtain ⟨w, h1, h2⟩ := xbp h
    split at h2
    · exact xG_n h2
    · exact xG_n h2
    · cases h2
  case ldc2_w j =>
    simp only [xex] at h
    obtain ⟨w, h1, h2⟩ := xbp h
    split at h2
    · exact xG_n h2
    · cases h2
  case getfield j =>
    simp only [xex] at h
    split at h
    · obtain ⟨f, h1, h2⟩ := xbp h
      obtain ⟨v, h3, h4⟩ := xbp h2
      exact xG_n h4
    · cases h
  case iaload =>
    simp only [xex] at h
    split at h
    · obtain ⟨v, h3, h4⟩ := xbp h
      exact xG_n h4
    · split at h
      · exact xG_n h
      · cases h
    · cases h
  case baload =>
    simp only [xex] at h
    split at h
    · obtain ⟨v, h3, h4⟩ := xbp h
      exact xG_n h4
    · cases h
  case aaload =>
    simp only [xex] at h
    split at h
    · obtain ⟨v, h3, h4⟩ := xbp h
      exact xG_n h4
    · cases h
  case arraylength =>
    simp only [xex] at h
    split at h
    · obtain ⟨v, h3, h4⟩ := xbp h
      exact xG_n h4
    · exact xG_n h
    · cases h
  case iload j => exact xG_ld h
  case iload_n j => exact xG_ld h
  case lload j => exact xG_ld h
  case lload_n j => exact xG_ld h
  case aload j => exact xG_ld h
  case aload_n j => exact xG_ld h
  case istore j => exact xG_sto h
  case istore_n j => exact xG_sto h
  case astore j => exact xG_sto h
  case astore_n j => exact xG_sto h
  case lstore j => exact xG_sto2 h
  case lstore_n j => exact xG_sto2 h
  case goto off => exact xG_jp h
  case ifCond c off =>
    simp only [xex] at h
    split at h
    · split at h
      · split at h
        · exact xG_n h
        · exact xG_n h
      · cases h
    · cases h
  case if_icmp c off =>
    simp only [xex] at h
    split at h
    · split at h
      · split at h
        · exact xG_n h
        · exact xG_n h
      · cases h
    · cases h
  case iconst k => exact xG_n h
  case bipush k => exact xG_n h
  case sipush k => exact xG_n h
  case lconst k => exact xG_n h
  case iinc j k =>
    simp only [xex] at h
    split at h
    · exact xG_n h
    · cases h
  case iadd => exact xG_bi h
  case isub => exact xG_bi h
  case imul => exact xG_bi h
  case iand => exact xG_bi h
  case ior => exact xG_bi h
  case ishl => exact xG_bi h
  case ishr => exact xG_bi h
  case ladd => exact xG_bl h
  case lsub => exact xG_bl h
  case lmul => exact xG_bl h
  case land => exact xG_bl h
  case lor => exact xG_bl h
  case idiv =>
    simp only [xex] at h
    split at h
    · split at h
      · cases h
      · exact xG_n h
    · cases h
  case irem =>
    simp only [xex] at h
    split at h
    · split at h
      · cases h
      · exact xG_n h
    · cases h
  case ldiv =>
    simp only [xex] at h
    split at h
    · split at h
      · cases h
      · exact xG_n h
    · cases h
  case lrem =>
    simp only [xex] at h
    split at h
    · split at h
      · cases h
      · exact xG_n h
    · cases h
  case ineg =>
    simp only [xex] at h
    split at h
    · exact xG_n h
    · cases h
  case lneg =>
    simp only [xex] at h
    split at h
    · exact xG_n h
    · cases h
  case lshl =>
    simp only [xex] at h
    split at h
    · exact xG_n h
    · cases h
  case lshr =>
    simp only [xex] at h
    split at h
    · exact xG_n h
    · cases h
  case lcmp =>
    simp only [xex] at h
    split at h
    · exact xG_n h
    · cases h
  case i2l =>
    simp only [xex] at h
    split at h
    · exact xG_n h
    · cases h
  case l2i =>
    simp only [xex] at h
    split at h
    · exact xG_n h
    · cases h
  case dup =>
    simp only [xex] at h
    split at h
    · split at h
      · exact xG_n h
      · cases h
    · cases h
  case pop =>
    simp only [xex] at h
    split at h
    · split at h
      · exact xG_n h
      · cases h
    · cases h
  case dup2 =>
    simp only [xex] at h
    split at h
    · split at h
      · exact xG_n h
      · cases h
    · cases h
  all_goals cases h
theorem xcall_cls {id pc : Nat} {ls st : List Value} {S : xS} {kind j n : Nat} {r : xR} (h : xcall id pc ls st S kind j n = some r) : xG S r ∨ ∃ as r', r = .inr (.inr (j, as, (pc + 3, ls, r', S))) := by
  unfold xcall at h
  split at h
  · obtain ⟨w, h1, h2⟩ := xbp h
    split at h2
    · exact Or.inr ⟨_, _, (Option.some.inj h2).symm⟩
    · cases h2
  · obtain ⟨w, h1, h2⟩ := xbp h
    split at h2
    · exact Or.inr ⟨_, _, (Option.some.inj h2).symm⟩
    · cases h2
  · obtain ⟨w, h1, h2⟩ := xbp h
    split at h2
    · split at h2
      · exact Or.inr ⟨_, _, (Option.some.inj h2).symm⟩
      · cases h2
    · cases h2
  · obtain ⟨w, h1, h2⟩ := xbp h
    split at h2
    · split at h2
      · exact Or.inr ⟨_, _, (Option.some.inj h2).symm⟩
      · cases h2
    · cases h2
  · obtain ⟨w, h1, h2⟩ := xbp h
    split at h2
    · split at h2
      · exact Or.inr ⟨_, _, (Option.some.inj h2).symm⟩
      · cases h2
    · cases h2
  · split at h
    · split at h
      · exact Or.inl (xG_n h)
      · cases h
    · cases h
  · split at h
    · split at h
      · obtain ⟨S', h3, h4⟩ := xbp h
        exact Or.inl (xG_nx h4 (xle2 (xacp_len h3)))
      · cases h
    · cases h
  · split at h
    · split at h
      · obtain ⟨v, h3, h4⟩ := xbp h
        exact Or.inl (xG_n h4)
      · cases h
    · cases h
  · split at h
    · split at h
      · exact Or.inl (xG_n h)
      · cases h
    · cases h
  · split at h
    · split at h
      · exact Or.inl (xG_n h)
      · cases h
    · cases h
  · split at h
    · split at h
      · exact Or.inl (xG_n h)
      · cases h
    · cases h
  · split at h
    · split at h
      · exact Or.inl (xG_n h)
      · cases h
    · cases h
  · cases h
theorem xinv_cls {id pc : Nat} {ls st : List Value} {S : xS} {idx : Nat} {ks : List Nat} {r : xR} (h : xinv id pc ls st S idx ks = some r) : xG S r ∨ ∃ j as r', r = .inr (.inr (j, as, (pc + 3, ls, r', S))) := by
  obtain ⟨w, h1, h2⟩ := xbp h
  split at h2
  · rcases xcall_cls h2 with h | h
    · exact Or.inl h
    · exact Or.inr ⟨_, h⟩
  · cases h2
theorem xrt_cls {id : Nat} {st : List Value} {S : xS} {r : xR} (h : xrt id st S = some r) : ∃ x, st = [.int x] ∧ r = .inr (.inl (some (.int x), S)) ∧ (xret id = some .int ∨ (xret id = some .boolean ∧ (x = 0 ∨ x = 1))) := by
  unfold xrt at h
  split at h
  · split at h
    · rename_i hr
      exact ⟨_, rfl, (Option.some.inj h).symm, Or.inl hr⟩
    · rename_i hr
      split at h
      · rename_i h01
        exact ⟨_, rfl, (Option.some.inj h).symm, Or.inr ⟨hr, h01⟩⟩
      · cases h
    · cases h
  · cases h
theorem xstep_mono {X : xX} {id : Nat} {fr fr' : xF} (h : xstep X id fr = some (.inl fr')) : fr.2.2.2.1.length ≤ fr'.2.2.2.1.length ∧ xsz fr.2.2.2.1 ≤ xsz fr'.2.2.2.1 := by
  obtain ⟨pc, ls, st, S⟩ := fr
  have key : ∀ {r : xR}, xG S r → r = .inl fr' → S.1.length ≤ fr'.2.2.2.1.length ∧ xsz S.1 ≤ xsz fr'.2.2.2.1 := by
    rintro r ⟨fr2, rfl, h2⟩ e
    cases e
    exact h2
  rw [xstep_s] at h
  split at h
  · rename_i i n hd
    split at h
    · cases hp : xplain i with
      | true => exact key (xex_cls hp h) rfl
      | false =>
        cases i
        case invokestatic j =>
          rcases xinv_cls h with h2 | ⟨_, _, _, e⟩
          · exact key h2 rfl
          · cases e
        case invokevirtual j =>
          rcases xinv_cls h with h2 | ⟨_, _, _, e⟩
          · exact key h2 rfl
          · cases e
        case invokespecial j =>
          rcases xinv_cls h with h2 | ⟨_, _, _, e⟩
          · exact key h2 rfl
          · cases e
        case ireturn =>
          obtain ⟨_, _, e, _⟩ := xrt_cls h
          cases e
        case lreturn =>
          simp only [xex] at h
          split at h
          · split at h <;> cases h
          · cases h
        case areturn =>
          simp only [xex] at h
          split at h
          · split at h <;> cases h
          · cases h
        case return_ =>
          simp only [xex] at h
          split at h
          · split at h <;> cases h
          · cases h
        all_goals cases hp
    · cases h
  · cases h
theorem xstep_ret {X : xX} {id pc : Nat} {ls st : List Value} {S : xS} {o : xO} (h : xstep X id (pc, ls, st, S) = some (.inr (.inl o))) :
    o.2 = S ∧ ((∃ x, decode (xbc id) pc = .ok (.ireturn, 1) ∧ st = [.int x] ∧ o.1 = some (.int x) ∧ (xret id = some .int ∨ (xret id = some .boolean ∧ (x = 0 ∨ x = 1)))) ∨ (∃ x, decode (xbc id) pc = .ok (.lreturn, 1) ∧ st = [.long x] ∧ o.1 = some (.long x) ∧ xret id = some .long) ∨ (∃ a C, decode (xbc id) pc = .ok (.areturn, 1) ∧ st = [.ref a] ∧ o.1 = some (.ref a) ∧ xret id = some (.object C)) ∨ (decode (xbc id) pc = .ok (.return_, 1) ∧ st = [] ∧ o.1 = none ∧ xret id = none)) := by
  rw [xstep_s] at h
  split at h
  · rename_i i n hd
    split at h
    · rename_i hn
      cases hp : xplain i with
      | true => obtain ⟨_, e, _⟩ := xex_cls hp h; cases e
      | false =>
        cases i
        case invokestatic j =>
          rcases xinv_cls h with ⟨_, e, _⟩ | ⟨_, _, _, e⟩ <;> cases e
        case invokevirtual j =>
          rcases xinv_cls h with ⟨_, e, _⟩ | ⟨_, _, _, e⟩ <;> cases e
        case invokespecial j =>
          rcases xinv_cls h with ⟨_, e, _⟩ | ⟨_, _, _, e⟩ <;> cases e
        case ireturn =>
          have hn : n = 1 := hn
          subst hn
          obtain ⟨x, e1, e2, e3⟩ := xrt_cls h
          cases e2
          exact ⟨rfl, Or.inl ⟨x, hd, e1, rfl, e3⟩⟩
        case lreturn =>
          have hn : n = 1 := hn
          subst hn
          simp only [xex] at h
          split at h
          · split at h
            · rename_i hr
              cases h
              exact ⟨rfl, Or.inr (Or.inl ⟨_, hd, rfl, rfl, hr⟩)⟩
            · cases h
          · cases h
        case areturn =>
          have hn : n = 1 := hn
          subst hn
          simp only [xex] at h
          split at h
          · split at h
            · rename_i hr
              cases h
              exact ⟨rfl, Or.inr (Or.inr (Or.inl ⟨_, _, hd, rfl, rfl, hr⟩))⟩
            · cases h
          · cases h
        case return_ =>
          have hn : n = 1 := hn
          subst hn
          simp only [xex] at h
          split at h
          · split at h
            · rename_i hr
              cases h
              exact ⟨rfl, Or.inr (Or.inr (Or.inr ⟨hd, rfl, rfl, hr⟩))⟩
            · cases h
          · cases h
        all_goals cases hp
    · cases h
  · cases h
theorem xstep_call {X : xX} {id pc j : Nat} {ls st as : List Value} {S : xS} {fr' : xF} (h : xstep X id (pc, ls, st, S) = some (.inr (.inr (j, as, fr')))) :
    ∃ (idx kind nn p1 p2 p3 : Nat) (r : List Value), xmth (xown id) idx = some (kind, j, nn, p1, p2, p3) ∧ fr' = (pc + 3, ls, r, S) ∧ xcat r ≤ 8 ∧
      (((kind = 0 ∨ kind = 3) ∧ decode (xbc id) pc = .ok (.invokestatic idx, 3) ∧ st = as.reverse ++ r ∧ as.length = nn) ∨
       (kind = 1 ∧ decode (xbc id) pc = .ok (.invokevirtual idx, 3) ∧ ∃ k as', as = .ref k :: as' ∧ st = as'.reverse ++ .ref k :: r ∧ as'.length = nn ∧ (S.1[k]?).map (fun c => c.1) = some (xown j + 3)) ∨
       ((kind = 2 ∨ kind = 5) ∧ decode (xbc id) pc = .ok (.invokespecial idx, 3) ∧ ∃ k as', as = .ref k :: as' ∧ st = as'.reverse ++ .ref k :: r ∧ as'.length = nn)) := by
  have pk : ∀ {nn : Nat} {as' r : List Value}, xpop nn [] st = some (as', r) → st = as'.reverse ++ r ∧ as'.length = nn := by
    intro nn as' r h3
    obtain ⟨bs, e1, e2, e3⟩ := xpop_inv _ _ _ _ _ h3
    rw [List.append_nil] at e1
    subst e1
    exact ⟨e3, e2⟩
  have nG : ∀ {r : xR}, xG S r → r ≠ .inr (.inr (j, as, fr')) := by
    rintro r ⟨_, rfl, _⟩ e
    cases e
  rw [xstep_s] at h
  split at h
  · rename_i i n hd
    split at h
    · rename_i hn
      cases hp : xplain i with
      | true => exact absurd rfl (nG (xex_cls hp h))
      | false =>
        cases i
        case ireturn => obtain ⟨_, _, e, _⟩ := xrt_cls h; cases e
        case lreturn =>
          simp only [xex] at h
          split at h
          · split at h <;> cases h
          · cases h
        case areturn =>
          simp only [xex] at h
          split at h
          · split at h <;> cases h
          · cases h
        case return_ =>
          simp only [xex] at h
          split at h
          · split at h <;> cases h
          · cases h
        case invokestatic idx =>
          have hn : n = 3 := hn
          subst hn
          obtain ⟨⟨kind, jj, nn, p1, p2, p3⟩, h1, h2⟩ := xbp h
          dsimp only at h2
          split at h2
          · rename_i hks
            have hk : kind = 0 ∨ kind = 3 ∨ kind = 7 ∨ kind = 9 ∨ kind = 10 ∨ kind = 11 ∨ kind = 12 := by simpa using hks
            rcases hk with rfl | rfl | rfl | rfl | rfl | rfl | rfl
            · obtain ⟨⟨as', r⟩, h3, h4⟩ := xbp h2
              dsimp only at h4
              split at h4
              · rename_i h8
                cases h4
                obtain ⟨e3, e2⟩ := pk h3
                exact ⟨idx, _, nn, p1, p2, p3, r, h1, rfl, h8, Or.inl ⟨Or.inl rfl, hd, e3, e2⟩⟩
              · cases h4
            · obtain ⟨⟨as', r⟩, h3, h4⟩ := xbp h2
              dsimp only at h4
              split at h4
              · rename_i h8
                cases h4
                obtain ⟨e3, e2⟩ := pk h3
                exact ⟨idx, _, nn, p1, p2, p3, r, h1, rfl, h8, Or.inl ⟨Or.inr rfl, hd, e3, e2⟩⟩
              · cases h4
            · simp only [xcall] at h2
              split at h2
              · split at h2
                · obtain ⟨S', h3, h4⟩ := xbp h2
                  cases h4
                · cases h2
              · cases h2
            · simp only [xcall] at h2
              split at h2
              · split at h2 <;> cases h2
              · cases h2
            · simp only [xcall] at h2
              split at h2
              · split at h2 <;> cases h2
              · cases h2
            · simp only [xcall] at h2
              split at h2
              · split at h2 <;> cases h2
              · cases h2
            · simp only [xcall] at h2
              split at h2
              · split at h2 <;> cases h2
              · cases h2
          · cases h2
        case invokevirtual idx =>
          have hn : n = 3 := hn
          subst hn
          obtain ⟨⟨kind, jj, nn, p1, p2, p3⟩, h1, h2⟩ := xbp h
          dsimp only at h2
          split at h2
          · rename_i hks
            have hk : kind = 1 ∨ kind = 8 := by simpa using hks
            rcases hk with rfl | rfl
            · obtain ⟨⟨as', r⟩, h3, h4⟩ := xbp h2
              dsimp only at h4
              split at h4
              · rename_i k as2
                split at h4
                · rename_i h8
                  cases h4
                  obtain ⟨e3, e2⟩ := pk h3
                  exact ⟨idx, _, nn, p1, p2, p3, r, h1, rfl, h8.1, Or.inr (Or.inl ⟨rfl, hd, k, as2, rfl, by simpa using e3, by simpa using e2, h8.2⟩)⟩
                · cases h4
              · cases h4
            · simp only [xcall] at h2
              split at h2
              · split at h2
                · obtain ⟨v, h3, h4⟩ := xbp h2
                  cases h4
                · cases h2
              · cases h2
          · cases h2
        case invokespecial idx =>
          have hn : n = 3 := hn
          subst hn
          obtain ⟨⟨kind, jj, nn, p1, p2, p3⟩, h1, h2⟩ := xbp h
          dsimp only at h2
          split at h2
          · rename_i hks
            have hk : kind = 2 ∨ kind = 5 ∨ kind = 6 := by simpa using hks
            rcases hk with rfl | rfl | rfl
            · obtain ⟨⟨as', r⟩, h3, h4⟩ := xbp h2
              dsimp only at h4
              split at h4
              · rename_i k as2
                split at h4
                · rename_i h8
                  cases h4
                  obtain ⟨e3, e2⟩ := pk h3
                  exact ⟨idx, _, nn, p1, p2, p3, r, h1, rfl, h8, Or.inr (Or.inr ⟨Or.inl rfl, hd, k, as2, rfl, by simpa using e3, by simpa using e2⟩)⟩
                · cases h4
              · cases h4
            · obtain ⟨⟨as', r⟩, h3, h4⟩ := xbp h2
              dsimp only at h4
              split at h4
              · rename_i k as2
                split at h4
                · rename_i h8
                  cases h4
                  obtain ⟨e3, e2⟩ := pk h3
                  exact ⟨idx, _, nn, p1, p2, p3, r, h1, rfl, h8, Or.inr (Or.inr ⟨Or.inr rfl, hd, k, as2, rfl, by simpa using e3, by simpa using e2⟩)⟩
                · cases h4
              · cases h4
            · simp only [xcall] at h2
              split at h2
              · split at h2 <;> cases h2
              · cases h2
          · cases h2
        all_goals cases hp
    · cases h
  · cases h
end
section
theorem xadd3 {a b c d : Nat} (h1 : b ≤ c) (h2 : c ≤ d) : a + (c - b) + (d - c) = a + (d - b) := by omega
def xPc (base : Nat) (ex : Nat → Nat) (D : va_G) (cA : Nat → ClassId) (H00 : Heap) (X : xX) (Z : State → Prop) (as : List Value) (S : xS) : Array Value → State → Prop := fun v U => v = (as.map (xtv base ex)).toArray ∧ xhp base ex D cA H00 S U.heap ∧ xkw base ex D cA H00 X Z U
def xQc (base : Nat) (ex : Nat → Nat) (D : va_G) (cA : Nat → ClassId) (H00 : Heap) (o : xO) : Array Value → State → Outcome → State → Prop := fun _ _ oc t => oc = .returned (o.1.map (xtv base ex)) ∧ xhp base ex D cA H00 o.2 t.heap
def xZok (Z : State → Prop) : Prop := (∀ (s U : State), s.WarmedH U.vm → Z s → Z U) ∧ ∀ (U : State) (g : JFrame) (mk : MethodId) (a : Array Value), Z U → Z (U.calling g mk a)
theorem xtN_nest {w : Cond} (h : w ∈ xtN) : xisN w = true := (List.mem_filter.mp h).2
theorem xkw_warm {base : Nat} {ex : Nat → Nat} {D : va_G} {cA : Nat → ClassId} {H00 : Heap} {X : xX} {Z : State → Prop} (hz : xZok Z) {s U : State} (hW : s.WarmedH U.vm) (h : xkw base ex D cA H00 X Z s) : xkw base ex D cA H00 X Z U := by
  obtain ⟨h1, h2, h3, h4, h5⟩ := h
  refine ⟨va_K.moved hW.alike h1, fun w hw => ?_, va_AO.moved hW.alike h3, ⟨va_X.moved hW.alike h4.1, h4.2⟩, hz.1 s U hW h5⟩
  have hn := xtN_nest hw
  have h6 := h2 w hw
  cases w
  case methodLinkNest a i y b => exact va_Nw.warmM hW h6
  case fieldLinkNest a i b n d y => exact va_Nw.warmF hW h6
  all_goals cases hn
theorem xkw_blind {base : Nat} {ex : Nat → Nat} {D : va_G} {cA : Nat → ClassId} {H00 : Heap} {X : xX} {Z : State → Prop} (hz : xZok Z) {U : State} {g : JFrame} {mk : MethodId} {a : Array Value} (h : xkw base ex D cA H00 X Z U) : xkw base ex D cA H00 X Z (U.calling g mk a) := by
  obtain ⟨h1, h2, h3, h4, h5⟩ := h
  refine ⟨va_K.moved (u := U) (U := U.calling g mk a) (Vm.Alike.refl U.vm) h1, fun w hw => ?_, va_AO.moved (u := U) (U := U.calling g mk a) (Vm.Alike.refl U.vm) h3, ⟨va_X.moved (u := U) (U := U.calling g mk a) (Vm.Alike.refl U.vm) h4.1, h4.2⟩, hz.2 U g mk a h5⟩
  have hn := xtN_nest hw
  have h6 := h2 w hw
  cases w
  case methodLinkNest a i y b => exact va_Nw.same rfl rfl h6
  case fieldLinkNest a i b n d y => exact va_Nw.same rfl rfl h6
  all_goals cases hn
theorem xtG_good {w : Cond} (h : w ∈ xtG) : (w.onTables && w.keeps) = true ∨ ∃ ty, w = .arrayClass ty := good_of_word (List.mem_filter.mp h).2
theorem xGI {j : Nat} (h1 : 1 ≤ j) (h2 : j < 188) : GoodIn xtG (Cond.code (xy j) (xbc j) (xml j) (xret j) :: xtG) := by
  intro w hw
  rcases List.mem_cons.mp hw with rfl | hw
  · exact ⟨xk_code h1 h2, xtG_good (xk_code h1 h2)⟩
  · exact ⟨hw, xtG_good hw⟩
theorem xsl_len {base : Nat} {ex : Nat → Nat} : ∀ as : List Value, (lg_sl (as.map (xtv base ex))).length = (xsl as).length
  | [] => rfl
  | v :: r => by
    have ih := xsl_len (base := base) (ex := ex) r
    unfold lg_sl at ih ⊢
    rw [List.map_cons, List.flatMap_cons, xsl]
    by_cases hc : v.category = 2
    · rw [if_pos (by rw [xtv_cat]; exact hc), if_pos hc]
      simp [ih]
    · rw [if_neg (by rw [xtv_cat]; exact hc), if_neg hc]
      simp [ih]
theorem xsl_at {base : Nat} {ex : Nat → Nat} : ∀ (as : List Value) (off i : Nat) (v : Value), (xsl as)[i]? = some v → xbad v = false → (off + i, xtv base ex v) ∈ lv_args off (as.map (xtv base ex))
  | [], off, i, v, h, _ => by simp [xsl] at h
  | w :: r, off, i, v, h, hb => by
    rw [List.map_cons, lv_args, xtv_cat]
    rw [xsl] at h
    by_cases hc : w.category = 2
    · rw [if_pos hc] at h ⊢
      match i, h with
      | 0, h => cases h; exact List.mem_cons_self
      | 1, h => cases h; cases hb
      | i + 2, h =>
        have := xsl_at (base := base) (ex := ex) r (off + 2) i v h hb
        rw [show off + (i + 2) = off + 2 + i by omega]
        exact List.mem_cons_of_mem _ this
    · rw [if_neg hc] at h ⊢
      match i, h with
      | 0, h => cases h; exact List.mem_cons_self
      | i + 1, h =>
        have := xsl_at (base := base) (ex := ex) r (off + 1) i v h hb
        rw [show off + (i + 1) = off + 1 + i by omega]
        exact List.mem_cons_of_mem _ this
theorem xlr_entry {base : Nat} {ex : Nat → Nat} {as : List Value} {n : Nat} (h : (xsl as).length ≤ n) : xlr base ex ((lg_sl (as.map (xtv base ex)) ++ List.replicate (n - (lg_sl (as.map (xtv base ex))).length) Slot.unset).toArray) n (xent n as) := by
  have hl := lv_entry (as.map (xtv base ex)) (n := n) (by rw [xsl_len]; exact h)
  refine ⟨hl.1, by simp [xent]; omega, hl.2.1, fun i v hi hb => ?_⟩
  unfold xent at hi
  by_cases hlt : i < (xsl as).length
  · rw [List.getElem?_append_left hlt] at hi
    have := xsl_at (base := base) (ex := ex) as 0 i v hi hb
    rw [Nat.zero_add] at this
    exact hl.2.2 _ this
  · rw [List.getElem?_append_right (by omega), List.getElem?_replicate] at hi
    split at hi
    · cases hi; cases hb
    · cases hi
theorem xrun_len {X : xX} : ∀ (n id : Nat) (fr : xF) (o : xO), xrun X n id fr = some o → fr.2.2.2.1.length ≤ o.2.1.length ∧ xsz fr.2.2.2.1 ≤ xsz o.2.1
  | 0, _, _, _, h => by cases h
  | n + 1, id, fr, o, h => by
    rw [xrun_succ] at h
    rcases hr : xstep X id fr with _ | (fr' | (o' | ⟨j, as, fr'⟩))
    · rw [hr] at h; cases h
    · rw [hr] at h
      have h1 := xstep_mono hr
      have h2 := xrun_len n id fr' o h
      omega
    · rw [hr] at h
      cases h
      obtain ⟨pc, ls, st, S⟩ := fr
      have := (xstep_ret hr).1
      rw [this]
      exact ⟨Nat.le_refl _, Nat.le_refl _⟩
    · rw [hr] at h
      simp only [xgo] at h
      obtain ⟨o1, h1, h2⟩ := xbp h
      obtain ⟨pc, ls, st, S⟩ := fr
      obtain ⟨_, _, _, _, _, _, r, -, rfl, -⟩ := xstep_call hr
      split at h1
      · have a1 := xrun_len n j _ o1 h1
        have a2 := xrun_len n id _ o h2
        dsimp only at a1 a2 ⊢
        omega
      · cases h1
def xWn (l : Launch) (base : Nat) (ex : Nat → Nat) (D : va_G) (cA : Nat → ClassId) (H00 : Heap) (X : xX) (Z : State → Prop) (n : Nat) : Prop :=
  ∀ (id : Nat) (fr : xF) (o : xO), xrun X n id fr = some o → ∀ (p : Program) (e : Env) (R : Room) (s : State) (m : MethodId) (args : Array Value) (below : List Frame) (meth : Method) (c : Code) (H : Heap) (locs : List Loc) (cells slots : Nat) (Q : State → Prop) (arr : Array Slot),
    xfx base ex D cA H00 X Z p R s m args meth c id → xhp base ex D cA H00 fr.2.2.2 H → (∀ q ∈ locs, base ≤ q.base) → xlr base ex arr (xml id) fr.2.1 → cells + (o.2.1.length - fr.2.2.2.1.length) ≤ R.cells → slots + (xsz o.2.1 - xsz fr.2.2.2.1) ≤ R.slots →
    (∀ (pc : Nat) (ls st : List Value) (H' : Heap) (locs' : List Loc) (arr' : Array Slot), xstep X id (pc, ls, st, o.2) = some (.inr (.inl o)) → xhp base ex D cA H00 o.2 H' → (∀ q ∈ locs', base ≤ q.base) → xlr base ex arr' (xml id) ls → W p l e R s m args below meth c H' locs' (cells + (o.2.1.length - fr.2.2.2.1.length)) (slots + (xsz o.2.1 - xsz fr.2.2.2.1)) Q (F0 m pc arr' (st.map (xtv base ex)))) →
    W p l e R s m args below meth c H locs cells slots Q (F0 m fr.1 arr (fr.2.2.1.map (xtv base ex)))
section XU
variable {p : Program} {l : Launch} {e : Env} {R : Room} {s : State} {m : MethodId} {args : Array Value} {below : List Frame} {meth : Method} {c : Code} {H : Heap} {locs : List Loc} {cells slots : Nat} {Q : State → Prop}
variable {base : Nat} {ex : Nat → Nat} {D : va_G} {cA : Nat → ClassId} {H00 : Heap} {X : xX} {Z : State → Prop} {id : Nat} {arr : Array Slot}
theorem xmet (hz : xZok Z) {n j : Nat} (hI : xWn l base ex D cA H00 X Z n) {as : List Value} {S : xS} {o1 : xO} (h1 : 1 ≤ j) (h2 : j < 188) (hl : (xsl as).length ≤ xml j) (h : xrun X n j (0, xent (xml j) as, [], S) = some o1) :
    Met l (xy j) (Cond.code (xy j) (xbc j) (xml j) (xret j) :: xtG) { frames := xrf j, cells := o1.2.1.length - S.1.length, slots := xsz o1.2.1 - xsz S.1, locals := xrl j } (xPc base ex D cA H00 X Z as S) (xQc base ex D cA H00 o1) (o1.2.1.length - S.1.length) (xsz o1.2.1 - xsz S.1) (fun q => base ≤ q) := by
  obtain ⟨hcls, hpl, hown14⟩ := xk_own h2
  refine Met.ofW (cc := xbc j) (maxL := xml j) (ret := xret j) hpl rfl ?_
  intro p e s m args below meth c s₁ B hml hv
  obtain ⟨rfl, hH, hk⟩ := hv
  have hx := B.exec
  have hb := B.bytes
  have hr := B.returns
  have hts := atoms_spec (ws := Cond.code (xy j) (xbc j) (xml j) (xret j) :: xtG) B.pre
  have hown : s.vm.findClass (xnm (xown j)) = some m.cls := by rw [← hcls]; exact findClass_of_methodNamed B.named
  have hlocks := B.notSynchronized
  have hin := (name_of_methodNamed B.named B.method).1
  rw [lg_entry_eq]
  have F : xfx base ex D cA H00 X Z p (headSpec (Cond.code (xy j) (xbc j) (xml j) (xret j) :: xtG) { frames := xrf j, cells := o1.2.1.length - S.1.length, slots := xsz o1.2.1 - xsz S.1, locals := xrl j }).room s m (as.map (xtv base ex)).toArray meth c j := ⟨hx, hb, hr, hml, hown, fun w hw => hts w (List.mem_cons_of_mem _ hw), hk, hlocks, hin, Nat.le_refl _, Nat.le_refl _⟩
  refine hI j (0, xent (xml j) as, [], S) o1 h _ _ _ _ _ _ _ _ _ _ _ _ _ _ _ F hH (fun q hq => by cases hq) (xlr_entry hl) (by show 0 + _ ≤ _; dsimp only; rw [Nat.zero_add]; exact Nat.le_refl _) (by show 0 + _ ≤ _; dsimp only; rw [Nat.zero_add]; exact Nat.le_refl _) ?_
  intro pc ls st H' locs' arr' hs hH' hL' hA'
  dsimp only
  rw [Nat.zero_add, Nat.zero_add]
  obtain ⟨eS, hcase⟩ := xstep_ret hs
  rcases hcase with ⟨x, hd, rfl, eo, hr2⟩ | ⟨x, hd, rfl, eo, hr2⟩ | ⟨a, C, hd, rfl, eo, hr2⟩ | ⟨hd, rfl, eo, hr2⟩
  · rcases hr2 with hr2 | ⟨hr2, h01⟩
    · exact W.iret (v := x) hx hb (by rw [hr, hr2]) (fun t ht _ => ⟨by rw [eo]; rfl, by rw [ht]; exact hH'⟩) hL' hd hlocks
    · exact W.zret (v := x) (ty := .boolean) hx hb (by rw [hr, hr2]) (xn01 h01).1 (fun t ht _ => ⟨by rw [eo]; rfl, by rw [ht]; exact hH'⟩) hL' hd hlocks
  · exact W.lret (v := x) hx hb (by rw [hr, hr2]) (fun t ht _ => ⟨by rw [eo]; rfl, by rw [ht]; exact hH'⟩) hL' hd hlocks
  · exact W.aret (v := .ref (base + a)) hx hb (by rw [hr, hr2]) (Or.inl ⟨C, rfl⟩) (Or.inr ⟨_, rfl⟩) (fun t ht _ => ⟨by rw [eo]; rfl, by rw [ht]; exact hH'⟩) hL' hd hlocks
  · exact W.vret hx hb (by rw [hr, hr2]) (fun t ht _ => ⟨by rw [eo]; rfl, by rw [ht]; exact hH'⟩) hL' hd hlocks
theorem xcont {pc mc ms : Nat} {rest st0 : List Value} {a : Array Value} {o1 : xO} (hr : va_Run p l e R s m args below meth c H locs cells slots mc ms (F0 m pc arr st0) rest (xQc base ex D cA H00 o1 a) (fun q => base ≤ q)) (hL : ∀ q ∈ locs, base ≤ q.base)
    (kk : ∀ (H1 : Heap) (locs1 : List Loc), xhp base ex D cA H00 o1.2 H1 → (∀ q ∈ locs1, base ≤ q.base) → W p l e R s m args below meth c H1 locs1 (cells + mc) (slots + ms) Q (F0 m (pc + 3) arr ((o1.1.map (xtv base ex)).toList ++ rest))) : W p l e R s m args below meth c H locs cells slots Q (F0 m pc arr st0) := by
  intro T hT Y
  obtain ⟨v, st₀, t, T', L, h0, Y', hL2, e1, e2, ⟨hv, hh⟩, st⟩ := hr T hT Y
  have hv2 : v = o1.1.map (xtv base ex) := Outcome.returned.inj hv
  subst hv2
  obtain ⟨t2, a1, b1⟩ := kk T'.heap (locs ++ L) (by rw [e1]; exact hh) (fun q hq => by
    rcases List.mem_append.mp hq with h | h
    · exact hL q h
    · exact hL2 q h) T' rfl Y'
  exact ⟨t2, st t2 a1, b1⟩
theorem xsound (hZ : xstrR l base ex D cA H00 X Z) (hz : xZok Z) : ∀ n, xWn l base ex D cA H00 X Z n
  | 0 => fun id fr o h => by cases h
  | n + 1 => by
    intro id fr o h p e R s m args below meth c H locs cells slots Q arr F hH hL hA hc hzz hret
    have IH := xsound hZ hz n
    rw [xrun_succ] at h
    rcases hr : xstep X id fr with _ | (fr' | (o' | ⟨j, as, fr'⟩))
    · rw [hr] at h; cases h
    · rw [hr] at h
      have h : xrun X n id fr' = some o := h
      have m1 := xstep_mono hr
      have m2 := xrun_len n id fr' o h
      refine xsim hZ F hr hH hL hA (by omega) (by omega) fun H' locs' arr' c' z' ec ez hH' hL' hA' => ?_
      have e1 : c' + (o.2.1.length - fr'.2.2.2.1.length) = cells + (o.2.1.length - fr.2.2.2.1.length) := by omega
      have e2 : z' + (xsz o.2.1 - xsz fr'.2.2.2.1) = slots + (xsz o.2.1 - xsz fr.2.2.2.1) := by omega
      exact IH id fr' o h p e R s m args below meth c H' locs' c' z' Q arr' F hH' hL' hA' (by omega) (by omega) (by rw [e1, e2]; exact hret)
    · rw [hr] at h
      cases h
      obtain ⟨pc, ls, st, S⟩ := fr
      have eS := (xstep_ret hr).1
      dsimp only at hH hA hret ⊢
      subst eS
      have := hret pc ls st H locs arr hr hH hL hA
      rwa [Nat.sub_self, Nat.sub_self, Nat.add_zero, Nat.add_zero] at this
    · rw [hr] at h
      simp only [xgo] at h
      obtain ⟨o1, h1, h2⟩ := xbp h
      obtain ⟨pc, ls, st, S⟩ := fr
      obtain ⟨idx, kind, nn, p1, p2, p3, r, hm, rfl, h8, hcase⟩ := xstep_call hr
      dsimp only at hH hA hc hzz hret h1 h2 ⊢
      split at h1
      · rename_i hroom
        obtain ⟨hrm, hsl⟩ := hroom
        have m1 := xrun_len n j _ o1 h1
        have m2 := xrun_len n id _ o h2
        dsimp only at m1 m2
        simp only [xrm, Bool.and_eq_true, decide_eq_true_eq] at hrm
        have F' := F
        obtain ⟨hx, hb, hr0, hml, hown, hts, hkw, hlk, hnm, hrf, hrl⟩ := F
        have hw := List.all_eq_true.mp xk_mth _ (xlook hm)
        have hpre : ∀ U : State, U.heap = H → s.WarmedH U.vm → xPc base ex D cA H00 X Z as S (as.map (xtv base ex)).toArray U := fun U hU hW => ⟨rfl, by rw [hU]; exact hH, xkw_warm hz hW hkw⟩
        have hbl : FrameBlind (xPc base ex D cA H00 X Z as S) := fun a U g mk q => ⟨q.1, q.2.1, xkw_blind hz q.2.2⟩
        have hroomR : xrf j + 1 ≤ R.frames ∧ 8 + (xml j + 11) + xrl j ≤ R.locals := ⟨by omega, by omega⟩
        have hfit : cells + (o1.2.1.length - S.1.length) ≤ R.cells ∧ slots + (xsz o1.2.1 - xsz S.1) ≤ R.slots := ⟨by omega, by omega⟩
        have hsz := hA.1
        have hgo : va_Run p l e R s m args below meth c H locs cells slots (o1.2.1.length - S.1.length) (xsz o1.2.1 - xsz S.1) (F0 m pc arr (st.map (xtv base ex))) (r.map (xtv base ex)) (xQc base ex D cA H00 o1 (as.map (xtv base ex)).toArray) (fun q => base ≤ q) := by
          rcases hcase with ⟨hk, hd, est, hlen⟩ | ⟨rfl, hd, k, as', rfl, est, hlen, hobj⟩ | ⟨hk, hd, k, as', rfl, est, hlen⟩
          · have hstk : (F0 m pc arr (st.map (xtv base ex))).stack = (as.map (xtv base ex)).reverse ++ r.map (xtv base ex) := by
              show st.map (xtv base ex) = _
              rw [est, List.map_append, List.map_reverse]
            rcases hk with rfl | rfl
            · simp only [xkm, Bool.and_eq_true, decide_eq_true_eq] at hw
              obtain ⟨⟨⟨⟨w1, w2⟩, w3⟩, w4⟩, w5⟩ := hw
              obtain ⟨hcls, hpl, h14⟩ := xk_own w5
              obtain ⟨i1, i2, i3⟩ := xk_init h14
              exact va_runS (n := nn) (As := as.map (xtv base ex)) ⟨hx, hb, hml, hown, hts⟩ (xmet hz IH w4 w5 hsl h1) ⟨callB_of nn hts (xGI w4 w5) rfl rfl rfl (by rw [hcls]; exact hts _ i1) (hts _ (xw_in w1)) ⟨by rw [hcls]; exact i2, by rw [hcls]; exact i3, w3⟩ hroomR, hts _ (xw_in w2)⟩ ⟨hbl, hpre⟩ rfl (by simp [hlen]) hsz hstk (lv_room (by rw [xcats]; exact h8)) hd hfit
            · simp only [xkm, Bool.and_eq_true, decide_eq_true_eq] at hw
              obtain ⟨⟨⟨⟨w1, w2⟩, w3⟩, w4⟩, w5⟩ := hw
              obtain ⟨hcls, hpl, h14⟩ := xk_own w5
              obtain ⟨i1, i2, i3⟩ := xk_init h14
              exact va_runSN (n := nn) (As := as.map (xtv base ex)) ⟨hx, hb, hml, hown, hts⟩ (xmet hz IH w4 w5 hsl h1) ⟨va_cnB nn hts (xGI w4 w5) rfl rfl rfl (hkw.2.1 _ (xwN_in w1)) (by rw [hcls]; exact hts _ i1) ⟨by rw [hcls]; exact i2, by rw [hcls]; exact i3, w3⟩ hroomR, hts _ (xw_in w2), trivial⟩ ⟨hbl, hpre⟩ rfl (by simp [hlen]) hsz hstk (lv_room (by rw [xcats]; exact h8)) hd hfit
          · have hstk : (F0 m pc arr (st.map (xtv base ex))).stack = (as'.map (xtv base ex)).reverse ++ .ref (base + k) :: r.map (xtv base ex) := by
              show st.map (xtv base ex) = _
              rw [est, List.map_append, List.map_reverse]
              rfl
            simp only [xkm, Bool.and_eq_true, decide_eq_true_eq] at hw
            obtain ⟨⟨⟨⟨⟨w1, w2⟩, w3⟩, w4⟩, w5⟩, w6⟩ := hw
            obtain ⟨hcls, hpl, h14⟩ := xk_own w6
            obtain ⟨i1, i2, i3⟩ := xk_init h14
            have hrecv : ∃ cellB : Cell, H[base + k]? = some cellB ∧ cellB.vm.isStatics = false ∧ s.vm.findClass (xnm (xown j)) = some cellB.cls := by
              cases hSk : S.1[k]? with
              | none => rw [hSk] at hobj; cases hobj
              | some q =>
                obtain ⟨t, n0, vs⟩ := q
                rw [hSk] at hobj
                have ht : t = xown j + 3 := Option.some.inj hobj
                obtain ⟨C, T, hC, -, cell, q1, q2, q3, -⟩ := (hH.2.1 k t n0 vs hSk).2.2.2 (xown j) ht
                refine ⟨cell, q1, by rw [q3]; rfl, ?_⟩
                rw [q2, ← (xk_clw hC).1]
                exact (hkw.1.1 _ _ hC).2.1
            exact va_runV (n := nn) (C := xnm (xown j)) (As := as'.map (xtv base ex)) ⟨hx, hb, hml, hown, hts⟩ (xmet hz IH w5 w6 hsl h1) ⟨callB_of nn hts (xGI w5 w6) rfl rfl rfl (by rw [hcls]; exact hts _ i1) (hts _ (xw_in w1)) ⟨by rw [hcls]; exact i2, by rw [hcls]; exact i3, w4⟩ hroomR, hts _ (xw_in w2), hts _ (xw_in w3)⟩ ⟨hbl, hrecv, hpre⟩ rfl (by simp [hlen]) hsz hstk (lv_room (by rw [xcats]; exact h8)) hd hfit
          · have hstk : (F0 m pc arr (st.map (xtv base ex))).stack = (as'.map (xtv base ex)).reverse ++ .ref (base + k) :: r.map (xtv base ex) := by
              show st.map (xtv base ex) = _
              rw [est, List.map_append, List.map_reverse]
              rfl
            rcases hk with rfl | rfl
            · simp only [xkm, Bool.and_eq_true, decide_eq_true_eq] at hw
              obtain ⟨⟨⟨⟨⟨⟨w1, w2⟩, w3⟩, w3b⟩, w4⟩, w5⟩, w6⟩ := hw
              obtain ⟨hcls, hpl, h14⟩ := xk_own w6
              obtain ⟨i1, i2, i3⟩ := xk_init h14
              exact va_runI (n := nn) (As := as'.map (xtv base ex)) ⟨hx, hb, hml, hown, hts⟩ (xmet hz IH w5 w6 hsl h1) ⟨callB_of nn hts (xGI w5 w6) (by rw [w3b]) rfl rfl (by rw [hcls]; exact hts _ i1) (hts _ (xw_in w1)) ⟨by rw [hcls]; exact i2, by rw [hcls]; exact i3, w4⟩ hroomR, w3, hts _ (xw_in w2)⟩ ⟨hbl, hpre⟩ rfl (by simp [hlen]) hsz hstk (lv_room (by rw [xcats]; exact h8)) hd hfit
            · simp only [xkm, Bool.and_eq_true, decide_eq_true_eq] at hw
              obtain ⟨⟨⟨⟨⟨⟨w1, w2⟩, w3⟩, w3b⟩, w4⟩, w5⟩, w6⟩ := hw
              obtain ⟨hcls, hpl, h14⟩ := xk_own w6
              obtain ⟨i1, i2, i3⟩ := xk_init h14
              exact va_runIN (n := nn) (As := as'.map (xtv base ex)) ⟨hx, hb, hml, hown, hts⟩ (xmet hz IH w5 w6 hsl h1) ⟨va_cnB nn hts (xGI w5 w6) (by rw [w3b]) rfl rfl (hkw.2.1 _ (xwN_in w1)) (by rw [hcls]; exact hts _ i1) ⟨by rw [hcls]; exact i2, by rw [hcls]; exact i3, w4⟩ hroomR, w3, hts _ (xw_in w2)⟩ ⟨hbl, hpre⟩ rfl (by simp [hlen]) hsz hstk (lv_room (by rw [xcats]; exact h8)) hd hfit
        refine xcont hgo hL fun H1 locs1 hH1 hL1 => ?_
        have e1 : cells + (o1.2.1.length - S.1.length) + (o.2.1.length - o1.2.1.length) = cells + (o.2.1.length - S.1.length) := xadd3 m1.1 m2.1
        have e2 : slots + (xsz o1.2.1 - xsz S.1) + (xsz o.2.1 - xsz o1.2.1) = slots + (xsz o.2.1 - xsz S.1) := xadd3 m1.2 m2.2
        have e3 : (o1.1.map (xtv base ex)).toList ++ r.map (xtv base ex) = (o1.1.toList ++ r).map (xtv base ex) := by cases o1.1 <;> rfl
        rw [e3]
        exact IH id (pc + 3, ls, o1.1.toList ++ r, o1.2) o h2 p e R s m args below meth c H1 locs1 _ _ Q arr F' hH1 hL1 hA (by dsimp only; omega) (by dsimp only; omega) (by dsimp only; rw [e1, e2]; exact hret)
      · cases h1
end XU
end
section
theorem w0 : xown 0 = 11 ∧ xml 0 = 4 ∧ xret 0 = (some .boolean) := by decide +kernel
theorem wo0 : xown 0 = 11 := w0.1
theorem wm0 : xml 0 = 4 := w0.2.1
theorem wr0 : xret 0 = (some .boolean) := w0.2.2
theorem w1 : xown 1 = 0 ∧ xml 1 = 2 ∧ xret 1 = none := by decide +kernel
theorem wo1 : xown 1 = 0 := w1.1
theorem wm1 : xml 1 = 2 := w1.2.1
theorem wr1 : xret 1 = none := w1.2.2
theorem wi1 : (xy 1).name = "<init>" := by decide +kernel
theorem w2 : xown 2 = 0 ∧ xml 2 = 2 ∧ xret 2 = none := by decide +kernel
theorem wo2 : xown 2 = 0 := w2.1
theorem wm2 : xml 2 = 2 := w2.2.1
theorem wr2 : xret 2 = none := w2.2.2
theorem w3 : xown 3 = 0 ∧ xml 3 = 8 ∧ xret 3 = (some .boolean) := by decide +kernel
theorem wo3 : xown 3 = 0 := w3.1
theorem wm3 : xml 3 = 8 := w3.2.1
theorem wr3 : xret 3 = (some .boolean) := w3.2.2
theorem w4 : xown 4 = 0 ∧ xml 4 = 2 ∧ xret 4 = (some .int) := by decide +kernel
theorem wo4 : xown 4 = 0 := w4.1
theorem wm4 : xml 4 = 2 := w4.2.1
theorem wr4 : xret 4 = (some .int) := w4.2.2
theorem w5 : xown 5 = 0 ∧ xml 5 = 2 ∧ xret 5 = (some .int) := by decide +kernel
theorem wo5 : xown 5 = 0 := w5.1
theorem wm5 : xml 5 = 2 := w5.2.1
theorem wr5 : xret 5 = (some .int) := w5.2.2
theorem w6 : xown 6 = 0 ∧ xml 6 = 3 ∧ xret 6 = (some .int) := by decide +kernel
theorem wo6 : xown 6 = 0 := w6.1
theorem wm6 : xml 6 = 3 := w6.2.1
theorem wr6 : xret 6 = (some .int) := w6.2.2
theorem w7 : xown 7 = 0 ∧ xml 7 = 6 ∧ xret 7 = (some .int) := by decide +kernel
theorem wo7 : xown 7 = 0 := w7.1
theorem wm7 : xml 7 = 6 := w7.2.1
theorem wr7 : xret 7 = (some .int) := w7.2.2
theorem w8 : xown 8 = 0 ∧ xml 8 = 4 ∧ xret 8 = none := by decide +kernel
theorem wo8 : xown 8 = 0 := w8.1
theorem wm8 : xml 8 = 4 := w8.2.1
theorem wr8 : xret 8 = none := w8.2.2
theorem w9 : xown 9 = 0 ∧ xml 9 = 2 ∧ xret 9 = (some .int) := by decide +kernel
theorem wo9 : xown 9 = 0 := w9.1
theorem wm9 : xml 9 = 2 := w9.2.1
theorem wr9 : xret 9 = (some .int) := w9.2.2
theorem w10 : xown 10 = 0 ∧ xml 10 = 2 ∧ xret 10 = (some .boolean) := by decide +kernel
theorem wo10 : xown 10 = 0 := w10.1
theorem wm10 : xml 10 = 2 := w10.2.1
theorem wr10 : xret 10 = (some .boolean) := w10.2.2
theorem w11 : xown 11 = 0 ∧ xml 11 = 2 ∧ xret 11 = (some .int) := by decide +kernel
theorem wo11 : xown 11 = 0 := w11.1
theorem wm11 : xml 11 = 2 := w11.2.1
theorem wr11 : xret 11 = (some .int) := w11.2.2
theorem w12 : xown 12 = 0 ∧ xml 12 = 2 ∧ xret 12 = (some .int) := by decide +kernel
theorem wo12 : xown 12 = 0 := w12.1
theorem wm12 : xml 12 = 2 := w12.2.1
theorem wr12 : xret 12 = (some .int) := w12.2.2
theorem w13 : xown 13 = 0 ∧ xml 13 = 5 ∧ xret 13 = none := by decide +kernel
theorem wo13 : xown 13 = 0 := w13.1
theorem wm13 : xml 13 = 5 := w13.2.1
theorem wr13 : xret 13 = none := w13.2.2
theorem w14 : xown 14 = 0 ∧ xml 14 = 2 ∧ xret 14 = none := by decide +kernel
theorem wo14 : xown 14 = 0 := w14.1
theorem wm14 : xml 14 = 2 := w14.2.1
theorem wr14 : xret 14 = none := w14.2.2
theorem w15 : xown 15 = 0 ∧ xml 15 = 1 ∧ xret 15 = (some (.object "KineticCup$Tally")) := by decide +kernel
theorem wo15 : xown 15 = 0 := w15.1
theorem wm15 : xml 15 = 1 := w15.2.1
theorem wr15 : xret 15 = (some (.object "KineticCup$Tally")) := w15.2.2
theorem w16 : xown 16 = 0 ∧ xml 16 = 4 ∧ xret 16 = (some .int) := by decide +kernel
theorem wo16 : xown 16 = 0 := w16.1
theorem wm16 : xml 16 = 4 := w16.2.1
theorem wr16 : xret 16 = (some .int) := w16.2.2
theorem w17 : xown 17 = 0 ∧ xml 17 = 4 ∧ xret 17 = (some .int) := by decide +kernel
theorem wo17 : xown 17 = 0 := w17.1
theorem wm17 : xml 17 = 4 := w17.2.1
theorem wr17 : xret 17 = (some .int) := w17.2.2
theorem w18 : xown 18 = 0 ∧ xml 18 = 4 ∧ xret 18 = (some .int) := by decide +kernel
theorem wo18 : xown 18 = 0 := w18.1
theorem wm18 : xml 18 = 4 := w18.2.1
theorem wr18 : xret 18 = (some .int) := w18.2.2
theorem w19 : xown 19 = 0 ∧ xml 19 = 2 ∧ xret 19 = (some .int) := by decide +kernel
theorem wo19 : xown 19 = 0 := w19.1
theorem wm19 : xml 19 = 2 := w19.2.1
theorem wr19 : xret 19 = (some .int) := w19.2.2
theorem w20 : xown 20 = 0 ∧ xml 20 = 8 ∧ xret 20 = none := by decide +kernel
theorem wo20 : xown 20 = 0 := w20.1
theorem wm20 : xml 20 = 8 := w20.2.1
theorem wr20 : xret 20 = none := w20.2.2
theorem w21 : xown 21 = 0 ∧ xml 21 = 4 ∧ xret 21 = none := by decide +kernel
theorem wo21 : xown 21 = 0 := w21.1
theorem wm21 : xml 21 = 4 := w21.2.1
theorem wr21 : xret 21 = none := w21.2.2
theorem w22 : xown 22 = 0 ∧ xml 22 = 3 ∧ xret 22 = none := by decide +kernel
theorem wo22 : xown 22 = 0 := w22.1
theorem wm22 : xml 22 = 3 := w22.2.1
theorem wr22 : xret 22 = none := w22.2.2
theorem w23 : xown 23 = 0 ∧ xml 23 = 4 ∧ xret 23 = none := by decide +kernel
theorem wo23 : xown 23 = 0 := w23.1
theorem wm23 : xml 23 = 4 := w23.2.1
theorem wr23 : xret 23 = none := w23.2.2
theorem w24 : xown 24 = 0 ∧ xml 24 = 9 ∧ xret 24 = (some .boolean) := by decide +kernel
theorem wo24 : xown 24 = 0 := w24.1
theorem wm24 : xml 24 = 9 := w24.2.1
theorem wr24 : xret 24 = (some .boolean) := w24.2.2
theorem w25 : xown 25 = 0 ∧ xml 25 = 2 ∧ xret 25 = (some .int) := by decide +kernel
theorem wo25 : xown 25 = 0 := w25.1
theorem wm25 : xml 25 = 2 := w25.2.1
theorem wr25 : xret 25 = (some .int) := w25.2.2
theorem w26 : xown 26 = 0 ∧ xml 26 = 1 ∧ xret 26 = (some .int) := by decide +kernel
theorem wo26 : xown 26 = 0 := w26.1
theorem wm26 : xml 26 = 1 := w26.2.1
theorem wr26 : xret 26 = (some .int) := w26.2.2
theorem w27 : xown 27 = 0 ∧ xml 27 = 5 ∧ xret 27 = (some .int) := by decide +kernel
theorem wo27 : xown 27 = 0 := w27.1
theorem wm27 : xml 27 = 5 := w27.2.1
theorem wr27 : xret 27 = (some .int) := w27.2.2
theorem w28 : xown 28 = 0 ∧ xml 28 = 1 ∧ xret 28 = (some (.object "KineticCup$Queue")) := by decide +kernel
theorem wo28 : xown 28 = 0 := w28.1
theorem wm28 : xml 28 = 1 := w28.2.1
theorem wr28 : xret 28 = (some (.object "KineticCup$Queue")) := w28.2.2
theorem w29 : xown 29 = 0 ∧ xml 29 = 6 ∧ xret 29 = (some .int) := by decide +kernel
theorem wo29 : xown 29 = 0 := w29.1
theorem wm29 : xml 29 = 6 := w29.2.1
theorem wr29 : xret 29 = (some .int) := w29.2.2
theorem w30 : xown 30 = 0 ∧ xml 30 = 10 ∧ xret 30 = (some .int) := by decide +kernel
theorem wo30 : xown 30 = 0 := w30.1
theorem wm30 : xml 30 = 10 := w30.2.1
theorem wr30 : xret 30 = (some .int) := w30.2.2
theorem w31 : xown 31 = 0 ∧ xml 31 = 4 ∧ xret 31 = (some .int) := by decide +kernel
theorem wo31 : xown 31 = 0 := w31.1
theorem wm31 : xml 31 = 4 := w31.2.1
theorem wr31 : xret 31 = (some .int) := w31.2.2
theorem w32 : xown 32 = 1 ∧ xml 32 = 1 ∧ xret 32 = none := by decide +kernel
theorem wo32 : xown 32 = 1 := w32.1
theorem wm32 : xml 32 = 1 := w32.2.1
theorem wr32 : xret 32 = none := w32.2.2
theorem wi32 : (xy 32).name = "<init>" := by decide +kernel
theorem w33 : xown 33 = 1 ∧ xml 33 = 3 ∧ xret 33 = none := by decide +kernel
theorem wo33 : xown 33 = 1 := w33.1
theorem wm33 : xml 33 = 3 := w33.2.1
theorem wr33 : xret 33 = none := w33.2.2
theorem w34 : xown 34 = 1 ∧ xml 34 = 3 ∧ xret 34 = (some .boolean) := by decide +kernel
theorem wo34 : xown 34 = 1 := w34.1
theorem wm34 : xml 34 = 3 := w34.2.1
theorem wr34 : xret 34 = (some .boolean) := w34.2.2
theorem w35 : xown 35 = 2 ∧ xml 35 = 1 ∧ xret 35 = none := by decide +kernel
theorem wo35 : xown 35 = 2 := w35.1
theorem wm35 : xml 35 = 1 := w35.2.1
theorem wr35 : xret 35 = none := w35.2.2
theorem wi35 : (xy 35).name = "<init>" := by decide +kernel
theorem w36 : xown 36 = 2 ∧ xml 36 = 2 ∧ xret 36 = (some .boolean) := by decide +kernel
theorem wo36 : xown 36 = 2 := w36.1
theorem wm36 : xml 36 = 2 := w36.2.1
theorem wr36 : xret 36 = (some .boolean) := w36.2.2
theorem w37 : xown 37 = 2 ∧ xml 37 = 1 ∧ xret 37 = (some .int) := by decide +kernel
theorem wo37 : xown 37 = 2 := w37.1
theorem wm37 : xml 37 = 1 := w37.2.1
theorem wr37 : xret 37 = (some .int) := w37.2.2
theorem w38 : xown 38 = 2 ∧ xml 38 = 1 ∧ xret 38 = none := by decide +kernel
theorem wo38 : xown 38 = 2 := w38.1
theorem wm38 : xml 38 = 1 := w38.2.1
theorem wr38 : xret 38 = none := w38.2.2
theorem w39 : xown 39 = 2 ∧ xml 39 = 4 ∧ xret 39 = (some .int) := by decide +kernel
theorem wo39 : xown 39 = 2 := w39.1
theorem wm39 : xml 39 = 4 := w39.2.1
theorem wr39 : xret 39 = (some .int) := w39.2.2
theorem w40 : xown 40 = 2 ∧ xml 40 = 2 ∧ xret 40 = (some .int) := by decide +kernel
theorem wo40 : xown 40 = 2 := w40.1
theorem wm40 : xml 40 = 2 := w40.2.1
theorem wr40 : xret 40 = (some .int) := w40.2.2
theorem w41 : xown 41 = 2 ∧ xml 41 = 2 ∧ xret 41 = (some .int) := by decide +kernel
theorem wo41 : xown 41 = 2 := w41.1
theorem wm41 : xml 41 = 2 := w41.2.1
theorem wr41 : xret 41 = (some .int) := w41.2.2
theorem w42 : xown 42 = 2 ∧ xml 42 = 2 ∧ xret 42 = (some .boolean) := by decide +kernel
theorem wo42 : xown 42 = 2 := w42.1
theorem wm42 : xml 42 = 2 := w42.2.1
theorem wr42 : xret 42 = (some .boolean) := w42.2.2
theorem w43 : xown 43 = 2 ∧ xml 43 = 2 ∧ xret 43 = (some .int) := by decide +kernel
theorem wo43 : xown 43 = 2 := w43.1
theorem wm43 : xml 43 = 2 := w43.2.1
theorem wr43 : xret 43 = (some .int) := w43.2.2
theorem w44 : xown 44 = 2 ∧ xml 44 = 2 ∧ xret 44 = (some .int) := by decide +kernel
theorem wo44 : xown 44 = 2 := w44.1
theorem wm44 : xml 44 = 2 := w44.2.1
theorem wr44 : xret 44 = (some .int) := w44.2.2
theorem w45 : xown 45 = 2 ∧ xml 45 = 2 ∧ xret 45 = (some .int) := by decide +kernel
theorem wo45 : xown 45 = 2 := w45.1
theorem wm45 : xml 45 = 2 := w45.2.1
theorem wr45 : xret 45 = (some .int) := w45.2.2
theorem w46 : xown 46 = 2 ∧ xml 46 = 2 ∧ xret 46 = (some .int) := by decide +kernel
theorem wo46 : xown 46 = 2 := w46.1
theorem wm46 : xml 46 = 2 := w46.2.1
theorem wr46 : xret 46 = (some .int) := w46.2.2
theorem w47 : xown 47 = 3 ∧ xml 47 = 1 ∧ xret 47 = none := by decide +kernel
theorem wo47 : xown 47 = 3 := w47.1
theorem wm47 : xml 47 = 1 := w47.2.1
theorem wr47 : xret 47 = none := w47.2.2
theorem wi47 : (xy 47).name = "<init>" := by decide +kernel
theorem w48 : xown 48 = 3 ∧ xml 48 = 1 ∧ xret 48 = none := by decide +kernel
theorem wo48 : xown 48 = 3 := w48.1
theorem wm48 : xml 48 = 1 := w48.2.1
theorem wr48 : xret 48 = none := w48.2.2
theorem w49 : xown 49 = 3 ∧ xml 49 = 2 ∧ xret 49 = none := by decide +kernel
theorem wo49 : xown 49 = 3 := w49.1
theorem wm49 : xml 49 = 2 := w49.2.1
theorem wr49 : xret 49 = none := w49.2.2
theorem w50 : xown 50 = 3 ∧ xml 50 = 4 ∧ xret 50 = none := by decide +kernel
theorem wo50 : xown 50 = 3 := w50.1
theorem wm50 : xml 50 = 4 := w50.2.1
theorem wr50 : xret 50 = none := w50.2.2
theorem w51 : xown 51 = 3 ∧ xml 51 = 2 ∧ xret 51 = none := by decide +kernel
theorem wo51 : xown 51 = 3 := w51.1
theorem wm51 : xml 51 = 2 := w51.2.1
theorem wr51 : xret 51 = none := w51.2.2
theorem w52 : xown 52 = 3 ∧ xml 52 = 4 ∧ xret 52 = (some .int) := by decide +kernel
theorem wo52 : xown 52 = 3 := w52.1
theorem wm52 : xml 52 = 4 := w52.2.1
theorem wr52 : xret 52 = (some .int) := w52.2.2
theorem w53 : xown 53 = 3 ∧ xml 53 = 3 ∧ xret 53 = (some .boolean) := by decide +kernel
theorem wo53 : xown 53 = 3 := w53.1
theorem wm53 : xml 53 = 3 := w53.2.1
theorem wr53 : xret 53 = (some .boolean) := w53.2.2
theorem w54 : xown 54 = 3 ∧ xml 54 = 2 ∧ xret 54 = (some .int) := by decide +kernel
theorem wo54 : xown 54 = 3 := w54.1
theorem wm54 : xml 54 = 2 := w54.2.1
theorem wr54 : xret 54 = (some .int) := w54.2.2
theorem w55 : xown 55 = 3 ∧ xml 55 = 2 ∧ xret 55 = (some .boolean) := by decide +kernel
theorem wo55 : xown 55 = 3 := w55.1
theorem wm55 : xml 55 = 2 := w55.2.1
theorem wr55 : xret 55 = (some .boolean) := w55.2.2
theorem w56 : xown 56 = 3 ∧ xml 56 = 5 ∧ xret 56 = (some .boolean) := by decide +kernel
theorem wo56 : xown 56 = 3 := w56.1
theorem wm56 : xml 56 = 5 := w56.2.1
theorem wr56 : xret 56 = (some .boolean) := w56.2.2
theorem w57 : xown 57 = 3 ∧ xml 57 = 2 ∧ xret 57 = (some .int) := by decide +kernel
theorem wo57 : xown 57 = 3 := w57.1
theorem wm57 : xml 57 = 2 := w57.2.1
theorem wr57 : xret 57 = (some .int) := w57.2.2
theorem w58 : xown 58 = 3 ∧ xml 58 = 2 ∧ xret 58 = (some .int) := by decide +kernel
theorem wo58 : xown 58 = 3 := w58.1
theorem wm58 : xml 58 = 2 := w58.2.1
theorem wr58 : xret 58 = (some .int) := w58.2.2
theorem w59 : xown 59 = 3 ∧ xml 59 = 3 ∧ xret 59 = none := by decide +kernel
theorem wo59 : xown 59 = 3 := w59.1
theorem wm59 : xml 59 = 3 := w59.2.1
theorem wr59 : xret 59 = none := w59.2.2
theorem w60 : xown 60 = 3 ∧ xml 60 = 1 ∧ xret 60 = (some .int) := by decide +kernel
theorem wo60 : xown 60 = 3 := w60.1
theorem wm60 : xml 60 = 1 := w60.2.1
theorem wr60 : xret 60 = (some .int) := w60.2.2
theorem w61 : xown 61 = 4 ∧ xml 61 = 1 ∧ xret 61 = none := by decide +kernel
theorem wo61 : xown 61 = 4 := w61.1
theorem wm61 : xml 61 = 1 := w61.2.1
theorem wr61 : xret 61 = none := w61.2.2
theorem wi61 : (xy 61).name = "<init>" := by decide +kernel
theorem w62 : xown 62 = 4 ∧ xml 62 = 7 ∧ xret 62 = (some .boolean) := by decide +kernel
theorem wo62 : xown 62 = 4 := w62.1
theorem wm62 : xml 62 = 7 := w62.2.1
theorem wr62 : xret 62 = (some .boolean) := w62.2.2
theorem w63 : xown 63 = 4 ∧ xml 63 = 2 ∧ xret 63 = none := by decide +kernel
theorem wo63 : xown 63 = 4 := w63.1
theorem wm63 : xml 63 = 2 := w63.2.1
theorem wr63 : xret 63 = none := w63.2.2
theorem w64 : xown 64 = 4 ∧ xml 64 = 1 ∧ xret 64 = (some .int) := by decide +kernel
theorem wo64 : xown 64 = 4 := w64.1
theorem wm64 : xml 64 = 1 := w64.2.1
theorem wr64 : xret 64 = (some .int) := w64.2.2
theorem w65 : xown 65 = 4 ∧ xml 65 = 1 ∧ xret 65 = (some .int) := by decide +kernel
theorem wo65 : xown 65 = 4 := w65.1
theorem wm65 : xml 65 = 1 := w65.2.1
theorem wr65 : xret 65 = (some .int) := w65.2.2
theorem w66 : xown 66 = 4 ∧ xml 66 = 1 ∧ xret 66 = (some (.object "KineticCup$Cup")) := by decide +kernel
theorem wo66 : xown 66 = 4 := w66.1
theorem wm66 : xml 66 = 1 := w66.2.1
theorem wr66 : xret 66 = (some (.object "KineticCup$Cup")) := w66.2.2
theorem w67 : xown 67 = 4 ∧ xml 67 = 1 ∧ xret 67 = (some .int) := by decide +kernel
theorem wo67 : xown 67 = 4 := w67.1
theorem wm67 : xml 67 = 1 := w67.2.1
theorem wr67 : xret 67 = (some .int) := w67.2.2
theorem w68 : xown 68 = 4 ∧ xml 68 = 9 ∧ xret 68 = none := by decide +kernel
theorem wo68 : xown 68 = 4 := w68.1
theorem wm68 : xml 68 = 9 := w68.2.1
theorem wr68 : xret 68 = none := w68.2.2
theorem w69 : xown 69 = 5 ∧ xml 69 = 1 ∧ xret 69 = none := by decide +kernel
theorem wo69 : xown 69 = 5 := w69.1
theorem wm69 : xml 69 = 1 := w69.2.1
theorem wr69 : xret 69 = none := w69.2.2
theorem wi69 : (xy 69).name = "<init>" := by decide +kernel
theorem w70 : xown 70 = 5 ∧ xml 70 = 4 ∧ xret 70 = none := by decide +kernel
theorem wo70 : xown 70 = 5 := w70.1
theorem wm70 : xml 70 = 4 := w70.2.1
theorem wr70 : xret 70 = none := w70.2.2
theorem w71 : xown 71 = 5 ∧ xml 71 = 1 ∧ xret 71 = (some .int) := by decide +kernel
theorem wo71 : xown 71 = 5 := w71.1
theorem wm71 : xml 71 = 1 := w71.2.1
theorem wr71 : xret 71 = (some .int) := w71.2.2
theorem w72 : xown 72 = 5 ∧ xml 72 = 2 ∧ xret 72 = (some .int) := by decide +kernel
theorem wo72 : xown 72 = 5 := w72.1
theorem wm72 : xml 72 = 2 := w72.2.1
theorem wr72 : xret 72 = (some .int) := w72.2.2
theorem w73 : xown 73 = 5 ∧ xml 73 = 5 ∧ xret 73 = none := by decide +kernel
theorem wo73 : xown 73 = 5 := w73.1
theorem wm73 : xml 73 = 5 := w73.2.1
theorem wr73 : xret 73 = none := w73.2.2
theorem w74 : xown 74 = 5 ∧ xml 74 = 7 ∧ xret 74 = none := by decide +kernel
theorem wo74 : xown 74 = 5 := w74.1
theorem wm74 : xml 74 = 7 := w74.2.1
theorem wr74 : xret 74 = none := w74.2.2
theorem w75 : xown 75 = 5 ∧ xml 75 = 1 ∧ xret 75 = (some .int) := by decide +kernel
theorem wo75 : xown 75 = 5 := w75.1
theorem wm75 : xml 75 = 1 := w75.2.1
theorem wr75 : xret 75 = (some .int) := w75.2.2
theorem w76 : xown 76 = 5 ∧ xml 76 = 1 ∧ xret 76 = (some .int) := by decide +kernel
theorem wo76 : xown 76 = 5 := w76.1
theorem wm76 : xml 76 = 1 := w76.2.1
theorem wr76 : xret 76 = (some .int) := w76.2.2
theorem w77 : xown 77 = 6 ∧ xml 77 = 1 ∧ xret 77 = none := by decide +kernel
theorem wo77 : xown 77 = 6 := w77.1
theorem wm77 : xml 77 = 1 := w77.2.1
theorem wr77 : xret 77 = none := w77.2.2
theorem wi77 : (xy 77).name = "<init>" := by decide +kernel
theorem w78 : xown 78 = 6 ∧ xml 78 = 4 ∧ xret 78 = (some .boolean) := by decide +kernel
theorem wo78 : xown 78 = 6 := w78.1
theorem wm78 : xml 78 = 4 := w78.2.1
theorem wr78 : xret 78 = (some .boolean) := w78.2.2
theorem w79 : xown 79 = 6 ∧ xml 79 = 1 ∧ xret 79 = (some .int) := by decide +kernel
theorem wo79 : xown 79 = 6 := w79.1
theorem wm79 : xml 79 = 1 := w79.2.1
theorem wr79 : xret 79 = (some .int) := w79.2.2
theorem w80 : xown 80 = 6 ∧ xml 80 = 1 ∧ xret 80 = none := by decide +kernel
theorem wo80 : xown 80 = 6 := w80.1
theorem wm80 : xml 80 = 1 := w80.2.1
theorem wr80 : xret 80 = none := w80.2.2
theorem w81 : xown 81 = 6 ∧ xml 81 = 4 ∧ xret 81 = (some .boolean) := by decide +kernel
theorem wo81 : xown 81 = 6 := w81.1
theorem wm81 : xml 81 = 4 := w81.2.1
theorem wr81 : xret 81 = (some .boolean) := w81.2.2
theorem w82 : xown 82 = 6 ∧ xml 82 = 2 ∧ xret 82 = none := by decide +kernel
theorem wo82 : xown 82 = 6 := w82.1
theorem wm82 : xml 82 = 2 := w82.2.1
theorem wr82 : xret 82 = none := w82.2.2
theorem w83 : xown 83 = 7 ∧ xml 83 = 1 ∧ xret 83 = none := by decide +kernel
theorem wo83 : xown 83 = 7 := w83.1
theorem wm83 : xml 83 = 1 := w83.2.1
theorem wr83 : xret 83 = none := w83.2.2
theorem wi83 : (xy 83).name = "<init>" := by decide +kernel
theorem w84 : xown 84 = 7 ∧ xml 84 = 1 ∧ xret 84 = none := by decide +kernel
theorem wo84 : xown 84 = 7 := w84.1
theorem wm84 : xml 84 = 1 := w84.2.1
theorem wr84 : xret 84 = none := w84.2.2
theorem w85 : xown 85 = 7 ∧ xml 85 = 4 ∧ xret 85 = none := by decide +kernel
theorem wo85 : xown 85 = 7 := w85.1
theorem wm85 : xml 85 = 4 := w85.2.1
theorem wr85 : xret 85 = none := w85.2.2
theorem w86 : xown 86 = 8 ∧ xml 86 = 2 ∧ xret 86 = none := by decide +kernel
theorem wo86 : xown 86 = 8 := w86.1
theorem wm86 : xml 86 = 2 := w86.2.1
theorem wr86 : xret 86 = none := w86.2.2
theorem wi86 : (xy 86).name = "<init>" := by decide +kernel
theorem w87 : xown 87 = 8 ∧ xml 87 = 1 ∧ xret 87 = (some .boolean) := by decide +kernel
theorem wo87 : xown 87 = 8 := w87.1
theorem wm87 : xml 87 = 1 := w87.2.1
theorem wr87 : xret 87 = (some .boolean) := w87.2.2
theorem w88 : xown 88 = 8 ∧ xml 88 = 1 ∧ xret 88 = (some .boolean) := by decide +kernel
theorem wo88 : xown 88 = 8 := w88.1
theorem wm88 : xml 88 = 1 := w88.2.1
theorem wr88 : xret 88 = (some .boolean) := w88.2.2
theorem w89 : xown 89 = 8 ∧ xml 89 = 6 ∧ xret 89 = (some .int) := by decide +kernel
theorem wo89 : xown 89 = 8 := w89.1
theorem wm89 : xml 89 = 6 := w89.2.1
theorem wr89 : xret 89 = (some .int) := w89.2.2
theorem w90 : xown 90 = 8 ∧ xml 90 = 2 ∧ xret 90 = (some .boolean) := by decide +kernel
theorem wo90 : xown 90 = 8 := w90.1
theorem wm90 : xml 90 = 2 := w90.2.1
theorem wr90 : xret 90 = (some .boolean) := w90.2.2
theorem w91 : xown 91 = 8 ∧ xml 91 = 2 ∧ xret 91 = (some .int) := by decide +kernel
theorem wo91 : xown 91 = 8 := w91.1
theorem wm91 : xml 91 = 2 := w91.2.1
theorem wr91 : xret 91 = (some .int) := w91.2.2
theorem w92 : xown 92 = 8 ∧ xml 92 = 2 ∧ xret 92 = (some .int) := by decide +kernel
theorem wo92 : xown 92 = 8 := w92.1
theorem wm92 : xml 92 = 2 := w92.2.1
theorem wr92 : xret 92 = (some .int) := w92.2.2
theorem w93 : xown 93 = 8 ∧ xml 93 = 1 ∧ xret 93 = (some .int) := by decide +kernel
theorem wo93 : xown 93 = 8 := w93.1
theorem wm93 : xml 93 = 1 := w93.2.1
theorem wr93 : xret 93 = (some .int) := w93.2.2
theorem w94 : xown 94 = 8 ∧ xml 94 = 2 ∧ xret 94 = (some .int) := by decide +kernel
theorem wo94 : xown 94 = 8 := w94.1
theorem wm94 : xml 94 = 2 := w94.2.1
theorem wr94 : xret 94 = (some .int) := w94.2.2
theorem w95 : xown 95 = 8 ∧ xml 95 = 1 ∧ xret 95 = (some .int) := by decide +kernel
theorem wo95 : xown 95 = 8 := w95.1
theorem wm95 : xml 95 = 1 := w95.2.1
theorem wr95 : xret 95 = (some .int) := w95.2.2
theorem w96 : xown 96 = 8 ∧ xml 96 = 4 ∧ xret 96 = (some .int) := by decide +kernel
theorem wo96 : xown 96 = 8 := w96.1
theorem wm96 : xml 96 = 4 := w96.2.1
theorem wr96 : xret 96 = (some .int) := w96.2.2
theorem w97 : xown 97 = 8 ∧ xml 97 = 2 ∧ xret 97 = (some .int) := by decide +kernel
theorem wo97 : xown 97 = 8 := w97.1
theorem wm97 : xml 97 = 2 := w97.2.1
theorem wr97 : xret 97 = (some .int) := w97.2.2
theorem w98 : xown 98 = 8 ∧ xml 98 = 4 ∧ xret 98 = (some .int) := by decide +kernel
theorem wo98 : xown 98 = 8 := w98.1
theorem wm98 : xml 98 = 4 := w98.2.1
theorem wr98 : xret 98 = (some .int) := w98.2.2
theorem w99 : xown 99 = 8 ∧ xml 99 = 3 ∧ xret 99 = (some .int) := by decide +kernel
theorem wo99 : xown 99 = 8 := w99.1
theorem wm99 : xml 99 = 3 := w99.2.1
theorem wr99 : xret 99 = (some .int) := w99.2.2
theorem w100 : xown 100 = 8 ∧ xml 100 = 2 ∧ xret 100 = (some .boolean) := by decide +kernel
theorem wo100 : xown 100 = 8 := w100.1
theorem wm100 : xml 100 = 2 := w100.2.1
theorem wr100 : xret 100 = (some .boolean) := w100.2.2
theorem w101 : xown 101 = 8 ∧ xml 101 = 4 ∧ xret 101 = (some .long) := by decide +kernel
theorem wo101 : xown 101 = 8 := w101.1
theorem wm101 : xml 101 = 4 := w101.2.1
theorem wr101 : xret 101 = (some .long) := w101.2.2
theorem w102 : xown 102 = 8 ∧ xml 102 = 1 ∧ xret 102 = (some .boolean) := by decide +kernel
theorem wo102 : xown 102 = 8 := w102.1
theorem wm102 : xml 102 = 1 := w102.2.1
theorem wr102 : xret 102 = (some .boolean) := w102.2.2
theorem w103 : xown 103 = 8 ∧ xml 103 = 7 ∧ xret 103 = (some .long) := by decide +kernel
theorem wo103 : xown 103 = 8 := w103.1
theorem wm103 : xml 103 = 7 := w103.2.1
theorem wr103 : xret 103 = (some .long) := w103.2.2
theorem w104 : xown 104 = 8 ∧ xml 104 = 2 ∧ xret 104 = (some .int) := by decide +kernel
theorem wo104 : xown 104 = 8 := w104.1
theorem wm104 : xml 104 = 2 := w104.2.1
theorem wr104 : xret 104 = (some .int) := w104.2.2
theorem w105 : xown 105 = 8 ∧ xml 105 = 3 ∧ xret 105 = (some .int) := by decide +kernel
theorem wo105 : xown 105 = 8 := w105.1
theorem wm105 : xml 105 = 3 := w105.2.1
theorem wr105 : xret 105 = (some .int) := w105.2.2
theorem w106 : xown 106 = 8 ∧ xml 106 = 5 ∧ xret 106 = (some .long) := by decide +kernel
theorem wo106 : xown 106 = 8 := w106.1
theorem wm106 : xml 106 = 5 := w106.2.1
theorem wr106 : xret 106 = (some .long) := w106.2.2
theorem w107 : xown 107 = 8 ∧ xml 107 = 6 ∧ xret 107 = (some .long) := by decide +kernel
theorem wo107 : xown 107 = 8 := w107.1
theorem wm107 : xml 107 = 6 := w107.2.1
theorem wr107 : xret 107 = (some .long) := w107.2.2
theorem w108 : xown 108 = 8 ∧ xml 108 = 9 ∧ xret 108 = (some .long) := by decide +kernel
theorem wo108 : xown 108 = 8 := w108.1
theorem wm108 : xml 108 = 9 := w108.2.1
theorem wr108 : xret 108 = (some .long) := w108.2.2
theorem w109 : xown 109 = 8 ∧ xml 109 = 4 ∧ xret 109 = (some .int) := by decide +kernel
theorem wo109 : xown 109 = 8 := w109.1
theorem wm109 : xml 109 = 4 := w109.2.1
theorem wr109 : xret 109 = (some .int) := w109.2.2
theorem w110 : xown 110 = 8 ∧ xml 110 = 2 ∧ xret 110 = (some .int) := by decide +kernel
theorem wo110 : xown 110 = 8 := w110.1
theorem wm110 : xml 110 = 2 := w110.2.1
theorem wr110 : xret 110 = (some .int) := w110.2.2
theorem w111 : xown 111 = 8 ∧ xml 111 = 2 ∧ xret 111 = (some .int) := by decide +kernel
theorem wo111 : xown 111 = 8 := w111.1
theorem wm111 : xml 111 = 2 := w111.2.1
theorem wr111 : xret 111 = (some .int) := w111.2.2
theorem w112 : xown 112 = 8 ∧ xml 112 = 2 ∧ xret 112 = (some .int) := by decide +kernel
theorem wo112 : xown 112 = 8 := w112.1
theorem wm112 : xml 112 = 2 := w112.2.1
theorem wr112 : xret 112 = (some .int) := w112.2.2
theorem w113 : xown 113 = 8 ∧ xml 113 = 6 ∧ xret 113 = (some .long) := by decide +kernel
theorem wo113 : xown 113 = 8 := w113.1
theorem wm113 : xml 113 = 6 := w113.2.1
theorem wr113 : xret 113 = (some .long) := w113.2.2
theorem w114 : xown 114 = 8 ∧ xml 114 = 5 ∧ xret 114 = (some .int) := by decide +kernel
theorem wo114 : xown 114 = 8 := w114.1
theorem wm114 : xml 114 = 5 := w114.2.1
theorem wr114 : xret 114 = (some .int) := w114.2.2
theorem w115 : xown 115 = 8 ∧ xml 115 = 2 ∧ xret 115 = (some .int) := by decide +kernel
theorem wo115 : xown 115 = 8 := w115.1
theorem wm115 : xml 115 = 2 := w115.2.1
theorem wr115 : xret 115 = (some .int) := w115.2.2
theorem w116 : xown 116 = 8 ∧ xml 116 = 2 ∧ xret 116 = (some .int) := by decide +kernel
theorem wo116 : xown 116 = 8 := w116.1
theorem wm116 : xml 116 = 2 := w116.2.1
theorem wr116 : xret 116 = (some .int) := w116.2.2
theorem w117 : xown 117 = 8 ∧ xml 117 = 2 ∧ xret 117 = (some .int) := by decide +kernel
theorem wo117 : xown 117 = 8 := w117.1
theorem wm117 : xml 117 = 2 := w117.2.1
theorem wr117 : xret 117 = (some .int) := w117.2.2
theorem w118 : xown 118 = 8 ∧ xml 118 = 2 ∧ xret 118 = (some .int) := by decide +kernel
theorem wo118 : xown 118 = 8 := w118.1
theorem wm118 : xml 118 = 2 := w118.2.1
theorem wr118 : xret 118 = (some .int) := w118.2.2
theorem w119 : xown 119 = 8 ∧ xml 119 = 3 ∧ xret 119 = (some .int) := by decide +kernel
theorem wo119 : xown 119 = 8 := w119.1
theorem wm119 : xml 119 = 3 := w119.2.1
theorem wr119 : xret 119 = (some .int) := w119.2.2
theorem w120 : xown 120 = 9 ∧ xml 120 = 2 ∧ xret 120 = none := by decide +kernel
theorem wo120 : xown 120 = 9 := w120.1
theorem wm120 : xml 120 = 2 := w120.2.1
theorem wr120 : xret 120 = none := w120.2.2
theorem wi120 : (xy 120).name = "<init>" := by decide +kernel
theorem w121 : xown 121 = 9 ∧ xml 121 = 2 ∧ xret 121 = none := by decide +kernel
theorem wo121 : xown 121 = 9 := w121.1
theorem wm121 : xml 121 = 2 := w121.2.1
theorem wr121 : xret 121 = none := w121.2.2
theorem w122 : xown 122 = 9 ∧ xml 122 = 3 ∧ xret 122 = (some .int) := by decide +kernel
theorem wo122 : xown 122 = 9 := w122.1
theorem wm122 : xml 122 = 3 := w122.2.1
theorem wr122 : xret 122 = (some .int) := w122.2.2
theorem w123 : xown 123 = 9 ∧ xml 123 = 3 ∧ xret 123 = (some .int) := by decide +kernel
theorem wo123 : xown 123 = 9 := w123.1
theorem wm123 : xml 123 = 3 := w123.2.1
theorem wr123 : xret 123 = (some .int) := w123.2.2
theorem w124 : xown 124 = 9 ∧ xml 124 = 5 ∧ xret 124 = (some .int) := by decide +kernel
theorem wo124 : xown 124 = 9 := w124.1
theorem wm124 : xml 124 = 5 := w124.2.1
theorem wr124 : xret 124 = (some .int) := w124.2.2
theorem w125 : xown 125 = 9 ∧ xml 125 = 6 ∧ xret 125 = (some .boolean) := by decide +kernel
theorem wo125 : xown 125 = 9 := w125.1
theorem wm125 : xml 125 = 6 := w125.2.1
theorem wr125 : xret 125 = (some .boolean) := w125.2.2
theorem w126 : xown 126 = 9 ∧ xml 126 = 8 ∧ xret 126 = none := by decide +kernel
theorem wo126 : xown 126 = 9 := w126.1
theorem wm126 : xml 126 = 8 := w126.2.1
theorem wr126 : xret 126 = none := w126.2.2
theorem w127 : xown 127 = 9 ∧ xml 127 = 2 ∧ xret 127 = none := by decide +kernel
theorem wo127 : xown 127 = 9 := w127.1
theorem wm127 : xml 127 = 2 := w127.2.1
theorem wr127 : xret 127 = none := w127.2.2
theorem w128 : xown 128 = 9 ∧ xml 128 = 6 ∧ xret 128 = (some .int) := by decide +kernel
theorem wo128 : xown 128 = 9 := w128.1
theorem wm128 : xml 128 = 6 := w128.2.1
theorem wr128 : xret 128 = (some .int) := w128.2.2
theorem w129 : xown 129 = 9 ∧ xml 129 = 1 ∧ xret 129 = (some .boolean) := by decide +kernel
theorem wo129 : xown 129 = 9 := w129.1
theorem wm129 : xml 129 = 1 := w129.2.1
theorem wr129 : xret 129 = (some .boolean) := w129.2.2
theorem w130 : xown 130 = 9 ∧ xml 130 = 3 ∧ xret 130 = (some .boolean) := by decide +kernel
theorem wo130 : xown 130 = 9 := w130.1
theorem wm130 : xml 130 = 3 := w130.2.1
theorem wr130 : xret 130 = (some .boolean) := w130.2.2
theorem w131 : xown 131 = 9 ∧ xml 131 = 2 ∧ xret 131 = none := by decide +kernel
theorem wo131 : xown 131 = 9 := w131.1
theorem wm131 : xml 131 = 2 := w131.2.1
theorem wr131 : xret 131 = none := w131.2.2
theorem w132 : xown 132 = 9 ∧ xml 132 = 2 ∧ xret 132 = (some .int) := by decide +kernel
theorem wo132 : xown 132 = 9 := w132.1
theorem wm132 : xml 132 = 2 := w132.2.1
theorem wr132 : xret 132 = (some .int) := w132.2.2
theorem w133 : xown 133 = 9 ∧ xml 133 = 2 ∧ xret 133 = (some .int) := by decide +kernel
theorem wo133 : xown 133 = 9 := w133.1
theorem wm133 : xml 133 = 2 := w133.2.1
theorem wr133 : xret 133 = (some .int) := w133.2.2
theorem w134 : xown 134 = 9 ∧ xml 134 = 1 ∧ xret 134 = (some .int) := by decide +kernel
theorem wo134 : xown 134 = 9 := w134.1
theorem wm134 : xml 134 = 1 := w134.2.1
theorem wr134 : xret 134 = (some .int) := w134.2.2
theorem w135 : xown 135 = 9 ∧ xml 135 = 3 ∧ xret 135 = (some .int) := by decide +kernel
theorem wo135 : xown 135 = 9 := w135.1
theorem wm135 : xml 135 = 3 := w135.2.1
theorem wr135 : xret 135 = (some .int) := w135.2.2
theorem w136 : xown 136 = 9 ∧ xml 136 = 3 ∧ xret 136 = (some .int) := by decide +kernel
theorem wo136 : xown 136 = 9 := w136.1
theorem wm136 : xml 136 = 3 := w136.2.1
theorem wr136 : xret 136 = (some .int) := w136.2.2
theorem w137 : xown 137 = 9 ∧ xml 137 = 3 ∧ xret 137 = (some .int) := by decide +kernel
theorem wo137 : xown 137 = 9 := w137.1
theorem wm137 : xml 137 = 3 := w137.2.1
theorem wr137 : xret 137 = (some .int) := w137.2.2
theorem w138 : xown 138 = 9 ∧ xml 138 = 2 ∧ xret 138 = (some .int) := by decide +kernel
theorem wo138 : xown 138 = 9 := w138.1
theorem wm138 : xml 138 = 2 := w138.2.1
theorem wr138 : xret 138 = (some .int) := w138.2.2
theorem w139 : xown 139 = 9 ∧ xml 139 = 3 ∧ xret 139 = (some .int) := by decide +kernel
theorem wo139 : xown 139 = 9 := w139.1
theorem wm139 : xml 139 = 3 := w139.2.1
theorem wr139 : xret 139 = (some .int) := w139.2.2
theorem w140 : xown 140 = 9 ∧ xml 140 = 3 ∧ xret 140 = (some .int) := by decide +kernel
theorem wo140 : xown 140 = 9 := w140.1
theorem wm140 : xml 140 = 3 := w140.2.1
theorem wr140 : xret 140 = (some .int) := w140.2.2
theorem w141 : xown 141 = 9 ∧ xml 141 = 6 ∧ xret 141 = (some .int) := by decide +kernel
theorem wo141 : xown 141 = 9 := w141.1
theorem wm141 : xml 141 = 6 := w141.2.1
theorem wr141 : xret 141 = (some .int) := w141.2.2
theorem w142 : xown 142 = 9 ∧ xml 142 = 14 ∧ xret 142 = none := by decide +kernel
theorem wo142 : xown 142 = 9 := w142.1
theorem wm142 : xml 142 = 14 := w142.2.1
theorem wr142 : xret 142 = none := w142.2.2
theorem w143 : xown 143 = 9 ∧ xml 143 = 3 ∧ xret 143 = (some .int) := by decide +kernel
theorem wo143 : xown 143 = 9 := w143.1
theorem wm143 : xml 143 = 3 := w143.2.1
theorem wr143 : xret 143 = (some .int) := w143.2.2
theorem w144 : xown 144 = 9 ∧ xml 144 = 3 ∧ xret 144 = (some .int) := by decide +kernel
theorem wo144 : xown 144 = 9 := w144.1
theorem wm144 : xml 144 = 3 := w144.2.1
theorem wr144 : xret 144 = (some .int) := w144.2.2
theorem w145 : xown 145 = 9 ∧ xml 145 = 5 ∧ xret 145 = (some .int) := by decide +kernel
theorem wo145 : xown 145 = 9 := w145.1
theorem wm145 : xml 145 = 5 := w145.2.1
theorem wr145 : xret 145 = (some .int) := w145.2.2
theorem w146 : xown 146 = 9 ∧ xml 146 = 1 ∧ xret 146 = (some .int) := by decide +kernel
theorem wo146 : xown 146 = 9 := w146.1
theorem wm146 : xml 146 = 1 := w146.2.1
theorem wr146 : xret 146 = (some .int) := w146.2.2
theorem w147 : xown 147 = 9 ∧ xml 147 = 1 ∧ xret 147 = (some .int) := by decide +kernel
theorem wo147 : xown 147 = 9 := w147.1
theorem wm147 : xml 147 = 1 := w147.2.1
theorem wr147 : xret 147 = (some .int) := w147.2.2
theorem w148 : xown 148 = 9 ∧ xml 148 = 3 ∧ xret 148 = (some .int) := by decide +kernel
theorem wo148 : xown 148 = 9 := w148.1
theorem wm148 : xml 148 = 3 := w148.2.1
theorem wr148 : xret 148 = (some .int) := w148.2.2
theorem w149 : xown 149 = 9 ∧ xml 149 = 2 ∧ xret 149 = (some .int) := by decide +kernel
theorem wo149 : xown 149 = 9 := w149.1
theorem wm149 : xml 149 = 2 := w149.2.1
theorem wr149 : xret 149 = (some .int) := w149.2.2
theorem w150 : xown 150 = 9 ∧ xml 150 = 2 ∧ xret 150 = (some .int) := by decide +kernel
theorem wo150 : xown 150 = 9 := w150.1
theorem wm150 : xml 150 = 2 := w150.2.1
theorem wr150 : xret 150 = (some .int) := w150.2.2
theorem w151 : xown 151 = 9 ∧ xml 151 = 3 ∧ xret 151 = (some .int) := by decide +kernel
theorem wo151 : xown 151 = 9 := w151.1
theorem wm151 : xml 151 = 3 := w151.2.1
theorem wr151 : xret 151 = (some .int) := w151.2.2
theorem w152 : xown 152 = 9 ∧ xml 152 = 2 ∧ xret 152 = (some .boolean) := by decide +kernel
theorem wo152 : xown 152 = 9 := w152.1
theorem wm152 : xml 152 = 2 := w152.2.1
theorem wr152 : xret 152 = (some .boolean) := w152.2.2
theorem w153 : xown 153 = 9 ∧ xml 153 = 6 ∧ xret 153 = (some .int) := by decide +kernel
theorem wo153 : xown 153 = 9 := w153.1
theorem wm153 : xml 153 = 6 := w153.2.1
theorem wr153 : xret 153 = (some .int) := w153.2.2
theorem w154 : xown 154 = 9 ∧ xml 154 = 4 ∧ xret 154 = (some .boolean) := by decide +kernel
theorem wo154 : xown 154 = 9 := w154.1
theorem wm154 : xml 154 = 4 := w154.2.1
theorem wr154 : xret 154 = (some .boolean) := w154.2.2
theorem w155 : xown 155 = 9 ∧ xml 155 = 2 ∧ xret 155 = (some .long) := by decide +kernel
theorem wo155 : xown 155 = 9 := w155.1
theorem wm155 : xml 155 = 2 := w155.2.1
theorem wr155 : xret 155 = (some .long) := w155.2.2
theorem w156 : xown 156 = 9 ∧ xml 156 = 3 ∧ xret 156 = (some .int) := by decide +kernel
theorem wo156 : xown 156 = 9 := w156.1
theorem wm156 : xml 156 = 3 := w156.2.1
theorem wr156 : xret 156 = (some .int) := w156.2.2
theorem w157 : xown 157 = 9 ∧ xml 157 = 8 ∧ xret 157 = (some .boolean) := by decide +kernel
theorem wo157 : xown 157 = 9 := w157.1
theorem wm157 : xml 157 = 8 := w157.2.1
theorem wr157 : xret 157 = (some .boolean) := w157.2.2
theorem w158 : xown 158 = 9 ∧ xml 158 = 11 ∧ xret 158 = (some .long) := by decide +kernel
theorem wo158 : xown 158 = 9 := w158.1
theorem wm158 : xml 158 = 11 := w158.2.1
theorem wr158 : xret 158 = (some .long) := w158.2.2
theorem w159 : xown 159 = 9 ∧ xml 159 = 1 ∧ xret 159 = (some .int) := by decide +kernel
theorem wo159 : xown 159 = 9 := w159.1
theorem wm159 : xml 159 = 1 := w159.2.1
theorem wr159 : xret 159 = (some .int) := w159.2.2
theorem w160 : xown 160 = 9 ∧ xml 160 = 6 ∧ xret 160 = (some .int) := by decide +kernel
theorem wo160 : xown 160 = 9 := w160.1
theorem wm160 : xml 160 = 6 := w160.2.1
theorem wr160 : xret 160 = (some .int) := w160.2.2
theorem w161 : xown 161 = 9 ∧ xml 161 = 5 ∧ xret 161 = (some .long) := by decide +kernel
theorem wo161 : xown 161 = 9 := w161.1
theorem wm161 : xml 161 = 5 := w161.2.1
theorem wr161 : xret 161 = (some .long) := w161.2.2
theorem w162 : xown 162 = 9 ∧ xml 162 = 9 ∧ xret 162 = (some .long) := by decide +kernel
theorem wo162 : xown 162 = 9 := w162.1
theorem wm162 : xml 162 = 9 := w162.2.1
theorem wr162 : xret 162 = (some .long) := w162.2.2
theorem w163 : xown 163 = 9 ∧ xml 163 = 13 ∧ xret 163 = (some .long) := by decide +kernel
theorem wo163 : xown 163 = 9 := w163.1
theorem wm163 : xml 163 = 13 := w163.2.1
theorem wr163 : xret 163 = (some .long) := w163.2.2
theorem w164 : xown 164 = 9 ∧ xml 164 = 12 ∧ xret 164 = (some .long) := by decide +kernel
theorem wo164 : xown 164 = 9 := w164.1
theorem wm164 : xml 164 = 12 := w164.2.1
theorem wr164 : xret 164 = (some .long) := w164.2.2
theorem w165 : xown 165 = 9 ∧ xml 165 = 13 ∧ xret 165 = (some .long) := by decide +kernel
theorem wo165 : xown 165 = 9 := w165.1
theorem wm165 : xml 165 = 13 := w165.2.1
theorem wr165 : xret 165 = (some .long) := w165.2.2
theorem w166 : xown 166 = 9 ∧ xml 166 = 3 ∧ xret 166 = (some .int) := by decide +kernel
theorem wo166 : xown 166 = 9 := w166.1
theorem wm166 : xml 166 = 3 := w166.2.1
theorem wr166 : xret 166 = (some .int) := w166.2.2
theorem w167 : xown 167 = 9 ∧ xml 167 = 9 ∧ xret 167 = (some .long) := by decide +kernel
theorem wo167 : xown 167 = 9 := w167.1
theorem wm167 : xml 167 = 9 := w167.2.1
theorem wr167 : xret 167 = (some .long) := w167.2.2
theorem w168 : xown 168 = 9 ∧ xml 168 = 2 ∧ xret 168 = (some .long) := by decide +kernel
theorem wo168 : xown 168 = 9 := w168.1
theorem wm168 : xml 168 = 2 := w168.2.1
theorem wr168 : xret 168 = (some .long) := w168.2.2
theorem w169 : xown 169 = 9 ∧ xml 169 = 9 ∧ xret 169 = (some .long) := by decide +kernel
theorem wo169 : xown 169 = 9 := w169.1
theorem wm169 : xml 169 = 9 := w169.2.1
theorem wr169 : xret 169 = (some .long) := w169.2.2
theorem w170 : xown 170 = 9 ∧ xml 170 = 4 ∧ xret 170 = (some .int) := by decide +kernel
theorem wo170 : xown 170 = 9 := w170.1
theorem wm170 : xml 170 = 4 := w170.2.1
theorem wr170 : xret 170 = (some .int) := w170.2.2
theorem w171 : xown 171 = 9 ∧ xml 171 = 2 ∧ xret 171 = (some .int) := by decide +kernel
theorem wo171 : xown 171 = 9 := w171.1
theorem wm171 : xml 171 = 2 := w171.2.1
theorem wr171 : xret 171 = (some .int) := w171.2.2
theorem w172 : xown 172 = 9 ∧ xml 172 = 4 ∧ xret 172 = (some .int) := by decide +kernel
theorem wo172 : xown 172 = 9 := w172.1
theorem wm172 : xml 172 = 4 := w172.2.1
theorem wr172 : xret 172 = (some .int) := w172.2.2
theorem w173 : xown 173 = 9 ∧ xml 173 = 4 ∧ xret 173 = (some .boolean) := by decide +kernel
theorem wo173 : xown 173 = 9 := w173.1
theorem wm173 : xml 173 = 4 := w173.2.1
theorem wr173 : xret 173 = (some .boolean) := w173.2.2
theorem w174 : xown 174 = 9 ∧ xml 174 = 3 ∧ xret 174 = (some .boolean) := by decide +kernel
theorem wo174 : xown 174 = 9 := w174.1
theorem wm174 : xml 174 = 3 := w174.2.1
theorem wr174 : xret 174 = (some .boolean) := w174.2.2
theorem w175 : xown 175 = 9 ∧ xml 175 = 9 ∧ xret 175 = (some .int) := by decide +kernel
theorem wo175 : xown 175 = 9 := w175.1
theorem wm175 : xml 175 = 9 := w175.2.1
theorem wr175 : xret 175 = (some .int) := w175.2.2
theorem w176 : xown 176 = 9 ∧ xml 176 = 6 ∧ xret 176 = (some .long) := by decide +kernel
theorem wo176 : xown 176 = 9 := w176.1
theorem wm176 : xml 176 = 6 := w176.2.1
theorem wr176 : xret 176 = (some .long) := w176.2.2
theorem w177 : xown 177 = 9 ∧ xml 177 = 7 ∧ xret 177 = (some .int) := by decide +kernel
theorem wo177 : xown 177 = 9 := w177.1
theorem wm177 : xml 177 = 7 := w177.2.1
theorem wr177 : xret 177 = (some .int) := w177.2.2
theorem w178 : xown 178 = 9 ∧ xml 178 = 4 ∧ xret 178 = (some .int) := by decide +kernel
theorem wo178 : xown 178 = 9 := w178.1
theorem wm178 : xml 178 = 4 := w178.2.1
theorem wr178 : xret 178 = (some .int) := w178.2.2
theorem w179 : xown 179 = 9 ∧ xml 179 = 4 ∧ xret 179 = (some .int) := by decide +kernel
theorem wo179 : xown 179 = 9 := w179.1
theorem wm179 : xml 179 = 4 := w179.2.1
theorem wr179 : xret 179 = (some .int) := w179.2.2
theorem w180 : xown 180 = 9 ∧ xml 180 = 4 ∧ xret 180 = (some .int) := by decide +kernel
theorem wo180 : xown 180 = 9 := w180.1
theorem wm180 : xml 180 = 4 := w180.2.1
theorem wr180 : xret 180 = (some .int) := w180.2.2
theorem w181 : xown 181 = 10 ∧ xml 181 = 5 ∧ xret 181 = (some .long) := by decide +kernel
theorem wo181 : xown 181 = 10 := w181.1
theorem wm181 : xml 181 = 5 := w181.2.1
theorem wr181 : xret 181 = (some .long) := w181.2.2
theorem w182 : xown 182 = 10 ∧ xml 182 = 13 ∧ xret 182 = (some .long) := by decide +kernel
theorem wo182 : xown 182 = 10 := w182.1
theorem wm182 : xml 182 = 13 := w182.2.1
theorem wr182 : xret 182 = (some .long) := w182.2.2
theorem w183 : xown 183 = 10 ∧ xml 183 = 6 ∧ xret 183 = (some .int) := by decide +kernel
theorem wo183 : xown 183 = 10 := w183.1
theorem wm183 : xml 183 = 6 := w183.2.1
theorem wr183 : xret 183 = (some .int) := w183.2.2
theorem w184 : xown 184 = 10 ∧ xml 184 = 9 ∧ xret 184 = (some .long) := by decide +kernel
theorem wo184 : xown 184 = 10 := w184.1
theorem wm184 : xml 184 = 9 := w184.2.1
theorem wr184 : xret 184 = (some .long) := w184.2.2
theorem w185 : xown 185 = 10 ∧ xml 185 = 6 ∧ xret 185 = (some .long) := by decide +kernel
theorem wo185 : xown 185 = 10 := w185.1
theorem wm185 : xml 185 = 6 := w185.2.1
theorem wr185 : xret 185 = (some .long) := w185.2.2
theorem w186 : xown 186 = 10 ∧ xml 186 = 11 ∧ xret 186 = (some .long) := by decide +kernel
theorem wo186 : xown 186 = 10 := w186.1
theorem wm186 : xml 186 = 11 := w186.2.1
theorem wr186 : xret 186 = (some .long) := w186.2.2
theorem w187 : xown 187 = 13 ∧ xml 187 = 4 ∧ xret 187 = none := by decide +kernel
theorem wo187 : xown 187 = 13 := w187.1
theorem wm187 : xml 187 = 4 := w187.2.1
theorem wr187 : xret 187 = none := w187.2.2
theorem f0_9 : xfld 0 9 = some (0, 0, false, false, 185) := by decide +kernel
theorem f0_15 : xfld 0 15 = some (0, 1, false, false, 186) := by decide +kernel
theorem f0_18 : xfld 0 18 = some (0, 2, false, false, 187) := by decide +kernel
theorem f0_21 : xfld 0 21 = some (0, 3, false, false, 188) := by decide +kernel
theorem f0_24 : xfld 0 24 = some (0, 4, false, false, 189) := by decide +kernel
theorem f0_28 : xfld 0 28 = some (0, 5, false, false, 190) := by decide +kernel
theorem f0_34 : xfld 0 34 = some (0, 6, false, false, 191) := by decide +kernel
theorem f0_41 : xfld 0 41 = some (0, 7, false, false, 192) := by decide +kernel
theorem f0_45 : xfld 0 45 = some (0, 8, false, true, 193) := by decide +kernel
theorem f1_10 : xfld 1 10 = some (1, 0, false, false, 299) := by decide +kernel
theorem f1_19 : xfld 1 19 = some (1, 1, false, false, 300) := by decide +kernel
theorem f1_23 : xfld 1 23 = some (1, 2, false, true, 301) := by decide +kernel
theorem f2_11 : xfld 2 11 = some (2, 0, false, false, 219) := by decide +kernel
theorem f2_15 : xfld 2 15 = some (2, 1, false, true, 220) := by decide +kernel
theorem f3_11 : xfld 3 11 = some (3, 0, false, false, 84) := by decide +kernel
theorem f3_15 : xfld 3 15 = some (3, 1, false, false, 85) := by decide +kernel
theorem f3_18 : xfld 3 18 = some (3, 2, false, false, 86) := by decide +kernel
theorem f3_21 : xfld 3 21 = some (3, 3, false, false, 87) := by decide +kernel
theorem f3_24 : xfld 3 24 = some (3, 4, false, false, 88) := by decide +kernel
theorem f3_27 : xfld 3 27 = some (3, 5, false, true, 89) := by decide +kernel
theorem f3_31 : xfld 3 31 = some (3, 6, false, true, 90) := by decide +kernel
theorem f4_12 : xfld 4 12 = some (4, 0, false, false, 253) := by decide +kernel
theorem f4_18 : xfld 4 18 = some (4, 1, false, true, 254) := by decide +kernel
theorem f4_22 : xfld 4 22 = some (4, 2, false, true, 255) := by decide +kernel
theorem f4_25 : xfld 4 25 = some (4, 3, false, true, 256) := by decide +kernel
theorem f5_11 : xfld 5 11 = some (5, 0, false, false, 272) := by decide +kernel
theorem f5_17 : xfld 5 17 = some (5, 1, false, false, 273) := by decide +kernel
theorem f5_20 : xfld 5 20 = some (5, 2, false, true, 274) := by decide +kernel
theorem f5_24 : xfld 5 24 = some (5, 3, false, true, 275) := by decide +kernel
theorem f5_27 : xfld 5 27 = some (5, 4, false, true, 276) := by decide +kernel
theorem f6_9 : xfld 6 9 = some (6, 0, false, false, 232) := by decide +kernel
theorem f6_13 : xfld 6 13 = some (6, 1, false, false, 233) := by decide +kernel
theorem f6_16 : xfld 6 16 = some (6, 2, false, false, 234) := by decide +kernel
theorem f6_20 : xfld 6 20 = some (6, 3, false, true, 235) := by decide +kernel
theorem f7_9 : xfld 7 9 = some (7, 0, false, true, 114) := by decide +kernel
theorem f7_15 : xfld 7 15 = some (7, 1, false, true, 116) := by decide +kernel
theorem f7_18 : xfld 7 18 = some (7, 2, false, true, 118) := by decide +kernel
theorem f7_21 : xfld 7 21 = some (7, 3, false, true, 120) := by decide +kernel
theorem f7_24 : xfld 7 24 = some (7, 4, false, true, 122) := by decide +kernel
theorem f8_10 : xfld 8 10 = some (8, 0, false, false, 309) := by decide +kernel
theorem f8_19 : xfld 8 19 = some (8, 1, false, false, 310) := by decide +kernel
theorem f8_26 : xfld 8 26 = some (8, 2, false, false, 311) := by decide +kernel
theorem f8_33 : xfld 8 33 = some (8, 3, false, false, 312) := by decide +kernel
theorem f8_40 : xfld 8 40 = some (8, 4, false, false, 313) := by decide +kernel
theorem f8_46 : xfld 8 46 = some (8, 5, false, false, 314) := by decide +kernel
theorem f8_128 : xfld 8 128 = some (7, 0, true, true, 115) := by decide +kernel
theorem f8_134 : xfld 8 134 = some (7, 1, true, true, 117) := by decide +kernel
theorem f8_137 : xfld 8 137 = some (7, 2, true, true, 119) := by decide +kernel
theorem f8_140 : xfld 8 140 = some (7, 3, true, true, 121) := by decide +kernel
theorem f8_143 : xfld 8 143 = some (7, 4, true, true, 123) := by decide +kernel
theorem f9_7 : xfld 9 7 = some (9, 0, false, false, 860) := by decide +kernel
theorem f9_13 : xfld 9 13 = some (9, 1, false, false, 861) := by decide +kernel
theorem f9_16 : xfld 9 16 = some (9, 3, false, false, 863) := by decide +kernel
theorem f9_19 : xfld 9 19 = some (9, 5, false, false, 865) := by decide +kernel
theorem f9_22 : xfld 9 22 = some (9, 17, false, false, 877) := by decide +kernel
theorem f9_25 : xfld 9 25 = some (9, 18, false, false, 878) := by decide +kernel
theorem f9_28 : xfld 9 28 = some (9, 19, false, false, 879) := by decide +kernel
theorem f9_42 : xfld 9 42 = some (9, 6, false, true, 866) := by decide +kernel
theorem f9_46 : xfld 9 46 = some (9, 7, false, true, 867) := by decide +kernel
theorem f9_49 : xfld 9 49 = some (9, 8, false, true, 868) := by decide +kernel
theorem f9_52 : xfld 9 52 = some (9, 9, false, true, 869) := by decide +kernel
theorem f9_55 : xfld 9 55 = some (9, 10, false, true, 870) := by decide +kernel
theorem f9_85 : xfld 9 85 = some (9, 4, false, true, 864) := by decide +kernel
theorem f9_102 : xfld 9 102 = some (9, 12, false, true, 872) := by decide +kernel
theorem f9_121 : xfld 9 121 = some (9, 11, false, true, 871) := by decide +kernel
theorem f9_141 : xfld 9 141 = some (9, 14, false, true, 874) := by decide +kernel
theorem f9_144 : xfld 9 144 = some (9, 13, false, true, 873) := by decide +kernel
theorem f9_150 : xfld 9 150 = some (9, 16, false, true, 876) := by decide +kernel
theorem f9_153 : xfld 9 153 = some (9, 15, false, true, 875) := by decide +kernel
theorem f9_203 : xfld 9 203 = some (9, 2, false, true, 862) := by decide +kernel
theorem m0_3 : xmth 0 3 = some (6, 0, 0, 77, 70, 0) := by decide +kernel
theorem m0_33 : xmth 0 33 = some (5, 47, 0, 80, 81, 0) := by decide +kernel
theorem m0_40 : xmth 0 40 = some (5, 83, 0, 110, 111, 0) := by decide +kernel
theorem m0_49 : xmth 0 49 = some (1, 2, 0, 135, 137, 0) := by decide +kernel
theorem m0_52 : xmth 0 52 = some (7, 0, 5, 420, 421, 0) := by decide +kernel
theorem m0_58 : xmth 0 58 = some (1, 51, 1, 423, 424, 425) := by decide +kernel
theorem m0_62 : xmth 0 62 = some (3, 88, 1, 169, 170, 0) := by decide +kernel
theorem m0_66 : xmth 0 66 = some (3, 87, 1, 150, 151, 0) := by decide +kernel
theorem m0_69 : xmth 0 69 = some (1, 17, 2, 451, 453, 10) := by decide +kernel
theorem m0_73 : xmth 0 73 = some (1, 18, 2, 458, 460, 11) := by decide +kernel
theorem m0_76 : xmth 0 76 = some (1, 9, 1, 455, 337, 338) := by decide +kernel
theorem m0_80 : xmth 0 80 = some (1, 11, 1, 456, 344, 345) := by decide +kernel
theorem m0_83 : xmth 0 83 = some (0, 10, 2, 457, 341, 0) := by decide +kernel
theorem m0_87 : xmth 0 87 = some (1, 19, 1, 462, 463, 464) := by decide +kernel
theorem m0_90 : xmth 0 90 = some (1, 21, 3, 470, 472, 12) := by decide +kernel
theorem m0_94 : xmth 0 94 = some (1, 24, 2, 482, 484, 15) := by decide +kernel
theorem m0_97 : xmth 0 97 = some (1, 22, 2, 474, 476, 13) := by decide +kernel
theorem m0_101 : xmth 0 101 = some (1, 23, 2, 478, 480, 14) := by decide +kernel
theorem m0_104 : xmth 0 104 = some (1, 48, 0, 139, 140, 141) := by decide +kernel
theorem m0_107 : xmth 0 107 = some (1, 3, 3, 146, 148, 1) := by decide +kernel
theorem m0_111 : xmth 0 111 = some (1, 52, 1, 486, 487, 488) := by decide +kernel
theorem m0_115 : xmth 0 115 = some (1, 54, 1, 514, 495, 496) := by decide +kernel
theorem m0_118 : xmth 0 118 = some (1, 57, 1, 515, 507, 508) := by decide +kernel
theorem m0_121 : xmth 0 121 = some (1, 58, 1, 516, 511, 512) := by decide +kernel
theorem m0_124 : xmth 0 124 = some (1, 53, 1, 517, 491, 492) := by decide +kernel
theorem m0_127 : xmth 0 127 = some (1, 59, 1, 518, 519, 520) := by decide +kernel
theorem m0_131 : xmth 0 131 = some (1, 85, 3, 522, 523, 524) := by decide +kernel
theorem m0_135 : xmth 0 135 = some (1, 4, 1, 153, 155, 2) := by decide +kernel
theorem m0_138 : xmth 0 138 = some (1, 7, 4, 165, 167, 4) := by decide +kernel
theorem m0_142 : xmth 0 142 = some (1, 8, 3, 172, 174, 5) := by decide +kernel
theorem m0_145 : xmth 0 145 = some (1, 5, 1, 157, 158, 159) := by decide +kernel
theorem m0_148 : xmth 0 148 = some (1, 6, 1, 161, 163, 3) := by decide +kernel
theorem m0_151 : xmth 0 151 = some (1, 49, 1, 176, 177, 178) := by decide +kernel
theorem m0_154 : xmth 0 154 = some (1, 50, 3, 181, 182, 183) := by decide +kernel
theorem m0_157 : xmth 0 157 = some (1, 25, 1, 623, 553, 554) := by decide +kernel
theorem m0_160 : xmth 0 160 = some (1, 27, 2, 618, 580, 581) := by decide +kernel
theorem m0_163 : xmth 0 163 = some (1, 30, 3, 619, 621, 18) := by decide +kernel
theorem m1_1 : xmth 1 1 = some (6, 0, 0, 294, 70, 0) := by decide +kernel
theorem m1_9 : xmth 1 9 = some (2, 1, 0, 296, 75, 0) := by decide +kernel
theorem m1_18 : xmth 1 18 = some (5, 77, 0, 298, 229, 0) := by decide +kernel
theorem m1_27 : xmth 1 27 = some (1, 14, 1, 796, 417, 418) := by decide +kernel
theorem m1_31 : xmth 1 31 = some (1, 82, 1, 797, 798, 799) := by decide +kernel
theorem m2_3 : xmth 2 3 = some (6, 0, 0, 218, 70, 0) := by decide +kernel
theorem m2_19 : xmth 2 19 = some (1, 41, 1, 387, 389, 7) := by decide +kernel
theorem m2_23 : xmth 2 23 = some (3, 88, 1, 395, 170, 0) := by decide +kernel
theorem m2_27 : xmth 2 27 = some (1, 40, 1, 383, 385, 6) := by decide +kernel
theorem m2_30 : xmth 2 30 = some (1, 43, 1, 396, 397, 398) := by decide +kernel
theorem m2_33 : xmth 2 33 = some (1, 42, 1, 391, 393, 8) := by decide +kernel
theorem m2_36 : xmth 2 36 = some (1, 44, 1, 400, 401, 402) := by decide +kernel
theorem m3_3 : xmth 3 3 = some (6, 0, 0, 83, 70, 0) := by decide +kernel
theorem m3_34 : xmth 3 34 = some (7, 0, 5, 427, 421, 0) := by decide +kernel
theorem m3_40 : xmth 3 40 = some (0, 187, 2, 143, 144, 0) := by decide +kernel
theorem m3_46 : xmth 3 46 = some (3, 87, 1, 180, 151, 0) := by decide +kernel
theorem m3_50 : xmth 3 50 = some (1, 55, 1, 498, 500, 16) := by decide +kernel
theorem m3_53 : xmth 3 53 = some (1, 54, 1, 494, 495, 496) := by decide +kernel
theorem m3_57 : xmth 3 57 = some (1, 53, 1, 490, 491, 492) := by decide +kernel
theorem m3_60 : xmth 3 60 = some (1, 56, 2, 502, 504, 17) := by decide +kernel
theorem m3_64 : xmth 3 64 = some (1, 57, 1, 506, 507, 508) := by decide +kernel
theorem m3_67 : xmth 3 67 = some (1, 58, 1, 510, 511, 512) := by decide +kernel
theorem m4_3 : xmth 4 3 = some (6, 0, 0, 250, 70, 0) := by decide +kernel
theorem m4_11 : xmth 4 11 = some (2, 1, 0, 252, 75, 0) := by decide +kernel
theorem m4_28 : xmth 4 28 = some (1, 14, 1, 416, 417, 418) := by decide +kernel
theorem m4_32 : xmth 4 32 = some (1, 15, 0, 428, 429, 430) := by decide +kernel
theorem m4_36 : xmth 4 36 = some (1, 84, 0, 432, 433, 434) := by decide +kernel
theorem m4_41 : xmth 4 41 = some (1, 63, 1, 412, 414, 9) := by decide +kernel
theorem m4_44 : xmth 4 44 = some (1, 39, 0, 436, 380, 381) := by decide +kernel
theorem m4_50 : xmth 4 50 = some (1, 37, 0, 437, 364, 365) := by decide +kernel
theorem m4_53 : xmth 4 53 = some (1, 44, 1, 438, 401, 402) := by decide +kernel
theorem m4_57 : xmth 4 57 = some (1, 45, 1, 439, 440, 441) := by decide +kernel
theorem m4_60 : xmth 4 60 = some (1, 46, 1, 443, 444, 445) := by decide +kernel
theorem m4_63 : xmth 4 63 = some (1, 16, 3, 447, 448, 449) := by decide +kernel
theorem m4_67 : xmth 4 67 = some (1, 20, 4, 466, 467, 468) := by decide +kernel
theorem m4_71 : xmth 4 71 = some (1, 43, 1, 526, 397, 398) := by decide +kernel
theorem m4_77 : xmth 4 77 = some (8, 0, 1, 747, 748, 749) := by decide +kernel
theorem m5_5 : xmth 5 5 = some (6, 0, 0, 271, 70, 0) := by decide +kernel
theorem m5_30 : xmth 5 30 = some (1, 81, 2, 694, 695, 696) := by decide +kernel
theorem m5_34 : xmth 5 34 = some (1, 74, 1, 714, 716, 19) := by decide +kernel
theorem m5_38 : xmth 5 38 = some (11, 0, 2, 722, 723, 724) := by decide +kernel
theorem m5_44 : xmth 5 44 = some (0, 187, 2, 718, 144, 0) := by decide +kernel
theorem m5_50 : xmth 5 50 = some (12, 0, 2, 719, 720, 721) := by decide +kernel
theorem m6_1 : xmth 6 1 = some (6, 0, 0, 231, 70, 0) := by decide +kernel
theorem m6_24 : xmth 6 24 = some (7, 0, 5, 801, 421, 0) := by decide +kernel
theorem m7_3 : xmth 7 3 = some (6, 0, 0, 113, 70, 0) := by decide +kernel
theorem m8_1 : xmth 8 1 = some (6, 0, 0, 69, 70, 0) := by decide +kernel
theorem m8_9 : xmth 8 9 = some (2, 1, 0, 74, 75, 0) := by decide +kernel
theorem m8_18 : xmth 8 18 = some (5, 35, 0, 215, 216, 0) := by decide +kernel
theorem m8_25 : xmth 8 25 = some (5, 77, 0, 228, 229, 0) := by decide +kernel
theorem m8_32 : xmth 8 32 = some (5, 61, 0, 247, 248, 0) := by decide +kernel
theorem m8_39 : xmth 8 39 = some (5, 69, 0, 268, 269, 0) := by decide +kernel
theorem m8_50 : xmth 8 50 = some (5, 32, 0, 291, 292, 0) := by decide +kernel
theorem m8_51 : xmth 8 51 = some (0, 88, 1, 332, 170, 0) := by decide +kernel
theorem m8_55 : xmth 8 55 = some (0, 90, 2, 333, 334, 0) := by decide +kernel
theorem m8_59 : xmth 8 59 = some (1, 9, 1, 336, 337, 338) := by decide +kernel
theorem m8_63 : xmth 8 63 = some (0, 10, 2, 340, 341, 0) := by decide +kernel
theorem m8_66 : xmth 8 66 = some (1, 11, 1, 343, 344, 345) := by decide +kernel
theorem m8_69 : xmth 8 69 = some (1, 12, 1, 347, 348, 349) := by decide +kernel
theorem m8_72 : xmth 8 72 = some (1, 13, 4, 351, 352, 353) := by decide +kernel
theorem m8_76 : xmth 8 76 = some (1, 36, 1, 359, 360, 361) := by decide +kernel
theorem m8_79 : xmth 8 79 = some (1, 37, 0, 363, 364, 365) := by decide +kernel
theorem m8_83 : xmth 8 83 = some (1, 38, 0, 371, 372, 373) := by decide +kernel
theorem m8_86 : xmth 8 86 = some (1, 39, 0, 379, 380, 381) := by decide +kernel
theorem m8_89 : xmth 8 89 = some (1, 62, 2, 408, 409, 410) := by decide +kernel
theorem m8_93 : xmth 8 93 = some (1, 64, 0, 527, 528, 529) := by decide +kernel
theorem m8_96 : xmth 8 96 = some (1, 65, 0, 531, 532, 533) := by decide +kernel
theorem m8_99 : xmth 8 99 = some (1, 66, 0, 539, 540, 541) := by decide +kernel
theorem m8_102 : xmth 8 102 = some (1, 14, 1, 543, 417, 418) := by decide +kernel
theorem m8_106 : xmth 8 106 = some (1, 67, 0, 544, 545, 546) := by decide +kernel
theorem m8_109 : xmth 8 109 = some (1, 25, 1, 552, 553, 554) := by decide +kernel
theorem m8_112 : xmth 8 112 = some (1, 19, 1, 556, 463, 464) := by decide +kernel
theorem m8_115 : xmth 8 115 = some (0, 87, 1, 561, 151, 0) := by decide +kernel
theorem m8_118 : xmth 8 118 = some (1, 5, 1, 562, 158, 159) := by decide +kernel
theorem m8_121 : xmth 8 121 = some (1, 15, 0, 567, 429, 430) := by decide +kernel
theorem m8_125 : xmth 8 125 = some (1, 26, 0, 568, 569, 570) := by decide +kernel
theorem m8_146 : xmth 8 146 = some (0, 100, 2, 576, 577, 0) := by decide +kernel
theorem m8_149 : xmth 8 149 = some (1, 27, 2, 579, 580, 581) := by decide +kernel
theorem m8_153 : xmth 8 153 = some (0, 102, 1, 587, 588, 0) := by decide +kernel
theorem m8_158 : xmth 8 158 = some (1, 28, 0, 591, 592, 593) := by decide +kernel
theorem m8_162 : xmth 8 162 = some (1, 52, 1, 595, 487, 488) := by decide +kernel
theorem m8_170 : xmth 8 170 = some (1, 57, 1, 597, 507, 508) := by decide +kernel
theorem m8_173 : xmth 8 173 = some (1, 58, 1, 598, 511, 512) := by decide +kernel
theorem m8_176 : xmth 8 176 = some (0, 103, 3, 599, 600, 0) := by decide +kernel
theorem m8_180 : xmth 8 180 = some (1, 54, 1, 609, 495, 496) := by decide +kernel
theorem m8_183 : xmth 8 183 = some (1, 29, 2, 614, 615, 616) := by decide +kernel
theorem m8_188 : xmth 8 188 = some (1, 31, 3, 629, 630, 631) := by decide +kernel
theorem m8_192 : xmth 8 192 = some (0, 181, 2, 637, 638, 0) := by decide +kernel
theorem m8_198 : xmth 8 198 = some (0, 185, 2, 654, 655, 0) := by decide +kernel
theorem m8_201 : xmth 8 201 = some (0, 186, 2, 658, 659, 0) := by decide +kernel
theorem m8_206 : xmth 8 206 = some (1, 78, 3, 670, 671, 672) := by decide +kernel
theorem m8_209 : xmth 8 209 = some (1, 79, 0, 674, 675, 676) := by decide +kernel
theorem m8_212 : xmth 8 212 = some (1, 80, 0, 682, 683, 684) := by decide +kernel
theorem m8_213 : xmth 8 213 = some (1, 70, 1, 690, 691, 692) := by decide +kernel
theorem m8_217 : xmth 8 217 = some (1, 71, 0, 698, 699, 700) := by decide +kernel
theorem m8_218 : xmth 8 218 = some (1, 72, 1, 702, 703, 704) := by decide +kernel
theorem m8_221 : xmth 8 221 = some (1, 73, 0, 710, 711, 712) := by decide +kernel
theorem m8_224 : xmth 8 224 = some (1, 75, 0, 725, 726, 727) := by decide +kernel
theorem m8_227 : xmth 8 227 = some (1, 76, 0, 729, 730, 731) := by decide +kernel
theorem m8_230 : xmth 8 230 = some (1, 68, 3, 741, 742, 743) := by decide +kernel
theorem m8_234 : xmth 8 234 = some (1, 33, 2, 792, 793, 794) := by decide +kernel
theorem m8_238 : xmth 8 238 = some (1, 34, 2, 806, 807, 808) := by decide +kernel
theorem m8_242 : xmth 8 242 = some (1, 118, 1, 814, 816, 20) := by decide +kernel
theorem m8_245 : xmth 8 245 = some (1, 119, 2, 822, 824, 21) := by decide +kernel
theorem m8_248 : xmth 8 248 = some (1, 60, 0, 818, 819, 820) := by decide +kernel
theorem m8_249 : xmth 8 249 = some (9, 0, 1, 602, 603, 604) := by decide +kernel
theorem m9_1 : xmth 9 1 = some (6, 0, 0, 831, 70, 0) := by decide +kernel
theorem m9_32 : xmth 9 32 = some (1, 121, 0, 832, 834, 22) := by decide +kernel
theorem m9_35 : xmth 9 35 = some (1, 127, 0, 856, 858, 28) := by decide +kernel
theorem m9_38 : xmth 9 38 = some (0, 130, 3, 928, 929, 0) := by decide +kernel
theorem m9_58 : xmth 9 58 = some (1, 125, 4, 848, 850, 26) := by decide +kernel
theorem m9_62 : xmth 9 62 = some (1, 123, 1, 840, 842, 24) := by decide +kernel
theorem m9_66 : xmth 9 66 = some (1, 122, 2, 836, 838, 23) := by decide +kernel
theorem m9_70 : xmth 9 70 = some (1, 124, 4, 844, 846, 25) := by decide +kernel
theorem m9_74 : xmth 9 74 = some (1, 126, 1, 852, 854, 27) := by decide +kernel
theorem m9_78 : xmth 9 78 = some (0, 129, 1, 925, 926, 0) := by decide +kernel
theorem m9_82 : xmth 9 82 = some (1, 131, 0, 931, 933, 29) := by decide +kernel
theorem m9_88 : xmth 9 88 = some (0, 136, 2, 951, 952, 0) := by decide +kernel
theorem m9_91 : xmth 9 91 = some (1, 135, 0, 947, 949, 30) := by decide +kernel
theorem m9_95 : xmth 9 95 = some (1, 141, 1, 970, 972, 34) := by decide +kernel
theorem m9_98 : xmth 9 98 = some (1, 142, 2, 974, 976, 35) := by decide +kernel
theorem m9_105 : xmth 9 105 = some (1, 140, 1, 966, 968, 33) := by decide +kernel
theorem m9_108 : xmth 9 108 = some (1, 143, 2, 978, 980, 36) := by decide +kernel
theorem m9_111 : xmth 9 111 = some (1, 144, 2, 982, 984, 37) := by decide +kernel
theorem m9_115 : xmth 9 115 = some (1, 145, 2, 986, 988, 38) := by decide +kernel
theorem m9_118 : xmth 9 118 = some (1, 139, 1, 962, 964, 32) := by decide +kernel
theorem m9_124 : xmth 9 124 = some (1, 138, 0, 958, 960, 31) := by decide +kernel
theorem m9_127 : xmth 9 127 = some (1, 147, 0, 994, 996, 39) := by decide +kernel
theorem m9_130 : xmth 9 130 = some (1, 154, 2, 1021, 1023, 41) := by decide +kernel
theorem m9_134 : xmth 9 134 = some (0, 152, 2, 1014, 1015, 0) := by decide +kernel
theorem m9_137 : xmth 9 137 = some (1, 153, 3, 1017, 1019, 40) := by decide +kernel
theorem m9_147 : xmth 9 147 = some (1, 157, 2, 1034, 1036, 43) := by decide +kernel
theorem m9_158 : xmth 9 158 = some (1, 156, 0, 1030, 1032, 42) := by decide +kernel
theorem m9_163 : xmth 9 163 = some (0, 158, 3, 1039, 1040, 0) := by decide +kernel
theorem m9_169 : xmth 9 169 = some (0, 166, 1, 1072, 1073, 0) := by decide +kernel
theorem m9_175 : xmth 9 175 = some (0, 165, 4, 1069, 1070, 0) := by decide +kernel
theorem m9_189 : xmth 9 189 = some (0, 163, 2, 1059, 1060, 0) := by decide +kernel
theorem m9_193 : xmth 9 193 = some (0, 164, 2, 1066, 1067, 0) := by decide +kernel
theorem m9_196 : xmth 9 196 = some (0, 167, 1, 1075, 1076, 0) := by decide +kernel
theorem m9_200 : xmth 9 200 = some (0, 168, 1, 1080, 1081, 0) := by decide +kernel
theorem m9_206 : xmth 9 206 = some (0, 174, 3, 1103, 1104, 0) := by decide +kernel
theorem m9_209 : xmth 9 209 = some (1, 173, 1, 1099, 1101, 44) := by decide +kernel
theorem m10_9 : xmth 10 9 = some (10, 0, 1, 643, 644, 645) := by decide +kernel
theorem m10_15 : xmth 10 15 = some (0, 183, 3, 646, 647, 0) := by decide +kernel
theorem m10_19 : xmth 10 19 = some (0, 184, 2, 649, 650, 0) := by decide +kernel
theorem m10_23 : xmth 10 23 = some (0, 182, 4, 640, 641, 0) := by decide +kernel
theorem m11_9 : xmth 11 9 = some (2, 86, 0, 66, 67, 0) := by decide +kernel
theorem m11_12 : xmth 11 12 = some (2, 120, 0, 828, 829, 0) := by decide +kernel
theorem m11_13 : xmth 11 13 = some (1, 89, 4, 328, 329, 330) := by decide +kernel
theorem m11_17 : xmth 11 17 = some (1, 128, 4, 921, 922, 923) := by decide +kernel
theorem m11_18 : xmth 11 18 = some (1, 91, 1, 355, 356, 357) := by decide +kernel
theorem m11_22 : xmth 11 22 = some (1, 132, 1, 935, 936, 937) := by decide +kernel
theorem m11_23 : xmth 11 23 = some (1, 92, 0, 367, 368, 369) := by decide +kernel
theorem m11_27 : xmth 11 27 = some (1, 133, 0, 939, 940, 941) := by decide +kernel
theorem m11_28 : xmth 11 28 = some (1, 93, 0, 375, 376, 377) := by decide +kernel
theorem m11_31 : xmth 11 31 = some (1, 134, 0, 943, 944, 945) := by decide +kernel
theorem m11_32 : xmth 11 32 = some (1, 94, 1, 404, 405, 406) := by decide +kernel
theorem m11_35 : xmth 11 35 = some (1, 137, 1, 954, 955, 956) := by decide +kernel
theorem m11_36 : xmth 11 36 = some (1, 95, 0, 535, 536, 537) := by decide +kernel
theorem m11_39 : xmth 11 39 = some (1, 146, 0, 990, 991, 992) := by decide +kernel
theorem m11_40 : xmth 11 40 = some (1, 96, 2, 548, 549, 550) := by decide +kernel
theorem m11_44 : xmth 11 44 = some (1, 148, 2, 998, 999, 1000) := by decide +kernel
theorem m11_45 : xmth 11 45 = some (1, 97, 1, 557, 558, 559) := by decide +kernel
theorem m11_48 : xmth 11 48 = some (1, 149, 1, 1002, 1003, 1004) := by decide +kernel
theorem m11_49 : xmth 11 49 = some (1, 98, 1, 563, 564, 565) := by decide +kernel
theorem m11_52 : xmth 11 52 = some (1, 150, 1, 1006, 1007, 1008) := by decide +kernel
theorem m11_53 : xmth 11 53 = some (1, 99, 2, 572, 573, 574) := by decide +kernel
theorem m11_56 : xmth 11 56 = some (1, 151, 2, 1010, 1011, 1012) := by decide +kernel
theorem m11_57 : xmth 11 57 = some (1, 101, 1, 583, 584, 585) := by decide +kernel
theorem m11_61 : xmth 11 61 = some (1, 155, 1, 1025, 1026, 1027) := by decide +kernel
theorem m11_62 : xmth 11 62 = some (1, 104, 0, 605, 606, 607) := by decide +kernel
theorem m11_65 : xmth 11 65 = some (1, 159, 0, 1042, 1043, 1044) := by decide +kernel
theorem m11_66 : xmth 11 66 = some (1, 105, 2, 610, 611, 612) := by decide +kernel
theorem m11_69 : xmth 11 69 = some (1, 160, 2, 1046, 1047, 1048) := by decide +kernel
theorem m11_70 : xmth 11 70 = some (1, 106, 4, 624, 625, 626) := by decide +kernel
theorem m11_74 : xmth 11 74 = some (1, 161, 4, 1050, 1051, 1052) := by decide +kernel
theorem m11_75 : xmth 11 75 = some (1, 107, 4, 633, 634, 635) := by decide +kernel
theorem m11_78 : xmth 11 78 = some (1, 162, 4, 1055, 1056, 1057) := by decide +kernel
theorem m11_79 : xmth 11 79 = some (1, 108, 3, 662, 663, 664) := by decide +kernel
theorem m11_83 : xmth 11 83 = some (1, 169, 3, 1083, 1084, 1085) := by decide +kernel
theorem m11_84 : xmth 11 84 = some (1, 109, 3, 666, 667, 668) := by decide +kernel
theorem m11_88 : xmth 11 88 = some (1, 170, 3, 1087, 1088, 1089) := by decide +kernel
theorem m11_89 : xmth 11 89 = some (1, 110, 0, 678, 679, 680) := by decide +kernel
theorem m11_92 : xmth 11 92 = some (1, 171, 0, 1091, 1092, 1093) := by decide +kernel
theorem m11_93 : xmth 11 93 = some (1, 111, 1, 686, 687, 688) := by decide +kernel
theorem m11_96 : xmth 11 96 = some (1, 172, 1, 1095, 1096, 1097) := by decide +kernel
theorem m11_97 : xmth 11 97 = some (1, 112, 1, 706, 707, 708) := by decide +kernel
theorem m11_100 : xmth 11 100 = some (1, 175, 1, 1106, 1107, 1108) := by decide +kernel
theorem m11_101 : xmth 11 101 = some (1, 113, 3, 733, 734, 735) := by decide +kernel
theorem m11_104 : xmth 11 104 = some (1, 176, 3, 1111, 1112, 1113) := by decide +kernel
theorem m11_105 : xmth 11 105 = some (1, 114, 3, 737, 738, 739) := by decide +kernel
theorem m11_109 : xmth 11 109 = some (1, 177, 3, 1115, 1116, 1117) := by decide +kernel
theorem m11_110 : xmth 11 110 = some (1, 115, 1, 788, 789, 790) := by decide +kernel
theorem m11_113 : xmth 11 113 = some (1, 178, 1, 1120, 1121, 1122) := by decide +kernel
theorem m11_114 : xmth 11 114 = some (1, 116, 1, 802, 803, 804) := by decide +kernel
theorem m11_117 : xmth 11 117 = some (1, 179, 1, 1124, 1125, 1126) := by decide +kernel
theorem m11_118 : xmth 11 118 = some (1, 117, 1, 810, 811, 812) := by decide +kernel
theorem m11_121 : xmth 11 121 = some (1, 180, 1, 1128, 1129, 1130) := by decide +kernel
theorem c4_74 : xcst 4 74 = some (.int (65537 : Int32), 745) := by decide +kernel
theorem c4_75 : xcst 4 75 = some (.retAddr 1, 0) := by decide +kernel
theorem c8_156 : xcst 8 156 = some (.long (-1000000000000000002 : Int64), 590) := by decide +kernel
theorem c8_168 : xcst 8 168 = some (.long (-1000000000000000003 : Int64), 596) := by decide +kernel
theorem c8_186 : xcst 8 186 = some (.long (-1000000000000000001 : Int64), 628) := by decide +kernel
theorem c8_204 : xcst 8 204 = some (.long (1073741824 : Int64), 661) := by decide +kernel
theorem c9_156 : xcst 9 156 = some (.long (-1000000000000000002 : Int64), 1029) := by decide +kernel
theorem c9_161 : xcst 9 161 = some (.long (-1000000000000000003 : Int64), 1038) := by decide +kernel
theorem c9_167 : xcst 9 167 = some (.long (-1000000000000000001 : Int64), 1054) := by decide +kernel
theorem c9_173 : xcst 9 173 = some (.long (2 : Int64), 1063) := by decide +kernel
theorem c9_179 : xcst 9 179 = some (.long (8388608 : Int64), 1078) := by decide +kernel
theorem c9_181 : xcst 9 181 = some (.long (2147483648 : Int64), 1079) := by decide +kernel
theorem c9_183 : xcst 9 183 = some (.long (4503599627370496 : Int64), 1062) := by decide +kernel
theorem c9_185 : xcst 9 185 = some (.long (9007199254740992 : Int64), 1064) := by decide +kernel
theorem c9_187 : xcst 9 187 = some (.long (-9223372036854775808 : Int64), 1065) := by decide +kernel
theorem c9_212 : xcst 9 212 = some (.int (1000000 : Int32), 1110) := by decide +kernel
theorem c9_213 : xcst 9 213 = some (.int (65537 : Int32), 1119) := by decide +kernel
theorem c10_29 : xcst 10 29 = some (.int (-2147483648 : Int32), 653) := by decide +kernel
theorem c10_32 : xcst 10 32 = some (.long (-9223372036854775808 : Int64), 657) := by decide +kernel
theorem c10_34 : xcst 10 34 = some (.long (2 : Int64), 652) := by decide +kernel
theorem n0_31 : xnew 0 31 = some (3, 78) := by decide +kernel
theorem n0_38 : xnew 0 38 = some (7, 108) := by decide +kernel
theorem n1_7 : xnew 1 7 = some (0, 295) := by decide +kernel
theorem n1_16 : xnew 1 16 = some (6, 297) := by decide +kernel
theorem n4_9 : xnew 4 9 = some (0, 251) := by decide +kernel
theorem n8_7 : xnew 8 7 = some (0, 72) := by decide +kernel
theorem n8_16 : xnew 8 16 = some (2, 213) := by decide +kernel
theorem n8_23 : xnew 8 23 = some (6, 226) := by decide +kernel
theorem n8_30 : xnew 8 30 = some (4, 245) := by decide +kernel
theorem n8_37 : xnew 8 37 = some (5, 266) := by decide +kernel
theorem n8_44 : xnew 8 44 = some (1, 288) := by decide +kernel
theorem n11_7 : xnew 11 7 = some (8, 64) := by decide +kernel
theorem n11_10 : xnew 11 10 = some (9, 826) := by decide +kernel
theorem r0_86 : xrm 0 86 = true := by decide +kernel
theorem r0_89 : xrm 0 89 = true := by decide +kernel
theorem r0_91 : xrm 0 91 = true := by decide +kernel
theorem r0_92 : xrm 0 92 = true := by decide +kernel
theorem r0_93 : xrm 0 93 = true := by decide +kernel
theorem r0_94 : xrm 0 94 = true := by decide +kernel
theorem r0_95 : xrm 0 95 = true := by decide +kernel
theorem r0_96 : xrm 0 96 = true := by decide +kernel
theorem r0_97 : xrm 0 97 = true := by decide +kernel
theorem r0_98 : xrm 0 98 = true := by decide +kernel
theorem r0_99 : xrm 0 99 = true := by decide +kernel
theorem r0_101 : xrm 0 101 = true := by decide +kernel
theorem r0_104 : xrm 0 104 = true := by decide +kernel
theorem r0_105 : xrm 0 105 = true := by decide +kernel
theorem r0_106 : xrm 0 106 = true := by decide +kernel
theorem r0_107 : xrm 0 107 = true := by decide +kernel
theorem r0_108 : xrm 0 108 = true := by decide +kernel
theorem r0_109 : xrm 0 109 = true := by decide +kernel
theorem r0_110 : xrm 0 110 = true := by decide +kernel
theorem r0_111 : xrm 0 111 = true := by decide +kernel
theorem r0_112 : xrm 0 112 = true := by decide +kernel
theorem r0_113 : xrm 0 113 = true := by decide +kernel
theorem r0_114 : xrm 0 114 = true := by decide +kernel
theorem r0_115 : xrm 0 115 = true := by decide +kernel
theorem r0_116 : xrm 0 116 = true := by decide +kernel
theorem r0_117 : xrm 0 117 = true := by decide +kernel
theorem r0_120 : xrm 0 120 = true := by decide +kernel
theorem r0_128 : xrm 0 128 = true := by decide +kernel
theorem r0_132 : xrm 0 132 = true := by decide +kernel
theorem r0_133 : xrm 0 133 = true := by decide +kernel
theorem r0_134 : xrm 0 134 = true := by decide +kernel
theorem r0_137 : xrm 0 137 = true := by decide +kernel
theorem r0_146 : xrm 0 146 = true := by decide +kernel
theorem r0_148 : xrm 0 148 = true := by decide +kernel
theorem r0_149 : xrm 0 149 = true := by decide +kernel
theorem r0_150 : xrm 0 150 = true := by decide +kernel
theorem r0_151 : xrm 0 151 = true := by decide +kernel
theorem r0_155 : xrm 0 155 = true := by decide +kernel
theorem r0_159 : xrm 0 159 = true := by decide +kernel
theorem r0_160 : xrm 0 160 = true := by decide +kernel
theorem r0_161 : xrm 0 161 = true := by decide +kernel
theorem r0_162 : xrm 0 162 = true := by decide +kernel
theorem r0_169 : xrm 0 169 = true := by decide +kernel
theorem r0_170 : xrm 0 170 = true := by decide +kernel
theorem r0_171 : xrm 0 171 = true := by decide +kernel
theorem r0_172 : xrm 0 172 = true := by decide +kernel
theorem r0_175 : xrm 0 175 = true := by decide +kernel
theorem r0_176 : xrm 0 176 = true := by decide +kernel
theorem r0_177 : xrm 0 177 = true := by decide +kernel
theorem r0_178 : xrm 0 178 = true := by decide +kernel
theorem r0_179 : xrm 0 179 = true := by decide +kernel
theorem r0_180 : xrm 0 180 = true := by decide +kernel
theorem r1_2 : xrm 1 2 = true := by decide +kernel
theorem r1_47 : xrm 1 47 = true := by decide +kernel
theorem r1_83 : xrm 1 83 = true := by decide +kernel
theorem q1 : xrf 1 = 5 ∧ xrl 1 = 114 := by decide +kernel
theorem qf1 : xrf 1 = 5 := q1.1
theorem ql1 : xrl 1 = 114 := q1.2
theorem r2_3 : xrm 2 3 = true := by decide +kernel
theorem r2_48 : xrm 2 48 = true := by decide +kernel
theorem r3_4 : xrm 3 4 = true := by decide +kernel
theorem r3_7 : xrm 3 7 = true := by decide +kernel
theorem r3_8 : xrm 3 8 = true := by decide +kernel
theorem r3_87 : xrm 3 87 = true := by decide +kernel
theorem r4_5 : xrm 4 5 = true := by decide +kernel
theorem r4_6 : xrm 4 6 = true := by decide +kernel
theorem r5_87 : xrm 5 87 = true := by decide +kernel
theorem r7_88 : xrm 7 88 = true := by decide +kernel
theorem r8_49 : xrm 8 49 = true := by decide +kernel
theorem r8_50 : xrm 8 50 = true := by decide +kernel
theorem r8_88 : xrm 8 88 = true := by decide +kernel
theorem r9_88 : xrm 9 88 = true := by decide +kernel
theorem r11_88 : xrm 11 88 = true := by decide +kernel
theorem r12_88 : xrm 12 88 = true := by decide +kernel
theorem r13_2 : xrm 13 2 = true := by decide +kernel
theorem r13_88 : xrm 13 88 = true := by decide +kernel
theorem r14_51 : xrm 14 51 = true := by decide +kernel
theorem q14 : xrf 14 = 2 ∧ xrl 14 = 49 := by decide +kernel
theorem qf14 : xrf 14 = 2 := q14.1
theorem ql14 : xrl 14 = 49 := q14.2
theorem r16_17 : xrm 16 17 = true := by decide +kernel
theorem r16_18 : xrm 16 18 = true := by decide +kernel
theorem r16_88 : xrm 16 88 = true := by decide +kernel
theorem r17_9 : xrm 17 9 = true := by decide +kernel
theorem r17_10 : xrm 17 10 = true := by decide +kernel
theorem r17_11 : xrm 17 11 = true := by decide +kernel
theorem r18_11 : xrm 18 11 = true := by decide +kernel
theorem r18_19 : xrm 18 19 = true := by decide +kernel
theorem r19_88 : xrm 19 88 = true := by decide +kernel
theorem r20_2 : xrm 20 2 = true := by decide +kernel
theorem r20_21 : xrm 20 21 = true := by decide +kernel
theorem r20_24 : xrm 20 24 = true := by decide +kernel
theorem r21_22 : xrm 21 22 = true := by decide +kernel
theorem r21_23 : xrm 21 23 = true := by decide +kernel
theorem r21_88 : xrm 21 88 = true := by decide +kernel
theorem r22_88 : xrm 22 88 = true := by decide +kernel
theorem r23_88 : xrm 23 88 = true := by decide +kernel
theorem r24_3 : xrm 24 3 = true := by decide +kernel
theorem r24_52 : xrm 24 52 = true := by decide +kernel
theorem r24_53 : xrm 24 53 = true := by decide +kernel
theorem r24_54 : xrm 24 54 = true := by decide +kernel
theorem r24_57 : xrm 24 57 = true := by decide +kernel
theorem r24_58 : xrm 24 58 = true := by decide +kernel
theorem r24_59 : xrm 24 59 = true := by decide +kernel
theorem r24_85 : xrm 24 85 = true := by decide +kernel
theorem r25_88 : xrm 25 88 = true := by decide +kernel
theorem r27_7 : xrm 27 7 = true := by decide +kernel
theorem r29_27 : xrm 29 27 = true := by decide +kernel
theorem r29_30 : xrm 29 30 = true := by decide +kernel
theorem r29_88 : xrm 29 88 = true := by decide +kernel
theorem r30_19 : xrm 30 19 = true := by decide +kernel
theorem r30_25 : xrm 30 25 = true := by decide +kernel
theorem r30_27 : xrm 30 27 = true := by decide +kernel
theorem r31_19 : xrm 31 19 = true := by decide +kernel
theorem r31_25 : xrm 31 25 = true := by decide +kernel
theorem r32_1 : xrm 32 1 = true := by decide +kernel
theorem r32_77 : xrm 32 77 = true := by decide +kernel
theorem q32 : xrf 32 = 6 ∧ xrl 32 = 135 := by decide +kernel
theorem qf32 : xrf 32 = 6 := q32.1
theorem ql32 : xrl 32 = 135 := q32.2
theorem r33_14 : xrm 33 14 = true := by decide +kernel
theorem r33_82 : xrm 33 82 = true := by decide +kernel
theorem r34_14 : xrm 34 14 = true := by decide +kernel
theorem r34_82 : xrm 34 82 = true := by decide +kernel
theorem q35 : xrf 35 = 1 ∧ xrl 35 = 20 := by decide +kernel
theorem qf35 : xrf 35 = 1 := q35.1
theorem ql35 : xrl 35 = 20 := q35.2
theorem r39_40 : xrm 39 40 = true := by decide +kernel
theorem r39_43 : xrm 39 43 = true := by decide +kernel
theorem r40_41 : xrm 40 41 = true := by decide +kernel
theorem r40_42 : xrm 40 42 = true := by decide +kernel
theorem r42_41 : xrm 42 41 = true := by decide +kernel
theorem r42_88 : xrm 42 88 = true := by decide +kernel
theorem r43_44 : xrm 43 44 = true := by decide +kernel
theorem r44_41 : xrm 44 41 = true := by decide +kernel
theorem r45_41 : xrm 45 41 = true := by decide +kernel
theorem r46_41 : xrm 46 41 = true := by decide +kernel
theorem q47 : xrf 47 = 1 ∧ xrl 47 = 20 := by decide +kernel
theorem qf47 : xrf 47 = 1 := q47.1
theorem ql47 : xrl 47 = 20 := q47.2
theorem r48_187 : xrm 48 187 = true := by decide +kernel
theorem r49_87 : xrm 49 87 = true := by decide +kernel
theorem r50_87 : xrm 50 87 = true := by decide +kernel
theorem q51 : xrf 51 = 1 ∧ xrl 51 = 28 := by decide +kernel
theorem qf51 : xrf 51 = 1 := q51.1
theorem ql51 : xrl 51 = 28 := q51.2
theorem r52_53 : xrm 52 53 = true := by decide +kernel
theorem r52_56 : xrm 52 56 = true := by decide +kernel
theorem r53_54 : xrm 53 54 = true := by decide +kernel
theorem r53_87 : xrm 53 87 = true := by decide +kernel
theorem r54_55 : xrm 54 55 = true := by decide +kernel
theorem r56_54 : xrm 56 54 = true := by decide +kernel
theorem r56_57 : xrm 56 57 = true := by decide +kernel
theorem r56_58 : xrm 56 58 = true := by decide +kernel
theorem r57_55 : xrm 57 55 = true := by decide +kernel
theorem r58_55 : xrm 58 55 = true := by decide +kernel
theorem r59_55 : xrm 59 55 = true := by decide +kernel
theorem r61_1 : xrm 61 1 = true := by decide +kernel
theorem q61 : xrf 61 = 6 ∧ xrl 61 = 135 := by decide +kernel
theorem qf61 : xrf 61 = 6 := q61.1
theorem ql61 : xrl 61 = 135 := q61.2
theorem r62_16 : xrm 62 16 = true := by decide +kernel
theorem r62_20 : xrm 62 20 = true := by decide +kernel
theorem r62_37 : xrm 62 37 = true := by decide +kernel
theorem r62_39 : xrm 62 39 = true := by decide +kernel
theorem r62_43 : xrm 62 43 = true := by decide +kernel
theorem r62_44 : xrm 62 44 = true := by decide +kernel
theorem r62_45 : xrm 62 45 = true := by decide +kernel
theorem r62_46 : xrm 62 46 = true := by decide +kernel
theorem r62_63 : xrm 62 63 = true := by decide +kernel
theorem r63_14 : xrm 63 14 = true := by decide +kernel
theorem r63_15 : xrm 63 15 = true := by decide +kernel
theorem r63_84 : xrm 63 84 = true := by decide +kernel
theorem r68_16 : xrm 68 16 = true := by decide +kernel
theorem r68_20 : xrm 68 20 = true := by decide +kernel
theorem r68_63 : xrm 68 63 = true := by decide +kernel
theorem q68 : xrf 68 = 6 ∧ xrl 68 = 148 := by decide +kernel
theorem qf68 : xrf 68 = 6 := q68.1
theorem ql68 : xrl 68 = 148 := q68.2
theorem q69 : xrf 69 = 1 ∧ xrl 69 = 20 := by decide +kernel
theorem qf69 : xrf 69 = 1 := q69.1
theorem ql69 : xrl 69 = 20 := q69.2
theorem r70_81 : xrm 70 81 = true := by decide +kernel
theorem r73_74 : xrm 73 74 = true := by decide +kernel
theorem q73 : xrf 73 = 2 ∧ xrl 73 = 49 := by decide +kernel
theorem qf73 : xrf 73 = 2 := q73.1
theorem ql73 : xrl 73 = 49 := q73.2
theorem r74_187 : xrm 74 187 = true := by decide +kernel
theorem q74 : xrf 74 = 1 ∧ xrl 74 = 23 := by decide +kernel
theorem qf74 : xrf 74 = 1 := q74.1
theorem ql74 : xrl 74 = 23 := q74.2
theorem q77 : xrf 77 = 1 ∧ xrl 77 = 20 := by decide +kernel
theorem qf77 : xrf 77 = 1 := q77.1
theorem ql77 : xrl 77 = 20 := q77.2
theorem q82 : xrf 82 = 1 ∧ xrl 82 = 28 := by decide +kernel
theorem qf82 : xrf 82 = 1 := q82.1
theorem ql82 : xrl 82 = 28 := q82.2
theorem q83 : xrf 83 = 1 ∧ xrl 83 = 20 := by decide +kernel
theorem qf83 : xrf 83 = 1 := q83.1
theorem ql83 : xrl 83 = 20 := q83.2
theorem r86_1 : xrm 86 1 = true := by decide +kernel
theorem r86_32 : xrm 86 32 = true := by decide +kernel
theorem r86_35 : xrm 86 35 = true := by decide +kernel
theorem r86_61 : xrm 86 61 = true := by decide +kernel
theorem r86_69 : xrm 86 69 = true := by decide +kernel
theorem r86_77 : xrm 86 77 = true := by decide +kernel
theorem q86 : xrf 86 = 7 ∧ xrl 86 = 155 := by decide +kernel
theorem qf86 : xrf 86 = 7 := q86.1
theorem ql86 : xrl 86 = 155 := q86.2
theorem r89_9 : xrm 89 9 = true := by decide +kernel
theorem r89_10 : xrm 89 10 = true := by decide +kernel
theorem r89_11 : xrm 89 11 = true := by decide +kernel
theorem r89_12 : xrm 89 12 = true := by decide +kernel
theorem r89_13 : xrm 89 13 = true := by decide +kernel
theorem r89_88 : xrm 89 88 = true := by decide +kernel
theorem r89_90 : xrm 89 90 = true := by decide +kernel
theorem r91_36 : xrm 91 36 = true := by decide +kernel
theorem r91_37 : xrm 91 37 = true := by decide +kernel
theorem r92_37 : xrm 92 37 = true := by decide +kernel
theorem r92_38 : xrm 92 38 = true := by decide +kernel
theorem r93_39 : xrm 93 39 = true := by decide +kernel
theorem r94_39 : xrm 94 39 = true := by decide +kernel
theorem r94_62 : xrm 94 62 = true := by decide +kernel
theorem r94_64 : xrm 94 64 = true := by decide +kernel
theorem r94_65 : xrm 94 65 = true := by decide +kernel
theorem r95_14 : xrm 95 14 = true := by decide +kernel
theorem r95_38 : xrm 95 38 = true := by decide +kernel
theorem r95_62 : xrm 95 62 = true := by decide +kernel
theorem r95_66 : xrm 95 66 = true := by decide +kernel
theorem r95_67 : xrm 95 67 = true := by decide +kernel
theorem r96_9 : xrm 96 9 = true := by decide +kernel
theorem r96_12 : xrm 96 12 = true := by decide +kernel
theorem r96_19 : xrm 96 19 = true := by decide +kernel
theorem r96_25 : xrm 96 25 = true := by decide +kernel
theorem r96_62 : xrm 96 62 = true := by decide +kernel
theorem r96_66 : xrm 96 66 = true := by decide +kernel
theorem r96_88 : xrm 96 88 = true := by decide +kernel
theorem r97_5 : xrm 97 5 = true := by decide +kernel
theorem r97_62 : xrm 97 62 = true := by decide +kernel
theorem r97_66 : xrm 97 66 = true := by decide +kernel
theorem r97_87 : xrm 97 87 = true := by decide +kernel
theorem r98_5 : xrm 98 5 = true := by decide +kernel
theorem r98_15 : xrm 98 15 = true := by decide +kernel
theorem r98_26 : xrm 98 26 = true := by decide +kernel
theorem r98_62 : xrm 98 62 = true := by decide +kernel
theorem r98_66 : xrm 98 66 = true := by decide +kernel
theorem r99_27 : xrm 99 27 = true := by decide +kernel
theorem r99_100 : xrm 99 100 = true := by decide +kernel
theorem r101_28 : xrm 101 28 = true := by decide +kernel
theorem r101_52 : xrm 101 52 = true := by decide +kernel
theorem r101_57 : xrm 101 57 = true := by decide +kernel
theorem r101_58 : xrm 101 58 = true := by decide +kernel
theorem r101_102 : xrm 101 102 = true := by decide +kernel
theorem r101_103 : xrm 101 103 = true := by decide +kernel
theorem q103 : xrf 103 = 1 ∧ xrl 103 = 21 := by decide +kernel
theorem qf103 : xrf 103 = 1 := q103.1
theorem ql103 : xrl 103 = 21 := q103.2
theorem r104_28 : xrm 104 28 = true := by decide +kernel
theorem r104_52 : xrm 104 52 = true := by decide +kernel
theorem r104_54 : xrm 104 54 = true := by decide +kernel
theorem r105_26 : xrm 105 26 = true := by decide +kernel
theorem r105_29 : xrm 105 29 = true := by decide +kernel
theorem r105_100 : xrm 105 100 = true := by decide +kernel
theorem r106_31 : xrm 106 31 = true := by decide +kernel
theorem r106_88 : xrm 106 88 = true := by decide +kernel
theorem r106_100 : xrm 106 100 = true := by decide +kernel
theorem r106_102 : xrm 106 102 = true := by decide +kernel
theorem r106_103 : xrm 106 103 = true := by decide +kernel
theorem r107_31 : xrm 107 31 = true := by decide +kernel
theorem r107_88 : xrm 107 88 = true := by decide +kernel
theorem r107_100 : xrm 107 100 = true := by decide +kernel
theorem r107_181 : xrm 107 181 = true := by decide +kernel
theorem r107_185 : xrm 107 185 = true := by decide +kernel
theorem r107_186 : xrm 107 186 = true := by decide +kernel
theorem r108_12 : xrm 108 12 = true := by decide +kernel
theorem r108_31 : xrm 108 31 = true := by decide +kernel
theorem r108_100 : xrm 108 100 = true := by decide +kernel
theorem r108_181 : xrm 108 181 = true := by decide +kernel
theorem r108_186 : xrm 108 186 = true := by decide +kernel
theorem r109_78 : xrm 109 78 = true := by decide +kernel
theorem r109_79 : xrm 109 79 = true := by decide +kernel
theorem r109_90 : xrm 109 90 = true := by decide +kernel
theorem r110_79 : xrm 110 79 = true := by decide +kernel
theorem r110_80 : xrm 110 80 = true := by decide +kernel
theorem r111_70 : xrm 111 70 = true := by decide +kernel
theorem r111_71 : xrm 111 71 = true := by decide +kernel
theorem r111_72 : xrm 111 72 = true := by decide +kernel
theorem r112_70 : xrm 112 70 = true := by decide +kernel
theorem r112_73 : xrm 112 73 = true := by decide +kernel
theorem r112_75 : xrm 112 75 = true := by decide +kernel
theorem r112_76 : xrm 112 76 = true := by decide +kernel
theorem r113_19 : xrm 113 19 = true := by decide +kernel
theorem r113_25 : xrm 113 25 = true := by decide +kernel
theorem r113_88 : xrm 113 88 = true := by decide +kernel
theorem r113_102 : xrm 113 102 = true := by decide +kernel
theorem r113_103 : xrm 113 103 = true := by decide +kernel
theorem r114_5 : xrm 114 5 = true := by decide +kernel
theorem r114_15 : xrm 114 15 = true := by decide +kernel
theorem r114_66 : xrm 114 66 = true := by decide +kernel
theorem r114_68 : xrm 114 68 = true := by decide +kernel
theorem r115_33 : xrm 115 33 = true := by decide +kernel
theorem r116_34 : xrm 116 34 = true := by decide +kernel
theorem r117_118 : xrm 117 118 = true := by decide +kernel
theorem r117_119 : xrm 117 119 = true := by decide +kernel
theorem r118_5 : xrm 118 5 = true := by decide +kernel
theorem r118_26 : xrm 118 26 = true := by decide +kernel
theorem r118_28 : xrm 118 28 = true := by decide +kernel
theorem r118_37 : xrm 118 37 = true := by decide +kernel
theorem r118_60 : xrm 118 60 = true := by decide +kernel
theorem r118_79 : xrm 118 79 = true := by decide +kernel
theorem r119_5 : xrm 119 5 = true := by decide +kernel
theorem r119_9 : xrm 119 9 = true := by decide +kernel
theorem r119_11 : xrm 119 11 = true := by decide +kernel
theorem r119_12 : xrm 119 12 = true := by decide +kernel
theorem r119_19 : xrm 119 19 = true := by decide +kernel
theorem r119_87 : xrm 119 87 = true := by decide +kernel
theorem r119_88 : xrm 119 88 = true := by decide +kernel
theorem r120_121 : xrm 120 121 = true := by decide +kernel
theorem r120_127 : xrm 120 127 = true := by decide +kernel
theorem q120 : xrf 120 = 3 ∧ xrl 120 = 70 := by decide +kernel
theorem qf120 : xrf 120 = 3 := q120.1
theorem ql120 : xrl 120 = 70 := q120.2
theorem r121_122 : xrm 121 122 = true := by decide +kernel
theorem r121_124 : xrm 121 124 = true := by decide +kernel
theorem r121_126 : xrm 121 126 = true := by decide +kernel
theorem r122_123 : xrm 122 123 = true := by decide +kernel
theorem r124_125 : xrm 124 125 = true := by decide +kernel
theorem r128_121 : xrm 128 121 = true := by decide +kernel
theorem r128_127 : xrm 128 127 = true := by decide +kernel
theorem r128_129 : xrm 128 129 = true := by decide +kernel
theorem r128_130 : xrm 128 130 = true := by decide +kernel
theorem r128_131 : xrm 128 131 = true := by decide +kernel
theorem r129_130 : xrm 129 130 = true := by decide +kernel
theorem r132_130 : xrm 132 130 = true := by decide +kernel
theorem r134_135 : xrm 134 135 = true := by decide +kernel
theorem r135_136 : xrm 135 136 = true := by decide +kernel
theorem r136_130 : xrm 136 130 = true := by decide +kernel
theorem r137_130 : xrm 137 130 = true := by decide +kernel
theorem r137_135 : xrm 137 135 = true := by decide +kernel
theorem r137_138 : xrm 137 138 = true := by decide +kernel
theorem r138_131 : xrm 138 131 = true := by decide +kernel
theorem r138_139 : xrm 138 139 = true := by decide +kernel
theorem r139_140 : xrm 139 140 = true := by decide +kernel
theorem r139_143 : xrm 139 143 = true := by decide +kernel
theorem r139_144 : xrm 139 144 = true := by decide +kernel
theorem r139_145 : xrm 139 145 = true := by decide +kernel
theorem r140_141 : xrm 140 141 = true := by decide +kernel
theorem r140_142 : xrm 140 142 = true := by decide +kernel
theorem r142_122 : xrm 142 122 = true := by decide +kernel
theorem r142_124 : xrm 142 124 = true := by decide +kernel
theorem r142_126 : xrm 142 126 = true := by decide +kernel
theorem r143_121 : xrm 143 121 = true := by decide +kernel
theorem r143_130 : xrm 143 130 = true := by decide +kernel
theorem r144_121 : xrm 144 121 = true := by decide +kernel
theorem r145_121 : xrm 145 121 = true := by decide +kernel
theorem r146_127 : xrm 146 127 = true := by decide +kernel
theorem r146_147 : xrm 146 147 = true := by decide +kernel
theorem r147_135 : xrm 147 135 = true := by decide +kernel
theorem r147_138 : xrm 147 138 = true := by decide +kernel
theorem r148_129 : xrm 148 129 = true := by decide +kernel
theorem r148_130 : xrm 148 130 = true := by decide +kernel
theorem r148_147 : xrm 148 147 = true := by decide +kernel
theorem r149_130 : xrm 149 130 = true := by decide +kernel
theorem r149_147 : xrm 149 147 = true := by decide +kernel
theorem r150_130 : xrm 150 130 = true := by decide +kernel
theorem r150_147 : xrm 150 147 = true := by decide +kernel
theorem r151_131 : xrm 151 131 = true := by decide +kernel
theorem r151_152 : xrm 151 152 = true := by decide +kernel
theorem r151_153 : xrm 151 153 = true := by decide +kernel
theorem r152_130 : xrm 152 130 = true := by decide +kernel
theorem r153_124 : xrm 153 124 = true := by decide +kernel
theorem r153_154 : xrm 153 154 = true := by decide +kernel
theorem r155_130 : xrm 155 130 = true := by decide +kernel
theorem r155_131 : xrm 155 131 = true := by decide +kernel
theorem r155_156 : xrm 155 156 = true := by decide +kernel
theorem r155_158 : xrm 155 158 = true := by decide +kernel
theorem r156_153 : xrm 156 153 = true := by decide +kernel
theorem r156_157 : xrm 156 157 = true := by decide +kernel
theorem r157_154 : xrm 157 154 = true := by decide +kernel
theorem r159_131 : xrm 159 131 = true := by decide +kernel
theorem r159_156 : xrm 159 156 = true := by decide +kernel
theorem r160_131 : xrm 160 131 = true := by decide +kernel
theorem r160_152 : xrm 160 152 = true := by decide +kernel
theorem r160_153 : xrm 160 153 = true := by decide +kernel
theorem r160_157 : xrm 160 157 = true := by decide +kernel
theorem r161_129 : xrm 161 129 = true := by decide +kernel
theorem r161_130 : xrm 161 130 = true := by decide +kernel
theorem r161_152 : xrm 161 152 = true := by decide +kernel
theorem r161_158 : xrm 161 158 = true := by decide +kernel
theorem r162_129 : xrm 162 129 = true := by decide +kernel
theorem r162_130 : xrm 162 130 = true := by decide +kernel
theorem r162_152 : xrm 162 152 = true := by decide +kernel
theorem r162_163 : xrm 162 163 = true := by decide +kernel
theorem r162_164 : xrm 162 164 = true := by decide +kernel
theorem r162_167 : xrm 162 167 = true := by decide +kernel
theorem r162_168 : xrm 162 168 = true := by decide +kernel
theorem r164_165 : xrm 164 165 = true := by decide +kernel
theorem r165_166 : xrm 165 166 = true := by decide +kernel
theorem r167_166 : xrm 167 166 = true := by decide +kernel
theorem r169_130 : xrm 169 130 = true := by decide +kernel
theorem r169_152 : xrm 169 152 = true := by decide +kernel
theorem r169_164 : xrm 169 164 = true := by decide +kernel
theorem r169_165 : xrm 169 165 = true := by decide +kernel
theorem r169_167 : xrm 169 167 = true := by decide +kernel
theorem r169_168 : xrm 169 168 = true := by decide +kernel
theorem r170_130 : xrm 170 130 = true := by decide +kernel
theorem r172_173 : xrm 172 173 = true := by decide +kernel
theorem r173_130 : xrm 173 130 = true := by decide +kernel
theorem r173_174 : xrm 173 174 = true := by decide +kernel
theorem r175_130 : xrm 175 130 = true := by decide +kernel
theorem r175_173 : xrm 175 173 = true := by decide +kernel
theorem r175_174 : xrm 175 174 = true := by decide +kernel
theorem r176_129 : xrm 176 129 = true := by decide +kernel
theorem r176_130 : xrm 176 130 = true := by decide +kernel
theorem r176_158 : xrm 176 158 = true := by decide +kernel
theorem r177_130 : xrm 177 130 = true := by decide +kernel
theorem r177_131 : xrm 177 131 = true := by decide +kernel
theorem r177_140 : xrm 177 140 = true := by decide +kernel
theorem r177_143 : xrm 177 143 = true := by decide +kernel
theorem r177_144 : xrm 177 144 = true := by decide +kernel
theorem r177_145 : xrm 177 145 = true := by decide +kernel
theorem r178_130 : xrm 178 130 = true := by decide +kernel
theorem r179_130 : xrm 179 130 = true := by decide +kernel
theorem r180_129 : xrm 180 129 = true := by decide +kernel
theorem r180_130 : xrm 180 130 = true := by decide +kernel
theorem r181_182 : xrm 181 182 = true := by decide +kernel
theorem r182_183 : xrm 182 183 = true := by decide +kernel
theorem r182_184 : xrm 182 184 = true := by decide +kernel
theorem q182 : xrf 182 = 1 ∧ xrl 182 = 28 := by decide +kernel
theorem qf182 : xrf 182 = 1 := q182.1
theorem ql182 : xrl 182 = 28 := q182.2
theorem r185_182 : xrm 185 182 = true := by decide +kernel
theorem r186_183 : xrm 186 183 = true := by decide +kernel
theorem r186_184 : xrm 186 184 = true := by decide +kernel
theorem q186 : xrf 186 = 1 ∧ xrl 186 = 28 := by decide +kernel
theorem qf186 : xrf 186 = 1 := q186.1
theorem ql186 : xrl 186 = 28 := q186.2
end
section
theorem d1_0 : decode (xbc 1) 0 = .ok (.aload_n 0, 1) := by decide +kernel
theorem d1_1 : decode (xbc 1) 1 = .ok (.invokespecial 3, 3) := by decide +kernel
theorem d1_4 : decode (xbc 1) 4 = .ok (.aload_n 0, 1) := by decide +kernel
theorem d1_5 : decode (xbc 1) 5 = .ok (.bipush 8, 2) := by decide +kernel
theorem d1_7 : decode (xbc 1) 7 = .ok (.newarray .int, 2) := by decide +kernel
theorem d1_9 : decode (xbc 1) 9 = .ok (.putfield 9, 3) := by decide +kernel
theorem d1_12 : decode (xbc 1) 12 = .ok (.aload_n 0, 1) := by decide +kernel
theorem d1_13 : decode (xbc 1) 13 = .ok (.bipush 8, 2) := by decide +kernel
theorem d1_15 : decode (xbc 1) 15 = .ok (.newarray .int, 2) := by decide +kernel
theorem d1_17 : decode (xbc 1) 17 = .ok (.putfield 15, 3) := by decide +kernel
theorem d1_20 : decode (xbc 1) 20 = .ok (.aload_n 0, 1) := by decide +kernel
theorem d1_21 : decode (xbc 1) 21 = .ok (.bipush 8, 2) := by decide +kernel
theorem d1_23 : decode (xbc 1) 23 = .ok (.newarray .int, 2) := by decide +kernel
theorem d1_25 : decode (xbc 1) 25 = .ok (.putfield 18, 3) := by decide +kernel
theorem d1_28 : decode (xbc 1) 28 = .ok (.aload_n 0, 1) := by decide +kernel
theorem d1_29 : decode (xbc 1) 29 = .ok (.bipush 8, 2) := by decide +kernel
theorem d1_31 : decode (xbc 1) 31 = .ok (.newarray .int, 2) := by decide +kernel
theorem d1_33 : decode (xbc 1) 33 = .ok (.putfield 21, 3) := by decide +kernel
theorem d1_36 : decode (xbc 1) 36 = .ok (.aload_n 0, 1) := by decide +kernel
theorem d1_37 : decode (xbc 1) 37 = .ok (.bipush 8, 2) := by decide +kernel
theorem d1_39 : decode (xbc 1) 39 = .ok (.newarray .boolean, 2) := by decide +kernel
theorem d1_41 : decode (xbc 1) 41 = .ok (.putfield 24, 3) := by decide +kernel
theorem d1_44 : decode (xbc 1) 44 = .ok (.aload_n 0, 1) := by decide +kernel
theorem d1_45 : decode (xbc 1) 45 = .ok (.bipush 8, 2) := by decide +kernel
theorem d1_47 : decode (xbc 1) 47 = .ok (.newarray .int, 2) := by decide +kernel
theorem d1_49 : decode (xbc 1) 49 = .ok (.putfield 28, 3) := by decide +kernel
theorem d1_52 : decode (xbc 1) 52 = .ok (.aload_n 0, 1) := by decide +kernel
theorem d1_53 : decode (xbc 1) 53 = .ok (.new 31, 3) := by decide +kernel
theorem d1_56 : decode (xbc 1) 56 = .ok (.dup, 1) := by decide +kernel
theorem d1_57 : decode (xbc 1) 57 = .ok (.invokespecial 33, 3) := by decide +kernel
theorem d1_60 : decode (xbc 1) 60 = .ok (.putfield 34, 3) := by decide +kernel
theorem d1_63 : decode (xbc 1) 63 = .ok (.aload_n 0, 1) := by decide +kernel
theorem d1_64 : decode (xbc 1) 64 = .ok (.new 38, 3) := by decide +kernel
theorem d1_67 : decode (xbc 1) 67 = .ok (.dup, 1) := by decide +kernel
theorem d1_68 : decode (xbc 1) 68 = .ok (.invokespecial 40, 3) := by decide +kernel
theorem d1_71 : decode (xbc 1) 71 = .ok (.putfield 41, 3) := by decide +kernel
theorem d1_74 : decode (xbc 1) 74 = .ok (.aload_n 0, 1) := by decide +kernel
theorem d1_75 : decode (xbc 1) 75 = .ok (.iconst 0, 1) := by decide +kernel
theorem d1_76 : decode (xbc 1) 76 = .ok (.putfield 45, 3) := by decide +kernel
theorem d1_79 : decode (xbc 1) 79 = .ok (.iconst 0, 1) := by decide +kernel
theorem d1_80 : decode (xbc 1) 80 = .ok (.istore_n 1, 1) := by decide +kernel
theorem d1_81 : decode (xbc 1) 81 = .ok (.iload_n 1, 1) := by decide +kernel
theorem d1_82 : decode (xbc 1) 82 = .ok (.bipush 8, 2) := by decide +kernel
theorem d1_84 : decode (xbc 1) 84 = .ok (.if_icmp .ge 56, 3) := by decide +kernel
theorem d1_87 : decode (xbc 1) 87 = .ok (.aload_n 0, 1) := by decide +kernel
theorem d1_88 : decode (xbc 1) 88 = .ok (.getfield 9, 3) := by decide +kernel
theorem d1_91 : decode (xbc 1) 91 = .ok (.iload_n 1, 1) := by decide +kernel
theorem d1_92 : decode (xbc 1) 92 = .ok (.iload_n 1, 1) := by decide +kernel
theorem d1_93 : decode (xbc 1) 93 = .ok (.iconst 4, 1) := by decide +kernel
theorem d1_94 : decode (xbc 1) 94 = .ok (.if_icmp .ge 7, 3) := by decide +kernel
theorem d1_97 : decode (xbc 1) 97 = .ok (.iconst 0, 1) := by decide +kernel
theorem d1_98 : decode (xbc 1) 98 = .ok (.goto 4, 3) := by decide +kernel
theorem d1_101 : decode (xbc 1) 101 = .ok (.iconst 1, 1) := by decide +kernel
theorem d1_102 : decode (xbc 1) 102 = .ok (.iastore, 1) := by decide +kernel
theorem d1_103 : decode (xbc 1) 103 = .ok (.aload_n 0, 1) := by decide +kernel
theorem d1_104 : decode (xbc 1) 104 = .ok (.getfield 15, 3) := by decide +kernel
theorem d1_107 : decode (xbc 1) 107 = .ok (.iload_n 1, 1) := by decide +kernel
theorem d1_108 : decode (xbc 1) 108 = .ok (.iload_n 1, 1) := by decide +kernel
theorem d1_109 : decode (xbc 1) 109 = .ok (.iastore, 1) := by decide +kernel
theorem d1_110 : decode (xbc 1) 110 = .ok (.aload_n 0, 1) := by decide +kernel
theorem d1_111 : decode (xbc 1) 111 = .ok (.getfield 18, 3) := by decide +kernel
theorem d1_114 : decode (xbc 1) 114 = .ok (.iload_n 1, 1) := by decide +kernel
theorem d1_115 : decode (xbc 1) 115 = .ok (.bipush 10, 2) := by decide +kernel
theorem d1_117 : decode (xbc 1) 117 = .ok (.iload_n 1, 1) := by decide +kernel
theorem d1_118 : decode (xbc 1) 118 = .ok (.imul, 1) := by decide +kernel
theorem d1_119 : decode (xbc 1) 119 = .ok (.iastore, 1) := by decide +kernel
theorem d1_120 : decode (xbc 1) 120 = .ok (.aload_n 0, 1) := by decide +kernel
theorem d1_121 : decode (xbc 1) 121 = .ok (.getfield 21, 3) := by decide +kernel
theorem d1_124 : decode (xbc 1) 124 = .ok (.iload_n 1, 1) := by decide +kernel
theorem d1_125 : decode (xbc 1) 125 = .ok (.iconst 0, 1) := by decide +kernel
theorem d1_126 : decode (xbc 1) 126 = .ok (.iastore, 1) := by decide +kernel
theorem d1_127 : decode (xbc 1) 127 = .ok (.aload_n 0, 1) := by decide +kernel
theorem d1_128 : decode (xbc 1) 128 = .ok (.getfield 24, 3) := by decide +kernel
theorem d1_131 : decode (xbc 1) 131 = .ok (.iload_n 1, 1) := by decide +kernel
theorem d1_132 : decode (xbc 1) 132 = .ok (.iconst 1, 1) := by decide +kernel
theorem d1_133 : decode (xbc 1) 133 = .ok (.bastore, 1) := by decide +kernel
theorem d1_134 : decode (xbc 1) 134 = .ok (.iinc 1 1, 3) := by decide +kernel
theorem d1_137 : decode (xbc 1) 137 = .ok (.goto (-56), 3) := by decide +kernel
theorem d1_140 : decode (xbc 1) 140 = .ok (.aload_n 0, 1) := by decide +kernel
theorem d1_141 : decode (xbc 1) 141 = .ok (.invokevirtual 49, 3) := by decide +kernel
theorem d1_144 : decode (xbc 1) 144 = .ok (.return_, 1) := by decide +kernel
theorem d2_0 : decode (xbc 2) 0 = .ok (.aload_n 0, 1) := by decide +kernel
theorem d2_1 : decode (xbc 2) 1 = .ok (.getfield 34, 3) := by decide +kernel
theorem d2_4 : decode (xbc 2) 4 = .ok (.invokevirtual 104, 3) := by decide +kernel
theorem d2_7 : decode (xbc 2) 7 = .ok (.bipush 7, 2) := by decide +kernel
theorem d2_9 : decode (xbc 2) 9 = .ok (.istore_n 1, 1) := by decide +kernel
theorem d2_10 : decode (xbc 2) 10 = .ok (.iload_n 1, 1) := by decide +kernel
theorem d2_11 : decode (xbc 2) 11 = .ok (.iconst 1, 1) := by decide +kernel
theorem d2_12 : decode (xbc 2) 12 = .ok (.if_icmp .lt 20, 3) := by decide +kernel
theorem d2_15 : decode (xbc 2) 15 = .ok (.aload_n 0, 1) := by decide +kernel
theorem d2_16 : decode (xbc 2) 16 = .ok (.iload_n 1, 1) := by decide +kernel
theorem d2_17 : decode (xbc 2) 17 = .ok (.aload_n 0, 1) := by decide +kernel
theorem d2_18 : decode (xbc 2) 18 = .ok (.getfield 45, 3) := by decide +kernel
theorem d2_21 : decode (xbc 2) 21 = .ok (.iconst 1, 1) := by decide +kernel
theorem d2_22 : decode (xbc 2) 22 = .ok (.invokevirtual 107, 3) := by decide +kernel
theorem d2_25 : decode (xbc 2) 25 = .ok (.pop, 1) := by decide +kernel
theorem d2_26 : decode (xbc 2) 26 = .ok (.iinc 1 (-1), 3) := by decide +kernel
theorem d2_29 : decode (xbc 2) 29 = .ok (.goto (-19), 3) := by decide +kernel
theorem d2_32 : decode (xbc 2) 32 = .ok (.return_, 1) := by decide +kernel
theorem d3_0 : decode (xbc 3) 0 = .ok (.iload_n 1, 1) := by decide +kernel
theorem d3_1 : decode (xbc 3) 1 = .ok (.invokestatic 66, 3) := by decide +kernel
theorem d3_4 : decode (xbc 3) 4 = .ok (.ifCond .ne 5, 3) := by decide +kernel
theorem d3_7 : decode (xbc 3) 7 = .ok (.iconst 0, 1) := by decide +kernel
theorem d3_8 : decode (xbc 3) 8 = .ok (.ireturn, 1) := by decide +kernel
theorem d3_9 : decode (xbc 3) 9 = .ok (.aload_n 0, 1) := by decide +kernel
theorem d3_10 : decode (xbc 3) 10 = .ok (.iconst 2, 1) := by decide +kernel
theorem d3_11 : decode (xbc 3) 11 = .ok (.iload_n 1, 1) := by decide +kernel
theorem d3_12 : decode (xbc 3) 12 = .ok (.imul, 1) := by decide +kernel
theorem d3_13 : decode (xbc 3) 13 = .ok (.invokevirtual 135, 3) := by decide +kernel
theorem d3_16 : decode (xbc 3) 16 = .ok (.istore 4, 2) := by decide +kernel
theorem d3_18 : decode (xbc 3) 18 = .ok (.aload_n 0, 1) := by decide +kernel
theorem d3_19 : decode (xbc 3) 19 = .ok (.iconst 2, 1) := by decide +kernel
theorem d3_20 : decode (xbc 3) 20 = .ok (.iload_n 1, 1) := by decide +kernel
theorem d3_21 : decode (xbc 3) 21 = .ok (.imul, 1) := by decide +kernel
theorem d3_22 : decode (xbc 3) 22 = .ok (.iconst 1, 1) := by decide +kernel
theorem d3_23 : decode (xbc 3) 23 = .ok (.iadd, 1) := by decide +kernel
theorem d3_24 : decode (xbc 3) 24 = .ok (.invokevirtual 135, 3) := by decide +kernel
theorem d3_27 : decode (xbc 3) 27 = .ok (.istore 5, 2) := by decide +kernel
theorem d3_29 : decode (xbc 3) 29 = .ok (.aload_n 0, 1) := by decide +kernel
theorem d3_30 : decode (xbc 3) 30 = .ok (.getfield 28, 3) := by decide +kernel
theorem d3_33 : decode (xbc 3) 33 = .ok (.iload_n 1, 1) := by decide +kernel
theorem d3_34 : decode (xbc 3) 34 = .ok (.iaload, 1) := by decide +kernel
theorem d3_35 : decode (xbc 3) 35 = .ok (.istore 6, 2) := by decide +kernel
theorem d3_37 : decode (xbc 3) 37 = .ok (.aload_n 0, 1) := by decide +kernel
theorem d3_38 : decode (xbc 3) 38 = .ok (.iload 4, 2) := by decide +kernel
theorem d3_40 : decode (xbc 3) 40 = .ok (.iload 5, 2) := by decide +kernel
theorem d3_42 : decode (xbc 3) 42 = .ok (.iload_n 2, 1) := by decide +kernel
theorem d3_43 : decode (xbc 3) 43 = .ok (.iload_n 3, 1) := by decide +kernel
theorem d3_44 : decode (xbc 3) 44 = .ok (.invokevirtual 138, 3) := by decide +kernel
theorem d3_47 : decode (xbc 3) 47 = .ok (.istore 7, 2) := by decide +kernel
theorem d3_49 : decode (xbc 3) 49 = .ok (.aload_n 0, 1) := by decide +kernel
theorem d3_50 : decode (xbc 3) 50 = .ok (.getfield 28, 3) := by decide +kernel
theorem d3_53 : decode (xbc 3) 53 = .ok (.iload_n 1, 1) := by decide +kernel
theorem d3_54 : decode (xbc 3) 54 = .ok (.iload 7, 2) := by decide +kernel
theorem d3_56 : decode (xbc 3) 56 = .ok (.iastore, 1) := by decide +kernel
theorem d3_57 : decode (xbc 3) 57 = .ok (.aload_n 0, 1) := by decide +kernel
theorem d3_58 : decode (xbc 3) 58 = .ok (.iload_n 1, 1) := by decide +kernel
theorem d3_59 : decode (xbc 3) 59 = .ok (.iload 7, 2) := by decide +kernel
theorem d3_61 : decode (xbc 3) 61 = .ok (.iload 7, 2) := by decide +kernel
theorem d3_63 : decode (xbc 3) 63 = .ok (.iload 4, 2) := by decide +kernel
theorem d3_65 : decode (xbc 3) 65 = .ok (.if_icmp .ne 8, 3) := by decide +kernel
theorem d3_68 : decode (xbc 3) 68 = .ok (.iload 5, 2) := by decide +kernel
theorem d3_70 : decode (xbc 3) 70 = .ok (.goto 5, 3) := by decide +kernel
theorem d3_73 : decode (xbc 3) 73 = .ok (.iload 4, 2) := by decide +kernel
theorem d3_75 : decode (xbc 3) 75 = .ok (.invokevirtual 142, 3) := by decide +kernel
theorem d3_78 : decode (xbc 3) 78 = .ok (.iload 7, 2) := by decide +kernel
theorem d3_80 : decode (xbc 3) 80 = .ok (.iload 6, 2) := by decide +kernel
theorem d3_82 : decode (xbc 3) 82 = .ok (.if_icmp .eq 7, 3) := by decide +kernel
theorem d3_85 : decode (xbc 3) 85 = .ok (.iconst 1, 1) := by decide +kernel
theorem d3_86 : decode (xbc 3) 86 = .ok (.goto 4, 3) := by decide +kernel
theorem d3_89 : decode (xbc 3) 89 = .ok (.iconst 0, 1) := by decide +kernel
theorem d3_90 : decode (xbc 3) 90 = .ok (.ireturn, 1) := by decide +kernel
theorem d4_0 : decode (xbc 4) 0 = .ok (.iload_n 1, 1) := by decide +kernel
theorem d4_1 : decode (xbc 4) 1 = .ok (.bipush 7, 2) := by decide +kernel
theorem d4_3 : decode (xbc 4) 3 = .ok (.if_icmp .gt 11, 3) := by decide +kernel
theorem d4_6 : decode (xbc 4) 6 = .ok (.aload_n 0, 1) := by decide +kernel
theorem d4_7 : decode (xbc 4) 7 = .ok (.iload_n 1, 1) := by decide +kernel
theorem d4_8 : decode (xbc 4) 8 = .ok (.invokevirtual 145, 3) := by decide +kernel
theorem d4_11 : decode (xbc 4) 11 = .ok (.goto 13, 3) := by decide +kernel
theorem d4_14 : decode (xbc 4) 14 = .ok (.aload_n 0, 1) := by decide +kernel
theorem d4_15 : decode (xbc 4) 15 = .ok (.iload_n 1, 1) := by decide +kernel
theorem d4_16 : decode (xbc 4) 16 = .ok (.bipush 7, 2) := by decide +kernel
theorem d4_18 : decode (xbc 4) 18 = .ok (.isub, 1) := by decide +kernel
theorem d4_19 : decode (xbc 4) 19 = .ok (.iconst 1, 1) := by decide +kernel
theorem d4_20 : decode (xbc 4) 20 = .ok (.isub, 1) := by decide +kernel
theorem d4_21 : decode (xbc 4) 21 = .ok (.invokevirtual 148, 3) := by decide +kernel
theorem d4_24 : decode (xbc 4) 24 = .ok (.ireturn, 1) := by decide +kernel
theorem d5_0 : decode (xbc 5) 0 = .ok (.iload_n 1, 1) := by decide +kernel
theorem d5_1 : decode (xbc 5) 1 = .ok (.invokestatic 66, 3) := by decide +kernel
theorem d5_4 : decode (xbc 5) 4 = .ok (.ifCond .eq 12, 3) := by decide +kernel
theorem d5_7 : decode (xbc 5) 7 = .ok (.aload_n 0, 1) := by decide +kernel
theorem d5_8 : decode (xbc 5) 8 = .ok (.getfield 28, 3) := by decide +kernel
theorem d5_11 : decode (xbc 5) 11 = .ok (.iload_n 1, 1) := by decide +kernel
theorem d5_12 : decode (xbc 5) 12 = .ok (.iaload, 1) := by decide +kernel
theorem d5_13 : decode (xbc 5) 13 = .ok (.goto 5, 3) := by decide +kernel
theorem d5_16 : decode (xbc 5) 16 = .ok (.bipush (-6), 2) := by decide +kernel
theorem d5_18 : decode (xbc 5) 18 = .ok (.ireturn, 1) := by decide +kernel
theorem d6_0 : decode (xbc 6) 0 = .ok (.iconst 0, 1) := by decide +kernel
theorem d6_1 : decode (xbc 6) 1 = .ok (.istore_n 2, 1) := by decide +kernel
theorem d6_2 : decode (xbc 6) 2 = .ok (.iload_n 2, 1) := by decide +kernel
theorem d6_3 : decode (xbc 6) 3 = .ok (.bipush 8, 2) := by decide +kernel
theorem d6_5 : decode (xbc 6) 5 = .ok (.if_icmp .ge 35, 3) := by decide +kernel
theorem d6_8 : decode (xbc 6) 8 = .ok (.aload_n 0, 1) := by decide +kernel
theorem d6_9 : decode (xbc 6) 9 = .ok (.getfield 15, 3) := by decide +kernel
theorem d6_12 : decode (xbc 6) 12 = .ok (.iload_n 2, 1) := by decide +kernel
theorem d6_13 : decode (xbc 6) 13 = .ok (.iaload, 1) := by decide +kernel
theorem d6_14 : decode (xbc 6) 14 = .ok (.iload_n 1, 1) := by decide +kernel
theorem d6_15 : decode (xbc 6) 15 = .ok (.if_icmp .ne 19, 3) := by decide +kernel
theorem d6_18 : decode (xbc 6) 18 = .ok (.aload_n 0, 1) := by decide +kernel
theorem d6_19 : decode (xbc 6) 19 = .ok (.getfield 24, 3) := by decide +kernel
theorem d6_22 : decode (xbc 6) 22 = .ok (.iload_n 2, 1) := by decide +kernel
theorem d6_23 : decode (xbc 6) 23 = .ok (.baload, 1) := by decide +kernel
theorem d6_24 : decode (xbc 6) 24 = .ok (.ifCond .eq 7, 3) := by decide +kernel
theorem d6_27 : decode (xbc 6) 27 = .ok (.iload_n 2, 1) := by decide +kernel
theorem d6_28 : decode (xbc 6) 28 = .ok (.goto 5, 3) := by decide +kernel
theorem d6_31 : decode (xbc 6) 31 = .ok (.bipush (-6), 2) := by decide +kernel
theorem d6_33 : decode (xbc 6) 33 = .ok (.ireturn, 1) := by decide +kernel
theorem d6_34 : decode (xbc 6) 34 = .ok (.iinc 2 1, 3) := by decide +kernel
theorem d6_37 : decode (xbc 6) 37 = .ok (.goto (-35), 3) := by decide +kernel
theorem d6_40 : decode (xbc 6) 40 = .ok (.bipush (-6), 2) := by decide +kernel
theorem d6_42 : decode (xbc 6) 42 = .ok (.ireturn, 1) := by decide +kernel
theorem d7_0 : decode (xbc 7) 0 = .ok (.iload_n 1, 1) := by decide +kernel
theorem d7_1 : decode (xbc 7) 1 = .ok (.invokestatic 62, 3) := by decide +kernel
theorem d7_4 : decode (xbc 7) 4 = .ok (.ifCond .ne 17, 3) := by decide +kernel
theorem d7_7 : decode (xbc 7) 7 = .ok (.iload_n 2, 1) := by decide +kernel
theorem d7_8 : decode (xbc 7) 8 = .ok (.invokestatic 62, 3) := by decide +kernel
theorem d7_11 : decode (xbc 7) 11 = .ok (.ifCond .eq 7, 3) := by decide +kernel
theorem d7_14 : decode (xbc 7) 14 = .ok (.iload_n 2, 1) := by decide +kernel
theorem d7_15 : decode (xbc 7) 15 = .ok (.goto 5, 3) := by decide +kernel
theorem d7_18 : decode (xbc 7) 18 = .ok (.bipush (-6), 2) := by decide +kernel
theorem d7_20 : decode (xbc 7) 20 = .ok (.ireturn, 1) := by decide +kernel
theorem d7_21 : decode (xbc 7) 21 = .ok (.iload_n 2, 1) := by decide +kernel
theorem d7_22 : decode (xbc 7) 22 = .ok (.invokestatic 62, 3) := by decide +kernel
theorem d7_25 : decode (xbc 7) 25 = .ok (.ifCond .ne 5, 3) := by decide +kernel
theorem d7_28 : decode (xbc 7) 28 = .ok (.iload_n 1, 1) := by decide +kernel
theorem d7_29 : decode (xbc 7) 29 = .ok (.ireturn, 1) := by decide +kernel
theorem d7_30 : decode (xbc 7) 30 = .ok (.aload_n 0, 1) := by decide +kernel
theorem d7_31 : decode (xbc 7) 31 = .ok (.getfield 18, 3) := by decide +kernel
theorem d7_34 : decode (xbc 7) 34 = .ok (.iload_n 1, 1) := by decide +kernel
theorem d7_35 : decode (xbc 7) 35 = .ok (.iaload, 1) := by decide +kernel
theorem d7_36 : decode (xbc 7) 36 = .ok (.aload_n 0, 1) := by decide +kernel
theorem d7_37 : decode (xbc 7) 37 = .ok (.getfield 18, 3) := by decide +kernel
theorem d7_40 : decode (xbc 7) 40 = .ok (.iload_n 2, 1) := by decide +kernel
theorem d7_41 : decode (xbc 7) 41 = .ok (.iaload, 1) := by decide +kernel
theorem d7_42 : decode (xbc 7) 42 = .ok (.isub, 1) := by decide +kernel
theorem d7_43 : decode (xbc 7) 43 = .ok (.iload 4, 2) := by decide +kernel
theorem d7_45 : decode (xbc 7) 45 = .ok (.imul, 1) := by decide +kernel
theorem d7_46 : decode (xbc 7) 46 = .ok (.aload_n 0, 1) := by decide +kernel
theorem d7_47 : decode (xbc 7) 47 = .ok (.getfield 21, 3) := by decide +kernel
theorem d7_50 : decode (xbc 7) 50 = .ok (.iload_n 1, 1) := by decide +kernel
theorem d7_51 : decode (xbc 7) 51 = .ok (.iaload, 1) := by decide +kernel
theorem d7_52 : decode (xbc 7) 52 = .ok (.aload_n 0, 1) := by decide +kernel
theorem d7_53 : decode (xbc 7) 53 = .ok (.getfield 21, 3) := by decide +kernel
theorem d7_56 : decode (xbc 7) 56 = .ok (.iload_n 2, 1) := by decide +kernel
theorem d7_57 : decode (xbc 7) 57 = .ok (.iaload, 1) := by decide +kernel
theorem d7_58 : decode (xbc 7) 58 = .ok (.isub, 1) := by decide +kernel
theorem d7_59 : decode (xbc 7) 59 = .ok (.iload_n 3, 1) := by decide +kernel
theorem d7_60 : decode (xbc 7) 60 = .ok (.imul, 1) := by decide +kernel
theorem d7_61 : decode (xbc 7) 61 = .ok (.iadd, 1) := by decide +kernel
theorem d7_62 : decode (xbc 7) 62 = .ok (.istore 5, 2) := by decide +kernel
theorem d7_64 : decode (xbc 7) 64 = .ok (.iload 5, 2) := by decide +kernel
theorem d7_66 : decode (xbc 7) 66 = .ok (.ifCond .ne 18, 3) := by decide +kernel
theorem d7_69 : decode (xbc 7) 69 = .ok (.aload_n 0, 1) := by decide +kernel
theorem d7_70 : decode (xbc 7) 70 = .ok (.getfield 21, 3) := by decide +kernel
theorem d7_73 : decode (xbc 7) 73 = .ok (.iload_n 1, 1) := by decide +kernel
theorem d7_74 : decode (xbc 7) 74 = .ok (.iaload, 1) := by decide +kernel
theorem d7_75 : decode (xbc 7) 75 = .ok (.aload_n 0, 1) := by decide +kernel
theorem d7_76 : decode (xbc 7) 76 = .ok (.getfield 21, 3) := by decide +kernel
theorem d7_79 : decode (xbc 7) 79 = .ok (.iload_n 2, 1) := by decide +kernel
theorem d7_80 : decode (xbc 7) 80 = .ok (.iaload, 1) := by decide +kernel
theorem d7_81 : decode (xbc 7) 81 = .ok (.isub, 1) := by decide +kernel
theorem d7_82 : decode (xbc 7) 82 = .ok (.istore 5, 2) := by decide +kernel
theorem d7_84 : decode (xbc 7) 84 = .ok (.iload 5, 2) := by decide +kernel
theorem d7_86 : decode (xbc 7) 86 = .ok (.ifCond .ne 8, 3) := by decide +kernel
theorem d7_89 : decode (xbc 7) 89 = .ok (.iload_n 2, 1) := by decide +kernel
theorem d7_90 : decode (xbc 7) 90 = .ok (.iload_n 1, 1) := by decide +kernel
theorem d7_91 : decode (xbc 7) 91 = .ok (.isub, 1) := by decide +kernel
theorem d7_92 : decode (xbc 7) 92 = .ok (.istore 5, 2) := by decide +kernel
theorem d7_94 : decode (xbc 7) 94 = .ok (.iload 5, 2) := by decide +kernel
theorem d7_96 : decode (xbc 7) 96 = .ok (.ifCond .le 7, 3) := by decide +kernel
theorem d7_99 : decode (xbc 7) 99 = .ok (.iload_n 1, 1) := by decide +kernel
theorem d7_100 : decode (xbc 7) 100 = .ok (.goto 4, 3) := by decide +kernel
theorem d7_103 : decode (xbc 7) 103 = .ok (.iload_n 2, 1) := by decide +kernel
theorem d7_104 : decode (xbc 7) 104 = .ok (.ireturn, 1) := by decide +kernel
theorem d8_0 : decode (xbc 8) 0 = .ok (.aload_n 0, 1) := by decide +kernel
theorem d8_1 : decode (xbc 8) 1 = .ok (.getfield 34, 3) := by decide +kernel
theorem d8_4 : decode (xbc 8) 4 = .ok (.iload_n 1, 1) := by decide +kernel
theorem d8_5 : decode (xbc 8) 5 = .ok (.invokevirtual 151, 3) := by decide +kernel
theorem d8_8 : decode (xbc 8) 8 = .ok (.iload_n 2, 1) := by decide +kernel
theorem d8_9 : decode (xbc 8) 9 = .ok (.invokestatic 62, 3) := by decide +kernel
theorem d8_12 : decode (xbc 8) 12 = .ok (.ifCond .eq 59, 3) := by decide +kernel
theorem d8_15 : decode (xbc 8) 15 = .ok (.iload_n 3, 1) := by decide +kernel
theorem d8_16 : decode (xbc 8) 16 = .ok (.invokestatic 62, 3) := by decide +kernel
theorem d8_19 : decode (xbc 8) 19 = .ok (.ifCond .eq 52, 3) := by decide +kernel
theorem d8_22 : decode (xbc 8) 22 = .ok (.aload_n 0, 1) := by decide +kernel
theorem d8_23 : decode (xbc 8) 23 = .ok (.getfield 21, 3) := by decide +kernel
theorem d8_26 : decode (xbc 8) 26 = .ok (.iload_n 3, 1) := by decide +kernel
theorem d8_27 : decode (xbc 8) 27 = .ok (.iaload, 1) := by decide +kernel
theorem d8_28 : decode (xbc 8) 28 = .ok (.aload_n 0, 1) := by decide +kernel
theorem d8_29 : decode (xbc 8) 29 = .ok (.getfield 21, 3) := by decide +kernel
theorem d8_32 : decode (xbc 8) 32 = .ok (.iload_n 2, 1) := by decide +kernel
theorem d8_33 : decode (xbc 8) 33 = .ok (.iaload, 1) := by decide +kernel
theorem d8_34 : decode (xbc 8) 34 = .ok (.if_icmp .le 37, 3) := by decide +kernel
theorem d8_37 : decode (xbc 8) 37 = .ok (.aload_n 0, 1) := by decide +kernel
theorem d8_38 : decode (xbc 8) 38 = .ok (.getfield 34, 3) := by decide +kernel
theorem d8_41 : decode (xbc 8) 41 = .ok (.iload_n 1, 1) := by decide +kernel
theorem d8_42 : decode (xbc 8) 42 = .ok (.aload_n 0, 1) := by decide +kernel
theorem d8_43 : decode (xbc 8) 43 = .ok (.getfield 18, 3) := by decide +kernel
theorem d8_46 : decode (xbc 8) 46 = .ok (.iload_n 2, 1) := by decide +kernel
theorem d8_47 : decode (xbc 8) 47 = .ok (.iaload, 1) := by decide +kernel
theorem d8_48 : decode (xbc 8) 48 = .ok (.aload_n 0, 1) := by decide +kernel
theorem d8_49 : decode (xbc 8) 49 = .ok (.getfield 18, 3) := by decide +kernel
theorem d8_52 : decode (xbc 8) 52 = .ok (.iload_n 3, 1) := by decide +kernel
theorem d8_53 : decode (xbc 8) 53 = .ok (.iaload, 1) := by decide +kernel
theorem d8_54 : decode (xbc 8) 54 = .ok (.isub, 1) := by decide +kernel
theorem d8_55 : decode (xbc 8) 55 = .ok (.aload_n 0, 1) := by decide +kernel
theorem d8_56 : decode (xbc 8) 56 = .ok (.getfield 21, 3) := by decide +kernel
theorem d8_59 : decode (xbc 8) 59 = .ok (.iload_n 3, 1) := by decide +kernel
theorem d8_60 : decode (xbc 8) 60 = .ok (.iaload, 1) := by decide +kernel
theorem d8_61 : decode (xbc 8) 61 = .ok (.aload_n 0, 1) := by decide +kernel
theorem d8_62 : decode (xbc 8) 62 = .ok (.getfield 21, 3) := by decide +kernel
theorem d8_65 : decode (xbc 8) 65 = .ok (.iload_n 2, 1) := by decide +kernel
theorem d8_66 : decode (xbc 8) 66 = .ok (.iaload, 1) := by decide +kernel
theorem d8_67 : decode (xbc 8) 67 = .ok (.isub, 1) := by decide +kernel
theorem d8_68 : decode (xbc 8) 68 = .ok (.invokevirtual 154, 3) := by decide +kernel
theorem d8_71 : decode (xbc 8) 71 = .ok (.return_, 1) := by decide +kernel
theorem d9_0 : decode (xbc 9) 0 = .ok (.iload_n 1, 1) := by decide +kernel
theorem d9_1 : decode (xbc 9) 1 = .ok (.invokestatic 62, 3) := by decide +kernel
theorem d9_4 : decode (xbc 9) 4 = .ok (.ifCond .eq 12, 3) := by decide +kernel
theorem d9_7 : decode (xbc 9) 7 = .ok (.aload_n 0, 1) := by decide +kernel
theorem d9_8 : decode (xbc 9) 8 = .ok (.getfield 15, 3) := by decide +kernel
theorem d9_11 : decode (xbc 9) 11 = .ok (.iload_n 1, 1) := by decide +kernel
theorem d9_12 : decode (xbc 9) 12 = .ok (.iaload, 1) := by decide +kernel
theorem d9_13 : decode (xbc 9) 13 = .ok (.goto 5, 3) := by decide +kernel
theorem d9_16 : decode (xbc 9) 16 = .ok (.bipush (-6), 2) := by decide +kernel
theorem d9_18 : decode (xbc 9) 18 = .ok (.ireturn, 1) := by decide +kernel
theorem d10_0 : decode (xbc 10) 0 = .ok (.iload_n 0, 1) := by decide +kernel
theorem d10_1 : decode (xbc 10) 1 = .ok (.iconst 4, 1) := by decide +kernel
theorem d10_2 : decode (xbc 10) 2 = .ok (.if_icmp .ge 7, 3) := by decide +kernel
theorem d10_5 : decode (xbc 10) 5 = .ok (.iload_n 1, 1) := by decide +kernel
theorem d10_6 : decode (xbc 10) 6 = .ok (.ifCond .ne 7, 3) := by decide +kernel
theorem d10_9 : decode (xbc 10) 9 = .ok (.iconst 1, 1) := by decide +kernel
theorem d10_10 : decode (xbc 10) 10 = .ok (.goto 4, 3) := by decide +kernel
theorem d10_13 : decode (xbc 10) 13 = .ok (.iconst 0, 1) := by decide +kernel
theorem d10_14 : decode (xbc 10) 14 = .ok (.ireturn, 1) := by decide +kernel
theorem d11_0 : decode (xbc 11) 0 = .ok (.iload_n 1, 1) := by decide +kernel
theorem d11_1 : decode (xbc 11) 1 = .ok (.invokestatic 62, 3) := by decide +kernel
theorem d11_4 : decode (xbc 11) 4 = .ok (.ifCond .eq 12, 3) := by decide +kernel
theorem d11_7 : decode (xbc 11) 7 = .ok (.aload_n 0, 1) := by decide +kernel
theorem d11_8 : decode (xbc 11) 8 = .ok (.getfield 9, 3) := by decide +kernel
theorem d11_11 : decode (xbc 11) 11 = .ok (.iload_n 1, 1) := by decide +kernel
theorem d11_12 : decode (xbc 11) 12 = .ok (.iaload, 1) := by decide +kernel
theorem d11_13 : decode (xbc 11) 13 = .ok (.goto 5, 3) := by decide +kernel
theorem d11_16 : decode (xbc 11) 16 = .ok (.bipush (-6), 2) := by decide +kernel
theorem d11_18 : decode (xbc 11) 18 = .ok (.ireturn, 1) := by decide +kernel
theorem d12_0 : decode (xbc 12) 0 = .ok (.iload_n 1, 1) := by decide +kernel
theorem d12_1 : decode (xbc 12) 1 = .ok (.invokestatic 62, 3) := by decide +kernel
theorem d12_4 : decode (xbc 12) 4 = .ok (.ifCond .eq 16, 3) := by decide +kernel
theorem d12_7 : decode (xbc 12) 7 = .ok (.aload_n 0, 1) := by decide +kernel
theorem d12_8 : decode (xbc 12) 8 = .ok (.getfield 24, 3) := by decide +kernel
theorem d12_11 : decode (xbc 12) 11 = .ok (.iload_n 1, 1) := by decide +kernel
theorem d12_12 : decode (xbc 12) 12 = .ok (.baload, 1) := by decide +kernel
theorem d12_13 : decode (xbc 12) 13 = .ok (.ifCond .eq 7, 3) := by decide +kernel
theorem d12_16 : decode (xbc 12) 16 = .ok (.iconst 1, 1) := by decide +kernel
theorem d12_17 : decode (xbc 12) 17 = .ok (.goto 4, 3) := by decide +kernel
theorem d12_20 : decode (xbc 12) 20 = .ok (.iconst 0, 1) := by decide +kernel
theorem d12_21 : decode (xbc 12) 21 = .ok (.ireturn, 1) := by decide +kernel
theorem d13_0 : decode (xbc 13) 0 = .ok (.iload_n 1, 1) := by decide +kernel
theorem d13_1 : decode (xbc 13) 1 = .ok (.invokestatic 62, 3) := by decide +kernel
theorem d13_4 : decode (xbc 13) 4 = .ok (.ifCond .ne 4, 3) := by decide +kernel
theorem d13_7 : decode (xbc 13) 7 = .ok (.return_, 1) := by decide +kernel
theorem d13_8 : decode (xbc 13) 8 = .ok (.aload_n 0, 1) := by decide +kernel
theorem d13_9 : decode (xbc 13) 9 = .ok (.getfield 9, 3) := by decide +kernel
theorem d13_12 : decode (xbc 13) 12 = .ok (.iload_n 1, 1) := by decide +kernel
theorem d13_13 : decode (xbc 13) 13 = .ok (.iload_n 2, 1) := by decide +kernel
theorem d13_14 : decode (xbc 13) 14 = .ok (.iastore, 1) := by decide +kernel
theorem d13_15 : decode (xbc 13) 15 = .ok (.aload_n 0, 1) := by decide +kernel
theorem d13_16 : decode (xbc 13) 16 = .ok (.getfield 18, 3) := by decide +kernel
theorem d13_19 : decode (xbc 13) 19 = .ok (.iload_n 1, 1) := by decide +kernel
theorem d13_20 : decode (xbc 13) 20 = .ok (.iload_n 3, 1) := by decide +kernel
theorem d13_21 : decode (xbc 13) 21 = .ok (.iastore, 1) := by decide +kernel
theorem d13_22 : decode (xbc 13) 22 = .ok (.aload_n 0, 1) := by decide +kernel
theorem d13_23 : decode (xbc 13) 23 = .ok (.getfield 21, 3) := by decide +kernel
theorem d13_26 : decode (xbc 13) 26 = .ok (.iload_n 1, 1) := by decide +kernel
theorem d13_27 : decode (xbc 13) 27 = .ok (.iload 4, 2) := by decide +kernel
theorem d13_29 : decode (xbc 13) 29 = .ok (.iastore, 1) := by decide +kernel
theorem d13_30 : decode (xbc 13) 30 = .ok (.aload_n 0, 1) := by decide +kernel
theorem d13_31 : decode (xbc 13) 31 = .ok (.getfield 24, 3) := by decide +kernel
theorem d13_34 : decode (xbc 13) 34 = .ok (.iload_n 1, 1) := by decide +kernel
theorem d13_35 : decode (xbc 13) 35 = .ok (.iconst 1, 1) := by decide +kernel
theorem d13_36 : decode (xbc 13) 36 = .ok (.bastore, 1) := by decide +kernel
theorem d13_37 : decode (xbc 13) 37 = .ok (.aload_n 0, 1) := by decide +kernel
theorem d13_38 : decode (xbc 13) 38 = .ok (.invokevirtual 49, 3) := by decide +kernel
theorem d13_41 : decode (xbc 13) 41 = .ok (.return_, 1) := by decide +kernel
theorem d14_0 : decode (xbc 14) 0 = .ok (.aload_n 1, 1) := by decide +kernel
theorem d14_1 : decode (xbc 14) 1 = .ok (.getfield 9, 3) := by decide +kernel
theorem d14_4 : decode (xbc 14) 4 = .ok (.iconst 0, 1) := by decide +kernel
theorem d14_5 : decode (xbc 14) 5 = .ok (.aload_n 0, 1) := by decide +kernel
theorem d14_6 : decode (xbc 14) 6 = .ok (.getfield 9, 3) := by decide +kernel
theorem d14_9 : decode (xbc 14) 9 = .ok (.iconst 0, 1) := by decide +kernel
theorem d14_10 : decode (xbc 14) 10 = .ok (.bipush 8, 2) := by decide +kernel
theorem d14_12 : decode (xbc 14) 12 = .ok (.invokestatic 52, 3) := by decide +kernel
theorem d14_15 : decode (xbc 14) 15 = .ok (.aload_n 1, 1) := by decide +kernel
theorem d14_16 : decode (xbc 14) 16 = .ok (.getfield 15, 3) := by decide +kernel
theorem d14_19 : decode (xbc 14) 19 = .ok (.iconst 0, 1) := by decide +kernel
theorem d14_20 : decode (xbc 14) 20 = .ok (.aload_n 0, 1) := by decide +kernel
theorem d14_21 : decode (xbc 14) 21 = .ok (.getfield 15, 3) := by decide +kernel
theorem d14_24 : decode (xbc 14) 24 = .ok (.iconst 0, 1) := by decide +kernel
theorem d14_25 : decode (xbc 14) 25 = .ok (.bipush 8, 2) := by decide +kernel
theorem d14_27 : decode (xbc 14) 27 = .ok (.invokestatic 52, 3) := by decide +kernel
theorem d14_30 : decode (xbc 14) 30 = .ok (.aload_n 1, 1) := by decide +kernel
theorem d14_31 : decode (xbc 14) 31 = .ok (.getfield 18, 3) := by decide +kernel
theorem d14_34 : decode (xbc 14) 34 = .ok (.iconst 0, 1) := by decide +kernel
theorem d14_35 : decode (xbc 14) 35 = .ok (.aload_n 0, 1) := by decide +kernel
theorem d14_36 : decode (xbc 14) 36 = .ok (.getfield 18, 3) := by decide +kernel
theorem d14_39 : decode (xbc 14) 39 = .ok (.iconst 0, 1) := by decide +kernel
theorem d14_40 : decode (xbc 14) 40 = .ok (.bipush 8, 2) := by decide +kernel
theorem d14_42 : decode (xbc 14) 42 = .ok (.invokestatic 52, 3) := by decide +kernel
theorem d14_45 : decode (xbc 14) 45 = .ok (.aload_n 1, 1) := by decide +kernel
theorem d14_46 : decode (xbc 14) 46 = .ok (.getfield 21, 3) := by decide +kernel
theorem d14_49 : decode (xbc 14) 49 = .ok (.iconst 0, 1) := by decide +kernel
theorem d14_50 : decode (xbc 14) 50 = .ok (.aload_n 0, 1) := by decide +kernel
theorem d14_51 : decode (xbc 14) 51 = .ok (.getfield 21, 3) := by decide +kernel
theorem d14_54 : decode (xbc 14) 54 = .ok (.iconst 0, 1) := by decide +kernel
theorem d14_55 : decode (xbc 14) 55 = .ok (.bipush 8, 2) := by decide +kernel
theorem d14_57 : decode (xbc 14) 57 = .ok (.invokestatic 52, 3) := by decide +kernel
theorem d14_60 : decode (xbc 14) 60 = .ok (.aload_n 1, 1) := by decide +kernel
theorem d14_61 : decode (xbc 14) 61 = .ok (.getfield 24, 3) := by decide +kernel
theorem d14_64 : decode (xbc 14) 64 = .ok (.iconst 0, 1) := by decide +kernel
theorem d14_65 : decode (xbc 14) 65 = .ok (.aload_n 0, 1) := by decide +kernel
theorem d14_66 : decode (xbc 14) 66 = .ok (.getfield 24, 3) := by decide +kernel
theorem d14_69 : decode (xbc 14) 69 = .ok (.iconst 0, 1) := by decide +kernel
theorem d14_70 : decode (xbc 14) 70 = .ok (.bipush 8, 2) := by decide +kernel
theorem d14_72 : decode (xbc 14) 72 = .ok (.invokestatic 52, 3) := by decide +kernel
theorem d14_75 : decode (xbc 14) 75 = .ok (.aload_n 1, 1) := by decide +kernel
theorem d14_76 : decode (xbc 14) 76 = .ok (.getfield 28, 3) := by decide +kernel
theorem d14_79 : decode (xbc 14) 79 = .ok (.iconst 0, 1) := by decide +kernel
theorem d14_80 : decode (xbc 14) 80 = .ok (.aload_n 0, 1) := by decide +kernel
theorem d14_81 : decode (xbc 14) 81 = .ok (.getfield 28, 3) := by decide +kernel
theorem d14_84 : decode (xbc 14) 84 = .ok (.iconst 0, 1) := by decide +kernel
theorem d14_85 : decode (xbc 14) 85 = .ok (.bipush 8, 2) := by decide +kernel
theorem d14_87 : decode (xbc 14) 87 = .ok (.invokestatic 52, 3) := by decide +kernel
theorem d14_90 : decode (xbc 14) 90 = .ok (.aload_n 0, 1) := by decide +kernel
theorem d14_91 : decode (xbc 14) 91 = .ok (.getfield 34, 3) := by decide +kernel
theorem d14_94 : decode (xbc 14) 94 = .ok (.aload_n 1, 1) := by decide +kernel
theorem d14_95 : decode (xbc 14) 95 = .ok (.getfield 34, 3) := by decide +kernel
theorem d14_98 : decode (xbc 14) 98 = .ok (.invokevirtual 58, 3) := by decide +kernel
theorem d14_101 : decode (xbc 14) 101 = .ok (.aload_n 0, 1) := by decide +kernel
theorem d14_102 : decode (xbc 14) 102 = .ok (.aload_n 1, 1) := by decide +kernel
theorem d14_103 : decode (xbc 14) 103 = .ok (.getfield 45, 3) := by decide +kernel
theorem d14_106 : decode (xbc 14) 106 = .ok (.putfield 45, 3) := by decide +kernel
theorem d14_109 : decode (xbc 14) 109 = .ok (.return_, 1) := by decide +kernel
theorem d15_0 : decode (xbc 15) 0 = .ok (.aload_n 0, 1) := by decide +kernel
theorem d15_1 : decode (xbc 15) 1 = .ok (.getfield 41, 3) := by decide +kernel
theorem d15_4 : decode (xbc 15) 4 = .ok (.areturn, 1) := by decide +kernel
theorem d16_0 : decode (xbc 16) 0 = .ok (.iload_n 1, 1) := by decide +kernel
theorem d16_1 : decode (xbc 16) 1 = .ok (.bipush 46, 2) := by decide +kernel
theorem d16_3 : decode (xbc 16) 3 = .ok (.if_icmp .ne 19, 3) := by decide +kernel
theorem d16_6 : decode (xbc 16) 6 = .ok (.aload_n 0, 1) := by decide +kernel
theorem d16_7 : decode (xbc 16) 7 = .ok (.getfield 45, 3) := by decide +kernel
theorem d16_10 : decode (xbc 16) 10 = .ok (.bipush 99, 2) := by decide +kernel
theorem d16_12 : decode (xbc 16) 12 = .ok (.if_icmp .lt 8, 3) := by decide +kernel
theorem d16_15 : decode (xbc 16) 15 = .ok (.bipush 7, 2) := by decide +kernel
theorem d16_17 : decode (xbc 16) 17 = .ok (.goto 4, 3) := by decide +kernel
theorem d16_20 : decode (xbc 16) 20 = .ok (.iconst 0, 1) := by decide +kernel
theorem d16_21 : decode (xbc 16) 21 = .ok (.ireturn, 1) := by decide +kernel
theorem d16_22 : decode (xbc 16) 22 = .ok (.iload_n 2, 1) := by decide +kernel
theorem d16_23 : decode (xbc 16) 23 = .ok (.invokestatic 62, 3) := by decide +kernel
theorem d16_26 : decode (xbc 16) 26 = .ok (.ifCond .ne 5, 3) := by decide +kernel
theorem d16_29 : decode (xbc 16) 29 = .ok (.iconst 1, 1) := by decide +kernel
theorem d16_30 : decode (xbc 16) 30 = .ok (.ireturn, 1) := by decide +kernel
theorem d16_31 : decode (xbc 16) 31 = .ok (.iload_n 1, 1) := by decide +kernel
theorem d16_32 : decode (xbc 16) 32 = .ok (.bipush 35, 2) := by decide +kernel
theorem d16_34 : decode (xbc 16) 34 = .ok (.if_icmp .ne 18, 3) := by decide +kernel
theorem d16_37 : decode (xbc 16) 37 = .ok (.aload_n 0, 1) := by decide +kernel
theorem d16_38 : decode (xbc 16) 38 = .ok (.getfield 24, 3) := by decide +kernel
theorem d16_41 : decode (xbc 16) 41 = .ok (.iload_n 2, 1) := by decide +kernel
theorem d16_42 : decode (xbc 16) 42 = .ok (.baload, 1) := by decide +kernel
theorem d16_43 : decode (xbc 16) 43 = .ok (.ifCond .eq 7, 3) := by decide +kernel
theorem d16_46 : decode (xbc 16) 46 = .ok (.iconst 4, 1) := by decide +kernel
theorem d16_47 : decode (xbc 16) 47 = .ok (.goto 4, 3) := by decide +kernel
theorem d16_50 : decode (xbc 16) 50 = .ok (.iconst 0, 1) := by decide +kernel
theorem d16_51 : decode (xbc 16) 51 = .ok (.ireturn, 1) := by decide +kernel
theorem d16_52 : decode (xbc 16) 52 = .ok (.iload_n 1, 1) := by decide +kernel
theorem d16_53 : decode (xbc 16) 53 = .ok (.bipush 37, 2) := by decide +kernel
theorem d16_55 : decode (xbc 16) 55 = .ok (.if_icmp .ne 10, 3) := by decide +kernel
theorem d16_58 : decode (xbc 16) 58 = .ok (.aload_n 0, 1) := by decide +kernel
theorem d16_59 : decode (xbc 16) 59 = .ok (.iload_n 2, 1) := by decide +kernel
theorem d16_60 : decode (xbc 16) 60 = .ok (.iload_n 3, 1) := by decide +kernel
theorem d16_61 : decode (xbc 16) 61 = .ok (.invokevirtual 69, 3) := by decide +kernel
theorem d16_64 : decode (xbc 16) 64 = .ok (.ireturn, 1) := by decide +kernel
theorem d16_65 : decode (xbc 16) 65 = .ok (.aload_n 0, 1) := by decide +kernel
theorem d16_66 : decode (xbc 16) 66 = .ok (.getfield 24, 3) := by decide +kernel
theorem d16_69 : decode (xbc 16) 69 = .ok (.iload_n 2, 1) := by decide +kernel
theorem d16_70 : decode (xbc 16) 70 = .ok (.baload, 1) := by decide +kernel
theorem d16_71 : decode (xbc 16) 71 = .ok (.ifCond .ne 5, 3) := by decide +kernel
theorem d16_74 : decode (xbc 16) 74 = .ok (.iconst 1, 1) := by decide +kernel
theorem d16_75 : decode (xbc 16) 75 = .ok (.ireturn, 1) := by decide +kernel
theorem d16_76 : decode (xbc 16) 76 = .ok (.iload_n 1, 1) := by decide +kernel
theorem d16_77 : decode (xbc 16) 77 = .ok (.bipush 33, 2) := by decide +kernel
theorem d16_79 : decode (xbc 16) 79 = .ok (.if_icmp .ne 7, 3) := by decide +kernel
theorem d16_82 : decode (xbc 16) 82 = .ok (.iconst 0, 1) := by decide +kernel
theorem d16_83 : decode (xbc 16) 83 = .ok (.goto 9, 3) := by decide +kernel
theorem d16_86 : decode (xbc 16) 86 = .ok (.aload_n 0, 1) := by decide +kernel
theorem d16_87 : decode (xbc 16) 87 = .ok (.iload_n 1, 1) := by decide +kernel
theorem d16_88 : decode (xbc 16) 88 = .ok (.iload_n 2, 1) := by decide +kernel
theorem d16_89 : decode (xbc 16) 89 = .ok (.invokevirtual 73, 3) := by decide +kernel
theorem d16_92 : decode (xbc 16) 92 = .ok (.ireturn, 1) := by decide +kernel
theorem d17_0 : decode (xbc 17) 0 = .ok (.iload_n 1, 1) := by decide +kernel
theorem d17_1 : decode (xbc 17) 1 = .ok (.iload_n 2, 1) := by decide +kernel
theorem d17_2 : decode (xbc 17) 2 = .ok (.if_icmp .ne 5, 3) := by decide +kernel
theorem d17_5 : decode (xbc 17) 5 = .ok (.iconst 5, 1) := by decide +kernel
theorem d17_6 : decode (xbc 17) 6 = .ok (.ireturn, 1) := by decide +kernel
theorem d17_7 : decode (xbc 17) 7 = .ok (.aload_n 0, 1) := by decide +kernel
theorem d17_8 : decode (xbc 17) 8 = .ok (.iload_n 1, 1) := by decide +kernel
theorem d17_9 : decode (xbc 17) 9 = .ok (.invokevirtual 76, 3) := by decide +kernel
theorem d17_12 : decode (xbc 17) 12 = .ok (.aload_n 0, 1) := by decide +kernel
theorem d17_13 : decode (xbc 17) 13 = .ok (.iload_n 2, 1) := by decide +kernel
theorem d17_14 : decode (xbc 17) 14 = .ok (.invokevirtual 80, 3) := by decide +kernel
theorem d17_17 : decode (xbc 17) 17 = .ok (.invokestatic 83, 3) := by decide +kernel
theorem d17_20 : decode (xbc 17) 20 = .ok (.ifCond .eq 23, 3) := by decide +kernel
theorem d17_23 : decode (xbc 17) 23 = .ok (.aload_n 0, 1) := by decide +kernel
theorem d17_24 : decode (xbc 17) 24 = .ok (.iload_n 2, 1) := by decide +kernel
theorem d17_25 : decode (xbc 17) 25 = .ok (.invokevirtual 76, 3) := by decide +kernel
theorem d17_28 : decode (xbc 17) 28 = .ok (.aload_n 0, 1) := by decide +kernel
theorem d17_29 : decode (xbc 17) 29 = .ok (.iload_n 1, 1) := by decide +kernel
theorem d17_30 : decode (xbc 17) 30 = .ok (.invokevirtual 80, 3) := by decide +kernel
theorem d17_33 : decode (xbc 17) 33 = .ok (.invokestatic 83, 3) := by decide +kernel
theorem d17_36 : decode (xbc 17) 36 = .ok (.ifCond .eq 7, 3) := by decide +kernel
theorem d17_39 : decode (xbc 17) 39 = .ok (.iconst 1, 1) := by decide +kernel
theorem d17_40 : decode (xbc 17) 40 = .ok (.goto 4, 3) := by decide +kernel
theorem d17_43 : decode (xbc 17) 43 = .ok (.iconst 0, 1) := by decide +kernel
theorem d17_44 : decode (xbc 17) 44 = .ok (.istore_n 3, 1) := by decide +kernel
theorem d17_45 : decode (xbc 17) 45 = .ok (.iload_n 3, 1) := by decide +kernel
theorem d17_46 : decode (xbc 17) 46 = .ok (.ifCond .eq 7, 3) := by decide +kernel
theorem d17_49 : decode (xbc 17) 49 = .ok (.iconst 0, 1) := by decide +kernel
theorem d17_50 : decode (xbc 17) 50 = .ok (.goto 5, 3) := by decide +kernel
theorem d17_53 : decode (xbc 17) 53 = .ok (.bipush 6, 2) := by decide +kernel
theorem d17_55 : decode (xbc 17) 55 = .ok (.ireturn, 1) := by decide +kernel
theorem d18_0 : decode (xbc 18) 0 = .ok (.aload_n 0, 1) := by decide +kernel
theorem d18_1 : decode (xbc 18) 1 = .ok (.iload_n 2, 1) := by decide +kernel
theorem d18_2 : decode (xbc 18) 2 = .ok (.invokevirtual 80, 3) := by decide +kernel
theorem d18_5 : decode (xbc 18) 5 = .ok (.ifCond .ne 5, 3) := by decide +kernel
theorem d18_8 : decode (xbc 18) 8 = .ok (.iconst 2, 1) := by decide +kernel
theorem d18_9 : decode (xbc 18) 9 = .ok (.ireturn, 1) := by decide +kernel
theorem d18_10 : decode (xbc 18) 10 = .ok (.iload_n 1, 1) := by decide +kernel
theorem d18_11 : decode (xbc 18) 11 = .ok (.bipush 43, 2) := by decide +kernel
theorem d18_13 : decode (xbc 18) 13 = .ok (.if_icmp .ne 8, 3) := by decide +kernel
theorem d18_16 : decode (xbc 18) 16 = .ok (.bipush 50, 2) := by decide +kernel
theorem d18_18 : decode (xbc 18) 18 = .ok (.goto 5, 3) := by decide +kernel
theorem d18_21 : decode (xbc 18) 21 = .ok (.bipush (-50), 2) := by decide +kernel
theorem d18_23 : decode (xbc 18) 23 = .ok (.istore_n 3, 1) := by decide +kernel
theorem d18_24 : decode (xbc 18) 24 = .ok (.aload_n 0, 1) := by decide +kernel
theorem d18_25 : decode (xbc 18) 25 = .ok (.iload_n 2, 1) := by decide +kernel
theorem d18_26 : decode (xbc 18) 26 = .ok (.invokevirtual 87, 3) := by decide +kernel
theorem d18_29 : decode (xbc 18) 29 = .ok (.iload_n 3, 1) := by decide +kernel
theorem d18_30 : decode (xbc 18) 30 = .ok (.if_icmp .ne 7, 3) := by decide +kernel
theorem d18_33 : decode (xbc 18) 33 = .ok (.iconst 3, 1) := by decide +kernel
theorem d18_34 : decode (xbc 18) 34 = .ok (.goto 4, 3) := by decide +kernel
theorem d18_37 : decode (xbc 18) 37 = .ok (.iconst 0, 1) := by decide +kernel
theorem d18_38 : decode (xbc 18) 38 = .ok (.ireturn, 1) := by decide +kernel
theorem d19_0 : decode (xbc 19) 0 = .ok (.iload_n 1, 1) := by decide +kernel
theorem d19_1 : decode (xbc 19) 1 = .ok (.invokestatic 62, 3) := by decide +kernel
theorem d19_4 : decode (xbc 19) 4 = .ok (.ifCond .eq 12, 3) := by decide +kernel
theorem d19_7 : decode (xbc 19) 7 = .ok (.aload_n 0, 1) := by decide +kernel
theorem d19_8 : decode (xbc 19) 8 = .ok (.getfield 21, 3) := by decide +kernel
theorem d19_11 : decode (xbc 19) 11 = .ok (.iload_n 1, 1) := by decide +kernel
theorem d19_12 : decode (xbc 19) 12 = .ok (.iaload, 1) := by decide +kernel
theorem d19_13 : decode (xbc 19) 13 = .ok (.goto 4, 3) := by decide +kernel
theorem d19_16 : decode (xbc 19) 16 = .ok (.iconst 0, 1) := by decide +kernel
theorem d19_17 : decode (xbc 19) 17 = .ok (.ireturn, 1) := by decide +kernel
theorem d20_0 : decode (xbc 20) 0 = .ok (.iload_n 2, 1) := by decide +kernel
theorem d20_1 : decode (xbc 20) 1 = .ok (.bipush 46, 2) := by decide +kernel
theorem d20_3 : decode (xbc 20) 3 = .ok (.if_icmp .eq 16, 3) := by decide +kernel
theorem d20_6 : decode (xbc 20) 6 = .ok (.aload_n 0, 1) := by decide +kernel
theorem d20_7 : decode (xbc 20) 7 = .ok (.iload_n 2, 1) := by decide +kernel
theorem d20_8 : decode (xbc 20) 8 = .ok (.iload_n 3, 1) := by decide +kernel
theorem d20_9 : decode (xbc 20) 9 = .ok (.iload 4, 2) := by decide +kernel
theorem d20_11 : decode (xbc 20) 11 = .ok (.invokevirtual 90, 3) := by decide +kernel
theorem d20_14 : decode (xbc 20) 14 = .ok (.aload_n 0, 1) := by decide +kernel
theorem d20_15 : decode (xbc 20) 15 = .ok (.invokevirtual 49, 3) := by decide +kernel
theorem d20_18 : decode (xbc 20) 18 = .ok (.return_, 1) := by decide +kernel
theorem d20_19 : decode (xbc 20) 19 = .ok (.aload_n 0, 1) := by decide +kernel
theorem d20_20 : decode (xbc 20) 20 = .ok (.getfield 45, 3) := by decide +kernel
theorem d20_23 : decode (xbc 20) 23 = .ok (.iconst 1, 1) := by decide +kernel
theorem d20_24 : decode (xbc 20) 24 = .ok (.iadd, 1) := by decide +kernel
theorem d20_25 : decode (xbc 20) 25 = .ok (.istore 5, 2) := by decide +kernel
theorem d20_27 : decode (xbc 20) 27 = .ok (.iconst 1, 1) := by decide +kernel
theorem d20_28 : decode (xbc 20) 28 = .ok (.istore 6, 2) := by decide +kernel
theorem d20_30 : decode (xbc 20) 30 = .ok (.iconst 0, 1) := by decide +kernel
theorem d20_31 : decode (xbc 20) 31 = .ok (.istore 7, 2) := by decide +kernel
theorem d20_33 : decode (xbc 20) 33 = .ok (.iload 7, 2) := by decide +kernel
theorem d20_35 : decode (xbc 20) 35 = .ok (.sipush 1000, 3) := by decide +kernel
theorem d20_38 : decode (xbc 20) 38 = .ok (.if_icmp .ge 23, 3) := by decide +kernel
theorem d20_41 : decode (xbc 20) 41 = .ok (.iload 6, 2) := by decide +kernel
theorem d20_43 : decode (xbc 20) 43 = .ok (.ifCond .eq 18, 3) := by decide +kernel
theorem d20_46 : decode (xbc 20) 46 = .ok (.aload_n 0, 1) := by decide +kernel
theorem d20_47 : decode (xbc 20) 47 = .ok (.iload 5, 2) := by decide +kernel
theorem d20_49 : decode (xbc 20) 49 = .ok (.iload_n 1, 1) := by decide +kernel
theorem d20_50 : decode (xbc 20) 50 = .ok (.invokevirtual 94, 3) := by decide +kernel
theorem d20_53 : decode (xbc 20) 53 = .ok (.istore 6, 2) := by decide +kernel
theorem d20_55 : decode (xbc 20) 55 = .ok (.iinc 7 1, 3) := by decide +kernel
theorem d20_58 : decode (xbc 20) 58 = .ok (.goto (-25), 3) := by decide +kernel
theorem d20_61 : decode (xbc 20) 61 = .ok (.aload_n 0, 1) := by decide +kernel
theorem d20_62 : decode (xbc 20) 62 = .ok (.iload 5, 2) := by decide +kernel
theorem d20_64 : decode (xbc 20) 64 = .ok (.putfield 45, 3) := by decide +kernel
theorem d20_67 : decode (xbc 20) 67 = .ok (.return_, 1) := by decide +kernel
theorem d21_0 : decode (xbc 21) 0 = .ok (.iload_n 2, 1) := by decide +kernel
theorem d21_1 : decode (xbc 21) 1 = .ok (.invokestatic 62, 3) := by decide +kernel
theorem d21_4 : decode (xbc 21) 4 = .ok (.ifCond .ne 4, 3) := by decide +kernel
theorem d21_7 : decode (xbc 21) 7 = .ok (.return_, 1) := by decide +kernel
theorem d21_8 : decode (xbc 21) 8 = .ok (.iload_n 1, 1) := by decide +kernel
theorem d21_9 : decode (xbc 21) 9 = .ok (.lookupswitch 81 #[(33, 61), (35, 71), (43, 43), (45, 52)], 43) := by decide +kernel
theorem d21_52 : decode (xbc 21) 52 = .ok (.aload_n 0, 1) := by decide +kernel
theorem d21_53 : decode (xbc 21) 53 = .ok (.iload_n 2, 1) := by decide +kernel
theorem d21_54 : decode (xbc 21) 54 = .ok (.iconst 1, 1) := by decide +kernel
theorem d21_55 : decode (xbc 21) 55 = .ok (.invokevirtual 97, 3) := by decide +kernel
theorem d21_58 : decode (xbc 21) 58 = .ok (.goto 38, 3) := by decide +kernel
theorem d21_61 : decode (xbc 21) 61 = .ok (.aload_n 0, 1) := by decide +kernel
theorem d21_62 : decode (xbc 21) 62 = .ok (.iload_n 2, 1) := by decide +kernel
theorem d21_63 : decode (xbc 21) 63 = .ok (.iconst (-1), 1) := by decide +kernel
theorem d21_64 : decode (xbc 21) 64 = .ok (.invokevirtual 97, 3) := by decide +kernel
theorem d21_67 : decode (xbc 21) 67 = .ok (.goto 29, 3) := by decide +kernel
theorem d21_70 : decode (xbc 21) 70 = .ok (.aload_n 0, 1) := by decide +kernel
theorem d21_71 : decode (xbc 21) 71 = .ok (.getfield 24, 3) := by decide +kernel
theorem d21_74 : decode (xbc 21) 74 = .ok (.iload_n 2, 1) := by decide +kernel
theorem d21_75 : decode (xbc 21) 75 = .ok (.iconst 0, 1) := by decide +kernel
theorem d21_76 : decode (xbc 21) 76 = .ok (.bastore, 1) := by decide +kernel
theorem d21_77 : decode (xbc 21) 77 = .ok (.goto 19, 3) := by decide +kernel
theorem d21_80 : decode (xbc 21) 80 = .ok (.aload_n 0, 1) := by decide +kernel
theorem d21_81 : decode (xbc 21) 81 = .ok (.getfield 24, 3) := by decide +kernel
theorem d21_84 : decode (xbc 21) 84 = .ok (.iload_n 2, 1) := by decide +kernel
theorem d21_85 : decode (xbc 21) 85 = .ok (.iconst 1, 1) := by decide +kernel
theorem d21_86 : decode (xbc 21) 86 = .ok (.bastore, 1) := by decide +kernel
theorem d21_87 : decode (xbc 21) 87 = .ok (.goto 9, 3) := by decide +kernel
theorem d21_90 : decode (xbc 21) 90 = .ok (.aload_n 0, 1) := by decide +kernel
theorem d21_91 : decode (xbc 21) 91 = .ok (.iload_n 2, 1) := by decide +kernel
theorem d21_92 : decode (xbc 21) 92 = .ok (.iload_n 3, 1) := by decide +kernel
theorem d21_93 : decode (xbc 21) 93 = .ok (.invokevirtual 101, 3) := by decide +kernel
theorem d21_96 : decode (xbc 21) 96 = .ok (.return_, 1) := by decide +kernel
theorem d22_0 : decode (xbc 22) 0 = .ok (.iload_n 1, 1) := by decide +kernel
theorem d22_1 : decode (xbc 22) 1 = .ok (.invokestatic 62, 3) := by decide +kernel
theorem d22_4 : decode (xbc 22) 4 = .ok (.ifCond .eq 28, 3) := by decide +kernel
theorem d22_7 : decode (xbc 22) 7 = .ok (.aload_n 0, 1) := by decide +kernel
theorem d22_8 : decode (xbc 22) 8 = .ok (.getfield 21, 3) := by decide +kernel
theorem d22_11 : decode (xbc 22) 11 = .ok (.iload_n 1, 1) := by decide +kernel
theorem d22_12 : decode (xbc 22) 12 = .ok (.dup2, 1) := by decide +kernel
theorem d22_13 : decode (xbc 22) 13 = .ok (.iaload, 1) := by decide +kernel
theorem d22_14 : decode (xbc 22) 14 = .ok (.iload_n 2, 1) := by decide +kernel
theorem d22_15 : decode (xbc 22) 15 = .ok (.iadd, 1) := by decide +kernel
theorem d22_16 : decode (xbc 22) 16 = .ok (.iastore, 1) := by decide +kernel
theorem d22_17 : decode (xbc 22) 17 = .ok (.aload_n 0, 1) := by decide +kernel
theorem d22_18 : decode (xbc 22) 18 = .ok (.getfield 18, 3) := by decide +kernel
theorem d22_21 : decode (xbc 22) 21 = .ok (.iload_n 1, 1) := by decide +kernel
theorem d22_22 : decode (xbc 22) 22 = .ok (.dup2, 1) := by decide +kernel
theorem d22_23 : decode (xbc 22) 23 = .ok (.iaload, 1) := by decide +kernel
theorem d22_24 : decode (xbc 22) 24 = .ok (.iload_n 2, 1) := by decide +kernel
theorem d22_25 : decode (xbc 22) 25 = .ok (.aload_n 0, 1) := by decide +kernel
theorem d22_26 : decode (xbc 22) 26 = .ok (.getfield 45, 3) := by decide +kernel
theorem d22_29 : decode (xbc 22) 29 = .ok (.imul, 1) := by decide +kernel
theorem d22_30 : decode (xbc 22) 30 = .ok (.isub, 1) := by decide +kernel
theorem d22_31 : decode (xbc 22) 31 = .ok (.iastore, 1) := by decide +kernel
theorem d22_32 : decode (xbc 22) 32 = .ok (.return_, 1) := by decide +kernel
theorem d23_0 : decode (xbc 23) 0 = .ok (.iload_n 1, 1) := by decide +kernel
theorem d23_1 : decode (xbc 23) 1 = .ok (.invokestatic 62, 3) := by decide +kernel
theorem d23_4 : decode (xbc 23) 4 = .ok (.ifCond .eq 36, 3) := by decide +kernel
theorem d23_7 : decode (xbc 23) 7 = .ok (.iload_n 2, 1) := by decide +kernel
theorem d23_8 : decode (xbc 23) 8 = .ok (.invokestatic 62, 3) := by decide +kernel
theorem d23_11 : decode (xbc 23) 11 = .ok (.ifCond .eq 29, 3) := by decide +kernel
theorem d23_14 : decode (xbc 23) 14 = .ok (.aload_n 0, 1) := by decide +kernel
theorem d23_15 : decode (xbc 23) 15 = .ok (.getfield 15, 3) := by decide +kernel
theorem d23_18 : decode (xbc 23) 18 = .ok (.iload_n 1, 1) := by decide +kernel
theorem d23_19 : decode (xbc 23) 19 = .ok (.iaload, 1) := by decide +kernel
theorem d23_20 : decode (xbc 23) 20 = .ok (.istore_n 3, 1) := by decide +kernel
theorem d23_21 : decode (xbc 23) 21 = .ok (.aload_n 0, 1) := by decide +kernel
theorem d23_22 : decode (xbc 23) 22 = .ok (.getfield 15, 3) := by decide +kernel
theorem d23_25 : decode (xbc 23) 25 = .ok (.iload_n 1, 1) := by decide +kernel
theorem d23_26 : decode (xbc 23) 26 = .ok (.aload_n 0, 1) := by decide +kernel
theorem d23_27 : decode (xbc 23) 27 = .ok (.getfield 15, 3) := by decide +kernel
theorem d23_30 : decode (xbc 23) 30 = .ok (.iload_n 2, 1) := by decide +kernel
theorem d23_31 : decode (xbc 23) 31 = .ok (.iaload, 1) := by decide +kernel
theorem d23_32 : decode (xbc 23) 32 = .ok (.iastore, 1) := by decide +kernel
theorem d23_33 : decode (xbc 23) 33 = .ok (.aload_n 0, 1) := by decide +kernel
theorem d23_34 : decode (xbc 23) 34 = .ok (.getfield 15, 3) := by decide +kernel
theorem d23_37 : decode (xbc 23) 37 = .ok (.iload_n 2, 1) := by decide +kernel
theorem d23_38 : decode (xbc 23) 38 = .ok (.iload_n 3, 1) := by decide +kernel
theorem d23_39 : decode (xbc 23) 39 = .ok (.iastore, 1) := by decide +kernel
theorem d23_40 : decode (xbc 23) 40 = .ok (.return_, 1) := by decide +kernel
theorem d24_0 : decode (xbc 24) 0 = .ok (.aload_n 0, 1) := by decide +kernel
theorem d24_1 : decode (xbc 24) 1 = .ok (.getfield 34, 3) := by decide +kernel
theorem d24_4 : decode (xbc 24) 4 = .ok (.iconst 0, 1) := by decide +kernel
theorem d24_5 : decode (xbc 24) 5 = .ok (.invokevirtual 111, 3) := by decide +kernel
theorem d24_8 : decode (xbc 24) 8 = .ok (.istore_n 3, 1) := by decide +kernel
theorem d24_9 : decode (xbc 24) 9 = .ok (.aload_n 0, 1) := by decide +kernel
theorem d24_10 : decode (xbc 24) 10 = .ok (.getfield 34, 3) := by decide +kernel
theorem d24_13 : decode (xbc 24) 13 = .ok (.iload_n 3, 1) := by decide +kernel
theorem d24_14 : decode (xbc 24) 14 = .ok (.invokevirtual 115, 3) := by decide +kernel
theorem d24_17 : decode (xbc 24) 17 = .ok (.istore 4, 2) := by decide +kernel
theorem d24_19 : decode (xbc 24) 19 = .ok (.aload_n 0, 1) := by decide +kernel
theorem d24_20 : decode (xbc 24) 20 = .ok (.getfield 34, 3) := by decide +kernel
theorem d24_23 : decode (xbc 24) 23 = .ok (.iload_n 3, 1) := by decide +kernel
theorem d24_24 : decode (xbc 24) 24 = .ok (.invokevirtual 118, 3) := by decide +kernel
theorem d24_27 : decode (xbc 24) 27 = .ok (.istore 5, 2) := by decide +kernel
theorem d24_29 : decode (xbc 24) 29 = .ok (.aload_n 0, 1) := by decide +kernel
theorem d24_30 : decode (xbc 24) 30 = .ok (.getfield 34, 3) := by decide +kernel
theorem d24_33 : decode (xbc 24) 33 = .ok (.iload_n 3, 1) := by decide +kernel
theorem d24_34 : decode (xbc 24) 34 = .ok (.invokevirtual 121, 3) := by decide +kernel
theorem d24_37 : decode (xbc 24) 37 = .ok (.istore 6, 2) := by decide +kernel
theorem d24_39 : decode (xbc 24) 39 = .ok (.iload_n 3, 1) := by decide +kernel
theorem d24_40 : decode (xbc 24) 40 = .ok (.bipush (-6), 2) := by decide +kernel
theorem d24_42 : decode (xbc 24) 42 = .ok (.if_icmp .eq 12, 3) := by decide +kernel
theorem d24_45 : decode (xbc 24) 45 = .ok (.iload 5, 2) := by decide +kernel
theorem d24_47 : decode (xbc 24) 47 = .ok (.iload_n 1, 1) := by decide +kernel
theorem d24_48 : decode (xbc 24) 48 = .ok (.iload 6, 2) := by decide +kernel
theorem d24_50 : decode (xbc 24) 50 = .ok (.imul, 1) := by decide +kernel
theorem d24_51 : decode (xbc 24) 51 = .ok (.if_icmp .le 5, 3) := by decide +kernel
theorem d24_54 : decode (xbc 24) 54 = .ok (.iconst 0, 1) := by decide +kernel
theorem d24_55 : decode (xbc 24) 55 = .ok (.ireturn, 1) := by decide +kernel
theorem d24_56 : decode (xbc 24) 56 = .ok (.aload_n 0, 1) := by decide +kernel
theorem d24_57 : decode (xbc 24) 57 = .ok (.getfield 34, 3) := by decide +kernel
theorem d24_60 : decode (xbc 24) 60 = .ok (.iload_n 3, 1) := by decide +kernel
theorem d24_61 : decode (xbc 24) 61 = .ok (.invokevirtual 124, 3) := by decide +kernel
theorem d24_64 : decode (xbc 24) 64 = .ok (.istore 7, 2) := by decide +kernel
theorem d24_66 : decode (xbc 24) 66 = .ok (.aload_n 0, 1) := by decide +kernel
theorem d24_67 : decode (xbc 24) 67 = .ok (.getfield 34, 3) := by decide +kernel
theorem d24_70 : decode (xbc 24) 70 = .ok (.iload_n 3, 1) := by decide +kernel
theorem d24_71 : decode (xbc 24) 71 = .ok (.invokevirtual 127, 3) := by decide +kernel
theorem d24_74 : decode (xbc 24) 74 = .ok (.aload_n 0, 1) := by decide +kernel
theorem d24_75 : decode (xbc 24) 75 = .ok (.getfield 41, 3) := by decide +kernel
theorem d24_78 : decode (xbc 24) 78 = .ok (.iload 7, 2) := by decide +kernel
theorem d24_80 : decode (xbc 24) 80 = .ok (.iload_n 2, 1) := by decide +kernel
theorem d24_81 : decode (xbc 24) 81 = .ok (.iload 4, 2) := by decide +kernel
theorem d24_83 : decode (xbc 24) 83 = .ok (.invokevirtual 131, 3) := by decide +kernel
theorem d24_86 : decode (xbc 24) 86 = .ok (.iload 4, 2) := by decide +kernel
theorem d24_88 : decode (xbc 24) 88 = .ok (.istore 8, 2) := by decide +kernel
theorem d24_90 : decode (xbc 24) 90 = .ok (.iload 8, 2) := by decide +kernel
theorem d24_92 : decode (xbc 24) 92 = .ok (.iconst 1, 1) := by decide +kernel
theorem d24_93 : decode (xbc 24) 93 = .ok (.if_icmp .lt 29, 3) := by decide +kernel
theorem d24_96 : decode (xbc 24) 96 = .ok (.iload 7, 2) := by decide +kernel
theorem d24_98 : decode (xbc 24) 98 = .ok (.ifCond .eq 24, 3) := by decide +kernel
theorem d24_101 : decode (xbc 24) 101 = .ok (.aload_n 0, 1) := by decide +kernel
theorem d24_102 : decode (xbc 24) 102 = .ok (.iload 8, 2) := by decide +kernel
theorem d24_104 : decode (xbc 24) 104 = .ok (.iload 5, 2) := by decide +kernel
theorem d24_106 : decode (xbc 24) 106 = .ok (.iload 6, 2) := by decide +kernel
theorem d24_108 : decode (xbc 24) 108 = .ok (.invokevirtual 107, 3) := by decide +kernel
theorem d24_111 : decode (xbc 24) 111 = .ok (.istore 7, 2) := by decide +kernel
theorem d24_113 : decode (xbc 24) 113 = .ok (.iload 8, 2) := by decide +kernel
theorem d24_115 : decode (xbc 24) 115 = .ok (.iconst 2, 1) := by decide +kernel
theorem d24_116 : decode (xbc 24) 116 = .ok (.idiv, 1) := by decide +kernel
theorem d24_117 : decode (xbc 24) 117 = .ok (.istore 8, 2) := by decide +kernel
theorem d24_119 : decode (xbc 24) 119 = .ok (.goto (-29), 3) := by decide +kernel
theorem d24_122 : decode (xbc 24) 122 = .ok (.iconst 1, 1) := by decide +kernel
theorem d24_123 : decode (xbc 24) 123 = .ok (.ireturn, 1) := by decide +kernel
theorem d25_0 : decode (xbc 25) 0 = .ok (.iload_n 1, 1) := by decide +kernel
theorem d25_1 : decode (xbc 25) 1 = .ok (.invokestatic 62, 3) := by decide +kernel
theorem d25_4 : decode (xbc 25) 4 = .ok (.ifCond .eq 12, 3) := by decide +kernel
theorem d25_7 : decode (xbc 25) 7 = .ok (.aload_n 0, 1) := by decide +kernel
theorem d25_8 : decode (xbc 25) 8 = .ok (.getfield 18, 3) := by decide +kernel
theorem d25_11 : decode (xbc 25) 11 = .ok (.iload_n 1, 1) := by decide +kernel
theorem d25_12 : decode (xbc 25) 12 = .ok (.iaload, 1) := by decide +kernel
theorem d25_13 : decode (xbc 25) 13 = .ok (.goto 4, 3) := by decide +kernel
theorem d25_16 : decode (xbc 25) 16 = .ok (.iconst 0, 1) := by decide +kernel
theorem d25_17 : decode (xbc 25) 17 = .ok (.ireturn, 1) := by decide +kernel
theorem d26_0 : decode (xbc 26) 0 = .ok (.aload_n 0, 1) := by decide +kernel
theorem d26_1 : decode (xbc 26) 1 = .ok (.getfield 45, 3) := by decide +kernel
theorem d26_4 : decode (xbc 26) 4 = .ok (.ireturn, 1) := by decide +kernel
theorem d27_0 : decode (xbc 27) 0 = .ok (.bipush (-6), 2) := by decide +kernel
theorem d27_2 : decode (xbc 27) 2 = .ok (.istore_n 3, 1) := by decide +kernel
theorem d27_3 : decode (xbc 27) 3 = .ok (.iconst 0, 1) := by decide +kernel
theorem d27_4 : decode (xbc 27) 4 = .ok (.istore 4, 2) := by decide +kernel
theorem d27_6 : decode (xbc 27) 6 = .ok (.iload 4, 2) := by decide +kernel
theorem d27_8 : decode (xbc 27) 8 = .ok (.bipush 8, 2) := by decide +kernel
theorem d27_10 : decode (xbc 27) 10 = .ok (.if_icmp .ge 29, 3) := by decide +kernel
theorem d27_13 : decode (xbc 27) 13 = .ok (.aload_n 0, 1) := by decide +kernel
theorem d27_14 : decode (xbc 27) 14 = .ok (.getfield 24, 3) := by decide +kernel
theorem d27_17 : decode (xbc 27) 17 = .ok (.iload 4, 2) := by decide +kernel
theorem d27_19 : decode (xbc 27) 19 = .ok (.baload, 1) := by decide +kernel
theorem d27_20 : decode (xbc 27) 20 = .ok (.ifCond .eq 13, 3) := by decide +kernel
theorem d27_23 : decode (xbc 27) 23 = .ok (.aload_n 0, 1) := by decide +kernel
theorem d27_24 : decode (xbc 27) 24 = .ok (.iload_n 3, 1) := by decide +kernel
theorem d27_25 : decode (xbc 27) 25 = .ok (.iload 4, 2) := by decide +kernel
theorem d27_27 : decode (xbc 27) 27 = .ok (.iload_n 1, 1) := by decide +kernel
theorem d27_28 : decode (xbc 27) 28 = .ok (.iload_n 2, 1) := by decide +kernel
theorem d27_29 : decode (xbc 27) 29 = .ok (.invokevirtual 138, 3) := by decide +kernel
theorem d27_32 : decode (xbc 27) 32 = .ok (.istore_n 3, 1) := by decide +kernel
theorem d27_33 : decode (xbc 27) 33 = .ok (.iinc 4 1, 3) := by decide +kernel
theorem d27_36 : decode (xbc 27) 36 = .ok (.goto (-30), 3) := by decide +kernel
theorem d27_39 : decode (xbc 27) 39 = .ok (.iload_n 3, 1) := by decide +kernel
theorem d27_40 : decode (xbc 27) 40 = .ok (.ireturn, 1) := by decide +kernel
theorem d28_0 : decode (xbc 28) 0 = .ok (.aload_n 0, 1) := by decide +kernel
theorem d28_1 : decode (xbc 28) 1 = .ok (.getfield 34, 3) := by decide +kernel
theorem d28_4 : decode (xbc 28) 4 = .ok (.areturn, 1) := by decide +kernel
theorem d29_0 : decode (xbc 29) 0 = .ok (.aload_n 0, 1) := by decide +kernel
theorem d29_1 : decode (xbc 29) 1 = .ok (.aload_n 0, 1) := by decide +kernel
theorem d29_2 : decode (xbc 29) 2 = .ok (.getfield 45, 3) := by decide +kernel
theorem d29_5 : decode (xbc 29) 5 = .ok (.iconst 1, 1) := by decide +kernel
theorem d29_6 : decode (xbc 29) 6 = .ok (.invokevirtual 160, 3) := by decide +kernel
theorem d29_9 : decode (xbc 29) 9 = .ok (.istore_n 3, 1) := by decide +kernel
theorem d29_10 : decode (xbc 29) 10 = .ok (.iconst 0, 1) := by decide +kernel
theorem d29_11 : decode (xbc 29) 11 = .ok (.istore 4, 2) := by decide +kernel
theorem d29_13 : decode (xbc 29) 13 = .ok (.iconst 0, 1) := by decide +kernel
theorem d29_14 : decode (xbc 29) 14 = .ok (.istore 5, 2) := by decide +kernel
theorem d29_16 : decode (xbc 29) 16 = .ok (.iload 5, 2) := by decide +kernel
theorem d29_18 : decode (xbc 29) 18 = .ok (.bipush 8, 2) := by decide +kernel
theorem d29_20 : decode (xbc 29) 20 = .ok (.if_icmp .ge 32, 3) := by decide +kernel
theorem d29_23 : decode (xbc 29) 23 = .ok (.iload_n 3, 1) := by decide +kernel
theorem d29_24 : decode (xbc 29) 24 = .ok (.invokestatic 62, 3) := by decide +kernel
theorem d29_27 : decode (xbc 29) 27 = .ok (.ifCond .eq 25, 3) := by decide +kernel
theorem d29_30 : decode (xbc 29) 30 = .ok (.iload 4, 2) := by decide +kernel
theorem d29_32 : decode (xbc 29) 32 = .ok (.iconst 1, 1) := by decide +kernel
theorem d29_33 : decode (xbc 29) 33 = .ok (.iload_n 3, 1) := by decide +kernel
theorem d29_34 : decode (xbc 29) 34 = .ok (.ishl, 1) := by decide +kernel
theorem d29_35 : decode (xbc 29) 35 = .ok (.ior, 1) := by decide +kernel
theorem d29_36 : decode (xbc 29) 36 = .ok (.istore 4, 2) := by decide +kernel
theorem d29_38 : decode (xbc 29) 38 = .ok (.aload_n 0, 1) := by decide +kernel
theorem d29_39 : decode (xbc 29) 39 = .ok (.iload_n 3, 1) := by decide +kernel
theorem d29_40 : decode (xbc 29) 40 = .ok (.iload_n 1, 1) := by decide +kernel
theorem d29_41 : decode (xbc 29) 41 = .ok (.iload_n 2, 1) := by decide +kernel
theorem d29_42 : decode (xbc 29) 42 = .ok (.invokevirtual 163, 3) := by decide +kernel
theorem d29_45 : decode (xbc 29) 45 = .ok (.istore_n 3, 1) := by decide +kernel
theorem d29_46 : decode (xbc 29) 46 = .ok (.iinc 5 1, 3) := by decide +kernel
theorem d29_49 : decode (xbc 29) 49 = .ok (.goto (-33), 3) := by decide +kernel
theorem d29_52 : decode (xbc 29) 52 = .ok (.iload 4, 2) := by decide +kernel
theorem d29_54 : decode (xbc 29) 54 = .ok (.ireturn, 1) := by decide +kernel
theorem d30_0 : decode (xbc 30) 0 = .ok (.iload_n 2, 1) := by decide +kernel
theorem d30_1 : decode (xbc 30) 1 = .ok (.istore 4, 2) := by decide +kernel
theorem d30_3 : decode (xbc 30) 3 = .ok (.iload_n 3, 1) := by decide +kernel
theorem d30_4 : decode (xbc 30) 4 = .ok (.istore 5, 2) := by decide +kernel
theorem d30_6 : decode (xbc 30) 6 = .ok (.iconst 0, 1) := by decide +kernel
theorem d30_7 : decode (xbc 30) 7 = .ok (.istore 6, 2) := by decide +kernel
theorem d30_9 : decode (xbc 30) 9 = .ok (.iconst 0, 1) := by decide +kernel
theorem d30_10 : decode (xbc 30) 10 = .ok (.istore 7, 2) := by decide +kernel
theorem d30_12 : decode (xbc 30) 12 = .ok (.iload 7, 2) := by decide +kernel
theorem d30_14 : decode (xbc 30) 14 = .ok (.bipush 8, 2) := by decide +kernel
theorem d30_16 : decode (xbc 30) 16 = .ok (.if_icmp .ge 76, 3) := by decide +kernel
theorem d30_19 : decode (xbc 30) 19 = .ok (.aload_n 0, 1) := by decide +kernel
theorem d30_20 : decode (xbc 30) 20 = .ok (.iload 7, 2) := by decide +kernel
theorem d30_22 : decode (xbc 30) 22 = .ok (.invokevirtual 87, 3) := by decide +kernel
theorem d30_25 : decode (xbc 30) 25 = .ok (.aload_n 0, 1) := by decide +kernel
theorem d30_26 : decode (xbc 30) 26 = .ok (.iload_n 1, 1) := by decide +kernel
theorem d30_27 : decode (xbc 30) 27 = .ok (.invokevirtual 87, 3) := by decide +kernel
theorem d30_30 : decode (xbc 30) 30 = .ok (.isub, 1) := by decide +kernel
theorem d30_31 : decode (xbc 30) 31 = .ok (.istore 8, 2) := by decide +kernel
theorem d30_33 : decode (xbc 30) 33 = .ok (.aload_n 0, 1) := by decide +kernel
theorem d30_34 : decode (xbc 30) 34 = .ok (.iload_n 1, 1) := by decide +kernel
theorem d30_35 : decode (xbc 30) 35 = .ok (.invokevirtual 157, 3) := by decide +kernel
theorem d30_38 : decode (xbc 30) 38 = .ok (.aload_n 0, 1) := by decide +kernel
theorem d30_39 : decode (xbc 30) 39 = .ok (.iload 7, 2) := by decide +kernel
theorem d30_41 : decode (xbc 30) 41 = .ok (.invokevirtual 157, 3) := by decide +kernel
theorem d30_44 : decode (xbc 30) 44 = .ok (.isub, 1) := by decide +kernel
theorem d30_45 : decode (xbc 30) 45 = .ok (.istore 9, 2) := by decide +kernel
theorem d30_47 : decode (xbc 30) 47 = .ok (.aload_n 0, 1) := by decide +kernel
theorem d30_48 : decode (xbc 30) 48 = .ok (.getfield 24, 3) := by decide +kernel
theorem d30_51 : decode (xbc 30) 51 = .ok (.iload 7, 2) := by decide +kernel
theorem d30_53 : decode (xbc 30) 53 = .ok (.baload, 1) := by decide +kernel
theorem d30_54 : decode (xbc 30) 54 = .ok (.ifCond .eq 32, 3) := by decide +kernel
theorem d30_57 : decode (xbc 30) 57 = .ok (.iload 8, 2) := by decide +kernel
theorem d30_59 : decode (xbc 30) 59 = .ok (.ifCond .le 27, 3) := by decide +kernel
theorem d30_62 : decode (xbc 30) 62 = .ok (.iload 9, 2) := by decide +kernel
theorem d30_64 : decode (xbc 30) 64 = .ok (.iload 5, 2) := by decide +kernel
theorem d30_66 : decode (xbc 30) 66 = .ok (.imul, 1) := by decide +kernel
theorem d30_67 : decode (xbc 30) 67 = .ok (.iload 4, 2) := by decide +kernel
theorem d30_69 : decode (xbc 30) 69 = .ok (.iload 8, 2) := by decide +kernel
theorem d30_71 : decode (xbc 30) 71 = .ok (.imul, 1) := by decide +kernel
theorem d30_72 : decode (xbc 30) 72 = .ok (.if_icmp .gt 14, 3) := by decide +kernel
theorem d30_75 : decode (xbc 30) 75 = .ok (.iload 9, 2) := by decide +kernel
theorem d30_77 : decode (xbc 30) 77 = .ok (.istore 4, 2) := by decide +kernel
theorem d30_79 : decode (xbc 30) 79 = .ok (.iload 8, 2) := by decide +kernel
theorem d30_81 : decode (xbc 30) 81 = .ok (.istore 5, 2) := by decide +kernel
theorem d30_83 : decode (xbc 30) 83 = .ok (.iconst 1, 1) := by decide +kernel
theorem d30_84 : decode (xbc 30) 84 = .ok (.istore 6, 2) := by decide +kernel
theorem d30_86 : decode (xbc 30) 86 = .ok (.iinc 7 1, 3) := by decide +kernel
theorem d30_89 : decode (xbc 30) 89 = .ok (.goto (-77), 3) := by decide +kernel
theorem d30_92 : decode (xbc 30) 92 = .ok (.iload 6, 2) := by decide +kernel
theorem d30_94 : decode (xbc 30) 94 = .ok (.ifCond .eq 14, 3) := by decide +kernel
theorem d30_97 : decode (xbc 30) 97 = .ok (.aload_n 0, 1) := by decide +kernel
theorem d30_98 : decode (xbc 30) 98 = .ok (.iload 4, 2) := by decide +kernel
theorem d30_100 : decode (xbc 30) 100 = .ok (.iload 5, 2) := by decide +kernel
theorem d30_102 : decode (xbc 30) 102 = .ok (.invokevirtual 160, 3) := by decide +kernel
theorem d30_105 : decode (xbc 30) 105 = .ok (.goto 5, 3) := by decide +kernel
theorem d30_108 : decode (xbc 30) 108 = .ok (.bipush (-6), 2) := by decide +kernel
theorem d30_110 : decode (xbc 30) 110 = .ok (.ireturn, 1) := by decide +kernel
theorem d31_0 : decode (xbc 31) 0 = .ok (.aload_n 0, 1) := by decide +kernel
theorem d31_1 : decode (xbc 31) 1 = .ok (.iload_n 1, 1) := by decide +kernel
theorem d31_2 : decode (xbc 31) 2 = .ok (.invokevirtual 157, 3) := by decide +kernel
theorem d31_5 : decode (xbc 31) 5 = .ok (.iload_n 3, 1) := by decide +kernel
theorem d31_6 : decode (xbc 31) 6 = .ok (.imul, 1) := by decide +kernel
theorem d31_7 : decode (xbc 31) 7 = .ok (.aload_n 0, 1) := by decide +kernel
theorem d31_8 : decode (xbc 31) 8 = .ok (.iload_n 1, 1) := by decide +kernel
theorem d31_9 : decode (xbc 31) 9 = .ok (.invokevirtual 87, 3) := by decide +kernel
theorem d31_12 : decode (xbc 31) 12 = .ok (.iload_n 2, 1) := by decide +kernel
theorem d31_13 : decode (xbc 31) 13 = .ok (.imul, 1) := by decide +kernel
theorem d31_14 : decode (xbc 31) 14 = .ok (.iadd, 1) := by decide +kernel
theorem d31_15 : decode (xbc 31) 15 = .ok (.ireturn, 1) := by decide +kernel
end
section
theorem d32_0 : decode (xbc 32) 0 = .ok (.aload_n 0, 1) := by decide +kernel
theorem d32_1 : decode (xbc 32) 1 = .ok (.invokespecial 1, 3) := by decide +kernel
theorem d32_4 : decode (xbc 32) 4 = .ok (.aload_n 0, 1) := by decide +kernel
theorem d32_5 : decode (xbc 32) 5 = .ok (.new 7, 3) := by decide +kernel
theorem d32_8 : decode (xbc 32) 8 = .ok (.dup, 1) := by decide +kernel
theorem d32_9 : decode (xbc 32) 9 = .ok (.invokespecial 9, 3) := by decide +kernel
theorem d32_12 : decode (xbc 32) 12 = .ok (.putfield 10, 3) := by decide +kernel
theorem d32_15 : decode (xbc 32) 15 = .ok (.aload_n 0, 1) := by decide +kernel
theorem d32_16 : decode (xbc 32) 16 = .ok (.new 16, 3) := by decide +kernel
theorem d32_19 : decode (xbc 32) 19 = .ok (.dup, 1) := by decide +kernel
theorem d32_20 : decode (xbc 32) 20 = .ok (.invokespecial 18, 3) := by decide +kernel
theorem d32_23 : decode (xbc 32) 23 = .ok (.putfield 19, 3) := by decide +kernel
theorem d32_26 : decode (xbc 32) 26 = .ok (.aload_n 0, 1) := by decide +kernel
theorem d32_27 : decode (xbc 32) 27 = .ok (.iconst 0, 1) := by decide +kernel
theorem d32_28 : decode (xbc 32) 28 = .ok (.putfield 23, 3) := by decide +kernel
theorem d32_31 : decode (xbc 32) 31 = .ok (.return_, 1) := by decide +kernel
theorem d33_0 : decode (xbc 33) 0 = .ok (.aload_n 0, 1) := by decide +kernel
theorem d33_1 : decode (xbc 33) 1 = .ok (.getfield 10, 3) := by decide +kernel
theorem d33_4 : decode (xbc 33) 4 = .ok (.aload_n 1, 1) := by decide +kernel
theorem d33_5 : decode (xbc 33) 5 = .ok (.invokevirtual 27, 3) := by decide +kernel
theorem d33_8 : decode (xbc 33) 8 = .ok (.aload_n 0, 1) := by decide +kernel
theorem d33_9 : decode (xbc 33) 9 = .ok (.getfield 19, 3) := by decide +kernel
theorem d33_12 : decode (xbc 33) 12 = .ok (.aload_n 2, 1) := by decide +kernel
theorem d33_13 : decode (xbc 33) 13 = .ok (.invokevirtual 31, 3) := by decide +kernel
theorem d33_16 : decode (xbc 33) 16 = .ok (.aload_n 0, 1) := by decide +kernel
theorem d33_17 : decode (xbc 33) 17 = .ok (.iconst 1, 1) := by decide +kernel
theorem d33_18 : decode (xbc 33) 18 = .ok (.putfield 23, 3) := by decide +kernel
theorem d33_21 : decode (xbc 33) 21 = .ok (.return_, 1) := by decide +kernel
theorem d34_0 : decode (xbc 34) 0 = .ok (.aload_n 0, 1) := by decide +kernel
theorem d34_1 : decode (xbc 34) 1 = .ok (.getfield 23, 3) := by decide +kernel
theorem d34_4 : decode (xbc 34) 4 = .ok (.ifCond .eq 19, 3) := by decide +kernel
theorem d34_7 : decode (xbc 34) 7 = .ok (.aload_n 1, 1) := by decide +kernel
theorem d34_8 : decode (xbc 34) 8 = .ok (.aload_n 0, 1) := by decide +kernel
theorem d34_9 : decode (xbc 34) 9 = .ok (.getfield 10, 3) := by decide +kernel
theorem d34_12 : decode (xbc 34) 12 = .ok (.invokevirtual 27, 3) := by decide +kernel
theorem d34_15 : decode (xbc 34) 15 = .ok (.aload_n 2, 1) := by decide +kernel
theorem d34_16 : decode (xbc 34) 16 = .ok (.aload_n 0, 1) := by decide +kernel
theorem d34_17 : decode (xbc 34) 17 = .ok (.getfield 19, 3) := by decide +kernel
theorem d34_20 : decode (xbc 34) 20 = .ok (.invokevirtual 31, 3) := by decide +kernel
theorem d34_23 : decode (xbc 34) 23 = .ok (.aload_n 0, 1) := by decide +kernel
theorem d34_24 : decode (xbc 34) 24 = .ok (.getfield 23, 3) := by decide +kernel
theorem d34_27 : decode (xbc 34) 27 = .ok (.ireturn, 1) := by decide +kernel
theorem d35_0 : decode (xbc 35) 0 = .ok (.aload_n 0, 1) := by decide +kernel
theorem d35_1 : decode (xbc 35) 1 = .ok (.invokespecial 3, 3) := by decide +kernel
theorem d35_4 : decode (xbc 35) 4 = .ok (.aload_n 0, 1) := by decide +kernel
theorem d35_5 : decode (xbc 35) 5 = .ok (.bipush 60, 2) := by decide +kernel
theorem d35_7 : decode (xbc 35) 7 = .ok (.newarray .int, 2) := by decide +kernel
theorem d35_9 : decode (xbc 35) 9 = .ok (.putfield 11, 3) := by decide +kernel
theorem d35_12 : decode (xbc 35) 12 = .ok (.aload_n 0, 1) := by decide +kernel
theorem d35_13 : decode (xbc 35) 13 = .ok (.iconst 0, 1) := by decide +kernel
theorem d35_14 : decode (xbc 35) 14 = .ok (.putfield 15, 3) := by decide +kernel
theorem d35_17 : decode (xbc 35) 17 = .ok (.return_, 1) := by decide +kernel
theorem d36_0 : decode (xbc 36) 0 = .ok (.aload_n 0, 1) := by decide +kernel
theorem d36_1 : decode (xbc 36) 1 = .ok (.getfield 15, 3) := by decide +kernel
theorem d36_4 : decode (xbc 36) 4 = .ok (.ifCond .lt 12, 3) := by decide +kernel
theorem d36_7 : decode (xbc 36) 7 = .ok (.aload_n 0, 1) := by decide +kernel
theorem d36_8 : decode (xbc 36) 8 = .ok (.getfield 15, 3) := by decide +kernel
theorem d36_11 : decode (xbc 36) 11 = .ok (.bipush 60, 2) := by decide +kernel
theorem d36_13 : decode (xbc 36) 13 = .ok (.if_icmp .lt 5, 3) := by decide +kernel
theorem d36_16 : decode (xbc 36) 16 = .ok (.iconst 0, 1) := by decide +kernel
theorem d36_17 : decode (xbc 36) 17 = .ok (.ireturn, 1) := by decide +kernel
theorem d36_18 : decode (xbc 36) 18 = .ok (.aload_n 0, 1) := by decide +kernel
theorem d36_19 : decode (xbc 36) 19 = .ok (.getfield 11, 3) := by decide +kernel
theorem d36_22 : decode (xbc 36) 22 = .ok (.aload_n 0, 1) := by decide +kernel
theorem d36_23 : decode (xbc 36) 23 = .ok (.getfield 15, 3) := by decide +kernel
theorem d36_26 : decode (xbc 36) 26 = .ok (.iload_n 1, 1) := by decide +kernel
theorem d36_27 : decode (xbc 36) 27 = .ok (.iastore, 1) := by decide +kernel
theorem d36_28 : decode (xbc 36) 28 = .ok (.aload_n 0, 1) := by decide +kernel
theorem d36_29 : decode (xbc 36) 29 = .ok (.dup, 1) := by decide +kernel
theorem d36_30 : decode (xbc 36) 30 = .ok (.getfield 15, 3) := by decide +kernel
theorem d36_33 : decode (xbc 36) 33 = .ok (.iconst 1, 1) := by decide +kernel
theorem d36_34 : decode (xbc 36) 34 = .ok (.iadd, 1) := by decide +kernel
theorem d36_35 : decode (xbc 36) 35 = .ok (.putfield 15, 3) := by decide +kernel
theorem d36_38 : decode (xbc 36) 38 = .ok (.iconst 1, 1) := by decide +kernel
theorem d36_39 : decode (xbc 36) 39 = .ok (.ireturn, 1) := by decide +kernel
theorem d37_0 : decode (xbc 37) 0 = .ok (.aload_n 0, 1) := by decide +kernel
theorem d37_1 : decode (xbc 37) 1 = .ok (.getfield 15, 3) := by decide +kernel
theorem d37_4 : decode (xbc 37) 4 = .ok (.ireturn, 1) := by decide +kernel
theorem d38_0 : decode (xbc 38) 0 = .ok (.aload_n 0, 1) := by decide +kernel
theorem d38_1 : decode (xbc 38) 1 = .ok (.iconst 0, 1) := by decide +kernel
theorem d38_2 : decode (xbc 38) 2 = .ok (.putfield 15, 3) := by decide +kernel
theorem d38_5 : decode (xbc 38) 5 = .ok (.return_, 1) := by decide +kernel
theorem d39_0 : decode (xbc 39) 0 = .ok (.iconst 0, 1) := by decide +kernel
theorem d39_1 : decode (xbc 39) 1 = .ok (.istore_n 1, 1) := by decide +kernel
theorem d39_2 : decode (xbc 39) 2 = .ok (.iconst 0, 1) := by decide +kernel
theorem d39_3 : decode (xbc 39) 3 = .ok (.istore_n 2, 1) := by decide +kernel
theorem d39_4 : decode (xbc 39) 4 = .ok (.iload_n 2, 1) := by decide +kernel
theorem d39_5 : decode (xbc 39) 5 = .ok (.bipush 60, 2) := by decide +kernel
theorem d39_7 : decode (xbc 39) 7 = .ok (.if_icmp .ge 39, 3) := by decide +kernel
theorem d39_10 : decode (xbc 39) 10 = .ok (.iload_n 1, 1) := by decide +kernel
theorem d39_11 : decode (xbc 39) 11 = .ok (.aload_n 0, 1) := by decide +kernel
theorem d39_12 : decode (xbc 39) 12 = .ok (.getfield 15, 3) := by decide +kernel
theorem d39_15 : decode (xbc 39) 15 = .ok (.if_icmp .ge 31, 3) := by decide +kernel
theorem d39_18 : decode (xbc 39) 18 = .ok (.aload_n 0, 1) := by decide +kernel
theorem d39_19 : decode (xbc 39) 19 = .ok (.iload_n 1, 1) := by decide +kernel
theorem d39_20 : decode (xbc 39) 20 = .ok (.invokevirtual 27, 3) := by decide +kernel
theorem d39_23 : decode (xbc 39) 23 = .ok (.istore_n 3, 1) := by decide +kernel
theorem d39_24 : decode (xbc 39) 24 = .ok (.iload_n 3, 1) := by decide +kernel
theorem d39_25 : decode (xbc 39) 25 = .ok (.bipush (-6), 2) := by decide +kernel
theorem d39_27 : decode (xbc 39) 27 = .ok (.if_icmp .eq 5, 3) := by decide +kernel
theorem d39_30 : decode (xbc 39) 30 = .ok (.iload_n 3, 1) := by decide +kernel
theorem d39_31 : decode (xbc 39) 31 = .ok (.ireturn, 1) := by decide +kernel
theorem d39_32 : decode (xbc 39) 32 = .ok (.iload_n 1, 1) := by decide +kernel
theorem d39_33 : decode (xbc 39) 33 = .ok (.aload_n 0, 1) := by decide +kernel
theorem d39_34 : decode (xbc 39) 34 = .ok (.iload_n 1, 1) := by decide +kernel
theorem d39_35 : decode (xbc 39) 35 = .ok (.invokevirtual 30, 3) := by decide +kernel
theorem d39_38 : decode (xbc 39) 38 = .ok (.iadd, 1) := by decide +kernel
theorem d39_39 : decode (xbc 39) 39 = .ok (.istore_n 1, 1) := by decide +kernel
theorem d39_40 : decode (xbc 39) 40 = .ok (.iinc 2 1, 3) := by decide +kernel
theorem d39_43 : decode (xbc 39) 43 = .ok (.goto (-39), 3) := by decide +kernel
theorem d39_46 : decode (xbc 39) 46 = .ok (.bipush (-6), 2) := by decide +kernel
theorem d39_48 : decode (xbc 39) 48 = .ok (.ireturn, 1) := by decide +kernel
theorem d40_0 : decode (xbc 40) 0 = .ok (.aload_n 0, 1) := by decide +kernel
theorem d40_1 : decode (xbc 40) 1 = .ok (.iload_n 1, 1) := by decide +kernel
theorem d40_2 : decode (xbc 40) 2 = .ok (.invokevirtual 19, 3) := by decide +kernel
theorem d40_5 : decode (xbc 40) 5 = .ok (.bipush 46, 2) := by decide +kernel
theorem d40_7 : decode (xbc 40) 7 = .ok (.if_icmp .ne 6, 3) := by decide +kernel
theorem d40_10 : decode (xbc 40) 10 = .ok (.bipush (-6), 2) := by decide +kernel
theorem d40_12 : decode (xbc 40) 12 = .ok (.ireturn, 1) := by decide +kernel
theorem d40_13 : decode (xbc 40) 13 = .ok (.aload_n 0, 1) := by decide +kernel
theorem d40_14 : decode (xbc 40) 14 = .ok (.iload_n 1, 1) := by decide +kernel
theorem d40_15 : decode (xbc 40) 15 = .ok (.invokevirtual 33, 3) := by decide +kernel
theorem d40_18 : decode (xbc 40) 18 = .ok (.ifCond .ne 5, 3) := by decide +kernel
theorem d40_21 : decode (xbc 40) 21 = .ok (.iload_n 1, 1) := by decide +kernel
theorem d40_22 : decode (xbc 40) 22 = .ok (.ireturn, 1) := by decide +kernel
theorem d40_23 : decode (xbc 40) 23 = .ok (.aload_n 0, 1) := by decide +kernel
theorem d40_24 : decode (xbc 40) 24 = .ok (.iload_n 1, 1) := by decide +kernel
theorem d40_25 : decode (xbc 40) 25 = .ok (.iconst 1, 1) := by decide +kernel
theorem d40_26 : decode (xbc 40) 26 = .ok (.iadd, 1) := by decide +kernel
theorem d40_27 : decode (xbc 40) 27 = .ok (.invokevirtual 19, 3) := by decide +kernel
theorem d40_30 : decode (xbc 40) 30 = .ok (.tableswitch 88 33 45 #[66, 88, 66, 88, 69, 88, 88, 88, 88, 88, 66, 88, 66], 66) := by decide +kernel
theorem d40_96 : decode (xbc 40) 96 = .ok (.bipush (-6), 2) := by decide +kernel
theorem d40_98 : decode (xbc 40) 98 = .ok (.ireturn, 1) := by decide +kernel
theorem d40_99 : decode (xbc 40) 99 = .ok (.aload_n 0, 1) := by decide +kernel
theorem d40_100 : decode (xbc 40) 100 = .ok (.iload_n 1, 1) := by decide +kernel
theorem d40_101 : decode (xbc 40) 101 = .ok (.iconst 2, 1) := by decide +kernel
theorem d40_102 : decode (xbc 40) 102 = .ok (.iadd, 1) := by decide +kernel
theorem d40_103 : decode (xbc 40) 103 = .ok (.invokevirtual 33, 3) := by decide +kernel
theorem d40_106 : decode (xbc 40) 106 = .ok (.ifCond .eq 8, 3) := by decide +kernel
theorem d40_109 : decode (xbc 40) 109 = .ok (.bipush (-6), 2) := by decide +kernel
theorem d40_111 : decode (xbc 40) 111 = .ok (.goto 6, 3) := by decide +kernel
theorem d40_114 : decode (xbc 40) 114 = .ok (.iload_n 1, 1) := by decide +kernel
theorem d40_115 : decode (xbc 40) 115 = .ok (.iconst 2, 1) := by decide +kernel
theorem d40_116 : decode (xbc 40) 116 = .ok (.iadd, 1) := by decide +kernel
theorem d40_117 : decode (xbc 40) 117 = .ok (.ireturn, 1) := by decide +kernel
theorem d40_118 : decode (xbc 40) 118 = .ok (.iload_n 1, 1) := by decide +kernel
theorem d40_119 : decode (xbc 40) 119 = .ok (.iconst 1, 1) := by decide +kernel
theorem d40_120 : decode (xbc 40) 120 = .ok (.iadd, 1) := by decide +kernel
theorem d40_121 : decode (xbc 40) 121 = .ok (.ireturn, 1) := by decide +kernel
theorem d41_0 : decode (xbc 41) 0 = .ok (.iload_n 1, 1) := by decide +kernel
theorem d41_1 : decode (xbc 41) 1 = .ok (.ifCond .lt 26, 3) := by decide +kernel
theorem d41_4 : decode (xbc 41) 4 = .ok (.iload_n 1, 1) := by decide +kernel
theorem d41_5 : decode (xbc 41) 5 = .ok (.aload_n 0, 1) := by decide +kernel
theorem d41_6 : decode (xbc 41) 6 = .ok (.getfield 15, 3) := by decide +kernel
theorem d41_9 : decode (xbc 41) 9 = .ok (.if_icmp .ge 18, 3) := by decide +kernel
theorem d41_12 : decode (xbc 41) 12 = .ok (.iload_n 1, 1) := by decide +kernel
theorem d41_13 : decode (xbc 41) 13 = .ok (.bipush 60, 2) := by decide +kernel
theorem d41_15 : decode (xbc 41) 15 = .ok (.if_icmp .ge 12, 3) := by decide +kernel
theorem d41_18 : decode (xbc 41) 18 = .ok (.aload_n 0, 1) := by decide +kernel
theorem d41_19 : decode (xbc 41) 19 = .ok (.getfield 11, 3) := by decide +kernel
theorem d41_22 : decode (xbc 41) 22 = .ok (.iload_n 1, 1) := by decide +kernel
theorem d41_23 : decode (xbc 41) 23 = .ok (.iaload, 1) := by decide +kernel
theorem d41_24 : decode (xbc 41) 24 = .ok (.goto 5, 3) := by decide +kernel
theorem d41_27 : decode (xbc 41) 27 = .ok (.bipush (-6), 2) := by decide +kernel
theorem d41_29 : decode (xbc 41) 29 = .ok (.ireturn, 1) := by decide +kernel
theorem d42_0 : decode (xbc 42) 0 = .ok (.aload_n 0, 1) := by decide +kernel
theorem d42_1 : decode (xbc 42) 1 = .ok (.iload_n 1, 1) := by decide +kernel
theorem d42_2 : decode (xbc 42) 2 = .ok (.invokevirtual 19, 3) := by decide +kernel
theorem d42_5 : decode (xbc 42) 5 = .ok (.bipush 97, 2) := by decide +kernel
theorem d42_7 : decode (xbc 42) 7 = .ok (.isub, 1) := by decide +kernel
theorem d42_8 : decode (xbc 42) 8 = .ok (.invokestatic 23, 3) := by decide +kernel
theorem d42_11 : decode (xbc 42) 11 = .ok (.ireturn, 1) := by decide +kernel
theorem d43_0 : decode (xbc 43) 0 = .ok (.aload_n 0, 1) := by decide +kernel
theorem d43_1 : decode (xbc 43) 1 = .ok (.iload_n 1, 1) := by decide +kernel
theorem d43_2 : decode (xbc 43) 2 = .ok (.invokevirtual 36, 3) := by decide +kernel
theorem d43_5 : decode (xbc 43) 5 = .ok (.lookupswitch 31 #[(37, 29), (46, 27)], 27) := by decide +kernel
theorem d43_32 : decode (xbc 43) 32 = .ok (.iconst 1, 1) := by decide +kernel
theorem d43_33 : decode (xbc 43) 33 = .ok (.ireturn, 1) := by decide +kernel
theorem d43_34 : decode (xbc 43) 34 = .ok (.iconst 3, 1) := by decide +kernel
theorem d43_35 : decode (xbc 43) 35 = .ok (.ireturn, 1) := by decide +kernel
theorem d43_36 : decode (xbc 43) 36 = .ok (.iconst 2, 1) := by decide +kernel
theorem d43_37 : decode (xbc 43) 37 = .ok (.ireturn, 1) := by decide +kernel
theorem d44_0 : decode (xbc 44) 0 = .ok (.aload_n 0, 1) := by decide +kernel
theorem d44_1 : decode (xbc 44) 1 = .ok (.iload_n 1, 1) := by decide +kernel
theorem d44_2 : decode (xbc 44) 2 = .ok (.invokevirtual 19, 3) := by decide +kernel
theorem d44_5 : decode (xbc 44) 5 = .ok (.bipush 46, 2) := by decide +kernel
theorem d44_7 : decode (xbc 44) 7 = .ok (.if_icmp .ne 8, 3) := by decide +kernel
theorem d44_10 : decode (xbc 44) 10 = .ok (.bipush 46, 2) := by decide +kernel
theorem d44_12 : decode (xbc 44) 12 = .ok (.goto 10, 3) := by decide +kernel
theorem d44_15 : decode (xbc 44) 15 = .ok (.aload_n 0, 1) := by decide +kernel
theorem d44_16 : decode (xbc 44) 16 = .ok (.iload_n 1, 1) := by decide +kernel
theorem d44_17 : decode (xbc 44) 17 = .ok (.iconst 1, 1) := by decide +kernel
theorem d44_18 : decode (xbc 44) 18 = .ok (.iadd, 1) := by decide +kernel
theorem d44_19 : decode (xbc 44) 19 = .ok (.invokevirtual 19, 3) := by decide +kernel
theorem d44_22 : decode (xbc 44) 22 = .ok (.ireturn, 1) := by decide +kernel
theorem d45_0 : decode (xbc 45) 0 = .ok (.aload_n 0, 1) := by decide +kernel
theorem d45_1 : decode (xbc 45) 1 = .ok (.iload_n 1, 1) := by decide +kernel
theorem d45_2 : decode (xbc 45) 2 = .ok (.invokevirtual 19, 3) := by decide +kernel
theorem d45_5 : decode (xbc 45) 5 = .ok (.bipush 97, 2) := by decide +kernel
theorem d45_7 : decode (xbc 45) 7 = .ok (.isub, 1) := by decide +kernel
theorem d45_8 : decode (xbc 45) 8 = .ok (.ireturn, 1) := by decide +kernel
theorem d46_0 : decode (xbc 46) 0 = .ok (.aload_n 0, 1) := by decide +kernel
theorem d46_1 : decode (xbc 46) 1 = .ok (.iload_n 1, 1) := by decide +kernel
theorem d46_2 : decode (xbc 46) 2 = .ok (.iconst 2, 1) := by decide +kernel
theorem d46_3 : decode (xbc 46) 3 = .ok (.iadd, 1) := by decide +kernel
theorem d46_4 : decode (xbc 46) 4 = .ok (.invokevirtual 19, 3) := by decide +kernel
theorem d46_7 : decode (xbc 46) 7 = .ok (.bipush 97, 2) := by decide +kernel
theorem d46_9 : decode (xbc 46) 9 = .ok (.isub, 1) := by decide +kernel
theorem d46_10 : decode (xbc 46) 10 = .ok (.ireturn, 1) := by decide +kernel
theorem d47_0 : decode (xbc 47) 0 = .ok (.aload_n 0, 1) := by decide +kernel
theorem d47_1 : decode (xbc 47) 1 = .ok (.invokespecial 3, 3) := by decide +kernel
theorem d47_4 : decode (xbc 47) 4 = .ok (.aload_n 0, 1) := by decide +kernel
theorem d47_5 : decode (xbc 47) 5 = .ok (.bipush 32, 2) := by decide +kernel
theorem d47_7 : decode (xbc 47) 7 = .ok (.newarray .int, 2) := by decide +kernel
theorem d47_9 : decode (xbc 47) 9 = .ok (.putfield 11, 3) := by decide +kernel
theorem d47_12 : decode (xbc 47) 12 = .ok (.aload_n 0, 1) := by decide +kernel
theorem d47_13 : decode (xbc 47) 13 = .ok (.bipush 32, 2) := by decide +kernel
theorem d47_15 : decode (xbc 47) 15 = .ok (.newarray .int, 2) := by decide +kernel
theorem d47_17 : decode (xbc 47) 17 = .ok (.putfield 15, 3) := by decide +kernel
theorem d47_20 : decode (xbc 47) 20 = .ok (.aload_n 0, 1) := by decide +kernel
theorem d47_21 : decode (xbc 47) 21 = .ok (.bipush 32, 2) := by decide +kernel
theorem d47_23 : decode (xbc 47) 23 = .ok (.newarray .int, 2) := by decide +kernel
theorem d47_25 : decode (xbc 47) 25 = .ok (.putfield 18, 3) := by decide +kernel
theorem d47_28 : decode (xbc 47) 28 = .ok (.aload_n 0, 1) := by decide +kernel
theorem d47_29 : decode (xbc 47) 29 = .ok (.bipush 32, 2) := by decide +kernel
theorem d47_31 : decode (xbc 47) 31 = .ok (.newarray .int, 2) := by decide +kernel
theorem d47_33 : decode (xbc 47) 33 = .ok (.putfield 21, 3) := by decide +kernel
theorem d47_36 : decode (xbc 47) 36 = .ok (.aload_n 0, 1) := by decide +kernel
theorem d47_37 : decode (xbc 47) 37 = .ok (.bipush 8, 2) := by decide +kernel
theorem d47_39 : decode (xbc 47) 39 = .ok (.newarray .int, 2) := by decide +kernel
theorem d47_41 : decode (xbc 47) 41 = .ok (.putfield 24, 3) := by decide +kernel
theorem d47_44 : decode (xbc 47) 44 = .ok (.aload_n 0, 1) := by decide +kernel
theorem d47_45 : decode (xbc 47) 45 = .ok (.iconst 0, 1) := by decide +kernel
theorem d47_46 : decode (xbc 47) 46 = .ok (.putfield 27, 3) := by decide +kernel
theorem d47_49 : decode (xbc 47) 49 = .ok (.aload_n 0, 1) := by decide +kernel
theorem d47_50 : decode (xbc 47) 50 = .ok (.iconst 0, 1) := by decide +kernel
theorem d47_51 : decode (xbc 47) 51 = .ok (.putfield 31, 3) := by decide +kernel
theorem d47_54 : decode (xbc 47) 54 = .ok (.return_, 1) := by decide +kernel
theorem d48_0 : decode (xbc 48) 0 = .ok (.aload_n 0, 1) := by decide +kernel
theorem d48_1 : decode (xbc 48) 1 = .ok (.getfield 24, 3) := by decide +kernel
theorem d48_4 : decode (xbc 48) 4 = .ok (.iconst 0, 1) := by decide +kernel
theorem d48_5 : decode (xbc 48) 5 = .ok (.invokestatic 40, 3) := by decide +kernel
theorem d48_8 : decode (xbc 48) 8 = .ok (.aload_n 0, 1) := by decide +kernel
theorem d48_9 : decode (xbc 48) 9 = .ok (.iconst 0, 1) := by decide +kernel
theorem d48_10 : decode (xbc 48) 10 = .ok (.putfield 27, 3) := by decide +kernel
theorem d48_13 : decode (xbc 48) 13 = .ok (.aload_n 0, 1) := by decide +kernel
theorem d48_14 : decode (xbc 48) 14 = .ok (.iconst 0, 1) := by decide +kernel
theorem d48_15 : decode (xbc 48) 15 = .ok (.putfield 31, 3) := by decide +kernel
theorem d48_18 : decode (xbc 48) 18 = .ok (.return_, 1) := by decide +kernel
theorem d49_0 : decode (xbc 49) 0 = .ok (.iload_n 1, 1) := by decide +kernel
theorem d49_1 : decode (xbc 49) 1 = .ok (.invokestatic 46, 3) := by decide +kernel
theorem d49_4 : decode (xbc 49) 4 = .ok (.ifCond .eq 10, 3) := by decide +kernel
theorem d49_7 : decode (xbc 49) 7 = .ok (.aload_n 0, 1) := by decide +kernel
theorem d49_8 : decode (xbc 49) 8 = .ok (.getfield 24, 3) := by decide +kernel
theorem d49_11 : decode (xbc 49) 11 = .ok (.iload_n 1, 1) := by decide +kernel
theorem d49_12 : decode (xbc 49) 12 = .ok (.iconst 0, 1) := by decide +kernel
theorem d49_13 : decode (xbc 49) 13 = .ok (.iastore, 1) := by decide +kernel
theorem d49_14 : decode (xbc 49) 14 = .ok (.return_, 1) := by decide +kernel
theorem d50_0 : decode (xbc 50) 0 = .ok (.aload_n 0, 1) := by decide +kernel
theorem d50_1 : decode (xbc 50) 1 = .ok (.getfield 27, 3) := by decide +kernel
theorem d50_4 : decode (xbc 50) 4 = .ok (.ifCond .lt 19, 3) := by decide +kernel
theorem d50_7 : decode (xbc 50) 7 = .ok (.aload_n 0, 1) := by decide +kernel
theorem d50_8 : decode (xbc 50) 8 = .ok (.getfield 27, 3) := by decide +kernel
theorem d50_11 : decode (xbc 50) 11 = .ok (.bipush 32, 2) := by decide +kernel
theorem d50_13 : decode (xbc 50) 13 = .ok (.if_icmp .ge 10, 3) := by decide +kernel
theorem d50_16 : decode (xbc 50) 16 = .ok (.iload_n 1, 1) := by decide +kernel
theorem d50_17 : decode (xbc 50) 17 = .ok (.invokestatic 46, 3) := by decide +kernel
theorem d50_20 : decode (xbc 50) 20 = .ok (.ifCond .ne 4, 3) := by decide +kernel
theorem d50_23 : decode (xbc 50) 23 = .ok (.return_, 1) := by decide +kernel
theorem d50_24 : decode (xbc 50) 24 = .ok (.aload_n 0, 1) := by decide +kernel
theorem d50_25 : decode (xbc 50) 25 = .ok (.dup, 1) := by decide +kernel
theorem d50_26 : decode (xbc 50) 26 = .ok (.getfield 31, 3) := by decide +kernel
theorem d50_29 : decode (xbc 50) 29 = .ok (.iconst 1, 1) := by decide +kernel
theorem d50_30 : decode (xbc 50) 30 = .ok (.iadd, 1) := by decide +kernel
theorem d50_31 : decode (xbc 50) 31 = .ok (.putfield 31, 3) := by decide +kernel
theorem d50_34 : decode (xbc 50) 34 = .ok (.aload_n 0, 1) := by decide +kernel
theorem d50_35 : decode (xbc 50) 35 = .ok (.getfield 11, 3) := by decide +kernel
theorem d50_38 : decode (xbc 50) 38 = .ok (.aload_n 0, 1) := by decide +kernel
theorem d50_39 : decode (xbc 50) 39 = .ok (.getfield 27, 3) := by decide +kernel
theorem d50_42 : decode (xbc 50) 42 = .ok (.iload_n 1, 1) := by decide +kernel
theorem d50_43 : decode (xbc 50) 43 = .ok (.iastore, 1) := by decide +kernel
theorem d50_44 : decode (xbc 50) 44 = .ok (.aload_n 0, 1) := by decide +kernel
theorem d50_45 : decode (xbc 50) 45 = .ok (.getfield 15, 3) := by decide +kernel
theorem d50_48 : decode (xbc 50) 48 = .ok (.aload_n 0, 1) := by decide +kernel
theorem d50_49 : decode (xbc 50) 49 = .ok (.getfield 27, 3) := by decide +kernel
theorem d50_52 : decode (xbc 50) 52 = .ok (.iload_n 2, 1) := by decide +kernel
theorem d50_53 : decode (xbc 50) 53 = .ok (.iastore, 1) := by decide +kernel
theorem d50_54 : decode (xbc 50) 54 = .ok (.aload_n 0, 1) := by decide +kernel
theorem d50_55 : decode (xbc 50) 55 = .ok (.getfield 18, 3) := by decide +kernel
theorem d50_58 : decode (xbc 50) 58 = .ok (.aload_n 0, 1) := by decide +kernel
theorem d50_59 : decode (xbc 50) 59 = .ok (.getfield 27, 3) := by decide +kernel
theorem d50_62 : decode (xbc 50) 62 = .ok (.iload_n 3, 1) := by decide +kernel
theorem d50_63 : decode (xbc 50) 63 = .ok (.iastore, 1) := by decide +kernel
theorem d50_64 : decode (xbc 50) 64 = .ok (.aload_n 0, 1) := by decide +kernel
theorem d50_65 : decode (xbc 50) 65 = .ok (.getfield 21, 3) := by decide +kernel
theorem d50_68 : decode (xbc 50) 68 = .ok (.aload_n 0, 1) := by decide +kernel
theorem d50_69 : decode (xbc 50) 69 = .ok (.getfield 27, 3) := by decide +kernel
theorem d50_72 : decode (xbc 50) 72 = .ok (.aload_n 0, 1) := by decide +kernel
theorem d50_73 : decode (xbc 50) 73 = .ok (.getfield 31, 3) := by decide +kernel
theorem d50_76 : decode (xbc 50) 76 = .ok (.iastore, 1) := by decide +kernel
theorem d50_77 : decode (xbc 50) 77 = .ok (.aload_n 0, 1) := by decide +kernel
theorem d50_78 : decode (xbc 50) 78 = .ok (.getfield 24, 3) := by decide +kernel
theorem d50_81 : decode (xbc 50) 81 = .ok (.iload_n 1, 1) := by decide +kernel
theorem d50_82 : decode (xbc 50) 82 = .ok (.aload_n 0, 1) := by decide +kernel
theorem d50_83 : decode (xbc 50) 83 = .ok (.getfield 31, 3) := by decide +kernel
theorem d50_86 : decode (xbc 50) 86 = .ok (.iastore, 1) := by decide +kernel
theorem d50_87 : decode (xbc 50) 87 = .ok (.aload_n 0, 1) := by decide +kernel
theorem d50_88 : decode (xbc 50) 88 = .ok (.dup, 1) := by decide +kernel
theorem d50_89 : decode (xbc 50) 89 = .ok (.getfield 27, 3) := by decide +kernel
theorem d50_92 : decode (xbc 50) 92 = .ok (.iconst 1, 1) := by decide +kernel
theorem d50_93 : decode (xbc 50) 93 = .ok (.iadd, 1) := by decide +kernel
theorem d50_94 : decode (xbc 50) 94 = .ok (.putfield 27, 3) := by decide +kernel
theorem d50_97 : decode (xbc 50) 97 = .ok (.return_, 1) := by decide +kernel
theorem d51_0 : decode (xbc 51) 0 = .ok (.aload_n 1, 1) := by decide +kernel
theorem d51_1 : decode (xbc 51) 1 = .ok (.getfield 11, 3) := by decide +kernel
theorem d51_4 : decode (xbc 51) 4 = .ok (.iconst 0, 1) := by decide +kernel
theorem d51_5 : decode (xbc 51) 5 = .ok (.aload_n 0, 1) := by decide +kernel
theorem d51_6 : decode (xbc 51) 6 = .ok (.getfield 11, 3) := by decide +kernel
theorem d51_9 : decode (xbc 51) 9 = .ok (.iconst 0, 1) := by decide +kernel
theorem d51_10 : decode (xbc 51) 10 = .ok (.bipush 32, 2) := by decide +kernel
theorem d51_12 : decode (xbc 51) 12 = .ok (.invokestatic 34, 3) := by decide +kernel
theorem d51_15 : decode (xbc 51) 15 = .ok (.aload_n 1, 1) := by decide +kernel
theorem d51_16 : decode (xbc 51) 16 = .ok (.getfield 15, 3) := by decide +kernel
theorem d51_19 : decode (xbc 51) 19 = .ok (.iconst 0, 1) := by decide +kernel
theorem d51_20 : decode (xbc 51) 20 = .ok (.aload_n 0, 1) := by decide +kernel
theorem d51_21 : decode (xbc 51) 21 = .ok (.getfield 15, 3) := by decide +kernel
theorem d51_24 : decode (xbc 51) 24 = .ok (.iconst 0, 1) := by decide +kernel
theorem d51_25 : decode (xbc 51) 25 = .ok (.bipush 32, 2) := by decide +kernel
theorem d51_27 : decode (xbc 51) 27 = .ok (.invokestatic 34, 3) := by decide +kernel
theorem d51_30 : decode (xbc 51) 30 = .ok (.aload_n 1, 1) := by decide +kernel
theorem d51_31 : decode (xbc 51) 31 = .ok (.getfield 18, 3) := by decide +kernel
theorem d51_34 : decode (xbc 51) 34 = .ok (.iconst 0, 1) := by decide +kernel
theorem d51_35 : decode (xbc 51) 35 = .ok (.aload_n 0, 1) := by decide +kernel
theorem d51_36 : decode (xbc 51) 36 = .ok (.getfield 18, 3) := by decide +kernel
theorem d51_39 : decode (xbc 51) 39 = .ok (.iconst 0, 1) := by decide +kernel
theorem d51_40 : decode (xbc 51) 40 = .ok (.bipush 32, 2) := by decide +kernel
theorem d51_42 : decode (xbc 51) 42 = .ok (.invokestatic 34, 3) := by decide +kernel
theorem d51_45 : decode (xbc 51) 45 = .ok (.aload_n 1, 1) := by decide +kernel
theorem d51_46 : decode (xbc 51) 46 = .ok (.getfield 21, 3) := by decide +kernel
theorem d51_49 : decode (xbc 51) 49 = .ok (.iconst 0, 1) := by decide +kernel
theorem d51_50 : decode (xbc 51) 50 = .ok (.aload_n 0, 1) := by decide +kernel
theorem d51_51 : decode (xbc 51) 51 = .ok (.getfield 21, 3) := by decide +kernel
theorem d51_54 : decode (xbc 51) 54 = .ok (.iconst 0, 1) := by decide +kernel
theorem d51_55 : decode (xbc 51) 55 = .ok (.bipush 32, 2) := by decide +kernel
theorem d51_57 : decode (xbc 51) 57 = .ok (.invokestatic 34, 3) := by decide +kernel
theorem d51_60 : decode (xbc 51) 60 = .ok (.aload_n 1, 1) := by decide +kernel
theorem d51_61 : decode (xbc 51) 61 = .ok (.getfield 24, 3) := by decide +kernel
theorem d51_64 : decode (xbc 51) 64 = .ok (.iconst 0, 1) := by decide +kernel
theorem d51_65 : decode (xbc 51) 65 = .ok (.aload_n 0, 1) := by decide +kernel
theorem d51_66 : decode (xbc 51) 66 = .ok (.getfield 24, 3) := by decide +kernel
theorem d51_69 : decode (xbc 51) 69 = .ok (.iconst 0, 1) := by decide +kernel
theorem d51_70 : decode (xbc 51) 70 = .ok (.bipush 8, 2) := by decide +kernel
theorem d51_72 : decode (xbc 51) 72 = .ok (.invokestatic 34, 3) := by decide +kernel
theorem d51_75 : decode (xbc 51) 75 = .ok (.aload_n 0, 1) := by decide +kernel
theorem d51_76 : decode (xbc 51) 76 = .ok (.aload_n 1, 1) := by decide +kernel
theorem d51_77 : decode (xbc 51) 77 = .ok (.getfield 27, 3) := by decide +kernel
theorem d51_80 : decode (xbc 51) 80 = .ok (.putfield 27, 3) := by decide +kernel
theorem d51_83 : decode (xbc 51) 83 = .ok (.aload_n 0, 1) := by decide +kernel
theorem d51_84 : decode (xbc 51) 84 = .ok (.aload_n 1, 1) := by decide +kernel
theorem d51_85 : decode (xbc 51) 85 = .ok (.getfield 31, 3) := by decide +kernel
theorem d51_88 : decode (xbc 51) 88 = .ok (.putfield 31, 3) := by decide +kernel
theorem d51_91 : decode (xbc 51) 91 = .ok (.return_, 1) := by decide +kernel
theorem d52_0 : decode (xbc 52) 0 = .ok (.bipush (-6), 2) := by decide +kernel
theorem d52_2 : decode (xbc 52) 2 = .ok (.istore_n 2, 1) := by decide +kernel
theorem d52_3 : decode (xbc 52) 3 = .ok (.iconst 0, 1) := by decide +kernel
theorem d52_4 : decode (xbc 52) 4 = .ok (.istore_n 3, 1) := by decide +kernel
theorem d52_5 : decode (xbc 52) 5 = .ok (.iload_n 3, 1) := by decide +kernel
theorem d52_6 : decode (xbc 52) 6 = .ok (.aload_n 0, 1) := by decide +kernel
theorem d52_7 : decode (xbc 52) 7 = .ok (.getfield 27, 3) := by decide +kernel
theorem d52_10 : decode (xbc 52) 10 = .ok (.if_icmp .ge 38, 3) := by decide +kernel
theorem d52_13 : decode (xbc 52) 13 = .ok (.iload_n 1, 1) := by decide +kernel
theorem d52_14 : decode (xbc 52) 14 = .ok (.ifCond .eq 11, 3) := by decide +kernel
theorem d52_17 : decode (xbc 52) 17 = .ok (.aload_n 0, 1) := by decide +kernel
theorem d52_18 : decode (xbc 52) 18 = .ok (.iload_n 3, 1) := by decide +kernel
theorem d52_19 : decode (xbc 52) 19 = .ok (.invokevirtual 57, 3) := by decide +kernel
theorem d52_22 : decode (xbc 52) 22 = .ok (.ifCond .eq 20, 3) := by decide +kernel
theorem d52_25 : decode (xbc 52) 25 = .ok (.iload_n 2, 1) := by decide +kernel
theorem d52_26 : decode (xbc 52) 26 = .ok (.bipush (-6), 2) := by decide +kernel
theorem d52_28 : decode (xbc 52) 28 = .ok (.if_icmp .eq 12, 3) := by decide +kernel
theorem d52_31 : decode (xbc 52) 31 = .ok (.aload_n 0, 1) := by decide +kernel
theorem d52_32 : decode (xbc 52) 32 = .ok (.iload_n 3, 1) := by decide +kernel
theorem d52_33 : decode (xbc 52) 33 = .ok (.iload_n 2, 1) := by decide +kernel
theorem d52_34 : decode (xbc 52) 34 = .ok (.invokevirtual 60, 3) := by decide +kernel
theorem d52_37 : decode (xbc 52) 37 = .ok (.ifCond .eq 5, 3) := by decide +kernel
theorem d52_40 : decode (xbc 52) 40 = .ok (.iload_n 3, 1) := by decide +kernel
theorem d52_41 : decode (xbc 52) 41 = .ok (.istore_n 2, 1) := by decide +kernel
theorem d52_42 : decode (xbc 52) 42 = .ok (.iinc 3 1, 3) := by decide +kernel
theorem d52_45 : decode (xbc 52) 45 = .ok (.goto (-40), 3) := by decide +kernel
theorem d52_48 : decode (xbc 52) 48 = .ok (.iload_n 2, 1) := by decide +kernel
theorem d52_49 : decode (xbc 52) 49 = .ok (.ireturn, 1) := by decide +kernel
theorem d53_0 : decode (xbc 53) 0 = .ok (.aload_n 0, 1) := by decide +kernel
theorem d53_1 : decode (xbc 53) 1 = .ok (.iload_n 1, 1) := by decide +kernel
theorem d53_2 : decode (xbc 53) 2 = .ok (.invokevirtual 53, 3) := by decide +kernel
theorem d53_5 : decode (xbc 53) 5 = .ok (.istore_n 2, 1) := by decide +kernel
theorem d53_6 : decode (xbc 53) 6 = .ok (.iload_n 2, 1) := by decide +kernel
theorem d53_7 : decode (xbc 53) 7 = .ok (.invokestatic 46, 3) := by decide +kernel
theorem d53_10 : decode (xbc 53) 10 = .ok (.ifCond .eq 22, 3) := by decide +kernel
theorem d53_13 : decode (xbc 53) 13 = .ok (.aload_n 0, 1) := by decide +kernel
theorem d53_14 : decode (xbc 53) 14 = .ok (.getfield 21, 3) := by decide +kernel
theorem d53_17 : decode (xbc 53) 17 = .ok (.iload_n 1, 1) := by decide +kernel
theorem d53_18 : decode (xbc 53) 18 = .ok (.iaload, 1) := by decide +kernel
theorem d53_19 : decode (xbc 53) 19 = .ok (.aload_n 0, 1) := by decide +kernel
theorem d53_20 : decode (xbc 53) 20 = .ok (.getfield 24, 3) := by decide +kernel
theorem d53_23 : decode (xbc 53) 23 = .ok (.iload_n 2, 1) := by decide +kernel
theorem d53_24 : decode (xbc 53) 24 = .ok (.iaload, 1) := by decide +kernel
theorem d53_25 : decode (xbc 53) 25 = .ok (.if_icmp .ne 7, 3) := by decide +kernel
theorem d53_28 : decode (xbc 53) 28 = .ok (.iconst 1, 1) := by decide +kernel
theorem d53_29 : decode (xbc 53) 29 = .ok (.goto 4, 3) := by decide +kernel
theorem d53_32 : decode (xbc 53) 32 = .ok (.iconst 0, 1) := by decide +kernel
theorem d53_33 : decode (xbc 53) 33 = .ok (.ireturn, 1) := by decide +kernel
theorem d54_0 : decode (xbc 54) 0 = .ok (.aload_n 0, 1) := by decide +kernel
theorem d54_1 : decode (xbc 54) 1 = .ok (.iload_n 1, 1) := by decide +kernel
theorem d54_2 : decode (xbc 54) 2 = .ok (.invokevirtual 50, 3) := by decide +kernel
theorem d54_5 : decode (xbc 54) 5 = .ok (.ifCond .eq 12, 3) := by decide +kernel
theorem d54_8 : decode (xbc 54) 8 = .ok (.aload_n 0, 1) := by decide +kernel
theorem d54_9 : decode (xbc 54) 9 = .ok (.getfield 11, 3) := by decide +kernel
theorem d54_12 : decode (xbc 54) 12 = .ok (.iload_n 1, 1) := by decide +kernel
theorem d54_13 : decode (xbc 54) 13 = .ok (.iaload, 1) := by decide +kernel
theorem d54_14 : decode (xbc 54) 14 = .ok (.goto 5, 3) := by decide +kernel
theorem d54_17 : decode (xbc 54) 17 = .ok (.bipush (-6), 2) := by decide +kernel
theorem d54_19 : decode (xbc 54) 19 = .ok (.ireturn, 1) := by decide +kernel
theorem d55_0 : decode (xbc 55) 0 = .ok (.iload_n 1, 1) := by decide +kernel
theorem d55_1 : decode (xbc 55) 1 = .ok (.ifCond .lt 21, 3) := by decide +kernel
theorem d55_4 : decode (xbc 55) 4 = .ok (.iload_n 1, 1) := by decide +kernel
theorem d55_5 : decode (xbc 55) 5 = .ok (.aload_n 0, 1) := by decide +kernel
theorem d55_6 : decode (xbc 55) 6 = .ok (.getfield 27, 3) := by decide +kernel
theorem d55_9 : decode (xbc 55) 9 = .ok (.if_icmp .ge 13, 3) := by decide +kernel
theorem d55_12 : decode (xbc 55) 12 = .ok (.iload_n 1, 1) := by decide +kernel
theorem d55_13 : decode (xbc 55) 13 = .ok (.bipush 32, 2) := by decide +kernel
theorem d55_15 : decode (xbc 55) 15 = .ok (.if_icmp .ge 7, 3) := by decide +kernel
theorem d55_18 : decode (xbc 55) 18 = .ok (.iconst 1, 1) := by decide +kernel
theorem d55_19 : decode (xbc 55) 19 = .ok (.goto 4, 3) := by decide +kernel
theorem d55_22 : decode (xbc 55) 22 = .ok (.iconst 0, 1) := by decide +kernel
theorem d55_23 : decode (xbc 55) 23 = .ok (.ireturn, 1) := by decide +kernel
theorem d56_0 : decode (xbc 56) 0 = .ok (.aload_n 0, 1) := by decide +kernel
theorem d56_1 : decode (xbc 56) 1 = .ok (.iload_n 1, 1) := by decide +kernel
theorem d56_2 : decode (xbc 56) 2 = .ok (.invokevirtual 64, 3) := by decide +kernel
theorem d56_5 : decode (xbc 56) 5 = .ok (.aload_n 0, 1) := by decide +kernel
theorem d56_6 : decode (xbc 56) 6 = .ok (.iload_n 2, 1) := by decide +kernel
theorem d56_7 : decode (xbc 56) 7 = .ok (.invokevirtual 67, 3) := by decide +kernel
theorem d56_10 : decode (xbc 56) 10 = .ok (.imul, 1) := by decide +kernel
theorem d56_11 : decode (xbc 56) 11 = .ok (.istore_n 3, 1) := by decide +kernel
theorem d56_12 : decode (xbc 56) 12 = .ok (.aload_n 0, 1) := by decide +kernel
theorem d56_13 : decode (xbc 56) 13 = .ok (.iload_n 2, 1) := by decide +kernel
theorem d56_14 : decode (xbc 56) 14 = .ok (.invokevirtual 64, 3) := by decide +kernel
theorem d56_17 : decode (xbc 56) 17 = .ok (.aload_n 0, 1) := by decide +kernel
theorem d56_18 : decode (xbc 56) 18 = .ok (.iload_n 1, 1) := by decide +kernel
theorem d56_19 : decode (xbc 56) 19 = .ok (.invokevirtual 67, 3) := by decide +kernel
theorem d56_22 : decode (xbc 56) 22 = .ok (.imul, 1) := by decide +kernel
theorem d56_23 : decode (xbc 56) 23 = .ok (.istore 4, 2) := by decide +kernel
theorem d56_25 : decode (xbc 56) 25 = .ok (.iload_n 3, 1) := by decide +kernel
theorem d56_26 : decode (xbc 56) 26 = .ok (.iload 4, 2) := by decide +kernel
theorem d56_28 : decode (xbc 56) 28 = .ok (.if_icmp .ne 24, 3) := by decide +kernel
theorem d56_31 : decode (xbc 56) 31 = .ok (.aload_n 0, 1) := by decide +kernel
theorem d56_32 : decode (xbc 56) 32 = .ok (.iload_n 1, 1) := by decide +kernel
theorem d56_33 : decode (xbc 56) 33 = .ok (.invokevirtual 53, 3) := by decide +kernel
theorem d56_36 : decode (xbc 56) 36 = .ok (.aload_n 0, 1) := by decide +kernel
theorem d56_37 : decode (xbc 56) 37 = .ok (.iload_n 2, 1) := by decide +kernel
theorem d56_38 : decode (xbc 56) 38 = .ok (.invokevirtual 53, 3) := by decide +kernel
theorem d56_41 : decode (xbc 56) 41 = .ok (.if_icmp .le 7, 3) := by decide +kernel
theorem d56_44 : decode (xbc 56) 44 = .ok (.iconst 1, 1) := by decide +kernel
theorem d56_45 : decode (xbc 56) 45 = .ok (.goto 18, 3) := by decide +kernel
theorem d56_48 : decode (xbc 56) 48 = .ok (.iconst 0, 1) := by decide +kernel
theorem d56_49 : decode (xbc 56) 49 = .ok (.goto 14, 3) := by decide +kernel
theorem d56_52 : decode (xbc 56) 52 = .ok (.iload_n 3, 1) := by decide +kernel
theorem d56_53 : decode (xbc 56) 53 = .ok (.iload 4, 2) := by decide +kernel
theorem d56_55 : decode (xbc 56) 55 = .ok (.if_icmp .ge 7, 3) := by decide +kernel
theorem d56_58 : decode (xbc 56) 58 = .ok (.iconst 1, 1) := by decide +kernel
theorem d56_59 : decode (xbc 56) 59 = .ok (.goto 4, 3) := by decide +kernel
theorem d56_62 : decode (xbc 56) 62 = .ok (.iconst 0, 1) := by decide +kernel
theorem d56_63 : decode (xbc 56) 63 = .ok (.ireturn, 1) := by decide +kernel
theorem d57_0 : decode (xbc 57) 0 = .ok (.aload_n 0, 1) := by decide +kernel
theorem d57_1 : decode (xbc 57) 1 = .ok (.iload_n 1, 1) := by decide +kernel
theorem d57_2 : decode (xbc 57) 2 = .ok (.invokevirtual 50, 3) := by decide +kernel
theorem d57_5 : decode (xbc 57) 5 = .ok (.ifCond .eq 12, 3) := by decide +kernel
theorem d57_8 : decode (xbc 57) 8 = .ok (.aload_n 0, 1) := by decide +kernel
theorem d57_9 : decode (xbc 57) 9 = .ok (.getfield 15, 3) := by decide +kernel
theorem d57_12 : decode (xbc 57) 12 = .ok (.iload_n 1, 1) := by decide +kernel
theorem d57_13 : decode (xbc 57) 13 = .ok (.iaload, 1) := by decide +kernel
theorem d57_14 : decode (xbc 57) 14 = .ok (.goto 4, 3) := by decide +kernel
theorem d57_17 : decode (xbc 57) 17 = .ok (.iconst 0, 1) := by decide +kernel
theorem d57_18 : decode (xbc 57) 18 = .ok (.ireturn, 1) := by decide +kernel
theorem d58_0 : decode (xbc 58) 0 = .ok (.aload_n 0, 1) := by decide +kernel
theorem d58_1 : decode (xbc 58) 1 = .ok (.iload_n 1, 1) := by decide +kernel
theorem d58_2 : decode (xbc 58) 2 = .ok (.invokevirtual 50, 3) := by decide +kernel
theorem d58_5 : decode (xbc 58) 5 = .ok (.ifCond .eq 12, 3) := by decide +kernel
theorem d58_8 : decode (xbc 58) 8 = .ok (.aload_n 0, 1) := by decide +kernel
theorem d58_9 : decode (xbc 58) 9 = .ok (.getfield 18, 3) := by decide +kernel
theorem d58_12 : decode (xbc 58) 12 = .ok (.iload_n 1, 1) := by decide +kernel
theorem d58_13 : decode (xbc 58) 13 = .ok (.iaload, 1) := by decide +kernel
theorem d58_14 : decode (xbc 58) 14 = .ok (.goto 4, 3) := by decide +kernel
theorem d58_17 : decode (xbc 58) 17 = .ok (.iconst 1, 1) := by decide +kernel
theorem d58_18 : decode (xbc 58) 18 = .ok (.ireturn, 1) := by decide +kernel
theorem d59_0 : decode (xbc 59) 0 = .ok (.aload_n 0, 1) := by decide +kernel
theorem d59_1 : decode (xbc 59) 1 = .ok (.iload_n 1, 1) := by decide +kernel
theorem d59_2 : decode (xbc 59) 2 = .ok (.invokevirtual 50, 3) := by decide +kernel
theorem d59_5 : decode (xbc 59) 5 = .ok (.ifCond .ne 4, 3) := by decide +kernel
theorem d59_8 : decode (xbc 59) 8 = .ok (.return_, 1) := by decide +kernel
theorem d59_9 : decode (xbc 59) 9 = .ok (.iload_n 1, 1) := by decide +kernel
theorem d59_10 : decode (xbc 59) 10 = .ok (.istore_n 2, 1) := by decide +kernel
theorem d59_11 : decode (xbc 59) 11 = .ok (.iload_n 2, 1) := by decide +kernel
theorem d59_12 : decode (xbc 59) 12 = .ok (.iconst 1, 1) := by decide +kernel
theorem d59_13 : decode (xbc 59) 13 = .ok (.iadd, 1) := by decide +kernel
theorem d59_14 : decode (xbc 59) 14 = .ok (.aload_n 0, 1) := by decide +kernel
theorem d59_15 : decode (xbc 59) 15 = .ok (.getfield 27, 3) := by decide +kernel
theorem d59_18 : decode (xbc 59) 18 = .ok (.if_icmp .ge 65, 3) := by decide +kernel
theorem d59_21 : decode (xbc 59) 21 = .ok (.aload_n 0, 1) := by decide +kernel
theorem d59_22 : decode (xbc 59) 22 = .ok (.getfield 11, 3) := by decide +kernel
theorem d59_25 : decode (xbc 59) 25 = .ok (.iload_n 2, 1) := by decide +kernel
theorem d59_26 : decode (xbc 59) 26 = .ok (.aload_n 0, 1) := by decide +kernel
theorem d59_27 : decode (xbc 59) 27 = .ok (.getfield 11, 3) := by decide +kernel
theorem d59_30 : decode (xbc 59) 30 = .ok (.iload_n 2, 1) := by decide +kernel
theorem d59_31 : decode (xbc 59) 31 = .ok (.iconst 1, 1) := by decide +kernel
theorem d59_32 : decode (xbc 59) 32 = .ok (.iadd, 1) := by decide +kernel
theorem d59_33 : decode (xbc 59) 33 = .ok (.iaload, 1) := by decide +kernel
theorem d59_34 : decode (xbc 59) 34 = .ok (.iastore, 1) := by decide +kernel
theorem d59_35 : decode (xbc 59) 35 = .ok (.aload_n 0, 1) := by decide +kernel
theorem d59_36 : decode (xbc 59) 36 = .ok (.getfield 15, 3) := by decide +kernel
theorem d59_39 : decode (xbc 59) 39 = .ok (.iload_n 2, 1) := by decide +kernel
theorem d59_40 : decode (xbc 59) 40 = .ok (.aload_n 0, 1) := by decide +kernel
theorem d59_41 : decode (xbc 59) 41 = .ok (.getfield 15, 3) := by decide +kernel
theorem d59_44 : decode (xbc 59) 44 = .ok (.iload_n 2, 1) := by decide +kernel
theorem d59_45 : decode (xbc 59) 45 = .ok (.iconst 1, 1) := by decide +kernel
theorem d59_46 : decode (xbc 59) 46 = .ok (.iadd, 1) := by decide +kernel
theorem d59_47 : decode (xbc 59) 47 = .ok (.iaload, 1) := by decide +kernel
theorem d59_48 : decode (xbc 59) 48 = .ok (.iastore, 1) := by decide +kernel
theorem d59_49 : decode (xbc 59) 49 = .ok (.aload_n 0, 1) := by decide +kernel
theorem d59_50 : decode (xbc 59) 50 = .ok (.getfield 18, 3) := by decide +kernel
theorem d59_53 : decode (xbc 59) 53 = .ok (.iload_n 2, 1) := by decide +kernel
theorem d59_54 : decode (xbc 59) 54 = .ok (.aload_n 0, 1) := by decide +kernel
theorem d59_55 : decode (xbc 59) 55 = .ok (.getfield 18, 3) := by decide +kernel
theorem d59_58 : decode (xbc 59) 58 = .ok (.iload_n 2, 1) := by decide +kernel
theorem d59_59 : decode (xbc 59) 59 = .ok (.iconst 1, 1) := by decide +kernel
theorem d59_60 : decode (xbc 59) 60 = .ok (.iadd, 1) := by decide +kernel
theorem d59_61 : decode (xbc 59) 61 = .ok (.iaload, 1) := by decide +kernel
theorem d59_62 : decode (xbc 59) 62 = .ok (.iastore, 1) := by decide +kernel
theorem d59_63 : decode (xbc 59) 63 = .ok (.aload_n 0, 1) := by decide +kernel
theorem d59_64 : decode (xbc 59) 64 = .ok (.getfield 21, 3) := by decide +kernel
theorem d59_67 : decode (xbc 59) 67 = .ok (.iload_n 2, 1) := by decide +kernel
theorem d59_68 : decode (xbc 59) 68 = .ok (.aload_n 0, 1) := by decide +kernel
theorem d59_69 : decode (xbc 59) 69 = .ok (.getfield 21, 3) := by decide +kernel
theorem d59_72 : decode (xbc 59) 72 = .ok (.iload_n 2, 1) := by decide +kernel
theorem d59_73 : decode (xbc 59) 73 = .ok (.iconst 1, 1) := by decide +kernel
theorem d59_74 : decode (xbc 59) 74 = .ok (.iadd, 1) := by decide +kernel
theorem d59_75 : decode (xbc 59) 75 = .ok (.iaload, 1) := by decide +kernel
theorem d59_76 : decode (xbc 59) 76 = .ok (.iastore, 1) := by decide +kernel
theorem d59_77 : decode (xbc 59) 77 = .ok (.iinc 2 1, 3) := by decide +kernel
theorem d59_80 : decode (xbc 59) 80 = .ok (.goto (-69), 3) := by decide +kernel
theorem d59_83 : decode (xbc 59) 83 = .ok (.aload_n 0, 1) := by decide +kernel
theorem d59_84 : decode (xbc 59) 84 = .ok (.dup, 1) := by decide +kernel
theorem d59_85 : decode (xbc 59) 85 = .ok (.getfield 27, 3) := by decide +kernel
theorem d59_88 : decode (xbc 59) 88 = .ok (.iconst 1, 1) := by decide +kernel
theorem d59_89 : decode (xbc 59) 89 = .ok (.isub, 1) := by decide +kernel
theorem d59_90 : decode (xbc 59) 90 = .ok (.putfield 27, 3) := by decide +kernel
theorem d59_93 : decode (xbc 59) 93 = .ok (.return_, 1) := by decide +kernel
theorem d60_0 : decode (xbc 60) 0 = .ok (.aload_n 0, 1) := by decide +kernel
theorem d60_1 : decode (xbc 60) 1 = .ok (.getfield 27, 3) := by decide +kernel
theorem d60_4 : decode (xbc 60) 4 = .ok (.ireturn, 1) := by decide +kernel
theorem d61_0 : decode (xbc 61) 0 = .ok (.aload_n 0, 1) := by decide +kernel
theorem d61_1 : decode (xbc 61) 1 = .ok (.invokespecial 3, 3) := by decide +kernel
theorem d61_4 : decode (xbc 61) 4 = .ok (.aload_n 0, 1) := by decide +kernel
theorem d61_5 : decode (xbc 61) 5 = .ok (.new 9, 3) := by decide +kernel
theorem d61_8 : decode (xbc 61) 8 = .ok (.dup, 1) := by decide +kernel
theorem d61_9 : decode (xbc 61) 9 = .ok (.invokespecial 11, 3) := by decide +kernel
theorem d61_12 : decode (xbc 61) 12 = .ok (.putfield 12, 3) := by decide +kernel
theorem d61_15 : decode (xbc 61) 15 = .ok (.aload_n 0, 1) := by decide +kernel
theorem d61_16 : decode (xbc 61) 16 = .ok (.iconst 0, 1) := by decide +kernel
theorem d61_17 : decode (xbc 61) 17 = .ok (.putfield 18, 3) := by decide +kernel
theorem d61_20 : decode (xbc 61) 20 = .ok (.aload_n 0, 1) := by decide +kernel
theorem d61_21 : decode (xbc 61) 21 = .ok (.bipush (-6), 2) := by decide +kernel
theorem d61_23 : decode (xbc 61) 23 = .ok (.putfield 22, 3) := by decide +kernel
theorem d61_26 : decode (xbc 61) 26 = .ok (.aload_n 0, 1) := by decide +kernel
theorem d61_27 : decode (xbc 61) 27 = .ok (.bipush (-6), 2) := by decide +kernel
theorem d61_29 : decode (xbc 61) 29 = .ok (.putfield 25, 3) := by decide +kernel
theorem d61_32 : decode (xbc 61) 32 = .ok (.return_, 1) := by decide +kernel
theorem d62_0 : decode (xbc 62) 0 = .ok (.aload_n 0, 1) := by decide +kernel
theorem d62_1 : decode (xbc 62) 1 = .ok (.aload_n 1, 1) := by decide +kernel
theorem d62_2 : decode (xbc 62) 2 = .ok (.invokevirtual 41, 3) := by decide +kernel
theorem d62_5 : decode (xbc 62) 5 = .ok (.aload_n 2, 1) := by decide +kernel
theorem d62_6 : decode (xbc 62) 6 = .ok (.invokevirtual 44, 3) := by decide +kernel
theorem d62_9 : decode (xbc 62) 9 = .ok (.bipush (-6), 2) := by decide +kernel
theorem d62_11 : decode (xbc 62) 11 = .ok (.if_icmp .eq 5, 3) := by decide +kernel
theorem d62_14 : decode (xbc 62) 14 = .ok (.iconst 0, 1) := by decide +kernel
theorem d62_15 : decode (xbc 62) 15 = .ok (.ireturn, 1) := by decide +kernel
theorem d62_16 : decode (xbc 62) 16 = .ok (.iconst 0, 1) := by decide +kernel
theorem d62_17 : decode (xbc 62) 17 = .ok (.istore_n 3, 1) := by decide +kernel
theorem d62_18 : decode (xbc 62) 18 = .ok (.iconst 0, 1) := by decide +kernel
theorem d62_19 : decode (xbc 62) 19 = .ok (.istore 4, 2) := by decide +kernel
theorem d62_21 : decode (xbc 62) 21 = .ok (.iload 4, 2) := by decide +kernel
theorem d62_23 : decode (xbc 62) 23 = .ok (.bipush 60, 2) := by decide +kernel
theorem d62_25 : decode (xbc 62) 25 = .ok (.if_icmp .ge 103, 3) := by decide +kernel
theorem d62_28 : decode (xbc 62) 28 = .ok (.iload_n 3, 1) := by decide +kernel
theorem d62_29 : decode (xbc 62) 29 = .ok (.aload_n 2, 1) := by decide +kernel
theorem d62_30 : decode (xbc 62) 30 = .ok (.invokevirtual 50, 3) := by decide +kernel
theorem d62_33 : decode (xbc 62) 33 = .ok (.if_icmp .ge 95, 3) := by decide +kernel
theorem d62_36 : decode (xbc 62) 36 = .ok (.aload_n 2, 1) := by decide +kernel
theorem d62_37 : decode (xbc 62) 37 = .ok (.iload_n 3, 1) := by decide +kernel
theorem d62_38 : decode (xbc 62) 38 = .ok (.invokevirtual 53, 3) := by decide +kernel
theorem d62_41 : decode (xbc 62) 41 = .ok (.istore 5, 2) := by decide +kernel
theorem d62_43 : decode (xbc 62) 43 = .ok (.aload_n 0, 1) := by decide +kernel
theorem d62_44 : decode (xbc 62) 44 = .ok (.getfield 12, 3) := by decide +kernel
theorem d62_47 : decode (xbc 62) 47 = .ok (.iload 5, 2) := by decide +kernel
theorem d62_49 : decode (xbc 62) 49 = .ok (.aload_n 2, 1) := by decide +kernel
theorem d62_50 : decode (xbc 62) 50 = .ok (.iload_n 3, 1) := by decide +kernel
theorem d62_51 : decode (xbc 62) 51 = .ok (.invokevirtual 57, 3) := by decide +kernel
theorem d62_54 : decode (xbc 62) 54 = .ok (.aload_n 2, 1) := by decide +kernel
theorem d62_55 : decode (xbc 62) 55 = .ok (.iload_n 3, 1) := by decide +kernel
theorem d62_56 : decode (xbc 62) 56 = .ok (.invokevirtual 60, 3) := by decide +kernel
theorem d62_59 : decode (xbc 62) 59 = .ok (.invokevirtual 63, 3) := by decide +kernel
theorem d62_62 : decode (xbc 62) 62 = .ok (.istore 6, 2) := by decide +kernel
theorem d62_64 : decode (xbc 62) 64 = .ok (.iload 6, 2) := by decide +kernel
theorem d62_66 : decode (xbc 62) 66 = .ok (.ifCond .eq 17, 3) := by decide +kernel
theorem d62_69 : decode (xbc 62) 69 = .ok (.aload_n 0, 1) := by decide +kernel
theorem d62_70 : decode (xbc 62) 70 = .ok (.iload 4, 2) := by decide +kernel
theorem d62_72 : decode (xbc 62) 72 = .ok (.putfield 22, 3) := by decide +kernel
theorem d62_75 : decode (xbc 62) 75 = .ok (.aload_n 0, 1) := by decide +kernel
theorem d62_76 : decode (xbc 62) 76 = .ok (.iload 6, 2) := by decide +kernel
theorem d62_78 : decode (xbc 62) 78 = .ok (.putfield 25, 3) := by decide +kernel
theorem d62_81 : decode (xbc 62) 81 = .ok (.iconst 0, 1) := by decide +kernel
theorem d62_82 : decode (xbc 62) 82 = .ok (.ireturn, 1) := by decide +kernel
theorem d62_83 : decode (xbc 62) 83 = .ok (.aload_n 0, 1) := by decide +kernel
theorem d62_84 : decode (xbc 62) 84 = .ok (.getfield 12, 3) := by decide +kernel
theorem d62_87 : decode (xbc 62) 87 = .ok (.iload 4, 2) := by decide +kernel
theorem d62_89 : decode (xbc 62) 89 = .ok (.iload 5, 2) := by decide +kernel
theorem d62_91 : decode (xbc 62) 91 = .ok (.aload_n 2, 1) := by decide +kernel
theorem d62_92 : decode (xbc 62) 92 = .ok (.iload_n 3, 1) := by decide +kernel
theorem d62_93 : decode (xbc 62) 93 = .ok (.invokevirtual 57, 3) := by decide +kernel
theorem d62_96 : decode (xbc 62) 96 = .ok (.aload_n 2, 1) := by decide +kernel
theorem d62_97 : decode (xbc 62) 97 = .ok (.iload_n 3, 1) := by decide +kernel
theorem d62_98 : decode (xbc 62) 98 = .ok (.invokevirtual 60, 3) := by decide +kernel
theorem d62_101 : decode (xbc 62) 101 = .ok (.invokevirtual 67, 3) := by decide +kernel
theorem d62_104 : decode (xbc 62) 104 = .ok (.aload_n 0, 1) := by decide +kernel
theorem d62_105 : decode (xbc 62) 105 = .ok (.dup, 1) := by decide +kernel
theorem d62_106 : decode (xbc 62) 106 = .ok (.getfield 18, 3) := by decide +kernel
theorem d62_109 : decode (xbc 62) 109 = .ok (.iconst 1, 1) := by decide +kernel
theorem d62_110 : decode (xbc 62) 110 = .ok (.iadd, 1) := by decide +kernel
theorem d62_111 : decode (xbc 62) 111 = .ok (.putfield 18, 3) := by decide +kernel
theorem d62_114 : decode (xbc 62) 114 = .ok (.iload_n 3, 1) := by decide +kernel
theorem d62_115 : decode (xbc 62) 115 = .ok (.aload_n 2, 1) := by decide +kernel
theorem d62_116 : decode (xbc 62) 116 = .ok (.iload_n 3, 1) := by decide +kernel
theorem d62_117 : decode (xbc 62) 117 = .ok (.invokevirtual 71, 3) := by decide +kernel
theorem d62_120 : decode (xbc 62) 120 = .ok (.iadd, 1) := by decide +kernel
theorem d62_121 : decode (xbc 62) 121 = .ok (.istore_n 3, 1) := by decide +kernel
theorem d62_122 : decode (xbc 62) 122 = .ok (.iinc 4 1, 3) := by decide +kernel
theorem d62_125 : decode (xbc 62) 125 = .ok (.goto (-104), 3) := by decide +kernel
theorem d62_128 : decode (xbc 62) 128 = .ok (.iconst 1, 1) := by decide +kernel
theorem d62_129 : decode (xbc 62) 129 = .ok (.ireturn, 1) := by decide +kernel
theorem d63_0 : decode (xbc 63) 0 = .ok (.aload_n 0, 1) := by decide +kernel
theorem d63_1 : decode (xbc 63) 1 = .ok (.getfield 12, 3) := by decide +kernel
theorem d63_4 : decode (xbc 63) 4 = .ok (.aload_n 1, 1) := by decide +kernel
theorem d63_5 : decode (xbc 63) 5 = .ok (.invokevirtual 28, 3) := by decide +kernel
theorem d63_8 : decode (xbc 63) 8 = .ok (.aload_n 0, 1) := by decide +kernel
theorem d63_9 : decode (xbc 63) 9 = .ok (.getfield 12, 3) := by decide +kernel
theorem d63_12 : decode (xbc 63) 12 = .ok (.invokevirtual 32, 3) := by decide +kernel
theorem d63_15 : decode (xbc 63) 15 = .ok (.invokevirtual 36, 3) := by decide +kernel
theorem d63_18 : decode (xbc 63) 18 = .ok (.aload_n 0, 1) := by decide +kernel
theorem d63_19 : decode (xbc 63) 19 = .ok (.iconst 0, 1) := by decide +kernel
theorem d63_20 : decode (xbc 63) 20 = .ok (.putfield 18, 3) := by decide +kernel
theorem d63_23 : decode (xbc 63) 23 = .ok (.aload_n 0, 1) := by decide +kernel
theorem d63_24 : decode (xbc 63) 24 = .ok (.bipush (-6), 2) := by decide +kernel
theorem d63_26 : decode (xbc 63) 26 = .ok (.putfield 22, 3) := by decide +kernel
theorem d63_29 : decode (xbc 63) 29 = .ok (.aload_n 0, 1) := by decide +kernel
theorem d63_30 : decode (xbc 63) 30 = .ok (.bipush (-6), 2) := by decide +kernel
theorem d63_32 : decode (xbc 63) 32 = .ok (.putfield 25, 3) := by decide +kernel
theorem d63_35 : decode (xbc 63) 35 = .ok (.return_, 1) := by decide +kernel
theorem d64_0 : decode (xbc 64) 0 = .ok (.aload_n 0, 1) := by decide +kernel
theorem d64_1 : decode (xbc 64) 1 = .ok (.getfield 22, 3) := by decide +kernel
theorem d64_4 : decode (xbc 64) 4 = .ok (.ireturn, 1) := by decide +kernel
theorem d65_0 : decode (xbc 65) 0 = .ok (.aload_n 0, 1) := by decide +kernel
theorem d65_1 : decode (xbc 65) 1 = .ok (.getfield 25, 3) := by decide +kernel
theorem d65_4 : decode (xbc 65) 4 = .ok (.ireturn, 1) := by decide +kernel
theorem d66_0 : decode (xbc 66) 0 = .ok (.aload_n 0, 1) := by decide +kernel
theorem d66_1 : decode (xbc 66) 1 = .ok (.getfield 12, 3) := by decide +kernel
theorem d66_4 : decode (xbc 66) 4 = .ok (.areturn, 1) := by decide +kernel
theorem d67_0 : decode (xbc 67) 0 = .ok (.aload_n 0, 1) := by decide +kernel
theorem d67_1 : decode (xbc 67) 1 = .ok (.getfield 18, 3) := by decide +kernel
theorem d67_4 : decode (xbc 67) 4 = .ok (.ireturn, 1) := by decide +kernel
theorem d68_0 : decode (xbc 68) 0 = .ok (.aload_n 0, 1) := by decide +kernel
theorem d68_1 : decode (xbc 68) 1 = .ok (.aload_n 1, 1) := by decide +kernel
theorem d68_2 : decode (xbc 68) 2 = .ok (.invokevirtual 41, 3) := by decide +kernel
theorem d68_5 : decode (xbc 68) 5 = .ok (.iload_n 2, 1) := by decide +kernel
theorem d68_6 : decode (xbc 68) 6 = .ok (.istore 4, 2) := by decide +kernel
theorem d68_8 : decode (xbc 68) 8 = .ok (.iconst 0, 1) := by decide +kernel
theorem d68_9 : decode (xbc 68) 9 = .ok (.istore 5, 2) := by decide +kernel
theorem d68_11 : decode (xbc 68) 11 = .ok (.iload 5, 2) := by decide +kernel
theorem d68_13 : decode (xbc 68) 13 = .ok (.iload_n 3, 1) := by decide +kernel
theorem d68_14 : decode (xbc 68) 14 = .ok (.if_icmp .ge 90, 3) := by decide +kernel
theorem d68_17 : decode (xbc 68) 17 = .ok (.iload 4, 2) := by decide +kernel
theorem d68_19 : decode (xbc 68) 19 = .ok (.ifCond .lt 85, 3) := by decide +kernel
theorem d68_22 : decode (xbc 68) 22 = .ok (.bipush 75, 2) := by decide +kernel
theorem d68_24 : decode (xbc 68) 24 = .ok (.iload 4, 2) := by decide +kernel
theorem d68_26 : decode (xbc 68) 26 = .ok (.imul, 1) := by decide +kernel
theorem d68_27 : decode (xbc 68) 27 = .ok (.bipush 74, 2) := by decide +kernel
theorem d68_29 : decode (xbc 68) 29 = .ok (.iadd, 1) := by decide +kernel
theorem d68_30 : decode (xbc 68) 30 = .ok (.ldc 74, 2) := by decide +kernel
theorem d68_32 : decode (xbc 68) 32 = .ok (.irem, 1) := by decide +kernel
theorem d68_33 : decode (xbc 68) 33 = .ok (.istore 4, 2) := by decide +kernel
theorem d68_35 : decode (xbc 68) 35 = .ok (.ldc 75, 2) := by decide +kernel
theorem d68_37 : decode (xbc 68) 37 = .ok (.iload 4, 2) := by decide +kernel
theorem d68_39 : decode (xbc 68) 39 = .ok (.bipush 8, 2) := by decide +kernel
theorem d68_41 : decode (xbc 68) 41 = .ok (.idiv, 1) := by decide +kernel
theorem d68_42 : decode (xbc 68) 42 = .ok (.bipush 7, 2) := by decide +kernel
theorem d68_44 : decode (xbc 68) 44 = .ok (.iand, 1) := by decide +kernel
theorem d68_45 : decode (xbc 68) 45 = .ok (.invokevirtual 77, 3) := by decide +kernel
theorem d68_48 : decode (xbc 68) 48 = .ok (.istore 6, 2) := by decide +kernel
theorem d68_50 : decode (xbc 68) 50 = .ok (.iload 4, 2) := by decide +kernel
theorem d68_52 : decode (xbc 68) 52 = .ok (.bipush 7, 2) := by decide +kernel
theorem d68_54 : decode (xbc 68) 54 = .ok (.iand, 1) := by decide +kernel
theorem d68_55 : decode (xbc 68) 55 = .ok (.istore 7, 2) := by decide +kernel
theorem d68_57 : decode (xbc 68) 57 = .ok (.iload 4, 2) := by decide +kernel
theorem d68_59 : decode (xbc 68) 59 = .ok (.bipush 64, 2) := by decide +kernel
theorem d68_61 : decode (xbc 68) 61 = .ok (.idiv, 1) := by decide +kernel
theorem d68_62 : decode (xbc 68) 62 = .ok (.bipush 7, 2) := by decide +kernel
theorem d68_64 : decode (xbc 68) 64 = .ok (.iand, 1) := by decide +kernel
theorem d68_65 : decode (xbc 68) 65 = .ok (.istore 8, 2) := by decide +kernel
theorem d68_67 : decode (xbc 68) 67 = .ok (.aload_n 0, 1) := by decide +kernel
theorem d68_68 : decode (xbc 68) 68 = .ok (.getfield 12, 3) := by decide +kernel
theorem d68_71 : decode (xbc 68) 71 = .ok (.iload 6, 2) := by decide +kernel
theorem d68_73 : decode (xbc 68) 73 = .ok (.iload 7, 2) := by decide +kernel
theorem d68_75 : decode (xbc 68) 75 = .ok (.iload 8, 2) := by decide +kernel
theorem d68_77 : decode (xbc 68) 77 = .ok (.invokevirtual 63, 3) := by decide +kernel
theorem d68_80 : decode (xbc 68) 80 = .ok (.ifCond .ne 18, 3) := by decide +kernel
theorem d68_83 : decode (xbc 68) 83 = .ok (.aload_n 0, 1) := by decide +kernel
theorem d68_84 : decode (xbc 68) 84 = .ok (.getfield 12, 3) := by decide +kernel
theorem d68_87 : decode (xbc 68) 87 = .ok (.iload 5, 2) := by decide +kernel
theorem d68_89 : decode (xbc 68) 89 = .ok (.iload 6, 2) := by decide +kernel
theorem d68_91 : decode (xbc 68) 91 = .ok (.iload 7, 2) := by decide +kernel
theorem d68_93 : decode (xbc 68) 93 = .ok (.iload 8, 2) := by decide +kernel
theorem d68_95 : decode (xbc 68) 95 = .ok (.invokevirtual 67, 3) := by decide +kernel
theorem d68_98 : decode (xbc 68) 98 = .ok (.iinc 5 1, 3) := by decide +kernel
theorem d68_101 : decode (xbc 68) 101 = .ok (.goto (-90), 3) := by decide +kernel
theorem d68_104 : decode (xbc 68) 104 = .ok (.return_, 1) := by decide +kernel
theorem d69_0 : decode (xbc 69) 0 = .ok (.aload_n 0, 1) := by decide +kernel
theorem d69_1 : decode (xbc 69) 1 = .ok (.invokespecial 5, 3) := by decide +kernel
theorem d69_4 : decode (xbc 69) 4 = .ok (.aload_n 0, 1) := by decide +kernel
theorem d69_5 : decode (xbc 69) 5 = .ok (.sipush 589, 3) := by decide +kernel
theorem d69_8 : decode (xbc 69) 8 = .ok (.newarray .int, 2) := by decide +kernel
theorem d69_10 : decode (xbc 69) 10 = .ok (.putfield 11, 3) := by decide +kernel
theorem d69_13 : decode (xbc 69) 13 = .ok (.aload_n 0, 1) := by decide +kernel
theorem d69_14 : decode (xbc 69) 14 = .ok (.sipush 199, 3) := by decide +kernel
theorem d69_17 : decode (xbc 69) 17 = .ok (.newarray .int, 2) := by decide +kernel
theorem d69_19 : decode (xbc 69) 19 = .ok (.putfield 17, 3) := by decide +kernel
theorem d69_22 : decode (xbc 69) 22 = .ok (.aload_n 0, 1) := by decide +kernel
theorem d69_23 : decode (xbc 69) 23 = .ok (.iconst 0, 1) := by decide +kernel
theorem d69_24 : decode (xbc 69) 24 = .ok (.putfield 20, 3) := by decide +kernel
theorem d69_27 : decode (xbc 69) 27 = .ok (.aload_n 0, 1) := by decide +kernel
theorem d69_28 : decode (xbc 69) 28 = .ok (.bipush (-6), 2) := by decide +kernel
theorem d69_30 : decode (xbc 69) 30 = .ok (.putfield 24, 3) := by decide +kernel
theorem d69_33 : decode (xbc 69) 33 = .ok (.aload_n 0, 1) := by decide +kernel
theorem d69_34 : decode (xbc 69) 34 = .ok (.bipush (-6), 2) := by decide +kernel
theorem d69_36 : decode (xbc 69) 36 = .ok (.putfield 27, 3) := by decide +kernel
theorem d69_39 : decode (xbc 69) 39 = .ok (.return_, 1) := by decide +kernel
theorem d70_0 : decode (xbc 70) 0 = .ok (.aload_n 0, 1) := by decide +kernel
theorem d70_1 : decode (xbc 70) 1 = .ok (.iconst 0, 1) := by decide +kernel
theorem d70_2 : decode (xbc 70) 2 = .ok (.putfield 20, 3) := by decide +kernel
theorem d70_5 : decode (xbc 70) 5 = .ok (.iconst 0, 1) := by decide +kernel
theorem d70_6 : decode (xbc 70) 6 = .ok (.istore_n 2, 1) := by decide +kernel
theorem d70_7 : decode (xbc 70) 7 = .ok (.iload_n 2, 1) := by decide +kernel
theorem d70_8 : decode (xbc 70) 8 = .ok (.bipush 30, 2) := by decide +kernel
theorem d70_10 : decode (xbc 70) 10 = .ok (.if_icmp .gt 71, 3) := by decide +kernel
theorem d70_13 : decode (xbc 70) 13 = .ok (.bipush (-9), 2) := by decide +kernel
theorem d70_15 : decode (xbc 70) 15 = .ok (.istore_n 3, 1) := by decide +kernel
theorem d70_16 : decode (xbc 70) 16 = .ok (.iload_n 3, 1) := by decide +kernel
theorem d70_17 : decode (xbc 70) 17 = .ok (.bipush 9, 2) := by decide +kernel
theorem d70_19 : decode (xbc 70) 19 = .ok (.if_icmp .gt 56, 3) := by decide +kernel
theorem d70_22 : decode (xbc 70) 22 = .ok (.aload_n 1, 1) := by decide +kernel
theorem d70_23 : decode (xbc 70) 23 = .ok (.iload_n 2, 1) := by decide +kernel
theorem d70_24 : decode (xbc 70) 24 = .ok (.iload_n 3, 1) := by decide +kernel
theorem d70_25 : decode (xbc 70) 25 = .ok (.invokevirtual 30, 3) := by decide +kernel
theorem d70_28 : decode (xbc 70) 28 = .ok (.ifCond .eq 41, 3) := by decide +kernel
theorem d70_31 : decode (xbc 70) 31 = .ok (.aload_n 0, 1) := by decide +kernel
theorem d70_32 : decode (xbc 70) 32 = .ok (.getfield 20, 3) := by decide +kernel
theorem d70_35 : decode (xbc 70) 35 = .ok (.sipush 589, 3) := by decide +kernel
theorem d70_38 : decode (xbc 70) 38 = .ok (.if_icmp .ge 31, 3) := by decide +kernel
theorem d70_41 : decode (xbc 70) 41 = .ok (.aload_n 0, 1) := by decide +kernel
theorem d70_42 : decode (xbc 70) 42 = .ok (.getfield 11, 3) := by decide +kernel
theorem d70_45 : decode (xbc 70) 45 = .ok (.aload_n 0, 1) := by decide +kernel
theorem d70_46 : decode (xbc 70) 46 = .ok (.getfield 20, 3) := by decide +kernel
theorem d70_49 : decode (xbc 70) 49 = .ok (.bipush 100, 2) := by decide +kernel
theorem d70_51 : decode (xbc 70) 51 = .ok (.iload_n 2, 1) := by decide +kernel
theorem d70_52 : decode (xbc 70) 52 = .ok (.imul, 1) := by decide +kernel
theorem d70_53 : decode (xbc 70) 53 = .ok (.iload_n 3, 1) := by decide +kernel
theorem d70_54 : decode (xbc 70) 54 = .ok (.iadd, 1) := by decide +kernel
theorem d70_55 : decode (xbc 70) 55 = .ok (.bipush 50, 2) := by decide +kernel
theorem d70_57 : decode (xbc 70) 57 = .ok (.iadd, 1) := by decide +kernel
theorem d70_58 : decode (xbc 70) 58 = .ok (.iastore, 1) := by decide +kernel
theorem d70_59 : decode (xbc 70) 59 = .ok (.aload_n 0, 1) := by decide +kernel
theorem d70_60 : decode (xbc 70) 60 = .ok (.dup, 1) := by decide +kernel
theorem d70_61 : decode (xbc 70) 61 = .ok (.getfield 20, 3) := by decide +kernel
theorem d70_64 : decode (xbc 70) 64 = .ok (.iconst 1, 1) := by decide +kernel
theorem d70_65 : decode (xbc 70) 65 = .ok (.iadd, 1) := by decide +kernel
theorem d70_66 : decode (xbc 70) 66 = .ok (.putfield 20, 3) := by decide +kernel
theorem d70_69 : decode (xbc 70) 69 = .ok (.iinc 3 1, 3) := by decide +kernel
theorem d70_72 : decode (xbc 70) 72 = .ok (.goto (-56), 3) := by decide +kernel
theorem d70_75 : decode (xbc 70) 75 = .ok (.iinc 2 1, 3) := by decide +kernel
theorem d70_78 : decode (xbc 70) 78 = .ok (.goto (-71), 3) := by decide +kernel
theorem d70_81 : decode (xbc 70) 81 = .ok (.return_, 1) := by decide +kernel
theorem d71_0 : decode (xbc 71) 0 = .ok (.aload_n 0, 1) := by decide +kernel
theorem d71_1 : decode (xbc 71) 1 = .ok (.getfield 20, 3) := by decide +kernel
theorem d71_4 : decode (xbc 71) 4 = .ok (.ireturn, 1) := by decide +kernel
theorem d72_0 : decode (xbc 72) 0 = .ok (.iload_n 1, 1) := by decide +kernel
theorem d72_1 : decode (xbc 72) 1 = .ok (.ifCond .lt 27, 3) := by decide +kernel
theorem d72_4 : decode (xbc 72) 4 = .ok (.iload_n 1, 1) := by decide +kernel
theorem d72_5 : decode (xbc 72) 5 = .ok (.aload_n 0, 1) := by decide +kernel
theorem d72_6 : decode (xbc 72) 6 = .ok (.getfield 20, 3) := by decide +kernel
theorem d72_9 : decode (xbc 72) 9 = .ok (.if_icmp .ge 19, 3) := by decide +kernel
theorem d72_12 : decode (xbc 72) 12 = .ok (.iload_n 1, 1) := by decide +kernel
theorem d72_13 : decode (xbc 72) 13 = .ok (.sipush 589, 3) := by decide +kernel
theorem d72_16 : decode (xbc 72) 16 = .ok (.if_icmp .ge 12, 3) := by decide +kernel
theorem d72_19 : decode (xbc 72) 19 = .ok (.aload_n 0, 1) := by decide +kernel
theorem d72_20 : decode (xbc 72) 20 = .ok (.getfield 11, 3) := by decide +kernel
theorem d72_23 : decode (xbc 72) 23 = .ok (.iload_n 1, 1) := by decide +kernel
theorem d72_24 : decode (xbc 72) 24 = .ok (.iaload, 1) := by decide +kernel
theorem d72_25 : decode (xbc 72) 25 = .ok (.goto 5, 3) := by decide +kernel
theorem d72_28 : decode (xbc 72) 28 = .ok (.bipush (-6), 2) := by decide +kernel
theorem d72_30 : decode (xbc 72) 30 = .ok (.ireturn, 1) := by decide +kernel
theorem d73_0 : decode (xbc 73) 0 = .ok (.aload_n 0, 1) := by decide +kernel
theorem d73_1 : decode (xbc 73) 1 = .ok (.bipush (-6), 2) := by decide +kernel
theorem d73_3 : decode (xbc 73) 3 = .ok (.putfield 24, 3) := by decide +kernel
theorem d73_6 : decode (xbc 73) 6 = .ok (.aload_n 0, 1) := by decide +kernel
theorem d73_7 : decode (xbc 73) 7 = .ok (.bipush (-6), 2) := by decide +kernel
theorem d73_9 : decode (xbc 73) 9 = .ok (.putfield 27, 3) := by decide +kernel
theorem d73_12 : decode (xbc 73) 12 = .ok (.iconst 0, 1) := by decide +kernel
theorem d73_13 : decode (xbc 73) 13 = .ok (.istore_n 1, 1) := by decide +kernel
theorem d73_14 : decode (xbc 73) 14 = .ok (.iload_n 1, 1) := by decide +kernel
theorem d73_15 : decode (xbc 73) 15 = .ok (.bipush 9, 2) := by decide +kernel
theorem d73_17 : decode (xbc 73) 17 = .ok (.if_icmp .gt 106, 3) := by decide +kernel
theorem d73_20 : decode (xbc 73) 20 = .ok (.aload_n 0, 1) := by decide +kernel
theorem d73_21 : decode (xbc 73) 21 = .ok (.getfield 20, 3) := by decide +kernel
theorem d73_24 : decode (xbc 73) 24 = .ok (.ifCond .le 99, 3) := by decide +kernel
theorem d73_27 : decode (xbc 73) 27 = .ok (.aload_n 0, 1) := by decide +kernel
theorem d73_28 : decode (xbc 73) 28 = .ok (.iload_n 1, 1) := by decide +kernel
theorem d73_29 : decode (xbc 73) 29 = .ok (.invokevirtual 34, 3) := by decide +kernel
theorem d73_32 : decode (xbc 73) 32 = .ok (.aload_n 0, 1) := by decide +kernel
theorem d73_33 : decode (xbc 73) 33 = .ok (.getfield 20, 3) := by decide +kernel
theorem d73_36 : decode (xbc 73) 36 = .ok (.istore_n 2, 1) := by decide +kernel
theorem d73_37 : decode (xbc 73) 37 = .ok (.iconst 0, 1) := by decide +kernel
theorem d73_38 : decode (xbc 73) 38 = .ok (.istore_n 3, 1) := by decide +kernel
theorem d73_39 : decode (xbc 73) 39 = .ok (.iload_n 3, 1) := by decide +kernel
theorem d73_40 : decode (xbc 73) 40 = .ok (.aload_n 0, 1) := by decide +kernel
theorem d73_41 : decode (xbc 73) 41 = .ok (.getfield 17, 3) := by decide +kernel
theorem d73_44 : decode (xbc 73) 44 = .ok (.arraylength, 1) := by decide +kernel
theorem d73_45 : decode (xbc 73) 45 = .ok (.if_icmp .ge 72, 3) := by decide +kernel
theorem d73_48 : decode (xbc 73) 48 = .ok (.iload_n 2, 1) := by decide +kernel
theorem d73_49 : decode (xbc 73) 49 = .ok (.aload_n 0, 1) := by decide +kernel
theorem d73_50 : decode (xbc 73) 50 = .ok (.getfield 20, 3) := by decide +kernel
theorem d73_53 : decode (xbc 73) 53 = .ok (.iload_n 2, 1) := by decide +kernel
theorem d73_54 : decode (xbc 73) 54 = .ok (.isub, 1) := by decide +kernel
theorem d73_55 : decode (xbc 73) 55 = .ok (.invokestatic 38, 3) := by decide +kernel
theorem d73_58 : decode (xbc 73) 58 = .ok (.istore 4, 2) := by decide +kernel
theorem d73_60 : decode (xbc 73) 60 = .ok (.aload_n 0, 1) := by decide +kernel
theorem d73_61 : decode (xbc 73) 61 = .ok (.getfield 27, 3) := by decide +kernel
theorem d73_64 : decode (xbc 73) 64 = .ok (.bipush (-6), 2) := by decide +kernel
theorem d73_66 : decode (xbc 73) 66 = .ok (.if_icmp .eq 12, 3) := by decide +kernel
theorem d73_69 : decode (xbc 73) 69 = .ok (.iload 4, 2) := by decide +kernel
theorem d73_71 : decode (xbc 73) 71 = .ok (.aload_n 0, 1) := by decide +kernel
theorem d73_72 : decode (xbc 73) 72 = .ok (.getfield 27, 3) := by decide +kernel
theorem d73_75 : decode (xbc 73) 75 = .ok (.if_icmp .ge 27, 3) := by decide +kernel
theorem d73_78 : decode (xbc 73) 78 = .ok (.aload_n 0, 1) := by decide +kernel
theorem d73_79 : decode (xbc 73) 79 = .ok (.iload 4, 2) := by decide +kernel
theorem d73_81 : decode (xbc 73) 81 = .ok (.putfield 27, 3) := by decide +kernel
theorem d73_84 : decode (xbc 73) 84 = .ok (.aload_n 0, 1) := by decide +kernel
theorem d73_85 : decode (xbc 73) 85 = .ok (.sipush 1000, 3) := by decide +kernel
theorem d73_88 : decode (xbc 73) 88 = .ok (.iload_n 1, 1) := by decide +kernel
theorem d73_89 : decode (xbc 73) 89 = .ok (.imul, 1) := by decide +kernel
theorem d73_90 : decode (xbc 73) 90 = .ok (.iload_n 3, 1) := by decide +kernel
theorem d73_91 : decode (xbc 73) 91 = .ok (.iadd, 1) := by decide +kernel
theorem d73_92 : decode (xbc 73) 92 = .ok (.bipush 99, 2) := by decide +kernel
theorem d73_94 : decode (xbc 73) 94 = .ok (.isub, 1) := by decide +kernel
theorem d73_95 : decode (xbc 73) 95 = .ok (.sipush 500, 3) := by decide +kernel
theorem d73_98 : decode (xbc 73) 98 = .ok (.iadd, 1) := by decide +kernel
theorem d73_99 : decode (xbc 73) 99 = .ok (.putfield 24, 3) := by decide +kernel
theorem d73_102 : decode (xbc 73) 102 = .ok (.iload_n 2, 1) := by decide +kernel
theorem d73_103 : decode (xbc 73) 103 = .ok (.aload_n 0, 1) := by decide +kernel
theorem d73_104 : decode (xbc 73) 104 = .ok (.getfield 17, 3) := by decide +kernel
theorem d73_107 : decode (xbc 73) 107 = .ok (.iload_n 3, 1) := by decide +kernel
theorem d73_108 : decode (xbc 73) 108 = .ok (.iaload, 1) := by decide +kernel
theorem d73_109 : decode (xbc 73) 109 = .ok (.isub, 1) := by decide +kernel
theorem d73_110 : decode (xbc 73) 110 = .ok (.istore_n 2, 1) := by decide +kernel
theorem d73_111 : decode (xbc 73) 111 = .ok (.iinc 3 1, 3) := by decide +kernel
theorem d73_114 : decode (xbc 73) 114 = .ok (.goto (-75), 3) := by decide +kernel
theorem d73_117 : decode (xbc 73) 117 = .ok (.iinc 1 1, 3) := by decide +kernel
theorem d73_120 : decode (xbc 73) 120 = .ok (.goto (-106), 3) := by decide +kernel
theorem d73_123 : decode (xbc 73) 123 = .ok (.return_, 1) := by decide +kernel
theorem d74_0 : decode (xbc 74) 0 = .ok (.aload_n 0, 1) := by decide +kernel
theorem d74_1 : decode (xbc 74) 1 = .ok (.getfield 17, 3) := by decide +kernel
theorem d74_4 : decode (xbc 74) 4 = .ok (.iconst 0, 1) := by decide +kernel
theorem d74_5 : decode (xbc 74) 5 = .ok (.invokestatic 44, 3) := by decide +kernel
theorem d74_8 : decode (xbc 74) 8 = .ok (.iconst 0, 1) := by decide +kernel
theorem d74_9 : decode (xbc 74) 9 = .ok (.istore_n 2, 1) := by decide +kernel
theorem d74_10 : decode (xbc 74) 10 = .ok (.iload_n 2, 1) := by decide +kernel
theorem d74_11 : decode (xbc 74) 11 = .ok (.aload_n 0, 1) := by decide +kernel
theorem d74_12 : decode (xbc 74) 12 = .ok (.getfield 20, 3) := by decide +kernel
theorem d74_15 : decode (xbc 74) 15 = .ok (.if_icmp .ge 76, 3) := by decide +kernel
theorem d74_18 : decode (xbc 74) 18 = .ok (.iload_n 2, 1) := by decide +kernel
theorem d74_19 : decode (xbc 74) 19 = .ok (.sipush 589, 3) := by decide +kernel
theorem d74_22 : decode (xbc 74) 22 = .ok (.if_icmp .ge 69, 3) := by decide +kernel
theorem d74_25 : decode (xbc 74) 25 = .ok (.aload_n 0, 1) := by decide +kernel
theorem d74_26 : decode (xbc 74) 26 = .ok (.getfield 11, 3) := by decide +kernel
theorem d74_29 : decode (xbc 74) 29 = .ok (.iload_n 2, 1) := by decide +kernel
theorem d74_30 : decode (xbc 74) 30 = .ok (.iaload, 1) := by decide +kernel
theorem d74_31 : decode (xbc 74) 31 = .ok (.bipush 100, 2) := by decide +kernel
theorem d74_33 : decode (xbc 74) 33 = .ok (.idiv, 1) := by decide +kernel
theorem d74_34 : decode (xbc 74) 34 = .ok (.istore_n 3, 1) := by decide +kernel
theorem d74_35 : decode (xbc 74) 35 = .ok (.aload_n 0, 1) := by decide +kernel
theorem d74_36 : decode (xbc 74) 36 = .ok (.getfield 11, 3) := by decide +kernel
theorem d74_39 : decode (xbc 74) 39 = .ok (.iload_n 2, 1) := by decide +kernel
theorem d74_40 : decode (xbc 74) 40 = .ok (.iaload, 1) := by decide +kernel
theorem d74_41 : decode (xbc 74) 41 = .ok (.bipush 100, 2) := by decide +kernel
theorem d74_43 : decode (xbc 74) 43 = .ok (.irem, 1) := by decide +kernel
theorem d74_44 : decode (xbc 74) 44 = .ok (.bipush 50, 2) := by decide +kernel
theorem d74_46 : decode (xbc 74) 46 = .ok (.isub, 1) := by decide +kernel
theorem d74_47 : decode (xbc 74) 47 = .ok (.istore 4, 2) := by decide +kernel
theorem d74_49 : decode (xbc 74) 49 = .ok (.iload_n 3, 1) := by decide +kernel
theorem d74_50 : decode (xbc 74) 50 = .ok (.iload 4, 2) := by decide +kernel
theorem d74_52 : decode (xbc 74) 52 = .ok (.iload_n 1, 1) := by decide +kernel
theorem d74_53 : decode (xbc 74) 53 = .ok (.imul, 1) := by decide +kernel
theorem d74_54 : decode (xbc 74) 54 = .ok (.iadd, 1) := by decide +kernel
theorem d74_55 : decode (xbc 74) 55 = .ok (.bipush 99, 2) := by decide +kernel
theorem d74_57 : decode (xbc 74) 57 = .ok (.invokestatic 50, 3) := by decide +kernel
theorem d74_60 : decode (xbc 74) 60 = .ok (.istore 5, 2) := by decide +kernel
theorem d74_62 : decode (xbc 74) 62 = .ok (.iload 5, 2) := by decide +kernel
theorem d74_64 : decode (xbc 74) 64 = .ok (.bipush (-99), 2) := by decide +kernel
theorem d74_66 : decode (xbc 74) 66 = .ok (.invokestatic 38, 3) := by decide +kernel
theorem d74_69 : decode (xbc 74) 69 = .ok (.bipush 99, 2) := by decide +kernel
theorem d74_71 : decode (xbc 74) 71 = .ok (.iadd, 1) := by decide +kernel
theorem d74_72 : decode (xbc 74) 72 = .ok (.istore 6, 2) := by decide +kernel
theorem d74_74 : decode (xbc 74) 74 = .ok (.aload_n 0, 1) := by decide +kernel
theorem d74_75 : decode (xbc 74) 75 = .ok (.getfield 17, 3) := by decide +kernel
theorem d74_78 : decode (xbc 74) 78 = .ok (.iload 6, 2) := by decide +kernel
theorem d74_80 : decode (xbc 74) 80 = .ok (.dup2, 1) := by decide +kernel
theorem d74_81 : decode (xbc 74) 81 = .ok (.iaload, 1) := by decide +kernel
theorem d74_82 : decode (xbc 74) 82 = .ok (.iconst 1, 1) := by decide +kernel
theorem d74_83 : decode (xbc 74) 83 = .ok (.iadd, 1) := by decide +kernel
theorem d74_84 : decode (xbc 74) 84 = .ok (.iastore, 1) := by decide +kernel
theorem d74_85 : decode (xbc 74) 85 = .ok (.iinc 2 1, 3) := by decide +kernel
theorem d74_88 : decode (xbc 74) 88 = .ok (.goto (-78), 3) := by decide +kernel
theorem d74_91 : decode (xbc 74) 91 = .ok (.return_, 1) := by decide +kernel
theorem d75_0 : decode (xbc 75) 0 = .ok (.aload_n 0, 1) := by decide +kernel
theorem d75_1 : decode (xbc 75) 1 = .ok (.getfield 24, 3) := by decide +kernel
theorem d75_4 : decode (xbc 75) 4 = .ok (.ireturn, 1) := by decide +kernel
theorem d76_0 : decode (xbc 76) 0 = .ok (.aload_n 0, 1) := by decide +kernel
theorem d76_1 : decode (xbc 76) 1 = .ok (.getfield 27, 3) := by decide +kernel
theorem d76_4 : decode (xbc 76) 4 = .ok (.ireturn, 1) := by decide +kernel
theorem d77_0 : decode (xbc 77) 0 = .ok (.aload_n 0, 1) := by decide +kernel
theorem d77_1 : decode (xbc 77) 1 = .ok (.invokespecial 1, 3) := by decide +kernel
theorem d77_4 : decode (xbc 77) 4 = .ok (.aload_n 0, 1) := by decide +kernel
theorem d77_5 : decode (xbc 77) 5 = .ok (.bipush 8, 2) := by decide +kernel
theorem d77_7 : decode (xbc 77) 7 = .ok (.newarray .int, 2) := by decide +kernel
theorem d77_9 : decode (xbc 77) 9 = .ok (.putfield 9, 3) := by decide +kernel
theorem d77_12 : decode (xbc 77) 12 = .ok (.aload_n 0, 1) := by decide +kernel
theorem d77_13 : decode (xbc 77) 13 = .ok (.bipush 8, 2) := by decide +kernel
theorem d77_15 : decode (xbc 77) 15 = .ok (.newarray .int, 2) := by decide +kernel
theorem d77_17 : decode (xbc 77) 17 = .ok (.putfield 13, 3) := by decide +kernel
theorem d77_20 : decode (xbc 77) 20 = .ok (.aload_n 0, 1) := by decide +kernel
theorem d77_21 : decode (xbc 77) 21 = .ok (.bipush 8, 2) := by decide +kernel
theorem d77_23 : decode (xbc 77) 23 = .ok (.newarray .boolean, 2) := by decide +kernel
theorem d77_25 : decode (xbc 77) 25 = .ok (.putfield 16, 3) := by decide +kernel
theorem d77_28 : decode (xbc 77) 28 = .ok (.aload_n 0, 1) := by decide +kernel
theorem d77_29 : decode (xbc 77) 29 = .ok (.iconst 0, 1) := by decide +kernel
theorem d77_30 : decode (xbc 77) 30 = .ok (.putfield 20, 3) := by decide +kernel
theorem d77_33 : decode (xbc 77) 33 = .ok (.return_, 1) := by decide +kernel
theorem d78_0 : decode (xbc 78) 0 = .ok (.aload_n 0, 1) := by decide +kernel
theorem d78_1 : decode (xbc 78) 1 = .ok (.getfield 20, 3) := by decide +kernel
theorem d78_4 : decode (xbc 78) 4 = .ok (.ifCond .lt 12, 3) := by decide +kernel
theorem d78_7 : decode (xbc 78) 7 = .ok (.aload_n 0, 1) := by decide +kernel
theorem d78_8 : decode (xbc 78) 8 = .ok (.getfield 20, 3) := by decide +kernel
theorem d78_11 : decode (xbc 78) 11 = .ok (.bipush 8, 2) := by decide +kernel
theorem d78_13 : decode (xbc 78) 13 = .ok (.if_icmp .lt 5, 3) := by decide +kernel
theorem d78_16 : decode (xbc 78) 16 = .ok (.iconst 0, 1) := by decide +kernel
theorem d78_17 : decode (xbc 78) 17 = .ok (.ireturn, 1) := by decide +kernel
theorem d78_18 : decode (xbc 78) 18 = .ok (.aload_n 0, 1) := by decide +kernel
theorem d78_19 : decode (xbc 78) 19 = .ok (.getfield 9, 3) := by decide +kernel
theorem d78_22 : decode (xbc 78) 22 = .ok (.aload_n 0, 1) := by decide +kernel
theorem d78_23 : decode (xbc 78) 23 = .ok (.getfield 20, 3) := by decide +kernel
theorem d78_26 : decode (xbc 78) 26 = .ok (.iload_n 1, 1) := by decide +kernel
theorem d78_27 : decode (xbc 78) 27 = .ok (.iastore, 1) := by decide +kernel
theorem d78_28 : decode (xbc 78) 28 = .ok (.aload_n 0, 1) := by decide +kernel
theorem d78_29 : decode (xbc 78) 29 = .ok (.getfield 13, 3) := by decide +kernel
theorem d78_32 : decode (xbc 78) 32 = .ok (.aload_n 0, 1) := by decide +kernel
theorem d78_33 : decode (xbc 78) 33 = .ok (.getfield 20, 3) := by decide +kernel
theorem d78_36 : decode (xbc 78) 36 = .ok (.iload_n 2, 1) := by decide +kernel
theorem d78_37 : decode (xbc 78) 37 = .ok (.iastore, 1) := by decide +kernel
theorem d78_38 : decode (xbc 78) 38 = .ok (.aload_n 0, 1) := by decide +kernel
theorem d78_39 : decode (xbc 78) 39 = .ok (.getfield 16, 3) := by decide +kernel
theorem d78_42 : decode (xbc 78) 42 = .ok (.aload_n 0, 1) := by decide +kernel
theorem d78_43 : decode (xbc 78) 43 = .ok (.getfield 20, 3) := by decide +kernel
theorem d78_46 : decode (xbc 78) 46 = .ok (.iload_n 3, 1) := by decide +kernel
theorem d78_47 : decode (xbc 78) 47 = .ok (.bastore, 1) := by decide +kernel
theorem d78_48 : decode (xbc 78) 48 = .ok (.aload_n 0, 1) := by decide +kernel
theorem d78_49 : decode (xbc 78) 49 = .ok (.dup, 1) := by decide +kernel
theorem d78_50 : decode (xbc 78) 50 = .ok (.getfield 20, 3) := by decide +kernel
theorem d78_53 : decode (xbc 78) 53 = .ok (.iconst 1, 1) := by decide +kernel
theorem d78_54 : decode (xbc 78) 54 = .ok (.iadd, 1) := by decide +kernel
theorem d78_55 : decode (xbc 78) 55 = .ok (.putfield 20, 3) := by decide +kernel
theorem d78_58 : decode (xbc 78) 58 = .ok (.iconst 1, 1) := by decide +kernel
theorem d78_59 : decode (xbc 78) 59 = .ok (.ireturn, 1) := by decide +kernel
theorem d79_0 : decode (xbc 79) 0 = .ok (.aload_n 0, 1) := by decide +kernel
theorem d79_1 : decode (xbc 79) 1 = .ok (.getfield 20, 3) := by decide +kernel
theorem d79_4 : decode (xbc 79) 4 = .ok (.ireturn, 1) := by decide +kernel
theorem d80_0 : decode (xbc 80) 0 = .ok (.aload_n 0, 1) := by decide +kernel
theorem d80_1 : decode (xbc 80) 1 = .ok (.iconst 0, 1) := by decide +kernel
theorem d80_2 : decode (xbc 80) 2 = .ok (.putfield 20, 3) := by decide +kernel
theorem d80_5 : decode (xbc 80) 5 = .ok (.return_, 1) := by decide +kernel
theorem d81_0 : decode (xbc 81) 0 = .ok (.iconst 0, 1) := by decide +kernel
theorem d81_1 : decode (xbc 81) 1 = .ok (.istore_n 3, 1) := by decide +kernel
theorem d81_2 : decode (xbc 81) 2 = .ok (.iload_n 3, 1) := by decide +kernel
theorem d81_3 : decode (xbc 81) 3 = .ok (.aload_n 0, 1) := by decide +kernel
theorem d81_4 : decode (xbc 81) 4 = .ok (.getfield 20, 3) := by decide +kernel
theorem d81_7 : decode (xbc 81) 7 = .ok (.if_icmp .ge 50, 3) := by decide +kernel
theorem d81_10 : decode (xbc 81) 10 = .ok (.iload_n 3, 1) := by decide +kernel
theorem d81_11 : decode (xbc 81) 11 = .ok (.bipush 8, 2) := by decide +kernel
theorem d81_13 : decode (xbc 81) 13 = .ok (.if_icmp .ge 44, 3) := by decide +kernel
theorem d81_16 : decode (xbc 81) 16 = .ok (.iload_n 1, 1) := by decide +kernel
theorem d81_17 : decode (xbc 81) 17 = .ok (.iload_n 2, 1) := by decide +kernel
theorem d81_18 : decode (xbc 81) 18 = .ok (.aload_n 0, 1) := by decide +kernel
theorem d81_19 : decode (xbc 81) 19 = .ok (.getfield 9, 3) := by decide +kernel
theorem d81_22 : decode (xbc 81) 22 = .ok (.iload_n 3, 1) := by decide +kernel
theorem d81_23 : decode (xbc 81) 23 = .ok (.iaload, 1) := by decide +kernel
theorem d81_24 : decode (xbc 81) 24 = .ok (.imul, 1) := by decide +kernel
theorem d81_25 : decode (xbc 81) 25 = .ok (.iadd, 1) := by decide +kernel
theorem d81_26 : decode (xbc 81) 26 = .ok (.aload_n 0, 1) := by decide +kernel
theorem d81_27 : decode (xbc 81) 27 = .ok (.getfield 13, 3) := by decide +kernel
theorem d81_30 : decode (xbc 81) 30 = .ok (.iload_n 3, 1) := by decide +kernel
theorem d81_31 : decode (xbc 81) 31 = .ok (.iaload, 1) := by decide +kernel
theorem d81_32 : decode (xbc 81) 32 = .ok (.if_icmp .lt 7, 3) := by decide +kernel
theorem d81_35 : decode (xbc 81) 35 = .ok (.iconst 1, 1) := by decide +kernel
theorem d81_36 : decode (xbc 81) 36 = .ok (.goto 4, 3) := by decide +kernel
theorem d81_39 : decode (xbc 81) 39 = .ok (.iconst 0, 1) := by decide +kernel
theorem d81_40 : decode (xbc 81) 40 = .ok (.aload_n 0, 1) := by decide +kernel
theorem d81_41 : decode (xbc 81) 41 = .ok (.getfield 16, 3) := by decide +kernel
theorem d81_44 : decode (xbc 81) 44 = .ok (.iload_n 3, 1) := by decide +kernel
theorem d81_45 : decode (xbc 81) 45 = .ok (.baload, 1) := by decide +kernel
theorem d81_46 : decode (xbc 81) 46 = .ok (.if_icmp .eq 5, 3) := by decide +kernel
theorem d81_49 : decode (xbc 81) 49 = .ok (.iconst 0, 1) := by decide +kernel
theorem d81_50 : decode (xbc 81) 50 = .ok (.ireturn, 1) := by decide +kernel
theorem d81_51 : decode (xbc 81) 51 = .ok (.iinc 3 1, 3) := by decide +kernel
theorem d81_54 : decode (xbc 81) 54 = .ok (.goto (-52), 3) := by decide +kernel
theorem d81_57 : decode (xbc 81) 57 = .ok (.iconst 1, 1) := by decide +kernel
theorem d81_58 : decode (xbc 81) 58 = .ok (.ireturn, 1) := by decide +kernel
theorem d82_0 : decode (xbc 82) 0 = .ok (.aload_n 1, 1) := by decide +kernel
theorem d82_1 : decode (xbc 82) 1 = .ok (.getfield 9, 3) := by decide +kernel
theorem d82_4 : decode (xbc 82) 4 = .ok (.iconst 0, 1) := by decide +kernel
theorem d82_5 : decode (xbc 82) 5 = .ok (.aload_n 0, 1) := by decide +kernel
theorem d82_6 : decode (xbc 82) 6 = .ok (.getfield 9, 3) := by decide +kernel
theorem d82_9 : decode (xbc 82) 9 = .ok (.iconst 0, 1) := by decide +kernel
theorem d82_10 : decode (xbc 82) 10 = .ok (.bipush 8, 2) := by decide +kernel
theorem d82_12 : decode (xbc 82) 12 = .ok (.invokestatic 24, 3) := by decide +kernel
theorem d82_15 : decode (xbc 82) 15 = .ok (.aload_n 1, 1) := by decide +kernel
theorem d82_16 : decode (xbc 82) 16 = .ok (.getfield 13, 3) := by decide +kernel
theorem d82_19 : decode (xbc 82) 19 = .ok (.iconst 0, 1) := by decide +kernel
theorem d82_20 : decode (xbc 82) 20 = .ok (.aload_n 0, 1) := by decide +kernel
theorem d82_21 : decode (xbc 82) 21 = .ok (.getfield 13, 3) := by decide +kernel
theorem d82_24 : decode (xbc 82) 24 = .ok (.iconst 0, 1) := by decide +kernel
theorem d82_25 : decode (xbc 82) 25 = .ok (.bipush 8, 2) := by decide +kernel
theorem d82_27 : decode (xbc 82) 27 = .ok (.invokestatic 24, 3) := by decide +kernel
theorem d82_30 : decode (xbc 82) 30 = .ok (.aload_n 1, 1) := by decide +kernel
theorem d82_31 : decode (xbc 82) 31 = .ok (.getfield 16, 3) := by decide +kernel
theorem d82_34 : decode (xbc 82) 34 = .ok (.iconst 0, 1) := by decide +kernel
theorem d82_35 : decode (xbc 82) 35 = .ok (.aload_n 0, 1) := by decide +kernel
theorem d82_36 : decode (xbc 82) 36 = .ok (.getfield 16, 3) := by decide +kernel
theorem d82_39 : decode (xbc 82) 39 = .ok (.iconst 0, 1) := by decide +kernel
theorem d82_40 : decode (xbc 82) 40 = .ok (.bipush 8, 2) := by decide +kernel
theorem d82_42 : decode (xbc 82) 42 = .ok (.invokestatic 24, 3) := by decide +kernel
theorem d82_45 : decode (xbc 82) 45 = .ok (.aload_n 0, 1) := by decide +kernel
theorem d82_46 : decode (xbc 82) 46 = .ok (.aload_n 1, 1) := by decide +kernel
theorem d82_47 : decode (xbc 82) 47 = .ok (.getfield 20, 3) := by decide +kernel
theorem d82_50 : decode (xbc 82) 50 = .ok (.putfield 20, 3) := by decide +kernel
theorem d82_53 : decode (xbc 82) 53 = .ok (.return_, 1) := by decide +kernel
theorem d83_0 : decode (xbc 83) 0 = .ok (.aload_n 0, 1) := by decide +kernel
theorem d83_1 : decode (xbc 83) 1 = .ok (.invokespecial 3, 3) := by decide +kernel
theorem d83_4 : decode (xbc 83) 4 = .ok (.aload_n 0, 1) := by decide +kernel
theorem d83_5 : decode (xbc 83) 5 = .ok (.iconst 0, 1) := by decide +kernel
theorem d83_6 : decode (xbc 83) 6 = .ok (.putfield 9, 3) := by decide +kernel
theorem d83_9 : decode (xbc 83) 9 = .ok (.aload_n 0, 1) := by decide +kernel
theorem d83_10 : decode (xbc 83) 10 = .ok (.iconst 0, 1) := by decide +kernel
theorem d83_11 : decode (xbc 83) 11 = .ok (.putfield 15, 3) := by decide +kernel
theorem d83_14 : decode (xbc 83) 14 = .ok (.aload_n 0, 1) := by decide +kernel
theorem d83_15 : decode (xbc 83) 15 = .ok (.iconst 0, 1) := by decide +kernel
theorem d83_16 : decode (xbc 83) 16 = .ok (.putfield 18, 3) := by decide +kernel
theorem d83_19 : decode (xbc 83) 19 = .ok (.aload_n 0, 1) := by decide +kernel
theorem d83_20 : decode (xbc 83) 20 = .ok (.bipush (-6), 2) := by decide +kernel
theorem d83_22 : decode (xbc 83) 22 = .ok (.putfield 21, 3) := by decide +kernel
theorem d83_25 : decode (xbc 83) 25 = .ok (.aload_n 0, 1) := by decide +kernel
theorem d83_26 : decode (xbc 83) 26 = .ok (.bipush (-6), 2) := by decide +kernel
theorem d83_28 : decode (xbc 83) 28 = .ok (.putfield 24, 3) := by decide +kernel
theorem d83_31 : decode (xbc 83) 31 = .ok (.return_, 1) := by decide +kernel
theorem d84_0 : decode (xbc 84) 0 = .ok (.aload_n 0, 1) := by decide +kernel
theorem d84_1 : decode (xbc 84) 1 = .ok (.iconst 0, 1) := by decide +kernel
theorem d84_2 : decode (xbc 84) 2 = .ok (.putfield 9, 3) := by decide +kernel
theorem d84_5 : decode (xbc 84) 5 = .ok (.aload_n 0, 1) := by decide +kernel
theorem d84_6 : decode (xbc 84) 6 = .ok (.iconst 0, 1) := by decide +kernel
theorem d84_7 : decode (xbc 84) 7 = .ok (.putfield 15, 3) := by decide +kernel
theorem d84_10 : decode (xbc 84) 10 = .ok (.aload_n 0, 1) := by decide +kernel
theorem d84_11 : decode (xbc 84) 11 = .ok (.iconst 0, 1) := by decide +kernel
theorem d84_12 : decode (xbc 84) 12 = .ok (.putfield 18, 3) := by decide +kernel
theorem d84_15 : decode (xbc 84) 15 = .ok (.aload_n 0, 1) := by decide +kernel
theorem d84_16 : decode (xbc 84) 16 = .ok (.bipush (-6), 2) := by decide +kernel
theorem d84_18 : decode (xbc 84) 18 = .ok (.putfield 21, 3) := by decide +kernel
theorem d84_21 : decode (xbc 84) 21 = .ok (.aload_n 0, 1) := by decide +kernel
theorem d84_22 : decode (xbc 84) 22 = .ok (.bipush (-6), 2) := by decide +kernel
theorem d84_24 : decode (xbc 84) 24 = .ok (.putfield 24, 3) := by decide +kernel
theorem d84_27 : decode (xbc 84) 27 = .ok (.return_, 1) := by decide +kernel
theorem d85_0 : decode (xbc 85) 0 = .ok (.aload_n 0, 1) := by decide +kernel
theorem d85_1 : decode (xbc 85) 1 = .ok (.dup, 1) := by decide +kernel
theorem d85_2 : decode (xbc 85) 2 = .ok (.getfield 9, 3) := by decide +kernel
theorem d85_5 : decode (xbc 85) 5 = .ok (.iconst 1, 1) := by decide +kernel
theorem d85_6 : decode (xbc 85) 6 = .ok (.iadd, 1) := by decide +kernel
theorem d85_7 : decode (xbc 85) 7 = .ok (.putfield 9, 3) := by decide +kernel
theorem d85_10 : decode (xbc 85) 10 = .ok (.iload_n 1, 1) := by decide +kernel
theorem d85_11 : decode (xbc 85) 11 = .ok (.ifCond .ne 14, 3) := by decide +kernel
theorem d85_14 : decode (xbc 85) 14 = .ok (.aload_n 0, 1) := by decide +kernel
theorem d85_15 : decode (xbc 85) 15 = .ok (.dup, 1) := by decide +kernel
theorem d85_16 : decode (xbc 85) 16 = .ok (.getfield 15, 3) := by decide +kernel
theorem d85_19 : decode (xbc 85) 19 = .ok (.iconst 1, 1) := by decide +kernel
theorem d85_20 : decode (xbc 85) 20 = .ok (.iadd, 1) := by decide +kernel
theorem d85_21 : decode (xbc 85) 21 = .ok (.putfield 15, 3) := by decide +kernel
theorem d85_24 : decode (xbc 85) 24 = .ok (.return_, 1) := by decide +kernel
theorem d85_25 : decode (xbc 85) 25 = .ok (.aload_n 0, 1) := by decide +kernel
theorem d85_26 : decode (xbc 85) 26 = .ok (.getfield 18, 3) := by decide +kernel
theorem d85_29 : decode (xbc 85) 29 = .ok (.ifCond .ne 13, 3) := by decide +kernel
theorem d85_32 : decode (xbc 85) 32 = .ok (.aload_n 0, 1) := by decide +kernel
theorem d85_33 : decode (xbc 85) 33 = .ok (.iload_n 2, 1) := by decide +kernel
theorem d85_34 : decode (xbc 85) 34 = .ok (.putfield 21, 3) := by decide +kernel
theorem d85_37 : decode (xbc 85) 37 = .ok (.aload_n 0, 1) := by decide +kernel
theorem d85_38 : decode (xbc 85) 38 = .ok (.iload_n 3, 1) := by decide +kernel
theorem d85_39 : decode (xbc 85) 39 = .ok (.putfield 24, 3) := by decide +kernel
theorem d85_42 : decode (xbc 85) 42 = .ok (.aload_n 0, 1) := by decide +kernel
theorem d85_43 : decode (xbc 85) 43 = .ok (.dup, 1) := by decide +kernel
theorem d85_44 : decode (xbc 85) 44 = .ok (.getfield 18, 3) := by decide +kernel
theorem d85_47 : decode (xbc 85) 47 = .ok (.iconst 1, 1) := by decide +kernel
theorem d85_48 : decode (xbc 85) 48 = .ok (.iadd, 1) := by decide +kernel
theorem d85_49 : decode (xbc 85) 49 = .ok (.putfield 18, 3) := by decide +kernel
theorem d85_52 : decode (xbc 85) 52 = .ok (.return_, 1) := by decide +kernel
end
section
theorem d86_0 : decode (xbc 86) 0 = .ok (.aload_n 0, 1) := by decide +kernel
theorem d86_1 : decode (xbc 86) 1 = .ok (.invokespecial 1, 3) := by decide +kernel
theorem d86_4 : decode (xbc 86) 4 = .ok (.aload_n 0, 1) := by decide +kernel
theorem d86_5 : decode (xbc 86) 5 = .ok (.new 7, 3) := by decide +kernel
theorem d86_8 : decode (xbc 86) 8 = .ok (.dup, 1) := by decide +kernel
theorem d86_9 : decode (xbc 86) 9 = .ok (.invokespecial 9, 3) := by decide +kernel
theorem d86_12 : decode (xbc 86) 12 = .ok (.putfield 10, 3) := by decide +kernel
theorem d86_15 : decode (xbc 86) 15 = .ok (.aload_n 0, 1) := by decide +kernel
theorem d86_16 : decode (xbc 86) 16 = .ok (.new 16, 3) := by decide +kernel
theorem d86_19 : decode (xbc 86) 19 = .ok (.dup, 1) := by decide +kernel
theorem d86_20 : decode (xbc 86) 20 = .ok (.invokespecial 18, 3) := by decide +kernel
theorem d86_23 : decode (xbc 86) 23 = .ok (.putfield 19, 3) := by decide +kernel
theorem d86_26 : decode (xbc 86) 26 = .ok (.aload_n 0, 1) := by decide +kernel
theorem d86_27 : decode (xbc 86) 27 = .ok (.new 23, 3) := by decide +kernel
theorem d86_30 : decode (xbc 86) 30 = .ok (.dup, 1) := by decide +kernel
theorem d86_31 : decode (xbc 86) 31 = .ok (.invokespecial 25, 3) := by decide +kernel
theorem d86_34 : decode (xbc 86) 34 = .ok (.putfield 26, 3) := by decide +kernel
theorem d86_37 : decode (xbc 86) 37 = .ok (.aload_n 0, 1) := by decide +kernel
theorem d86_38 : decode (xbc 86) 38 = .ok (.new 30, 3) := by decide +kernel
theorem d86_41 : decode (xbc 86) 41 = .ok (.dup, 1) := by decide +kernel
theorem d86_42 : decode (xbc 86) 42 = .ok (.invokespecial 32, 3) := by decide +kernel
theorem d86_45 : decode (xbc 86) 45 = .ok (.putfield 33, 3) := by decide +kernel
theorem d86_48 : decode (xbc 86) 48 = .ok (.aload_n 0, 1) := by decide +kernel
theorem d86_49 : decode (xbc 86) 49 = .ok (.new 37, 3) := by decide +kernel
theorem d86_52 : decode (xbc 86) 52 = .ok (.dup, 1) := by decide +kernel
theorem d86_53 : decode (xbc 86) 53 = .ok (.invokespecial 39, 3) := by decide +kernel
theorem d86_56 : decode (xbc 86) 56 = .ok (.putfield 40, 3) := by decide +kernel
theorem d86_59 : decode (xbc 86) 59 = .ok (.aload_n 0, 1) := by decide +kernel
theorem d86_60 : decode (xbc 86) 60 = .ok (.iconst 2, 1) := by decide +kernel
theorem d86_61 : decode (xbc 86) 61 = .ok (.anewarray 44, 3) := by decide +kernel
theorem d86_64 : decode (xbc 86) 64 = .ok (.putfield 46, 3) := by decide +kernel
theorem d86_67 : decode (xbc 86) 67 = .ok (.iconst 0, 1) := by decide +kernel
theorem d86_68 : decode (xbc 86) 68 = .ok (.istore_n 1, 1) := by decide +kernel
theorem d86_69 : decode (xbc 86) 69 = .ok (.iload_n 1, 1) := by decide +kernel
theorem d86_70 : decode (xbc 86) 70 = .ok (.iconst 2, 1) := by decide +kernel
theorem d86_71 : decode (xbc 86) 71 = .ok (.if_icmp .ge 22, 3) := by decide +kernel
theorem d86_74 : decode (xbc 86) 74 = .ok (.aload_n 0, 1) := by decide +kernel
theorem d86_75 : decode (xbc 86) 75 = .ok (.getfield 46, 3) := by decide +kernel
theorem d86_78 : decode (xbc 86) 78 = .ok (.iload_n 1, 1) := by decide +kernel
theorem d86_79 : decode (xbc 86) 79 = .ok (.new 44, 3) := by decide +kernel
theorem d86_82 : decode (xbc 86) 82 = .ok (.dup, 1) := by decide +kernel
theorem d86_83 : decode (xbc 86) 83 = .ok (.invokespecial 50, 3) := by decide +kernel
theorem d86_86 : decode (xbc 86) 86 = .ok (.aastore, 1) := by decide +kernel
theorem d86_87 : decode (xbc 86) 87 = .ok (.iinc 1 1, 3) := by decide +kernel
theorem d86_90 : decode (xbc 86) 90 = .ok (.goto (-21), 3) := by decide +kernel
theorem d86_93 : decode (xbc 86) 93 = .ok (.return_, 1) := by decide +kernel
theorem d87_0 : decode (xbc 87) 0 = .ok (.iload_n 0, 1) := by decide +kernel
theorem d87_1 : decode (xbc 87) 1 = .ok (.iconst 1, 1) := by decide +kernel
theorem d87_2 : decode (xbc 87) 2 = .ok (.if_icmp .lt 13, 3) := by decide +kernel
theorem d87_5 : decode (xbc 87) 5 = .ok (.iload_n 0, 1) := by decide +kernel
theorem d87_6 : decode (xbc 87) 6 = .ok (.bipush 7, 2) := by decide +kernel
theorem d87_8 : decode (xbc 87) 8 = .ok (.if_icmp .gt 7, 3) := by decide +kernel
theorem d87_11 : decode (xbc 87) 11 = .ok (.iconst 1, 1) := by decide +kernel
theorem d87_12 : decode (xbc 87) 12 = .ok (.goto 4, 3) := by decide +kernel
theorem d87_15 : decode (xbc 87) 15 = .ok (.iconst 0, 1) := by decide +kernel
theorem d87_16 : decode (xbc 87) 16 = .ok (.ireturn, 1) := by decide +kernel
theorem d88_0 : decode (xbc 88) 0 = .ok (.iload_n 0, 1) := by decide +kernel
theorem d88_1 : decode (xbc 88) 1 = .ok (.ifCond .lt 13, 3) := by decide +kernel
theorem d88_4 : decode (xbc 88) 4 = .ok (.iload_n 0, 1) := by decide +kernel
theorem d88_5 : decode (xbc 88) 5 = .ok (.bipush 8, 2) := by decide +kernel
theorem d88_7 : decode (xbc 88) 7 = .ok (.if_icmp .ge 7, 3) := by decide +kernel
theorem d88_10 : decode (xbc 88) 10 = .ok (.iconst 1, 1) := by decide +kernel
theorem d88_11 : decode (xbc 88) 11 = .ok (.goto 4, 3) := by decide +kernel
theorem d88_14 : decode (xbc 88) 14 = .ok (.iconst 0, 1) := by decide +kernel
theorem d88_15 : decode (xbc 88) 15 = .ok (.ireturn, 1) := by decide +kernel
theorem d89_0 : decode (xbc 89) 0 = .ok (.iload_n 1, 1) := by decide +kernel
theorem d89_1 : decode (xbc 89) 1 = .ok (.invokestatic 51, 3) := by decide +kernel
theorem d89_4 : decode (xbc 89) 4 = .ok (.ifCond .ne 5, 3) := by decide +kernel
theorem d89_7 : decode (xbc 89) 7 = .ok (.iconst (-1), 1) := by decide +kernel
theorem d89_8 : decode (xbc 89) 8 = .ok (.ireturn, 1) := by decide +kernel
theorem d89_9 : decode (xbc 89) 9 = .ok (.iload_n 2, 1) := by decide +kernel
theorem d89_10 : decode (xbc 89) 10 = .ok (.ifCond .eq 8, 3) := by decide +kernel
theorem d89_13 : decode (xbc 89) 13 = .ok (.iload_n 2, 1) := by decide +kernel
theorem d89_14 : decode (xbc 89) 14 = .ok (.iconst 1, 1) := by decide +kernel
theorem d89_15 : decode (xbc 89) 15 = .ok (.if_icmp .ne 23, 3) := by decide +kernel
theorem d89_18 : decode (xbc 89) 18 = .ok (.iload_n 3, 1) := by decide +kernel
theorem d89_19 : decode (xbc 89) 19 = .ok (.sipush 1000, 3) := by decide +kernel
theorem d89_22 : decode (xbc 89) 22 = .ok (.invokestatic 55, 3) := by decide +kernel
theorem d89_25 : decode (xbc 89) 25 = .ok (.ifCond .eq 13, 3) := by decide +kernel
theorem d89_28 : decode (xbc 89) 28 = .ok (.iload 4, 2) := by decide +kernel
theorem d89_30 : decode (xbc 89) 30 = .ok (.bipush 50, 2) := by decide +kernel
theorem d89_32 : decode (xbc 89) 32 = .ok (.invokestatic 55, 3) := by decide +kernel
theorem d89_35 : decode (xbc 89) 35 = .ok (.ifCond .ne 6, 3) := by decide +kernel
theorem d89_38 : decode (xbc 89) 38 = .ok (.bipush (-2), 2) := by decide +kernel
theorem d89_40 : decode (xbc 89) 40 = .ok (.ireturn, 1) := by decide +kernel
theorem d89_41 : decode (xbc 89) 41 = .ok (.aload_n 0, 1) := by decide +kernel
theorem d89_42 : decode (xbc 89) 42 = .ok (.getfield 10, 3) := by decide +kernel
theorem d89_45 : decode (xbc 89) 45 = .ok (.iload_n 1, 1) := by decide +kernel
theorem d89_46 : decode (xbc 89) 46 = .ok (.invokevirtual 59, 3) := by decide +kernel
theorem d89_49 : decode (xbc 89) 49 = .ok (.iload_n 2, 1) := by decide +kernel
theorem d89_50 : decode (xbc 89) 50 = .ok (.invokestatic 63, 3) := by decide +kernel
theorem d89_53 : decode (xbc 89) 53 = .ok (.ifCond .ne 6, 3) := by decide +kernel
theorem d89_56 : decode (xbc 89) 56 = .ok (.bipush (-3), 2) := by decide +kernel
theorem d89_58 : decode (xbc 89) 58 = .ok (.ireturn, 1) := by decide +kernel
theorem d89_59 : decode (xbc 89) 59 = .ok (.bipush 10, 2) := by decide +kernel
theorem d89_61 : decode (xbc 89) 61 = .ok (.aload_n 0, 1) := by decide +kernel
theorem d89_62 : decode (xbc 89) 62 = .ok (.getfield 10, 3) := by decide +kernel
theorem d89_65 : decode (xbc 89) 65 = .ok (.iload_n 1, 1) := by decide +kernel
theorem d89_66 : decode (xbc 89) 66 = .ok (.invokevirtual 66, 3) := by decide +kernel
theorem d89_69 : decode (xbc 89) 69 = .ok (.imul, 1) := by decide +kernel
theorem d89_70 : decode (xbc 89) 70 = .ok (.aload_n 0, 1) := by decide +kernel
theorem d89_71 : decode (xbc 89) 71 = .ok (.getfield 10, 3) := by decide +kernel
theorem d89_74 : decode (xbc 89) 74 = .ok (.iload_n 1, 1) := by decide +kernel
theorem d89_75 : decode (xbc 89) 75 = .ok (.invokevirtual 69, 3) := by decide +kernel
theorem d89_78 : decode (xbc 89) 78 = .ok (.iadd, 1) := by decide +kernel
theorem d89_79 : decode (xbc 89) 79 = .ok (.istore 5, 2) := by decide +kernel
theorem d89_81 : decode (xbc 89) 81 = .ok (.aload_n 0, 1) := by decide +kernel
theorem d89_82 : decode (xbc 89) 82 = .ok (.getfield 10, 3) := by decide +kernel
theorem d89_85 : decode (xbc 89) 85 = .ok (.iload_n 1, 1) := by decide +kernel
theorem d89_86 : decode (xbc 89) 86 = .ok (.iload_n 2, 1) := by decide +kernel
theorem d89_87 : decode (xbc 89) 87 = .ok (.iload_n 3, 1) := by decide +kernel
theorem d89_88 : decode (xbc 89) 88 = .ok (.iload 4, 2) := by decide +kernel
theorem d89_90 : decode (xbc 89) 90 = .ok (.invokevirtual 72, 3) := by decide +kernel
theorem d89_93 : decode (xbc 89) 93 = .ok (.iload 5, 2) := by decide +kernel
theorem d89_95 : decode (xbc 89) 95 = .ok (.ireturn, 1) := by decide +kernel
theorem d90_0 : decode (xbc 90) 0 = .ok (.iload_n 0, 1) := by decide +kernel
theorem d90_1 : decode (xbc 90) 1 = .ok (.iload_n 1, 1) := by decide +kernel
theorem d90_2 : decode (xbc 90) 2 = .ok (.ineg, 1) := by decide +kernel
theorem d90_3 : decode (xbc 90) 3 = .ok (.if_icmp .lt 12, 3) := by decide +kernel
theorem d90_6 : decode (xbc 90) 6 = .ok (.iload_n 0, 1) := by decide +kernel
theorem d90_7 : decode (xbc 90) 7 = .ok (.iload_n 1, 1) := by decide +kernel
theorem d90_8 : decode (xbc 90) 8 = .ok (.if_icmp .gt 7, 3) := by decide +kernel
theorem d90_11 : decode (xbc 90) 11 = .ok (.iconst 1, 1) := by decide +kernel
theorem d90_12 : decode (xbc 90) 12 = .ok (.goto 4, 3) := by decide +kernel
theorem d90_15 : decode (xbc 90) 15 = .ok (.iconst 0, 1) := by decide +kernel
theorem d90_16 : decode (xbc 90) 16 = .ok (.ireturn, 1) := by decide +kernel
theorem d91_0 : decode (xbc 91) 0 = .ok (.iload_n 1, 1) := by decide +kernel
theorem d91_1 : decode (xbc 91) 1 = .ok (.bipush 33, 2) := by decide +kernel
theorem d91_3 : decode (xbc 91) 3 = .ok (.if_icmp .lt 9, 3) := by decide +kernel
theorem d91_6 : decode (xbc 91) 6 = .ok (.iload_n 1, 1) := by decide +kernel
theorem d91_7 : decode (xbc 91) 7 = .ok (.bipush 126, 2) := by decide +kernel
theorem d91_9 : decode (xbc 91) 9 = .ok (.if_icmp .le 6, 3) := by decide +kernel
theorem d91_12 : decode (xbc 91) 12 = .ok (.bipush (-2), 2) := by decide +kernel
theorem d91_14 : decode (xbc 91) 14 = .ok (.ireturn, 1) := by decide +kernel
theorem d91_15 : decode (xbc 91) 15 = .ok (.aload_n 0, 1) := by decide +kernel
theorem d91_16 : decode (xbc 91) 16 = .ok (.getfield 19, 3) := by decide +kernel
theorem d91_19 : decode (xbc 91) 19 = .ok (.iload_n 1, 1) := by decide +kernel
theorem d91_20 : decode (xbc 91) 20 = .ok (.invokevirtual 76, 3) := by decide +kernel
theorem d91_23 : decode (xbc 91) 23 = .ok (.ifCond .eq 13, 3) := by decide +kernel
theorem d91_26 : decode (xbc 91) 26 = .ok (.aload_n 0, 1) := by decide +kernel
theorem d91_27 : decode (xbc 91) 27 = .ok (.getfield 19, 3) := by decide +kernel
theorem d91_30 : decode (xbc 91) 30 = .ok (.invokevirtual 79, 3) := by decide +kernel
theorem d91_33 : decode (xbc 91) 33 = .ok (.goto 5, 3) := by decide +kernel
theorem d91_36 : decode (xbc 91) 36 = .ok (.bipush (-4), 2) := by decide +kernel
theorem d91_38 : decode (xbc 91) 38 = .ok (.ireturn, 1) := by decide +kernel
theorem d92_0 : decode (xbc 92) 0 = .ok (.aload_n 0, 1) := by decide +kernel
theorem d92_1 : decode (xbc 92) 1 = .ok (.getfield 19, 3) := by decide +kernel
theorem d92_4 : decode (xbc 92) 4 = .ok (.invokevirtual 79, 3) := by decide +kernel
theorem d92_7 : decode (xbc 92) 7 = .ok (.istore_n 1, 1) := by decide +kernel
theorem d92_8 : decode (xbc 92) 8 = .ok (.aload_n 0, 1) := by decide +kernel
theorem d92_9 : decode (xbc 92) 9 = .ok (.getfield 19, 3) := by decide +kernel
theorem d92_12 : decode (xbc 92) 12 = .ok (.invokevirtual 83, 3) := by decide +kernel
theorem d92_15 : decode (xbc 92) 15 = .ok (.iload_n 1, 1) := by decide +kernel
theorem d92_16 : decode (xbc 92) 16 = .ok (.ireturn, 1) := by decide +kernel
theorem d93_0 : decode (xbc 93) 0 = .ok (.aload_n 0, 1) := by decide +kernel
theorem d93_1 : decode (xbc 93) 1 = .ok (.getfield 19, 3) := by decide +kernel
theorem d93_4 : decode (xbc 93) 4 = .ok (.invokevirtual 86, 3) := by decide +kernel
theorem d93_7 : decode (xbc 93) 7 = .ok (.ireturn, 1) := by decide +kernel
theorem d94_0 : decode (xbc 94) 0 = .ok (.iload_n 1, 1) := by decide +kernel
theorem d94_1 : decode (xbc 94) 1 = .ok (.ifCond .eq 11, 3) := by decide +kernel
theorem d94_4 : decode (xbc 94) 4 = .ok (.iload_n 1, 1) := by decide +kernel
theorem d94_5 : decode (xbc 94) 5 = .ok (.iconst 1, 1) := by decide +kernel
theorem d94_6 : decode (xbc 94) 6 = .ok (.if_icmp .eq 6, 3) := by decide +kernel
theorem d94_9 : decode (xbc 94) 9 = .ok (.bipush (-2), 2) := by decide +kernel
theorem d94_11 : decode (xbc 94) 11 = .ok (.ireturn, 1) := by decide +kernel
theorem d94_12 : decode (xbc 94) 12 = .ok (.aload_n 0, 1) := by decide +kernel
theorem d94_13 : decode (xbc 94) 13 = .ok (.getfield 19, 3) := by decide +kernel
theorem d94_16 : decode (xbc 94) 16 = .ok (.invokevirtual 86, 3) := by decide +kernel
theorem d94_19 : decode (xbc 94) 19 = .ok (.bipush (-6), 2) := by decide +kernel
theorem d94_21 : decode (xbc 94) 21 = .ok (.if_icmp .eq 6, 3) := by decide +kernel
theorem d94_24 : decode (xbc 94) 24 = .ok (.bipush (-5), 2) := by decide +kernel
theorem d94_26 : decode (xbc 94) 26 = .ok (.ireturn, 1) := by decide +kernel
theorem d94_27 : decode (xbc 94) 27 = .ok (.aload_n 0, 1) := by decide +kernel
theorem d94_28 : decode (xbc 94) 28 = .ok (.getfield 33, 3) := by decide +kernel
theorem d94_31 : decode (xbc 94) 31 = .ok (.aload_n 0, 1) := by decide +kernel
theorem d94_32 : decode (xbc 94) 32 = .ok (.getfield 10, 3) := by decide +kernel
theorem d94_35 : decode (xbc 94) 35 = .ok (.aload_n 0, 1) := by decide +kernel
theorem d94_36 : decode (xbc 94) 36 = .ok (.getfield 19, 3) := by decide +kernel
theorem d94_39 : decode (xbc 94) 39 = .ok (.invokevirtual 89, 3) := by decide +kernel
theorem d94_42 : decode (xbc 94) 42 = .ok (.pop, 1) := by decide +kernel
theorem d94_43 : decode (xbc 94) 43 = .ok (.iload_n 1, 1) := by decide +kernel
theorem d94_44 : decode (xbc 94) 44 = .ok (.ifCond .ne 13, 3) := by decide +kernel
theorem d94_47 : decode (xbc 94) 47 = .ok (.aload_n 0, 1) := by decide +kernel
theorem d94_48 : decode (xbc 94) 48 = .ok (.getfield 33, 3) := by decide +kernel
theorem d94_51 : decode (xbc 94) 51 = .ok (.invokevirtual 93, 3) := by decide +kernel
theorem d94_54 : decode (xbc 94) 54 = .ok (.goto 10, 3) := by decide +kernel
theorem d94_57 : decode (xbc 94) 57 = .ok (.aload_n 0, 1) := by decide +kernel
theorem d94_58 : decode (xbc 94) 58 = .ok (.getfield 33, 3) := by decide +kernel
theorem d94_61 : decode (xbc 94) 61 = .ok (.invokevirtual 96, 3) := by decide +kernel
theorem d94_64 : decode (xbc 94) 64 = .ok (.ireturn, 1) := by decide +kernel
theorem d95_0 : decode (xbc 95) 0 = .ok (.aload_n 0, 1) := by decide +kernel
theorem d95_1 : decode (xbc 95) 1 = .ok (.getfield 33, 3) := by decide +kernel
theorem d95_4 : decode (xbc 95) 4 = .ok (.aload_n 0, 1) := by decide +kernel
theorem d95_5 : decode (xbc 95) 5 = .ok (.getfield 10, 3) := by decide +kernel
theorem d95_8 : decode (xbc 95) 8 = .ok (.aload_n 0, 1) := by decide +kernel
theorem d95_9 : decode (xbc 95) 9 = .ok (.getfield 19, 3) := by decide +kernel
theorem d95_12 : decode (xbc 95) 12 = .ok (.invokevirtual 89, 3) := by decide +kernel
theorem d95_15 : decode (xbc 95) 15 = .ok (.ifCond .ne 6, 3) := by decide +kernel
theorem d95_18 : decode (xbc 95) 18 = .ok (.bipush (-5), 2) := by decide +kernel
theorem d95_20 : decode (xbc 95) 20 = .ok (.ireturn, 1) := by decide +kernel
theorem d95_21 : decode (xbc 95) 21 = .ok (.aload_n 0, 1) := by decide +kernel
theorem d95_22 : decode (xbc 95) 22 = .ok (.getfield 10, 3) := by decide +kernel
theorem d95_25 : decode (xbc 95) 25 = .ok (.aload_n 0, 1) := by decide +kernel
theorem d95_26 : decode (xbc 95) 26 = .ok (.getfield 33, 3) := by decide +kernel
theorem d95_29 : decode (xbc 95) 29 = .ok (.invokevirtual 99, 3) := by decide +kernel
theorem d95_32 : decode (xbc 95) 32 = .ok (.invokevirtual 102, 3) := by decide +kernel
theorem d95_35 : decode (xbc 95) 35 = .ok (.aload_n 0, 1) := by decide +kernel
theorem d95_36 : decode (xbc 95) 36 = .ok (.getfield 19, 3) := by decide +kernel
theorem d95_39 : decode (xbc 95) 39 = .ok (.invokevirtual 83, 3) := by decide +kernel
theorem d95_42 : decode (xbc 95) 42 = .ok (.aload_n 0, 1) := by decide +kernel
theorem d95_43 : decode (xbc 95) 43 = .ok (.getfield 33, 3) := by decide +kernel
theorem d95_46 : decode (xbc 95) 46 = .ok (.invokevirtual 106, 3) := by decide +kernel
theorem d95_49 : decode (xbc 95) 49 = .ok (.ireturn, 1) := by decide +kernel
theorem d96_0 : decode (xbc 96) 0 = .ok (.iload_n 1, 1) := by decide +kernel
theorem d96_1 : decode (xbc 96) 1 = .ok (.invokestatic 51, 3) := by decide +kernel
theorem d96_4 : decode (xbc 96) 4 = .ok (.ifCond .ne 5, 3) := by decide +kernel
theorem d96_7 : decode (xbc 96) 7 = .ok (.iconst (-1), 1) := by decide +kernel
theorem d96_8 : decode (xbc 96) 8 = .ok (.ireturn, 1) := by decide +kernel
theorem d96_9 : decode (xbc 96) 9 = .ok (.iload_n 2, 1) := by decide +kernel
theorem d96_10 : decode (xbc 96) 10 = .ok (.ifCond .lt 8, 3) := by decide +kernel
theorem d96_13 : decode (xbc 96) 13 = .ok (.iload_n 2, 1) := by decide +kernel
theorem d96_14 : decode (xbc 96) 14 = .ok (.iconst 3, 1) := by decide +kernel
theorem d96_15 : decode (xbc 96) 15 = .ok (.if_icmp .le 6, 3) := by decide +kernel
theorem d96_18 : decode (xbc 96) 18 = .ok (.bipush (-2), 2) := by decide +kernel
theorem d96_20 : decode (xbc 96) 20 = .ok (.ireturn, 1) := by decide +kernel
theorem d96_21 : decode (xbc 96) 21 = .ok (.aload_n 0, 1) := by decide +kernel
theorem d96_22 : decode (xbc 96) 22 = .ok (.getfield 33, 3) := by decide +kernel
theorem d96_25 : decode (xbc 96) 25 = .ok (.aload_n 0, 1) := by decide +kernel
theorem d96_26 : decode (xbc 96) 26 = .ok (.getfield 10, 3) := by decide +kernel
theorem d96_29 : decode (xbc 96) 29 = .ok (.aload_n 0, 1) := by decide +kernel
theorem d96_30 : decode (xbc 96) 30 = .ok (.getfield 19, 3) := by decide +kernel
theorem d96_33 : decode (xbc 96) 33 = .ok (.invokevirtual 89, 3) := by decide +kernel
theorem d96_36 : decode (xbc 96) 36 = .ok (.ifCond .ne 6, 3) := by decide +kernel
theorem d96_39 : decode (xbc 96) 39 = .ok (.bipush (-5), 2) := by decide +kernel
theorem d96_41 : decode (xbc 96) 41 = .ok (.ireturn, 1) := by decide +kernel
theorem d96_42 : decode (xbc 96) 42 = .ok (.aload_n 0, 1) := by decide +kernel
theorem d96_43 : decode (xbc 96) 43 = .ok (.getfield 33, 3) := by decide +kernel
theorem d96_46 : decode (xbc 96) 46 = .ok (.invokevirtual 99, 3) := by decide +kernel
theorem d96_49 : decode (xbc 96) 49 = .ok (.astore_n 3, 1) := by decide +kernel
theorem d96_50 : decode (xbc 96) 50 = .ok (.iload_n 2, 1) := by decide +kernel
theorem d96_51 : decode (xbc 96) 51 = .ok (.tableswitch 43 0 2 #[25, 31, 37], 25) := by decide +kernel
theorem d96_76 : decode (xbc 96) 76 = .ok (.aload_n 3, 1) := by decide +kernel
theorem d96_77 : decode (xbc 96) 77 = .ok (.iload_n 1, 1) := by decide +kernel
theorem d96_78 : decode (xbc 96) 78 = .ok (.invokevirtual 69, 3) := by decide +kernel
theorem d96_81 : decode (xbc 96) 81 = .ok (.ireturn, 1) := by decide +kernel
theorem d96_82 : decode (xbc 96) 82 = .ok (.aload_n 3, 1) := by decide +kernel
theorem d96_83 : decode (xbc 96) 83 = .ok (.iload_n 1, 1) := by decide +kernel
theorem d96_84 : decode (xbc 96) 84 = .ok (.invokevirtual 59, 3) := by decide +kernel
theorem d96_87 : decode (xbc 96) 87 = .ok (.ireturn, 1) := by decide +kernel
theorem d96_88 : decode (xbc 96) 88 = .ok (.aload_n 3, 1) := by decide +kernel
theorem d96_89 : decode (xbc 96) 89 = .ok (.iload_n 1, 1) := by decide +kernel
theorem d96_90 : decode (xbc 96) 90 = .ok (.invokevirtual 109, 3) := by decide +kernel
theorem d96_93 : decode (xbc 96) 93 = .ok (.ireturn, 1) := by decide +kernel
theorem d96_94 : decode (xbc 96) 94 = .ok (.aload_n 3, 1) := by decide +kernel
theorem d96_95 : decode (xbc 96) 95 = .ok (.iload_n 1, 1) := by decide +kernel
theorem d96_96 : decode (xbc 96) 96 = .ok (.invokevirtual 112, 3) := by decide +kernel
theorem d96_99 : decode (xbc 96) 99 = .ok (.ireturn, 1) := by decide +kernel
theorem d97_0 : decode (xbc 97) 0 = .ok (.iload_n 1, 1) := by decide +kernel
theorem d97_1 : decode (xbc 97) 1 = .ok (.invokestatic 115, 3) := by decide +kernel
theorem d97_4 : decode (xbc 97) 4 = .ok (.ifCond .ne 5, 3) := by decide +kernel
theorem d97_7 : decode (xbc 97) 7 = .ok (.iconst (-1), 1) := by decide +kernel
theorem d97_8 : decode (xbc 97) 8 = .ok (.ireturn, 1) := by decide +kernel
theorem d97_9 : decode (xbc 97) 9 = .ok (.aload_n 0, 1) := by decide +kernel
theorem d97_10 : decode (xbc 97) 10 = .ok (.getfield 33, 3) := by decide +kernel
theorem d97_13 : decode (xbc 97) 13 = .ok (.aload_n 0, 1) := by decide +kernel
theorem d97_14 : decode (xbc 97) 14 = .ok (.getfield 10, 3) := by decide +kernel
theorem d97_17 : decode (xbc 97) 17 = .ok (.aload_n 0, 1) := by decide +kernel
theorem d97_18 : decode (xbc 97) 18 = .ok (.getfield 19, 3) := by decide +kernel
theorem d97_21 : decode (xbc 97) 21 = .ok (.invokevirtual 89, 3) := by decide +kernel
theorem d97_24 : decode (xbc 97) 24 = .ok (.ifCond .eq 17, 3) := by decide +kernel
theorem d97_27 : decode (xbc 97) 27 = .ok (.aload_n 0, 1) := by decide +kernel
theorem d97_28 : decode (xbc 97) 28 = .ok (.getfield 33, 3) := by decide +kernel
theorem d97_31 : decode (xbc 97) 31 = .ok (.invokevirtual 99, 3) := by decide +kernel
theorem d97_34 : decode (xbc 97) 34 = .ok (.iload_n 1, 1) := by decide +kernel
theorem d97_35 : decode (xbc 97) 35 = .ok (.invokevirtual 118, 3) := by decide +kernel
theorem d97_38 : decode (xbc 97) 38 = .ok (.goto 5, 3) := by decide +kernel
theorem d97_41 : decode (xbc 97) 41 = .ok (.bipush (-5), 2) := by decide +kernel
theorem d97_43 : decode (xbc 97) 43 = .ok (.ireturn, 1) := by decide +kernel
theorem d98_0 : decode (xbc 98) 0 = .ok (.iload_n 1, 1) := by decide +kernel
theorem d98_1 : decode (xbc 98) 1 = .ok (.ifCond .lt 9, 3) := by decide +kernel
theorem d98_4 : decode (xbc 98) 4 = .ok (.iload_n 1, 1) := by decide +kernel
theorem d98_5 : decode (xbc 98) 5 = .ok (.bipush 6, 2) := by decide +kernel
theorem d98_7 : decode (xbc 98) 7 = .ok (.if_icmp .le 6, 3) := by decide +kernel
theorem d98_10 : decode (xbc 98) 10 = .ok (.bipush (-2), 2) := by decide +kernel
theorem d98_12 : decode (xbc 98) 12 = .ok (.ireturn, 1) := by decide +kernel
theorem d98_13 : decode (xbc 98) 13 = .ok (.aload_n 0, 1) := by decide +kernel
theorem d98_14 : decode (xbc 98) 14 = .ok (.getfield 33, 3) := by decide +kernel
theorem d98_17 : decode (xbc 98) 17 = .ok (.aload_n 0, 1) := by decide +kernel
theorem d98_18 : decode (xbc 98) 18 = .ok (.getfield 10, 3) := by decide +kernel
theorem d98_21 : decode (xbc 98) 21 = .ok (.aload_n 0, 1) := by decide +kernel
theorem d98_22 : decode (xbc 98) 22 = .ok (.getfield 19, 3) := by decide +kernel
theorem d98_25 : decode (xbc 98) 25 = .ok (.invokevirtual 89, 3) := by decide +kernel
theorem d98_28 : decode (xbc 98) 28 = .ok (.ifCond .ne 6, 3) := by decide +kernel
theorem d98_31 : decode (xbc 98) 31 = .ok (.bipush (-5), 2) := by decide +kernel
theorem d98_33 : decode (xbc 98) 33 = .ok (.ireturn, 1) := by decide +kernel
theorem d98_34 : decode (xbc 98) 34 = .ok (.aload_n 0, 1) := by decide +kernel
theorem d98_35 : decode (xbc 98) 35 = .ok (.getfield 33, 3) := by decide +kernel
theorem d98_38 : decode (xbc 98) 38 = .ok (.invokevirtual 99, 3) := by decide +kernel
theorem d98_41 : decode (xbc 98) 41 = .ok (.astore_n 2, 1) := by decide +kernel
theorem d98_42 : decode (xbc 98) 42 = .ok (.aload_n 2, 1) := by decide +kernel
theorem d98_43 : decode (xbc 98) 43 = .ok (.invokevirtual 121, 3) := by decide +kernel
theorem d98_46 : decode (xbc 98) 46 = .ok (.astore_n 3, 1) := by decide +kernel
theorem d98_47 : decode (xbc 98) 47 = .ok (.iload_n 1, 1) := by decide +kernel
theorem d98_48 : decode (xbc 98) 48 = .ok (.tableswitch 71 0 5 #[40, 45, 51, 56, 61, 66], 40) := by decide +kernel
theorem d98_88 : decode (xbc 98) 88 = .ok (.aload_n 2, 1) := by decide +kernel
theorem d98_89 : decode (xbc 98) 89 = .ok (.invokevirtual 125, 3) := by decide +kernel
theorem d98_92 : decode (xbc 98) 92 = .ok (.ireturn, 1) := by decide +kernel
theorem d98_93 : decode (xbc 98) 93 = .ok (.aload_n 2, 1) := by decide +kernel
theorem d98_94 : decode (xbc 98) 94 = .ok (.iconst 1, 1) := by decide +kernel
theorem d98_95 : decode (xbc 98) 95 = .ok (.invokevirtual 118, 3) := by decide +kernel
theorem d98_98 : decode (xbc 98) 98 = .ok (.ireturn, 1) := by decide +kernel
theorem d98_99 : decode (xbc 98) 99 = .ok (.aload_n 3, 1) := by decide +kernel
theorem d98_100 : decode (xbc 98) 100 = .ok (.getfield 128, 3) := by decide +kernel
theorem d98_103 : decode (xbc 98) 103 = .ok (.ireturn, 1) := by decide +kernel
theorem d98_104 : decode (xbc 98) 104 = .ok (.aload_n 3, 1) := by decide +kernel
theorem d98_105 : decode (xbc 98) 105 = .ok (.getfield 134, 3) := by decide +kernel
theorem d98_108 : decode (xbc 98) 108 = .ok (.ireturn, 1) := by decide +kernel
theorem d98_109 : decode (xbc 98) 109 = .ok (.aload_n 3, 1) := by decide +kernel
theorem d98_110 : decode (xbc 98) 110 = .ok (.getfield 137, 3) := by decide +kernel
theorem d98_113 : decode (xbc 98) 113 = .ok (.ireturn, 1) := by decide +kernel
theorem d98_114 : decode (xbc 98) 114 = .ok (.aload_n 3, 1) := by decide +kernel
theorem d98_115 : decode (xbc 98) 115 = .ok (.getfield 140, 3) := by decide +kernel
theorem d98_118 : decode (xbc 98) 118 = .ok (.ireturn, 1) := by decide +kernel
theorem d98_119 : decode (xbc 98) 119 = .ok (.aload_n 3, 1) := by decide +kernel
theorem d98_120 : decode (xbc 98) 120 = .ok (.getfield 143, 3) := by decide +kernel
theorem d98_123 : decode (xbc 98) 123 = .ok (.ireturn, 1) := by decide +kernel
theorem d99_0 : decode (xbc 99) 0 = .ok (.iload_n 1, 1) := by decide +kernel
theorem d99_1 : decode (xbc 99) 1 = .ok (.iload_n 2, 1) := by decide +kernel
theorem d99_2 : decode (xbc 99) 2 = .ok (.invokestatic 146, 3) := by decide +kernel
theorem d99_5 : decode (xbc 99) 5 = .ok (.ifCond .eq 15, 3) := by decide +kernel
theorem d99_8 : decode (xbc 99) 8 = .ok (.aload_n 0, 1) := by decide +kernel
theorem d99_9 : decode (xbc 99) 9 = .ok (.getfield 10, 3) := by decide +kernel
theorem d99_12 : decode (xbc 99) 12 = .ok (.iload_n 1, 1) := by decide +kernel
theorem d99_13 : decode (xbc 99) 13 = .ok (.iload_n 2, 1) := by decide +kernel
theorem d99_14 : decode (xbc 99) 14 = .ok (.invokevirtual 149, 3) := by decide +kernel
theorem d99_17 : decode (xbc 99) 17 = .ok (.goto 5, 3) := by decide +kernel
theorem d99_20 : decode (xbc 99) 20 = .ok (.bipush (-2), 2) := by decide +kernel
theorem d99_22 : decode (xbc 99) 22 = .ok (.ireturn, 1) := by decide +kernel
theorem d100_0 : decode (xbc 100) 0 = .ok (.iload_n 0, 1) := by decide +kernel
theorem d100_1 : decode (xbc 100) 1 = .ok (.ifCond .lt 25, 3) := by decide +kernel
theorem d100_4 : decode (xbc 100) 4 = .ok (.iload_n 0, 1) := by decide +kernel
theorem d100_5 : decode (xbc 100) 5 = .ok (.sipush 9999, 3) := by decide +kernel
theorem d100_8 : decode (xbc 100) 8 = .ok (.if_icmp .gt 18, 3) := by decide +kernel
theorem d100_11 : decode (xbc 100) 11 = .ok (.iload_n 1, 1) := by decide +kernel
theorem d100_12 : decode (xbc 100) 12 = .ok (.iconst 1, 1) := by decide +kernel
theorem d100_13 : decode (xbc 100) 13 = .ok (.if_icmp .lt 13, 3) := by decide +kernel
theorem d100_16 : decode (xbc 100) 16 = .ok (.iload_n 1, 1) := by decide +kernel
theorem d100_17 : decode (xbc 100) 17 = .ok (.bipush 100, 2) := by decide +kernel
theorem d100_19 : decode (xbc 100) 19 = .ok (.if_icmp .gt 7, 3) := by decide +kernel
theorem d100_22 : decode (xbc 100) 22 = .ok (.iconst 1, 1) := by decide +kernel
theorem d100_23 : decode (xbc 100) 23 = .ok (.goto 4, 3) := by decide +kernel
theorem d100_26 : decode (xbc 100) 26 = .ok (.iconst 0, 1) := by decide +kernel
theorem d100_27 : decode (xbc 100) 27 = .ok (.ireturn, 1) := by decide +kernel
theorem d101_0 : decode (xbc 101) 0 = .ok (.iload_n 1, 1) := by decide +kernel
theorem d101_1 : decode (xbc 101) 1 = .ok (.invokestatic 153, 3) := by decide +kernel
theorem d101_4 : decode (xbc 101) 4 = .ok (.ifCond .ne 7, 3) := by decide +kernel
theorem d101_7 : decode (xbc 101) 7 = .ok (.ldc2_w 156, 3) := by decide +kernel
theorem d101_10 : decode (xbc 101) 10 = .ok (.lreturn, 1) := by decide +kernel
theorem d101_11 : decode (xbc 101) 11 = .ok (.aload_n 0, 1) := by decide +kernel
theorem d101_12 : decode (xbc 101) 12 = .ok (.getfield 10, 3) := by decide +kernel
theorem d101_15 : decode (xbc 101) 15 = .ok (.invokevirtual 158, 3) := by decide +kernel
theorem d101_18 : decode (xbc 101) 18 = .ok (.astore_n 2, 1) := by decide +kernel
theorem d101_19 : decode (xbc 101) 19 = .ok (.aload_n 2, 1) := by decide +kernel
theorem d101_20 : decode (xbc 101) 20 = .ok (.iconst 1, 1) := by decide +kernel
theorem d101_21 : decode (xbc 101) 21 = .ok (.invokevirtual 162, 3) := by decide +kernel
theorem d101_24 : decode (xbc 101) 24 = .ok (.istore_n 3, 1) := by decide +kernel
theorem d101_25 : decode (xbc 101) 25 = .ok (.iload_n 3, 1) := by decide +kernel
theorem d101_26 : decode (xbc 101) 26 = .ok (.bipush (-6), 2) := by decide +kernel
theorem d101_28 : decode (xbc 101) 28 = .ok (.if_icmp .ne 9, 3) := by decide +kernel
theorem d101_31 : decode (xbc 101) 31 = .ok (.ldc2_w 168, 3) := by decide +kernel
theorem d101_34 : decode (xbc 101) 34 = .ok (.goto 17, 3) := by decide +kernel
theorem d101_37 : decode (xbc 101) 37 = .ok (.aload_n 2, 1) := by decide +kernel
theorem d101_38 : decode (xbc 101) 38 = .ok (.iload_n 3, 1) := by decide +kernel
theorem d101_39 : decode (xbc 101) 39 = .ok (.invokevirtual 170, 3) := by decide +kernel
theorem d101_42 : decode (xbc 101) 42 = .ok (.aload_n 2, 1) := by decide +kernel
theorem d101_43 : decode (xbc 101) 43 = .ok (.iload_n 3, 1) := by decide +kernel
theorem d101_44 : decode (xbc 101) 44 = .ok (.invokevirtual 173, 3) := by decide +kernel
theorem d101_47 : decode (xbc 101) 47 = .ok (.iload_n 1, 1) := by decide +kernel
theorem d101_48 : decode (xbc 101) 48 = .ok (.invokestatic 176, 3) := by decide +kernel
theorem d101_51 : decode (xbc 101) 51 = .ok (.lreturn, 1) := by decide +kernel
theorem d102_0 : decode (xbc 102) 0 = .ok (.iload_n 0, 1) := by decide +kernel
theorem d102_1 : decode (xbc 102) 1 = .ok (.ifCond .eq 8, 3) := by decide +kernel
theorem d102_4 : decode (xbc 102) 4 = .ok (.iload_n 0, 1) := by decide +kernel
theorem d102_5 : decode (xbc 102) 5 = .ok (.iconst 1, 1) := by decide +kernel
theorem d102_6 : decode (xbc 102) 6 = .ok (.if_icmp .ne 7, 3) := by decide +kernel
theorem d102_9 : decode (xbc 102) 9 = .ok (.iconst 1, 1) := by decide +kernel
theorem d102_10 : decode (xbc 102) 10 = .ok (.goto 4, 3) := by decide +kernel
theorem d102_13 : decode (xbc 102) 13 = .ok (.iconst 0, 1) := by decide +kernel
theorem d102_14 : decode (xbc 102) 14 = .ok (.ireturn, 1) := by decide +kernel
theorem d103_0 : decode (xbc 103) 0 = .ok (.iload_n 1, 1) := by decide +kernel
theorem d103_1 : decode (xbc 103) 1 = .ok (.istore_n 3, 1) := by decide +kernel
theorem d103_2 : decode (xbc 103) 2 = .ok (.iload_n 0, 1) := by decide +kernel
theorem d103_3 : decode (xbc 103) 3 = .ok (.invokestatic 249, 3) := by decide +kernel
theorem d103_6 : decode (xbc 103) 6 = .ok (.istore 4, 2) := by decide +kernel
theorem d103_8 : decode (xbc 103) 8 = .ok (.iconst 0, 1) := by decide +kernel
theorem d103_9 : decode (xbc 103) 9 = .ok (.istore 5, 2) := by decide +kernel
theorem d103_11 : decode (xbc 103) 11 = .ok (.iload 5, 2) := by decide +kernel
theorem d103_13 : decode (xbc 103) 13 = .ok (.bipush 64, 2) := by decide +kernel
theorem d103_15 : decode (xbc 103) 15 = .ok (.if_icmp .ge 27, 3) := by decide +kernel
theorem d103_18 : decode (xbc 103) 18 = .ok (.iload 4, 2) := by decide +kernel
theorem d103_20 : decode (xbc 103) 20 = .ok (.ifCond .eq 22, 3) := by decide +kernel
theorem d103_23 : decode (xbc 103) 23 = .ok (.iload_n 3, 1) := by decide +kernel
theorem d103_24 : decode (xbc 103) 24 = .ok (.iload 4, 2) := by decide +kernel
theorem d103_26 : decode (xbc 103) 26 = .ok (.irem, 1) := by decide +kernel
theorem d103_27 : decode (xbc 103) 27 = .ok (.istore 6, 2) := by decide +kernel
theorem d103_29 : decode (xbc 103) 29 = .ok (.iload 4, 2) := by decide +kernel
theorem d103_31 : decode (xbc 103) 31 = .ok (.istore_n 3, 1) := by decide +kernel
theorem d103_32 : decode (xbc 103) 32 = .ok (.iload 6, 2) := by decide +kernel
theorem d103_34 : decode (xbc 103) 34 = .ok (.istore 4, 2) := by decide +kernel
theorem d103_36 : decode (xbc 103) 36 = .ok (.iinc 5 1, 3) := by decide +kernel
theorem d103_39 : decode (xbc 103) 39 = .ok (.goto (-28), 3) := by decide +kernel
theorem d103_42 : decode (xbc 103) 42 = .ok (.iload_n 3, 1) := by decide +kernel
theorem d103_43 : decode (xbc 103) 43 = .ok (.ifCond .ne 15, 3) := by decide +kernel
theorem d103_46 : decode (xbc 103) 46 = .ok (.iload_n 2, 1) := by decide +kernel
theorem d103_47 : decode (xbc 103) 47 = .ok (.ifCond .ne 8, 3) := by decide +kernel
theorem d103_50 : decode (xbc 103) 50 = .ok (.iload_n 0, 1) := by decide +kernel
theorem d103_51 : decode (xbc 103) 51 = .ok (.i2l, 1) := by decide +kernel
theorem d103_52 : decode (xbc 103) 52 = .ok (.goto 5, 3) := by decide +kernel
theorem d103_55 : decode (xbc 103) 55 = .ok (.iload_n 1, 1) := by decide +kernel
theorem d103_56 : decode (xbc 103) 56 = .ok (.i2l, 1) := by decide +kernel
theorem d103_57 : decode (xbc 103) 57 = .ok (.lreturn, 1) := by decide +kernel
theorem d103_58 : decode (xbc 103) 58 = .ok (.iload_n 2, 1) := by decide +kernel
theorem d103_59 : decode (xbc 103) 59 = .ok (.ifCond .ne 10, 3) := by decide +kernel
theorem d103_62 : decode (xbc 103) 62 = .ok (.iload_n 0, 1) := by decide +kernel
theorem d103_63 : decode (xbc 103) 63 = .ok (.iload_n 3, 1) := by decide +kernel
theorem d103_64 : decode (xbc 103) 64 = .ok (.idiv, 1) := by decide +kernel
theorem d103_65 : decode (xbc 103) 65 = .ok (.i2l, 1) := by decide +kernel
theorem d103_66 : decode (xbc 103) 66 = .ok (.goto 7, 3) := by decide +kernel
theorem d103_69 : decode (xbc 103) 69 = .ok (.iload_n 1, 1) := by decide +kernel
theorem d103_70 : decode (xbc 103) 70 = .ok (.iload_n 3, 1) := by decide +kernel
theorem d103_71 : decode (xbc 103) 71 = .ok (.idiv, 1) := by decide +kernel
theorem d103_72 : decode (xbc 103) 72 = .ok (.i2l, 1) := by decide +kernel
theorem d103_73 : decode (xbc 103) 73 = .ok (.lreturn, 1) := by decide +kernel
theorem d104_0 : decode (xbc 104) 0 = .ok (.aload_n 0, 1) := by decide +kernel
theorem d104_1 : decode (xbc 104) 1 = .ok (.getfield 10, 3) := by decide +kernel
theorem d104_4 : decode (xbc 104) 4 = .ok (.invokevirtual 158, 3) := by decide +kernel
theorem d104_7 : decode (xbc 104) 7 = .ok (.astore_n 1, 1) := by decide +kernel
theorem d104_8 : decode (xbc 104) 8 = .ok (.aload_n 1, 1) := by decide +kernel
theorem d104_9 : decode (xbc 104) 9 = .ok (.aload_n 1, 1) := by decide +kernel
theorem d104_10 : decode (xbc 104) 10 = .ok (.iconst 1, 1) := by decide +kernel
theorem d104_11 : decode (xbc 104) 11 = .ok (.invokevirtual 162, 3) := by decide +kernel
theorem d104_14 : decode (xbc 104) 14 = .ok (.invokevirtual 180, 3) := by decide +kernel
theorem d104_17 : decode (xbc 104) 17 = .ok (.ireturn, 1) := by decide +kernel
theorem d105_0 : decode (xbc 105) 0 = .ok (.iload_n 1, 1) := by decide +kernel
theorem d105_1 : decode (xbc 105) 1 = .ok (.iload_n 2, 1) := by decide +kernel
theorem d105_2 : decode (xbc 105) 2 = .ok (.invokestatic 146, 3) := by decide +kernel
theorem d105_5 : decode (xbc 105) 5 = .ok (.ifCond .eq 16, 3) := by decide +kernel
theorem d105_8 : decode (xbc 105) 8 = .ok (.iload_n 1, 1) := by decide +kernel
theorem d105_9 : decode (xbc 105) 9 = .ok (.aload_n 0, 1) := by decide +kernel
theorem d105_10 : decode (xbc 105) 10 = .ok (.getfield 10, 3) := by decide +kernel
theorem d105_13 : decode (xbc 105) 13 = .ok (.invokevirtual 125, 3) := by decide +kernel
theorem d105_16 : decode (xbc 105) 16 = .ok (.iload_n 2, 1) := by decide +kernel
theorem d105_17 : decode (xbc 105) 17 = .ok (.imul, 1) := by decide +kernel
theorem d105_18 : decode (xbc 105) 18 = .ok (.if_icmp .ge 6, 3) := by decide +kernel
theorem d105_21 : decode (xbc 105) 21 = .ok (.bipush (-2), 2) := by decide +kernel
theorem d105_23 : decode (xbc 105) 23 = .ok (.ireturn, 1) := by decide +kernel
theorem d105_24 : decode (xbc 105) 24 = .ok (.aload_n 0, 1) := by decide +kernel
theorem d105_25 : decode (xbc 105) 25 = .ok (.getfield 10, 3) := by decide +kernel
theorem d105_28 : decode (xbc 105) 28 = .ok (.iload_n 1, 1) := by decide +kernel
theorem d105_29 : decode (xbc 105) 29 = .ok (.iload_n 2, 1) := by decide +kernel
theorem d105_30 : decode (xbc 105) 30 = .ok (.invokevirtual 183, 3) := by decide +kernel
theorem d105_33 : decode (xbc 105) 33 = .ok (.ireturn, 1) := by decide +kernel
theorem d106_0 : decode (xbc 106) 0 = .ok (.iload_n 1, 1) := by decide +kernel
theorem d106_1 : decode (xbc 106) 1 = .ok (.invokestatic 51, 3) := by decide +kernel
theorem d106_4 : decode (xbc 106) 4 = .ok (.ifCond .ne 7, 3) := by decide +kernel
theorem d106_7 : decode (xbc 106) 7 = .ok (.ldc2_w 186, 3) := by decide +kernel
theorem d106_10 : decode (xbc 106) 10 = .ok (.lreturn, 1) := by decide +kernel
theorem d106_11 : decode (xbc 106) 11 = .ok (.iload_n 2, 1) := by decide +kernel
theorem d106_12 : decode (xbc 106) 12 = .ok (.iload_n 3, 1) := by decide +kernel
theorem d106_13 : decode (xbc 106) 13 = .ok (.invokestatic 146, 3) := by decide +kernel
theorem d106_16 : decode (xbc 106) 16 = .ok (.ifCond .eq 11, 3) := by decide +kernel
theorem d106_19 : decode (xbc 106) 19 = .ok (.iload 4, 2) := by decide +kernel
theorem d106_21 : decode (xbc 106) 21 = .ok (.invokestatic 153, 3) := by decide +kernel
theorem d106_24 : decode (xbc 106) 24 = .ok (.ifCond .ne 7, 3) := by decide +kernel
theorem d106_27 : decode (xbc 106) 27 = .ok (.ldc2_w 156, 3) := by decide +kernel
theorem d106_30 : decode (xbc 106) 30 = .ok (.lreturn, 1) := by decide +kernel
theorem d106_31 : decode (xbc 106) 31 = .ok (.aload_n 0, 1) := by decide +kernel
theorem d106_32 : decode (xbc 106) 32 = .ok (.getfield 10, 3) := by decide +kernel
theorem d106_35 : decode (xbc 106) 35 = .ok (.iload_n 1, 1) := by decide +kernel
theorem d106_36 : decode (xbc 106) 36 = .ok (.iload_n 2, 1) := by decide +kernel
theorem d106_37 : decode (xbc 106) 37 = .ok (.iload_n 3, 1) := by decide +kernel
theorem d106_38 : decode (xbc 106) 38 = .ok (.invokevirtual 188, 3) := by decide +kernel
theorem d106_41 : decode (xbc 106) 41 = .ok (.iload_n 3, 1) := by decide +kernel
theorem d106_42 : decode (xbc 106) 42 = .ok (.iload 4, 2) := by decide +kernel
theorem d106_44 : decode (xbc 106) 44 = .ok (.invokestatic 176, 3) := by decide +kernel
theorem d106_47 : decode (xbc 106) 47 = .ok (.lreturn, 1) := by decide +kernel
theorem d107_0 : decode (xbc 107) 0 = .ok (.iload_n 1, 1) := by decide +kernel
theorem d107_1 : decode (xbc 107) 1 = .ok (.invokestatic 51, 3) := by decide +kernel
theorem d107_4 : decode (xbc 107) 4 = .ok (.ifCond .ne 7, 3) := by decide +kernel
theorem d107_7 : decode (xbc 107) 7 = .ok (.ldc2_w 186, 3) := by decide +kernel
theorem d107_10 : decode (xbc 107) 10 = .ok (.lreturn, 1) := by decide +kernel
theorem d107_11 : decode (xbc 107) 11 = .ok (.iload_n 2, 1) := by decide +kernel
theorem d107_12 : decode (xbc 107) 12 = .ok (.iload_n 3, 1) := by decide +kernel
theorem d107_13 : decode (xbc 107) 13 = .ok (.invokestatic 146, 3) := by decide +kernel
theorem d107_16 : decode (xbc 107) 16 = .ok (.ifCond .eq 14, 3) := by decide +kernel
theorem d107_19 : decode (xbc 107) 19 = .ok (.iload 4, 2) := by decide +kernel
theorem d107_21 : decode (xbc 107) 21 = .ok (.ifCond .lt 9, 3) := by decide +kernel
theorem d107_24 : decode (xbc 107) 24 = .ok (.iload 4, 2) := by decide +kernel
theorem d107_26 : decode (xbc 107) 26 = .ok (.iconst 2, 1) := by decide +kernel
theorem d107_27 : decode (xbc 107) 27 = .ok (.if_icmp .le 7, 3) := by decide +kernel
theorem d107_30 : decode (xbc 107) 30 = .ok (.ldc2_w 156, 3) := by decide +kernel
theorem d107_33 : decode (xbc 107) 33 = .ok (.lreturn, 1) := by decide +kernel
theorem d107_34 : decode (xbc 107) 34 = .ok (.aload_n 0, 1) := by decide +kernel
theorem d107_35 : decode (xbc 107) 35 = .ok (.getfield 10, 3) := by decide +kernel
theorem d107_38 : decode (xbc 107) 38 = .ok (.iload_n 1, 1) := by decide +kernel
theorem d107_39 : decode (xbc 107) 39 = .ok (.iload_n 2, 1) := by decide +kernel
theorem d107_40 : decode (xbc 107) 40 = .ok (.iload_n 3, 1) := by decide +kernel
theorem d107_41 : decode (xbc 107) 41 = .ok (.invokevirtual 188, 3) := by decide +kernel
theorem d107_44 : decode (xbc 107) 44 = .ok (.istore 5, 2) := by decide +kernel
theorem d107_46 : decode (xbc 107) 46 = .ok (.iload 4, 2) := by decide +kernel
theorem d107_48 : decode (xbc 107) 48 = .ok (.lookupswitch 46 #[(0, 28), (1, 37)], 28) := by decide +kernel
theorem d107_76 : decode (xbc 107) 76 = .ok (.iload 5, 2) := by decide +kernel
theorem d107_78 : decode (xbc 107) 78 = .ok (.i2l, 1) := by decide +kernel
theorem d107_79 : decode (xbc 107) 79 = .ok (.iload_n 3, 1) := by decide +kernel
theorem d107_80 : decode (xbc 107) 80 = .ok (.i2l, 1) := by decide +kernel
theorem d107_81 : decode (xbc 107) 81 = .ok (.invokestatic 192, 3) := by decide +kernel
theorem d107_84 : decode (xbc 107) 84 = .ok (.lreturn, 1) := by decide +kernel
theorem d107_85 : decode (xbc 107) 85 = .ok (.iload 5, 2) := by decide +kernel
theorem d107_87 : decode (xbc 107) 87 = .ok (.i2l, 1) := by decide +kernel
theorem d107_88 : decode (xbc 107) 88 = .ok (.iload_n 3, 1) := by decide +kernel
theorem d107_89 : decode (xbc 107) 89 = .ok (.i2l, 1) := by decide +kernel
theorem d107_90 : decode (xbc 107) 90 = .ok (.invokestatic 198, 3) := by decide +kernel
theorem d107_93 : decode (xbc 107) 93 = .ok (.lreturn, 1) := by decide +kernel
theorem d107_94 : decode (xbc 107) 94 = .ok (.iload 5, 2) := by decide +kernel
theorem d107_96 : decode (xbc 107) 96 = .ok (.i2l, 1) := by decide +kernel
theorem d107_97 : decode (xbc 107) 97 = .ok (.iload_n 3, 1) := by decide +kernel
theorem d107_98 : decode (xbc 107) 98 = .ok (.i2l, 1) := by decide +kernel
theorem d107_99 : decode (xbc 107) 99 = .ok (.invokestatic 201, 3) := by decide +kernel
theorem d107_102 : decode (xbc 107) 102 = .ok (.ldc2_w 204, 3) := by decide +kernel
theorem d107_105 : decode (xbc 107) 105 = .ok (.ldiv, 1) := by decide +kernel
theorem d107_106 : decode (xbc 107) 106 = .ok (.lreturn, 1) := by decide +kernel
theorem d108_0 : decode (xbc 108) 0 = .ok (.iload_n 1, 1) := by decide +kernel
theorem d108_1 : decode (xbc 108) 1 = .ok (.iload_n 2, 1) := by decide +kernel
theorem d108_2 : decode (xbc 108) 2 = .ok (.invokestatic 146, 3) := by decide +kernel
theorem d108_5 : decode (xbc 108) 5 = .ok (.ifCond .eq 12, 3) := by decide +kernel
theorem d108_8 : decode (xbc 108) 8 = .ok (.iload_n 3, 1) := by decide +kernel
theorem d108_9 : decode (xbc 108) 9 = .ok (.ifCond .eq 12, 3) := by decide +kernel
theorem d108_12 : decode (xbc 108) 12 = .ok (.iload_n 3, 1) := by decide +kernel
theorem d108_13 : decode (xbc 108) 13 = .ok (.iconst 1, 1) := by decide +kernel
theorem d108_14 : decode (xbc 108) 14 = .ok (.if_icmp .eq 7, 3) := by decide +kernel
theorem d108_17 : decode (xbc 108) 17 = .ok (.ldc2_w 156, 3) := by decide +kernel
theorem d108_20 : decode (xbc 108) 20 = .ok (.lreturn, 1) := by decide +kernel
theorem d108_21 : decode (xbc 108) 21 = .ok (.lconst 0, 1) := by decide +kernel
theorem d108_22 : decode (xbc 108) 22 = .ok (.lstore 4, 2) := by decide +kernel
theorem d108_24 : decode (xbc 108) 24 = .ok (.iconst 0, 1) := by decide +kernel
theorem d108_25 : decode (xbc 108) 25 = .ok (.istore 6, 2) := by decide +kernel
theorem d108_27 : decode (xbc 108) 27 = .ok (.iload 6, 2) := by decide +kernel
theorem d108_29 : decode (xbc 108) 29 = .ok (.bipush 8, 2) := by decide +kernel
theorem d108_31 : decode (xbc 108) 31 = .ok (.if_icmp .ge 54, 3) := by decide +kernel
theorem d108_34 : decode (xbc 108) 34 = .ok (.aload_n 0, 1) := by decide +kernel
theorem d108_35 : decode (xbc 108) 35 = .ok (.getfield 10, 3) := by decide +kernel
theorem d108_38 : decode (xbc 108) 38 = .ok (.iload 6, 2) := by decide +kernel
theorem d108_40 : decode (xbc 108) 40 = .ok (.invokevirtual 69, 3) := by decide +kernel
theorem d108_43 : decode (xbc 108) 43 = .ok (.iconst 1, 1) := by decide +kernel
theorem d108_44 : decode (xbc 108) 44 = .ok (.if_icmp .ne 35, 3) := by decide +kernel
theorem d108_47 : decode (xbc 108) 47 = .ok (.aload_n 0, 1) := by decide +kernel
theorem d108_48 : decode (xbc 108) 48 = .ok (.getfield 10, 3) := by decide +kernel
theorem d108_51 : decode (xbc 108) 51 = .ok (.iload 6, 2) := by decide +kernel
theorem d108_53 : decode (xbc 108) 53 = .ok (.iload_n 1, 1) := by decide +kernel
theorem d108_54 : decode (xbc 108) 54 = .ok (.iload_n 2, 1) := by decide +kernel
theorem d108_55 : decode (xbc 108) 55 = .ok (.invokevirtual 188, 3) := by decide +kernel
theorem d108_58 : decode (xbc 108) 58 = .ok (.i2l, 1) := by decide +kernel
theorem d108_59 : decode (xbc 108) 59 = .ok (.iload_n 2, 1) := by decide +kernel
theorem d108_60 : decode (xbc 108) 60 = .ok (.i2l, 1) := by decide +kernel
theorem d108_61 : decode (xbc 108) 61 = .ok (.invokestatic 201, 3) := by decide +kernel
theorem d108_64 : decode (xbc 108) 64 = .ok (.lstore 7, 2) := by decide +kernel
theorem d108_66 : decode (xbc 108) 66 = .ok (.lload 4, 2) := by decide +kernel
theorem d108_68 : decode (xbc 108) 68 = .ok (.lload 7, 2) := by decide +kernel
theorem d108_70 : decode (xbc 108) 70 = .ok (.ladd, 1) := by decide +kernel
theorem d108_71 : decode (xbc 108) 71 = .ok (.ldc2_w 204, 3) := by decide +kernel
theorem d108_74 : decode (xbc 108) 74 = .ok (.invokestatic 201, 3) := by decide +kernel
theorem d108_77 : decode (xbc 108) 77 = .ok (.lstore 4, 2) := by decide +kernel
theorem d108_79 : decode (xbc 108) 79 = .ok (.iinc 6 1, 3) := by decide +kernel
theorem d108_82 : decode (xbc 108) 82 = .ok (.goto (-55), 3) := by decide +kernel
theorem d108_85 : decode (xbc 108) 85 = .ok (.iload_n 3, 1) := by decide +kernel
theorem d108_86 : decode (xbc 108) 86 = .ok (.ifCond .ne 14, 3) := by decide +kernel
theorem d108_89 : decode (xbc 108) 89 = .ok (.lload 4, 2) := by decide +kernel
theorem d108_91 : decode (xbc 108) 91 = .ok (.ldc2_w 204, 3) := by decide +kernel
theorem d108_94 : decode (xbc 108) 94 = .ok (.invokestatic 192, 3) := by decide +kernel
theorem d108_97 : decode (xbc 108) 97 = .ok (.goto 9, 3) := by decide +kernel
theorem d108_100 : decode (xbc 108) 100 = .ok (.lload 4, 2) := by decide +kernel
theorem d108_102 : decode (xbc 108) 102 = .ok (.ldc2_w 204, 3) := by decide +kernel
theorem d108_105 : decode (xbc 108) 105 = .ok (.ldiv, 1) := by decide +kernel
theorem d108_106 : decode (xbc 108) 106 = .ok (.lreturn, 1) := by decide +kernel
theorem d109_0 : decode (xbc 109) 0 = .ok (.iload_n 1, 1) := by decide +kernel
theorem d109_1 : decode (xbc 109) 1 = .ok (.ifCond .lt 18, 3) := by decide +kernel
theorem d109_4 : decode (xbc 109) 4 = .ok (.iload_n 1, 1) := by decide +kernel
theorem d109_5 : decode (xbc 109) 5 = .ok (.bipush 9, 2) := by decide +kernel
theorem d109_7 : decode (xbc 109) 7 = .ok (.if_icmp .gt 12, 3) := by decide +kernel
theorem d109_10 : decode (xbc 109) 10 = .ok (.iload_n 2, 1) := by decide +kernel
theorem d109_11 : decode (xbc 109) 11 = .ok (.bipush 99, 2) := by decide +kernel
theorem d109_13 : decode (xbc 109) 13 = .ok (.invokestatic 55, 3) := by decide +kernel
theorem d109_16 : decode (xbc 109) 16 = .ok (.ifCond .ne 6, 3) := by decide +kernel
theorem d109_19 : decode (xbc 109) 19 = .ok (.bipush (-2), 2) := by decide +kernel
theorem d109_21 : decode (xbc 109) 21 = .ok (.ireturn, 1) := by decide +kernel
theorem d109_22 : decode (xbc 109) 22 = .ok (.aload_n 0, 1) := by decide +kernel
theorem d109_23 : decode (xbc 109) 23 = .ok (.getfield 26, 3) := by decide +kernel
theorem d109_26 : decode (xbc 109) 26 = .ok (.iload_n 1, 1) := by decide +kernel
theorem d109_27 : decode (xbc 109) 27 = .ok (.iload_n 2, 1) := by decide +kernel
theorem d109_28 : decode (xbc 109) 28 = .ok (.iload_n 3, 1) := by decide +kernel
theorem d109_29 : decode (xbc 109) 29 = .ok (.invokevirtual 206, 3) := by decide +kernel
theorem d109_32 : decode (xbc 109) 32 = .ok (.ifCond .eq 13, 3) := by decide +kernel
theorem d109_35 : decode (xbc 109) 35 = .ok (.aload_n 0, 1) := by decide +kernel
theorem d109_36 : decode (xbc 109) 36 = .ok (.getfield 26, 3) := by decide +kernel
theorem d109_39 : decode (xbc 109) 39 = .ok (.invokevirtual 209, 3) := by decide +kernel
theorem d109_42 : decode (xbc 109) 42 = .ok (.goto 5, 3) := by decide +kernel
theorem d109_45 : decode (xbc 109) 45 = .ok (.bipush (-4), 2) := by decide +kernel
theorem d109_47 : decode (xbc 109) 47 = .ok (.ireturn, 1) := by decide +kernel
theorem d110_0 : decode (xbc 110) 0 = .ok (.aload_n 0, 1) := by decide +kernel
theorem d110_1 : decode (xbc 110) 1 = .ok (.getfield 26, 3) := by decide +kernel
theorem d110_4 : decode (xbc 110) 4 = .ok (.invokevirtual 209, 3) := by decide +kernel
theorem d110_7 : decode (xbc 110) 7 = .ok (.istore_n 1, 1) := by decide +kernel
theorem d110_8 : decode (xbc 110) 8 = .ok (.aload_n 0, 1) := by decide +kernel
theorem d110_9 : decode (xbc 110) 9 = .ok (.getfield 26, 3) := by decide +kernel
theorem d110_12 : decode (xbc 110) 12 = .ok (.invokevirtual 212, 3) := by decide +kernel
theorem d110_15 : decode (xbc 110) 15 = .ok (.iload_n 1, 1) := by decide +kernel
theorem d110_16 : decode (xbc 110) 16 = .ok (.ireturn, 1) := by decide +kernel
theorem d111_0 : decode (xbc 111) 0 = .ok (.aload_n 0, 1) := by decide +kernel
theorem d111_1 : decode (xbc 111) 1 = .ok (.getfield 40, 3) := by decide +kernel
theorem d111_4 : decode (xbc 111) 4 = .ok (.aload_n 0, 1) := by decide +kernel
theorem d111_5 : decode (xbc 111) 5 = .ok (.getfield 26, 3) := by decide +kernel
theorem d111_8 : decode (xbc 111) 8 = .ok (.invokevirtual 213, 3) := by decide +kernel
theorem d111_11 : decode (xbc 111) 11 = .ok (.iload_n 1, 1) := by decide +kernel
theorem d111_12 : decode (xbc 111) 12 = .ok (.iconst (-1), 1) := by decide +kernel
theorem d111_13 : decode (xbc 111) 13 = .ok (.if_icmp .ne 13, 3) := by decide +kernel
theorem d111_16 : decode (xbc 111) 16 = .ok (.aload_n 0, 1) := by decide +kernel
theorem d111_17 : decode (xbc 111) 17 = .ok (.getfield 40, 3) := by decide +kernel
theorem d111_20 : decode (xbc 111) 20 = .ok (.invokevirtual 217, 3) := by decide +kernel
theorem d111_23 : decode (xbc 111) 23 = .ok (.goto 11, 3) := by decide +kernel
theorem d111_26 : decode (xbc 111) 26 = .ok (.aload_n 0, 1) := by decide +kernel
theorem d111_27 : decode (xbc 111) 27 = .ok (.getfield 40, 3) := by decide +kernel
theorem d111_30 : decode (xbc 111) 30 = .ok (.iload_n 1, 1) := by decide +kernel
theorem d111_31 : decode (xbc 111) 31 = .ok (.invokevirtual 218, 3) := by decide +kernel
theorem d111_34 : decode (xbc 111) 34 = .ok (.ireturn, 1) := by decide +kernel
theorem d112_0 : decode (xbc 112) 0 = .ok (.iload_n 1, 1) := by decide +kernel
theorem d112_1 : decode (xbc 112) 1 = .ok (.ifCond .eq 11, 3) := by decide +kernel
theorem d112_4 : decode (xbc 112) 4 = .ok (.iload_n 1, 1) := by decide +kernel
theorem d112_5 : decode (xbc 112) 5 = .ok (.iconst 1, 1) := by decide +kernel
theorem d112_6 : decode (xbc 112) 6 = .ok (.if_icmp .eq 6, 3) := by decide +kernel
theorem d112_9 : decode (xbc 112) 9 = .ok (.bipush (-2), 2) := by decide +kernel
theorem d112_11 : decode (xbc 112) 11 = .ok (.ireturn, 1) := by decide +kernel
theorem d112_12 : decode (xbc 112) 12 = .ok (.aload_n 0, 1) := by decide +kernel
theorem d112_13 : decode (xbc 112) 13 = .ok (.getfield 40, 3) := by decide +kernel
theorem d112_16 : decode (xbc 112) 16 = .ok (.aload_n 0, 1) := by decide +kernel
theorem d112_17 : decode (xbc 112) 17 = .ok (.getfield 26, 3) := by decide +kernel
theorem d112_20 : decode (xbc 112) 20 = .ok (.invokevirtual 213, 3) := by decide +kernel
theorem d112_23 : decode (xbc 112) 23 = .ok (.aload_n 0, 1) := by decide +kernel
theorem d112_24 : decode (xbc 112) 24 = .ok (.getfield 40, 3) := by decide +kernel
theorem d112_27 : decode (xbc 112) 27 = .ok (.invokevirtual 221, 3) := by decide +kernel
theorem d112_30 : decode (xbc 112) 30 = .ok (.iload_n 1, 1) := by decide +kernel
theorem d112_31 : decode (xbc 112) 31 = .ok (.ifCond .ne 13, 3) := by decide +kernel
theorem d112_34 : decode (xbc 112) 34 = .ok (.aload_n 0, 1) := by decide +kernel
theorem d112_35 : decode (xbc 112) 35 = .ok (.getfield 40, 3) := by decide +kernel
theorem d112_38 : decode (xbc 112) 38 = .ok (.invokevirtual 224, 3) := by decide +kernel
theorem d112_41 : decode (xbc 112) 41 = .ok (.goto 10, 3) := by decide +kernel
theorem d112_44 : decode (xbc 112) 44 = .ok (.aload_n 0, 1) := by decide +kernel
theorem d112_45 : decode (xbc 112) 45 = .ok (.getfield 40, 3) := by decide +kernel
theorem d112_48 : decode (xbc 112) 48 = .ok (.invokevirtual 227, 3) := by decide +kernel
theorem d112_51 : decode (xbc 112) 51 = .ok (.ireturn, 1) := by decide +kernel
theorem d113_0 : decode (xbc 113) 0 = .ok (.iload_n 1, 1) := by decide +kernel
theorem d113_1 : decode (xbc 113) 1 = .ok (.invokestatic 51, 3) := by decide +kernel
theorem d113_4 : decode (xbc 113) 4 = .ok (.ifCond .eq 10, 3) := by decide +kernel
theorem d113_7 : decode (xbc 113) 7 = .ok (.iload_n 2, 1) := by decide +kernel
theorem d113_8 : decode (xbc 113) 8 = .ok (.invokestatic 51, 3) := by decide +kernel
theorem d113_11 : decode (xbc 113) 11 = .ok (.ifCond .ne 7, 3) := by decide +kernel
theorem d113_14 : decode (xbc 113) 14 = .ok (.ldc2_w 186, 3) := by decide +kernel
theorem d113_17 : decode (xbc 113) 17 = .ok (.lreturn, 1) := by decide +kernel
theorem d113_18 : decode (xbc 113) 18 = .ok (.iload_n 1, 1) := by decide +kernel
theorem d113_19 : decode (xbc 113) 19 = .ok (.iload_n 2, 1) := by decide +kernel
theorem d113_20 : decode (xbc 113) 20 = .ok (.if_icmp .eq 10, 3) := by decide +kernel
theorem d113_23 : decode (xbc 113) 23 = .ok (.iload_n 3, 1) := by decide +kernel
theorem d113_24 : decode (xbc 113) 24 = .ok (.invokestatic 153, 3) := by decide +kernel
theorem d113_27 : decode (xbc 113) 27 = .ok (.ifCond .ne 7, 3) := by decide +kernel
theorem d113_30 : decode (xbc 113) 30 = .ok (.ldc2_w 156, 3) := by decide +kernel
theorem d113_33 : decode (xbc 113) 33 = .ok (.lreturn, 1) := by decide +kernel
theorem d113_34 : decode (xbc 113) 34 = .ok (.aload_n 0, 1) := by decide +kernel
theorem d113_35 : decode (xbc 113) 35 = .ok (.getfield 10, 3) := by decide +kernel
theorem d113_38 : decode (xbc 113) 38 = .ok (.iload_n 2, 1) := by decide +kernel
theorem d113_39 : decode (xbc 113) 39 = .ok (.invokevirtual 109, 3) := by decide +kernel
theorem d113_42 : decode (xbc 113) 42 = .ok (.aload_n 0, 1) := by decide +kernel
theorem d113_43 : decode (xbc 113) 43 = .ok (.getfield 10, 3) := by decide +kernel
theorem d113_46 : decode (xbc 113) 46 = .ok (.iload_n 1, 1) := by decide +kernel
theorem d113_47 : decode (xbc 113) 47 = .ok (.invokevirtual 109, 3) := by decide +kernel
theorem d113_50 : decode (xbc 113) 50 = .ok (.isub, 1) := by decide +kernel
theorem d113_51 : decode (xbc 113) 51 = .ok (.istore 4, 2) := by decide +kernel
theorem d113_53 : decode (xbc 113) 53 = .ok (.aload_n 0, 1) := by decide +kernel
theorem d113_54 : decode (xbc 113) 54 = .ok (.getfield 10, 3) := by decide +kernel
theorem d113_57 : decode (xbc 113) 57 = .ok (.iload_n 1, 1) := by decide +kernel
theorem d113_58 : decode (xbc 113) 58 = .ok (.invokevirtual 112, 3) := by decide +kernel
theorem d113_61 : decode (xbc 113) 61 = .ok (.aload_n 0, 1) := by decide +kernel
theorem d113_62 : decode (xbc 113) 62 = .ok (.getfield 10, 3) := by decide +kernel
theorem d113_65 : decode (xbc 113) 65 = .ok (.iload_n 2, 1) := by decide +kernel
theorem d113_66 : decode (xbc 113) 66 = .ok (.invokevirtual 112, 3) := by decide +kernel
theorem d113_69 : decode (xbc 113) 69 = .ok (.isub, 1) := by decide +kernel
theorem d113_70 : decode (xbc 113) 70 = .ok (.istore 5, 2) := by decide +kernel
theorem d113_72 : decode (xbc 113) 72 = .ok (.iload 5, 2) := by decide +kernel
theorem d113_74 : decode (xbc 113) 74 = .ok (.ifCond .ne 7, 3) := by decide +kernel
theorem d113_77 : decode (xbc 113) 77 = .ok (.ldc2_w 168, 3) := by decide +kernel
theorem d113_80 : decode (xbc 113) 80 = .ok (.lreturn, 1) := by decide +kernel
theorem d113_81 : decode (xbc 113) 81 = .ok (.iload 5, 2) := by decide +kernel
theorem d113_83 : decode (xbc 113) 83 = .ok (.ifCond .le 14, 3) := by decide +kernel
theorem d113_86 : decode (xbc 113) 86 = .ok (.iload 4, 2) := by decide +kernel
theorem d113_88 : decode (xbc 113) 88 = .ok (.iload 5, 2) := by decide +kernel
theorem d113_90 : decode (xbc 113) 90 = .ok (.iload_n 3, 1) := by decide +kernel
theorem d113_91 : decode (xbc 113) 91 = .ok (.invokestatic 176, 3) := by decide +kernel
theorem d113_94 : decode (xbc 113) 94 = .ok (.goto 13, 3) := by decide +kernel
theorem d113_97 : decode (xbc 113) 97 = .ok (.iload 4, 2) := by decide +kernel
theorem d113_99 : decode (xbc 113) 99 = .ok (.ineg, 1) := by decide +kernel
theorem d113_100 : decode (xbc 113) 100 = .ok (.iload 5, 2) := by decide +kernel
theorem d113_102 : decode (xbc 113) 102 = .ok (.ineg, 1) := by decide +kernel
theorem d113_103 : decode (xbc 113) 103 = .ok (.iload_n 3, 1) := by decide +kernel
theorem d113_104 : decode (xbc 113) 104 = .ok (.invokestatic 176, 3) := by decide +kernel
theorem d113_107 : decode (xbc 113) 107 = .ok (.lreturn, 1) := by decide +kernel
theorem d114_0 : decode (xbc 114) 0 = .ok (.iload_n 1, 1) := by decide +kernel
theorem d114_1 : decode (xbc 114) 1 = .ok (.ifCond .lt 30, 3) := by decide +kernel
theorem d114_4 : decode (xbc 114) 4 = .ok (.iload_n 1, 1) := by decide +kernel
theorem d114_5 : decode (xbc 114) 5 = .ok (.sipush 9999, 3) := by decide +kernel
theorem d114_8 : decode (xbc 114) 8 = .ok (.if_icmp .gt 23, 3) := by decide +kernel
theorem d114_11 : decode (xbc 114) 11 = .ok (.iload_n 2, 1) := by decide +kernel
theorem d114_12 : decode (xbc 114) 12 = .ok (.iconst 1, 1) := by decide +kernel
theorem d114_13 : decode (xbc 114) 13 = .ok (.if_icmp .lt 18, 3) := by decide +kernel
theorem d114_16 : decode (xbc 114) 16 = .ok (.iload_n 2, 1) := by decide +kernel
theorem d114_17 : decode (xbc 114) 17 = .ok (.bipush 99, 2) := by decide +kernel
theorem d114_19 : decode (xbc 114) 19 = .ok (.if_icmp .gt 12, 3) := by decide +kernel
theorem d114_22 : decode (xbc 114) 22 = .ok (.iload_n 3, 1) := by decide +kernel
theorem d114_23 : decode (xbc 114) 23 = .ok (.ifCond .lt 8, 3) := by decide +kernel
theorem d114_26 : decode (xbc 114) 26 = .ok (.iload_n 3, 1) := by decide +kernel
theorem d114_27 : decode (xbc 114) 27 = .ok (.iconst 2, 1) := by decide +kernel
theorem d114_28 : decode (xbc 114) 28 = .ok (.if_icmp .le 6, 3) := by decide +kernel
theorem d114_31 : decode (xbc 114) 31 = .ok (.bipush (-2), 2) := by decide +kernel
theorem d114_33 : decode (xbc 114) 33 = .ok (.ireturn, 1) := by decide +kernel
theorem d114_34 : decode (xbc 114) 34 = .ok (.aload_n 0, 1) := by decide +kernel
theorem d114_35 : decode (xbc 114) 35 = .ok (.getfield 33, 3) := by decide +kernel
theorem d114_38 : decode (xbc 114) 38 = .ok (.aload_n 0, 1) := by decide +kernel
theorem d114_39 : decode (xbc 114) 39 = .ok (.getfield 10, 3) := by decide +kernel
theorem d114_42 : decode (xbc 114) 42 = .ok (.iload_n 1, 1) := by decide +kernel
theorem d114_43 : decode (xbc 114) 43 = .ok (.iload_n 2, 1) := by decide +kernel
theorem d114_44 : decode (xbc 114) 44 = .ok (.invokevirtual 230, 3) := by decide +kernel
theorem d114_47 : decode (xbc 114) 47 = .ok (.aload_n 0, 1) := by decide +kernel
theorem d114_48 : decode (xbc 114) 48 = .ok (.getfield 33, 3) := by decide +kernel
theorem d114_51 : decode (xbc 114) 51 = .ok (.invokevirtual 99, 3) := by decide +kernel
theorem d114_54 : decode (xbc 114) 54 = .ok (.astore 4, 2) := by decide +kernel
theorem d114_56 : decode (xbc 114) 56 = .ok (.iload_n 3, 1) := by decide +kernel
theorem d114_57 : decode (xbc 114) 57 = .ok (.lookupswitch 43 #[(0, 27), (1, 34)], 27) := by decide +kernel
theorem d114_84 : decode (xbc 114) 84 = .ok (.aload 4, 2) := by decide +kernel
theorem d114_86 : decode (xbc 114) 86 = .ok (.iconst 1, 1) := by decide +kernel
theorem d114_87 : decode (xbc 114) 87 = .ok (.invokevirtual 118, 3) := by decide +kernel
theorem d114_90 : decode (xbc 114) 90 = .ok (.ireturn, 1) := by decide +kernel
theorem d114_91 : decode (xbc 114) 91 = .ok (.aload 4, 2) := by decide +kernel
theorem d114_93 : decode (xbc 114) 93 = .ok (.invokevirtual 121, 3) := by decide +kernel
theorem d114_96 : decode (xbc 114) 96 = .ok (.getfield 137, 3) := by decide +kernel
theorem d114_99 : decode (xbc 114) 99 = .ok (.ireturn, 1) := by decide +kernel
theorem d114_100 : decode (xbc 114) 100 = .ok (.aload 4, 2) := by decide +kernel
theorem d114_102 : decode (xbc 114) 102 = .ok (.invokevirtual 121, 3) := by decide +kernel
theorem d114_105 : decode (xbc 114) 105 = .ok (.getfield 134, 3) := by decide +kernel
theorem d114_108 : decode (xbc 114) 108 = .ok (.ireturn, 1) := by decide +kernel
theorem d115_0 : decode (xbc 115) 0 = .ok (.iload_n 1, 1) := by decide +kernel
theorem d115_1 : decode (xbc 115) 1 = .ok (.ifCond .lt 8, 3) := by decide +kernel
theorem d115_4 : decode (xbc 115) 4 = .ok (.iload_n 1, 1) := by decide +kernel
theorem d115_5 : decode (xbc 115) 5 = .ok (.iconst 2, 1) := by decide +kernel
theorem d115_6 : decode (xbc 115) 6 = .ok (.if_icmp .lt 6, 3) := by decide +kernel
theorem d115_9 : decode (xbc 115) 9 = .ok (.bipush (-2), 2) := by decide +kernel
theorem d115_11 : decode (xbc 115) 11 = .ok (.ireturn, 1) := by decide +kernel
theorem d115_12 : decode (xbc 115) 12 = .ok (.aload_n 0, 1) := by decide +kernel
theorem d115_13 : decode (xbc 115) 13 = .ok (.getfield 46, 3) := by decide +kernel
theorem d115_16 : decode (xbc 115) 16 = .ok (.iload_n 1, 1) := by decide +kernel
theorem d115_17 : decode (xbc 115) 17 = .ok (.aaload, 1) := by decide +kernel
theorem d115_18 : decode (xbc 115) 18 = .ok (.aload_n 0, 1) := by decide +kernel
theorem d115_19 : decode (xbc 115) 19 = .ok (.getfield 10, 3) := by decide +kernel
theorem d115_22 : decode (xbc 115) 22 = .ok (.aload_n 0, 1) := by decide +kernel
theorem d115_23 : decode (xbc 115) 23 = .ok (.getfield 26, 3) := by decide +kernel
theorem d115_26 : decode (xbc 115) 26 = .ok (.invokevirtual 234, 3) := by decide +kernel
theorem d115_29 : decode (xbc 115) 29 = .ok (.iconst 1, 1) := by decide +kernel
theorem d115_30 : decode (xbc 115) 30 = .ok (.ireturn, 1) := by decide +kernel
theorem d116_0 : decode (xbc 116) 0 = .ok (.iload_n 1, 1) := by decide +kernel
theorem d116_1 : decode (xbc 116) 1 = .ok (.ifCond .lt 8, 3) := by decide +kernel
theorem d116_4 : decode (xbc 116) 4 = .ok (.iload_n 1, 1) := by decide +kernel
theorem d116_5 : decode (xbc 116) 5 = .ok (.iconst 2, 1) := by decide +kernel
theorem d116_6 : decode (xbc 116) 6 = .ok (.if_icmp .lt 6, 3) := by decide +kernel
theorem d116_9 : decode (xbc 116) 9 = .ok (.bipush (-2), 2) := by decide +kernel
theorem d116_11 : decode (xbc 116) 11 = .ok (.ireturn, 1) := by decide +kernel
theorem d116_12 : decode (xbc 116) 12 = .ok (.aload_n 0, 1) := by decide +kernel
theorem d116_13 : decode (xbc 116) 13 = .ok (.getfield 46, 3) := by decide +kernel
theorem d116_16 : decode (xbc 116) 16 = .ok (.iload_n 1, 1) := by decide +kernel
theorem d116_17 : decode (xbc 116) 17 = .ok (.aaload, 1) := by decide +kernel
theorem d116_18 : decode (xbc 116) 18 = .ok (.aload_n 0, 1) := by decide +kernel
theorem d116_19 : decode (xbc 116) 19 = .ok (.getfield 10, 3) := by decide +kernel
theorem d116_22 : decode (xbc 116) 22 = .ok (.aload_n 0, 1) := by decide +kernel
theorem d116_23 : decode (xbc 116) 23 = .ok (.getfield 26, 3) := by decide +kernel
theorem d116_26 : decode (xbc 116) 26 = .ok (.invokevirtual 238, 3) := by decide +kernel
theorem d116_29 : decode (xbc 116) 29 = .ok (.ifCond .eq 7, 3) := by decide +kernel
theorem d116_32 : decode (xbc 116) 32 = .ok (.iconst 1, 1) := by decide +kernel
theorem d116_33 : decode (xbc 116) 33 = .ok (.goto 5, 3) := by decide +kernel
theorem d116_36 : decode (xbc 116) 36 = .ok (.bipush (-3), 2) := by decide +kernel
theorem d116_38 : decode (xbc 116) 38 = .ok (.ireturn, 1) := by decide +kernel
theorem d117_0 : decode (xbc 117) 0 = .ok (.iload_n 1, 1) := by decide +kernel
theorem d117_1 : decode (xbc 117) 1 = .ok (.ifCond .ge 6, 3) := by decide +kernel
theorem d117_4 : decode (xbc 117) 4 = .ok (.bipush (-2), 2) := by decide +kernel
theorem d117_6 : decode (xbc 117) 6 = .ok (.ireturn, 1) := by decide +kernel
theorem d117_7 : decode (xbc 117) 7 = .ok (.iload_n 1, 1) := by decide +kernel
theorem d117_8 : decode (xbc 117) 8 = .ok (.bipush 10, 2) := by decide +kernel
theorem d117_10 : decode (xbc 117) 10 = .ok (.if_icmp .ge 11, 3) := by decide +kernel
theorem d117_13 : decode (xbc 117) 13 = .ok (.aload_n 0, 1) := by decide +kernel
theorem d117_14 : decode (xbc 117) 14 = .ok (.iload_n 1, 1) := by decide +kernel
theorem d117_15 : decode (xbc 117) 15 = .ok (.invokevirtual 242, 3) := by decide +kernel
theorem d117_18 : decode (xbc 117) 18 = .ok (.goto 15, 3) := by decide +kernel
theorem d117_21 : decode (xbc 117) 21 = .ok (.aload_n 0, 1) := by decide +kernel
theorem d117_22 : decode (xbc 117) 22 = .ok (.iload_n 1, 1) := by decide +kernel
theorem d117_23 : decode (xbc 117) 23 = .ok (.bipush 10, 2) := by decide +kernel
theorem d117_25 : decode (xbc 117) 25 = .ok (.idiv, 1) := by decide +kernel
theorem d117_26 : decode (xbc 117) 26 = .ok (.iload_n 1, 1) := by decide +kernel
theorem d117_27 : decode (xbc 117) 27 = .ok (.bipush 10, 2) := by decide +kernel
theorem d117_29 : decode (xbc 117) 29 = .ok (.irem, 1) := by decide +kernel
theorem d117_30 : decode (xbc 117) 30 = .ok (.invokevirtual 245, 3) := by decide +kernel
theorem d117_33 : decode (xbc 117) 33 = .ok (.ireturn, 1) := by decide +kernel
theorem d118_0 : decode (xbc 118) 0 = .ok (.iload_n 1, 1) := by decide +kernel
theorem d118_1 : decode (xbc 118) 1 = .ok (.tableswitch 79 0 4 #[35, 43, 51, 60, 71], 35) := by decide +kernel
theorem d118_36 : decode (xbc 118) 36 = .ok (.aload_n 0, 1) := by decide +kernel
theorem d118_37 : decode (xbc 118) 37 = .ok (.getfield 19, 3) := by decide +kernel
theorem d118_40 : decode (xbc 118) 40 = .ok (.invokevirtual 79, 3) := by decide +kernel
theorem d118_43 : decode (xbc 118) 43 = .ok (.ireturn, 1) := by decide +kernel
theorem d118_44 : decode (xbc 118) 44 = .ok (.aload_n 0, 1) := by decide +kernel
theorem d118_45 : decode (xbc 118) 45 = .ok (.getfield 10, 3) := by decide +kernel
theorem d118_48 : decode (xbc 118) 48 = .ok (.invokevirtual 125, 3) := by decide +kernel
theorem d118_51 : decode (xbc 118) 51 = .ok (.ireturn, 1) := by decide +kernel
theorem d118_52 : decode (xbc 118) 52 = .ok (.aload_n 0, 1) := by decide +kernel
theorem d118_53 : decode (xbc 118) 53 = .ok (.getfield 10, 3) := by decide +kernel
theorem d118_56 : decode (xbc 118) 56 = .ok (.iconst 1, 1) := by decide +kernel
theorem d118_57 : decode (xbc 118) 57 = .ok (.invokevirtual 118, 3) := by decide +kernel
theorem d118_60 : decode (xbc 118) 60 = .ok (.ireturn, 1) := by decide +kernel
theorem d118_61 : decode (xbc 118) 61 = .ok (.aload_n 0, 1) := by decide +kernel
theorem d118_62 : decode (xbc 118) 62 = .ok (.getfield 10, 3) := by decide +kernel
theorem d118_65 : decode (xbc 118) 65 = .ok (.invokevirtual 158, 3) := by decide +kernel
theorem d118_68 : decode (xbc 118) 68 = .ok (.invokevirtual 248, 3) := by decide +kernel
theorem d118_71 : decode (xbc 118) 71 = .ok (.ireturn, 1) := by decide +kernel
theorem d118_72 : decode (xbc 118) 72 = .ok (.aload_n 0, 1) := by decide +kernel
theorem d118_73 : decode (xbc 118) 73 = .ok (.getfield 26, 3) := by decide +kernel
theorem d118_76 : decode (xbc 118) 76 = .ok (.invokevirtual 209, 3) := by decide +kernel
theorem d118_79 : decode (xbc 118) 79 = .ok (.ireturn, 1) := by decide +kernel
theorem d118_80 : decode (xbc 118) 80 = .ok (.bipush (-2), 2) := by decide +kernel
theorem d118_82 : decode (xbc 118) 82 = .ok (.ireturn, 1) := by decide +kernel
theorem d119_0 : decode (xbc 119) 0 = .ok (.iload_n 1, 1) := by decide +kernel
theorem d119_1 : decode (xbc 119) 1 = .ok (.iconst 5, 1) := by decide +kernel
theorem d119_2 : decode (xbc 119) 2 = .ok (.if_icmp .ne 24, 3) := by decide +kernel
theorem d119_5 : decode (xbc 119) 5 = .ok (.iload_n 2, 1) := by decide +kernel
theorem d119_6 : decode (xbc 119) 6 = .ok (.invokestatic 115, 3) := by decide +kernel
theorem d119_9 : decode (xbc 119) 9 = .ok (.ifCond .eq 14, 3) := by decide +kernel
theorem d119_12 : decode (xbc 119) 12 = .ok (.aload_n 0, 1) := by decide +kernel
theorem d119_13 : decode (xbc 119) 13 = .ok (.getfield 10, 3) := by decide +kernel
theorem d119_16 : decode (xbc 119) 16 = .ok (.iload_n 2, 1) := by decide +kernel
theorem d119_17 : decode (xbc 119) 17 = .ok (.invokevirtual 118, 3) := by decide +kernel
theorem d119_20 : decode (xbc 119) 20 = .ok (.goto 5, 3) := by decide +kernel
theorem d119_23 : decode (xbc 119) 23 = .ok (.bipush (-2), 2) := by decide +kernel
theorem d119_25 : decode (xbc 119) 25 = .ok (.ireturn, 1) := by decide +kernel
theorem d119_26 : decode (xbc 119) 26 = .ok (.iload_n 2, 1) := by decide +kernel
theorem d119_27 : decode (xbc 119) 27 = .ok (.invokestatic 51, 3) := by decide +kernel
theorem d119_30 : decode (xbc 119) 30 = .ok (.ifCond .ne 6, 3) := by decide +kernel
theorem d119_33 : decode (xbc 119) 33 = .ok (.bipush (-2), 2) := by decide +kernel
theorem d119_35 : decode (xbc 119) 35 = .ok (.ireturn, 1) := by decide +kernel
theorem d119_36 : decode (xbc 119) 36 = .ok (.iload_n 1, 1) := by decide +kernel
theorem d119_37 : decode (xbc 119) 37 = .ok (.tableswitch 67 1 4 #[31, 40, 49, 58], 31) := by decide +kernel
theorem d119_68 : decode (xbc 119) 68 = .ok (.aload_n 0, 1) := by decide +kernel
theorem d119_69 : decode (xbc 119) 69 = .ok (.getfield 10, 3) := by decide +kernel
theorem d119_72 : decode (xbc 119) 72 = .ok (.iload_n 2, 1) := by decide +kernel
theorem d119_73 : decode (xbc 119) 73 = .ok (.invokevirtual 69, 3) := by decide +kernel
theorem d119_76 : decode (xbc 119) 76 = .ok (.ireturn, 1) := by decide +kernel
theorem d119_77 : decode (xbc 119) 77 = .ok (.aload_n 0, 1) := by decide +kernel
theorem d119_78 : decode (xbc 119) 78 = .ok (.getfield 10, 3) := by decide +kernel
theorem d119_81 : decode (xbc 119) 81 = .ok (.iload_n 2, 1) := by decide +kernel
theorem d119_82 : decode (xbc 119) 82 = .ok (.invokevirtual 66, 3) := by decide +kernel
theorem d119_85 : decode (xbc 119) 85 = .ok (.ireturn, 1) := by decide +kernel
theorem d119_86 : decode (xbc 119) 86 = .ok (.aload_n 0, 1) := by decide +kernel
theorem d119_87 : decode (xbc 119) 87 = .ok (.getfield 10, 3) := by decide +kernel
theorem d119_90 : decode (xbc 119) 90 = .ok (.iload_n 2, 1) := by decide +kernel
theorem d119_91 : decode (xbc 119) 91 = .ok (.invokevirtual 59, 3) := by decide +kernel
theorem d119_94 : decode (xbc 119) 94 = .ok (.ireturn, 1) := by decide +kernel
theorem d119_95 : decode (xbc 119) 95 = .ok (.aload_n 0, 1) := by decide +kernel
theorem d119_96 : decode (xbc 119) 96 = .ok (.getfield 10, 3) := by decide +kernel
theorem d119_99 : decode (xbc 119) 99 = .ok (.iload_n 2, 1) := by decide +kernel
theorem d119_100 : decode (xbc 119) 100 = .ok (.invokevirtual 112, 3) := by decide +kernel
theorem d119_103 : decode (xbc 119) 103 = .ok (.ireturn, 1) := by decide +kernel
theorem d119_104 : decode (xbc 119) 104 = .ok (.bipush (-2), 2) := by decide +kernel
theorem d119_106 : decode (xbc 119) 106 = .ok (.ireturn, 1) := by decide +kernel
end
section
theorem d120_0 : decode (xbc 120) 0 = .ok (.aload_n 0, 1) := by decide +kernel
theorem d120_1 : decode (xbc 120) 1 = .ok (.invokespecial 1, 3) := by decide +kernel
theorem d120_4 : decode (xbc 120) 4 = .ok (.aload_n 0, 1) := by decide +kernel
theorem d120_5 : decode (xbc 120) 5 = .ok (.sipush 331, 3) := by decide +kernel
theorem d120_8 : decode (xbc 120) 8 = .ok (.newarray .int, 2) := by decide +kernel
theorem d120_10 : decode (xbc 120) 10 = .ok (.putfield 7, 3) := by decide +kernel
theorem d120_13 : decode (xbc 120) 13 = .ok (.aload_n 0, 1) := by decide +kernel
theorem d120_14 : decode (xbc 120) 14 = .ok (.sipush 331, 3) := by decide +kernel
theorem d120_17 : decode (xbc 120) 17 = .ok (.newarray .int, 2) := by decide +kernel
theorem d120_19 : decode (xbc 120) 19 = .ok (.putfield 13, 3) := by decide +kernel
theorem d120_22 : decode (xbc 120) 22 = .ok (.aload_n 0, 1) := by decide +kernel
theorem d120_23 : decode (xbc 120) 23 = .ok (.bipush 24, 2) := by decide +kernel
theorem d120_25 : decode (xbc 120) 25 = .ok (.newarray .int, 2) := by decide +kernel
theorem d120_27 : decode (xbc 120) 27 = .ok (.putfield 16, 3) := by decide +kernel
theorem d120_30 : decode (xbc 120) 30 = .ok (.aload_n 0, 1) := by decide +kernel
theorem d120_31 : decode (xbc 120) 31 = .ok (.bipush 60, 2) := by decide +kernel
theorem d120_33 : decode (xbc 120) 33 = .ok (.newarray .int, 2) := by decide +kernel
theorem d120_35 : decode (xbc 120) 35 = .ok (.putfield 19, 3) := by decide +kernel
theorem d120_38 : decode (xbc 120) 38 = .ok (.aload_n 0, 1) := by decide +kernel
theorem d120_39 : decode (xbc 120) 39 = .ok (.sipush 589, 3) := by decide +kernel
theorem d120_42 : decode (xbc 120) 42 = .ok (.newarray .int, 2) := by decide +kernel
theorem d120_44 : decode (xbc 120) 44 = .ok (.putfield 22, 3) := by decide +kernel
theorem d120_47 : decode (xbc 120) 47 = .ok (.aload_n 0, 1) := by decide +kernel
theorem d120_48 : decode (xbc 120) 48 = .ok (.sipush 720, 3) := by decide +kernel
theorem d120_51 : decode (xbc 120) 51 = .ok (.newarray .int, 2) := by decide +kernel
theorem d120_53 : decode (xbc 120) 53 = .ok (.putfield 25, 3) := by decide +kernel
theorem d120_56 : decode (xbc 120) 56 = .ok (.aload_n 0, 1) := by decide +kernel
theorem d120_57 : decode (xbc 120) 57 = .ok (.iconst 2, 1) := by decide +kernel
theorem d120_58 : decode (xbc 120) 58 = .ok (.newarray .boolean, 2) := by decide +kernel
theorem d120_60 : decode (xbc 120) 60 = .ok (.putfield 28, 3) := by decide +kernel
theorem d120_63 : decode (xbc 120) 63 = .ok (.iconst 0, 1) := by decide +kernel
theorem d120_64 : decode (xbc 120) 64 = .ok (.istore_n 1, 1) := by decide +kernel
theorem d120_65 : decode (xbc 120) 65 = .ok (.iload_n 1, 1) := by decide +kernel
theorem d120_66 : decode (xbc 120) 66 = .ok (.bipush 8, 2) := by decide +kernel
theorem d120_68 : decode (xbc 120) 68 = .ok (.if_icmp .ge 58, 3) := by decide +kernel
theorem d120_71 : decode (xbc 120) 71 = .ok (.aload_n 0, 1) := by decide +kernel
theorem d120_72 : decode (xbc 120) 72 = .ok (.getfield 13, 3) := by decide +kernel
theorem d120_75 : decode (xbc 120) 75 = .ok (.iload_n 1, 1) := by decide +kernel
theorem d120_76 : decode (xbc 120) 76 = .ok (.iconst 1, 1) := by decide +kernel
theorem d120_77 : decode (xbc 120) 77 = .ok (.iastore, 1) := by decide +kernel
theorem d120_78 : decode (xbc 120) 78 = .ok (.aload_n 0, 1) := by decide +kernel
theorem d120_79 : decode (xbc 120) 79 = .ok (.getfield 13, 3) := by decide +kernel
theorem d120_82 : decode (xbc 120) 82 = .ok (.bipush 8, 2) := by decide +kernel
theorem d120_84 : decode (xbc 120) 84 = .ok (.iload_n 1, 1) := by decide +kernel
theorem d120_85 : decode (xbc 120) 85 = .ok (.iadd, 1) := by decide +kernel
theorem d120_86 : decode (xbc 120) 86 = .ok (.iload_n 1, 1) := by decide +kernel
theorem d120_87 : decode (xbc 120) 87 = .ok (.iconst 3, 1) := by decide +kernel
theorem d120_88 : decode (xbc 120) 88 = .ok (.if_icmp .le 7, 3) := by decide +kernel
theorem d120_91 : decode (xbc 120) 91 = .ok (.iconst 1, 1) := by decide +kernel
theorem d120_92 : decode (xbc 120) 92 = .ok (.goto 4, 3) := by decide +kernel
theorem d120_95 : decode (xbc 120) 95 = .ok (.iconst 0, 1) := by decide +kernel
theorem d120_96 : decode (xbc 120) 96 = .ok (.iastore, 1) := by decide +kernel
theorem d120_97 : decode (xbc 120) 97 = .ok (.aload_n 0, 1) := by decide +kernel
theorem d120_98 : decode (xbc 120) 98 = .ok (.getfield 13, 3) := by decide +kernel
theorem d120_101 : decode (xbc 120) 101 = .ok (.bipush 16, 2) := by decide +kernel
theorem d120_103 : decode (xbc 120) 103 = .ok (.iload_n 1, 1) := by decide +kernel
theorem d120_104 : decode (xbc 120) 104 = .ok (.iadd, 1) := by decide +kernel
theorem d120_105 : decode (xbc 120) 105 = .ok (.iload_n 1, 1) := by decide +kernel
theorem d120_106 : decode (xbc 120) 106 = .ok (.iastore, 1) := by decide +kernel
theorem d120_107 : decode (xbc 120) 107 = .ok (.aload_n 0, 1) := by decide +kernel
theorem d120_108 : decode (xbc 120) 108 = .ok (.getfield 13, 3) := by decide +kernel
theorem d120_111 : decode (xbc 120) 111 = .ok (.bipush 24, 2) := by decide +kernel
theorem d120_113 : decode (xbc 120) 113 = .ok (.iload_n 1, 1) := by decide +kernel
theorem d120_114 : decode (xbc 120) 114 = .ok (.iadd, 1) := by decide +kernel
theorem d120_115 : decode (xbc 120) 115 = .ok (.bipush 10, 2) := by decide +kernel
theorem d120_117 : decode (xbc 120) 117 = .ok (.iload_n 1, 1) := by decide +kernel
theorem d120_118 : decode (xbc 120) 118 = .ok (.imul, 1) := by decide +kernel
theorem d120_119 : decode (xbc 120) 119 = .ok (.iastore, 1) := by decide +kernel
theorem d120_120 : decode (xbc 120) 120 = .ok (.iinc 1 1, 3) := by decide +kernel
theorem d120_123 : decode (xbc 120) 123 = .ok (.goto (-58), 3) := by decide +kernel
theorem d120_126 : decode (xbc 120) 126 = .ok (.aload_n 0, 1) := by decide +kernel
theorem d120_127 : decode (xbc 120) 127 = .ok (.invokevirtual 32, 3) := by decide +kernel
theorem d120_130 : decode (xbc 120) 130 = .ok (.aload_n 0, 1) := by decide +kernel
theorem d120_131 : decode (xbc 120) 131 = .ok (.invokevirtual 35, 3) := by decide +kernel
theorem d120_134 : decode (xbc 120) 134 = .ok (.return_, 1) := by decide +kernel
theorem d121_0 : decode (xbc 121) 0 = .ok (.aload_n 0, 1) := by decide +kernel
theorem d121_1 : decode (xbc 121) 1 = .ok (.getfield 13, 3) := by decide +kernel
theorem d121_4 : decode (xbc 121) 4 = .ok (.bipush 73, 2) := by decide +kernel
theorem d121_6 : decode (xbc 121) 6 = .ok (.iconst 0, 1) := by decide +kernel
theorem d121_7 : decode (xbc 121) 7 = .ok (.iastore, 1) := by decide +kernel
theorem d121_8 : decode (xbc 121) 8 = .ok (.aload_n 0, 1) := by decide +kernel
theorem d121_9 : decode (xbc 121) 9 = .ok (.getfield 13, 3) := by decide +kernel
theorem d121_12 : decode (xbc 121) 12 = .ok (.bipush 74, 2) := by decide +kernel
theorem d121_14 : decode (xbc 121) 14 = .ok (.iconst 0, 1) := by decide +kernel
theorem d121_15 : decode (xbc 121) 15 = .ok (.iastore, 1) := by decide +kernel
theorem d121_16 : decode (xbc 121) 16 = .ok (.bipush 7, 2) := by decide +kernel
theorem d121_18 : decode (xbc 121) 18 = .ok (.istore_n 1, 1) := by decide +kernel
theorem d121_19 : decode (xbc 121) 19 = .ok (.iload_n 1, 1) := by decide +kernel
theorem d121_20 : decode (xbc 121) 20 = .ok (.ifCond .le 83, 3) := by decide +kernel
theorem d121_23 : decode (xbc 121) 23 = .ok (.aload_n 0, 1) := by decide +kernel
theorem d121_24 : decode (xbc 121) 24 = .ok (.getfield 13, 3) := by decide +kernel
theorem d121_27 : decode (xbc 121) 27 = .ok (.bipush 49, 2) := by decide +kernel
theorem d121_29 : decode (xbc 121) 29 = .ok (.iload_n 1, 1) := by decide +kernel
theorem d121_30 : decode (xbc 121) 30 = .ok (.iadd, 1) := by decide +kernel
theorem d121_31 : decode (xbc 121) 31 = .ok (.aload_n 0, 1) := by decide +kernel
theorem d121_32 : decode (xbc 121) 32 = .ok (.iload_n 1, 1) := by decide +kernel
theorem d121_33 : decode (xbc 121) 33 = .ok (.iconst 0, 1) := by decide +kernel
theorem d121_34 : decode (xbc 121) 34 = .ok (.invokevirtual 66, 3) := by decide +kernel
theorem d121_37 : decode (xbc 121) 37 = .ok (.iastore, 1) := by decide +kernel
theorem d121_38 : decode (xbc 121) 38 = .ok (.aload_n 0, 1) := by decide +kernel
theorem d121_39 : decode (xbc 121) 39 = .ok (.getfield 13, 3) := by decide +kernel
theorem d121_42 : decode (xbc 121) 42 = .ok (.bipush 57, 2) := by decide +kernel
theorem d121_44 : decode (xbc 121) 44 = .ok (.iload_n 1, 1) := by decide +kernel
theorem d121_45 : decode (xbc 121) 45 = .ok (.iadd, 1) := by decide +kernel
theorem d121_46 : decode (xbc 121) 46 = .ok (.aload_n 0, 1) := by decide +kernel
theorem d121_47 : decode (xbc 121) 47 = .ok (.iload_n 1, 1) := by decide +kernel
theorem d121_48 : decode (xbc 121) 48 = .ok (.iconst 1, 1) := by decide +kernel
theorem d121_49 : decode (xbc 121) 49 = .ok (.invokevirtual 66, 3) := by decide +kernel
theorem d121_52 : decode (xbc 121) 52 = .ok (.iastore, 1) := by decide +kernel
theorem d121_53 : decode (xbc 121) 53 = .ok (.aload_n 0, 1) := by decide +kernel
theorem d121_54 : decode (xbc 121) 54 = .ok (.getfield 13, 3) := by decide +kernel
theorem d121_57 : decode (xbc 121) 57 = .ok (.bipush 41, 2) := by decide +kernel
theorem d121_59 : decode (xbc 121) 59 = .ok (.iload_n 1, 1) := by decide +kernel
theorem d121_60 : decode (xbc 121) 60 = .ok (.iadd, 1) := by decide +kernel
theorem d121_61 : decode (xbc 121) 61 = .ok (.aload_n 0, 1) := by decide +kernel
theorem d121_62 : decode (xbc 121) 62 = .ok (.aload_n 0, 1) := by decide +kernel
theorem d121_63 : decode (xbc 121) 63 = .ok (.getfield 13, 3) := by decide +kernel
theorem d121_66 : decode (xbc 121) 66 = .ok (.bipush 49, 2) := by decide +kernel
theorem d121_68 : decode (xbc 121) 68 = .ok (.iload_n 1, 1) := by decide +kernel
theorem d121_69 : decode (xbc 121) 69 = .ok (.iadd, 1) := by decide +kernel
theorem d121_70 : decode (xbc 121) 70 = .ok (.iaload, 1) := by decide +kernel
theorem d121_71 : decode (xbc 121) 71 = .ok (.aload_n 0, 1) := by decide +kernel
theorem d121_72 : decode (xbc 121) 72 = .ok (.getfield 13, 3) := by decide +kernel
theorem d121_75 : decode (xbc 121) 75 = .ok (.bipush 57, 2) := by decide +kernel
theorem d121_77 : decode (xbc 121) 77 = .ok (.iload_n 1, 1) := by decide +kernel
theorem d121_78 : decode (xbc 121) 78 = .ok (.iadd, 1) := by decide +kernel
theorem d121_79 : decode (xbc 121) 79 = .ok (.iaload, 1) := by decide +kernel
theorem d121_80 : decode (xbc 121) 80 = .ok (.aload_n 0, 1) := by decide +kernel
theorem d121_81 : decode (xbc 121) 81 = .ok (.getfield 13, 3) := by decide +kernel
theorem d121_84 : decode (xbc 121) 84 = .ok (.bipush 40, 2) := by decide +kernel
theorem d121_86 : decode (xbc 121) 86 = .ok (.iaload, 1) := by decide +kernel
theorem d121_87 : decode (xbc 121) 87 = .ok (.iconst 1, 1) := by decide +kernel
theorem d121_88 : decode (xbc 121) 88 = .ok (.invokevirtual 70, 3) := by decide +kernel
theorem d121_91 : decode (xbc 121) 91 = .ok (.iastore, 1) := by decide +kernel
theorem d121_92 : decode (xbc 121) 92 = .ok (.aload_n 0, 1) := by decide +kernel
theorem d121_93 : decode (xbc 121) 93 = .ok (.iload_n 1, 1) := by decide +kernel
theorem d121_94 : decode (xbc 121) 94 = .ok (.invokevirtual 74, 3) := by decide +kernel
theorem d121_97 : decode (xbc 121) 97 = .ok (.iinc 1 (-1), 3) := by decide +kernel
theorem d121_100 : decode (xbc 121) 100 = .ok (.goto (-81), 3) := by decide +kernel
theorem d121_103 : decode (xbc 121) 103 = .ok (.return_, 1) := by decide +kernel
theorem d122_0 : decode (xbc 122) 0 = .ok (.iload_n 1, 1) := by decide +kernel
theorem d122_1 : decode (xbc 122) 1 = .ok (.iconst 3, 1) := by decide +kernel
theorem d122_2 : decode (xbc 122) 2 = .ok (.if_icmp .le 17, 3) := by decide +kernel
theorem d122_5 : decode (xbc 122) 5 = .ok (.aload_n 0, 1) := by decide +kernel
theorem d122_6 : decode (xbc 122) 6 = .ok (.iconst 2, 1) := by decide +kernel
theorem d122_7 : decode (xbc 122) 7 = .ok (.iload_n 1, 1) := by decide +kernel
theorem d122_8 : decode (xbc 122) 8 = .ok (.iconst 4, 1) := by decide +kernel
theorem d122_9 : decode (xbc 122) 9 = .ok (.isub, 1) := by decide +kernel
theorem d122_10 : decode (xbc 122) 10 = .ok (.imul, 1) := by decide +kernel
theorem d122_11 : decode (xbc 122) 11 = .ok (.iload_n 2, 1) := by decide +kernel
theorem d122_12 : decode (xbc 122) 12 = .ok (.iadd, 1) := by decide +kernel
theorem d122_13 : decode (xbc 122) 13 = .ok (.invokevirtual 62, 3) := by decide +kernel
theorem d122_16 : decode (xbc 122) 16 = .ok (.goto 16, 3) := by decide +kernel
theorem d122_19 : decode (xbc 122) 19 = .ok (.aload_n 0, 1) := by decide +kernel
theorem d122_20 : decode (xbc 122) 20 = .ok (.getfield 13, 3) := by decide +kernel
theorem d122_23 : decode (xbc 122) 23 = .ok (.bipush 41, 2) := by decide +kernel
theorem d122_25 : decode (xbc 122) 25 = .ok (.iconst 2, 1) := by decide +kernel
theorem d122_26 : decode (xbc 122) 26 = .ok (.iload_n 1, 1) := by decide +kernel
theorem d122_27 : decode (xbc 122) 27 = .ok (.imul, 1) := by decide +kernel
theorem d122_28 : decode (xbc 122) 28 = .ok (.iadd, 1) := by decide +kernel
theorem d122_29 : decode (xbc 122) 29 = .ok (.iload_n 2, 1) := by decide +kernel
theorem d122_30 : decode (xbc 122) 30 = .ok (.iadd, 1) := by decide +kernel
theorem d122_31 : decode (xbc 122) 31 = .ok (.iaload, 1) := by decide +kernel
theorem d122_32 : decode (xbc 122) 32 = .ok (.ireturn, 1) := by decide +kernel
theorem d123_0 : decode (xbc 123) 0 = .ok (.iconst 0, 1) := by decide +kernel
theorem d123_1 : decode (xbc 123) 1 = .ok (.istore_n 2, 1) := by decide +kernel
theorem d123_2 : decode (xbc 123) 2 = .ok (.iload_n 2, 1) := by decide +kernel
theorem d123_3 : decode (xbc 123) 3 = .ok (.bipush 8, 2) := by decide +kernel
theorem d123_5 : decode (xbc 123) 5 = .ok (.if_icmp .ge 34, 3) := by decide +kernel
theorem d123_8 : decode (xbc 123) 8 = .ok (.aload_n 0, 1) := by decide +kernel
theorem d123_9 : decode (xbc 123) 9 = .ok (.getfield 13, 3) := by decide +kernel
theorem d123_12 : decode (xbc 123) 12 = .ok (.bipush 16, 2) := by decide +kernel
theorem d123_14 : decode (xbc 123) 14 = .ok (.iload_n 2, 1) := by decide +kernel
theorem d123_15 : decode (xbc 123) 15 = .ok (.iadd, 1) := by decide +kernel
theorem d123_16 : decode (xbc 123) 16 = .ok (.iaload, 1) := by decide +kernel
theorem d123_17 : decode (xbc 123) 17 = .ok (.iload_n 1, 1) := by decide +kernel
theorem d123_18 : decode (xbc 123) 18 = .ok (.if_icmp .ne 15, 3) := by decide +kernel
theorem d123_21 : decode (xbc 123) 21 = .ok (.aload_n 0, 1) := by decide +kernel
theorem d123_22 : decode (xbc 123) 22 = .ok (.getfield 13, 3) := by decide +kernel
theorem d123_25 : decode (xbc 123) 25 = .ok (.iload_n 2, 1) := by decide +kernel
theorem d123_26 : decode (xbc 123) 26 = .ok (.iaload, 1) := by decide +kernel
theorem d123_27 : decode (xbc 123) 27 = .ok (.iconst 1, 1) := by decide +kernel
theorem d123_28 : decode (xbc 123) 28 = .ok (.if_icmp .ne 5, 3) := by decide +kernel
theorem d123_31 : decode (xbc 123) 31 = .ok (.iload_n 2, 1) := by decide +kernel
theorem d123_32 : decode (xbc 123) 32 = .ok (.ireturn, 1) := by decide +kernel
theorem d123_33 : decode (xbc 123) 33 = .ok (.iinc 2 1, 3) := by decide +kernel
theorem d123_36 : decode (xbc 123) 36 = .ok (.goto (-34), 3) := by decide +kernel
theorem d123_39 : decode (xbc 123) 39 = .ok (.bipush (-6), 2) := by decide +kernel
theorem d123_41 : decode (xbc 123) 41 = .ok (.ireturn, 1) := by decide +kernel
theorem d124_0 : decode (xbc 124) 0 = .ok (.iload_n 1, 1) := by decide +kernel
theorem d124_1 : decode (xbc 124) 1 = .ok (.ifCond .lt 7, 3) := by decide +kernel
theorem d124_4 : decode (xbc 124) 4 = .ok (.iload_n 2, 1) := by decide +kernel
theorem d124_5 : decode (xbc 124) 5 = .ok (.ifCond .ge 13, 3) := by decide +kernel
theorem d124_8 : decode (xbc 124) 8 = .ok (.iload_n 1, 1) := by decide +kernel
theorem d124_9 : decode (xbc 124) 9 = .ok (.ifCond .ge 7, 3) := by decide +kernel
theorem d124_12 : decode (xbc 124) 12 = .ok (.iload_n 2, 1) := by decide +kernel
theorem d124_13 : decode (xbc 124) 13 = .ok (.goto 4, 3) := by decide +kernel
theorem d124_16 : decode (xbc 124) 16 = .ok (.iload_n 1, 1) := by decide +kernel
theorem d124_17 : decode (xbc 124) 17 = .ok (.ireturn, 1) := by decide +kernel
theorem d124_18 : decode (xbc 124) 18 = .ok (.aload_n 0, 1) := by decide +kernel
theorem d124_19 : decode (xbc 124) 19 = .ok (.iload_n 1, 1) := by decide +kernel
theorem d124_20 : decode (xbc 124) 20 = .ok (.iload_n 2, 1) := by decide +kernel
theorem d124_21 : decode (xbc 124) 21 = .ok (.iload_n 3, 1) := by decide +kernel
theorem d124_22 : decode (xbc 124) 22 = .ok (.iload 4, 2) := by decide +kernel
theorem d124_24 : decode (xbc 124) 24 = .ok (.invokevirtual 58, 3) := by decide +kernel
theorem d124_27 : decode (xbc 124) 27 = .ok (.ifCond .eq 7, 3) := by decide +kernel
theorem d124_30 : decode (xbc 124) 30 = .ok (.iload_n 1, 1) := by decide +kernel
theorem d124_31 : decode (xbc 124) 31 = .ok (.goto 4, 3) := by decide +kernel
theorem d124_34 : decode (xbc 124) 34 = .ok (.iload_n 2, 1) := by decide +kernel
theorem d124_35 : decode (xbc 124) 35 = .ok (.ireturn, 1) := by decide +kernel
theorem d125_0 : decode (xbc 125) 0 = .ok (.aload_n 0, 1) := by decide +kernel
theorem d125_1 : decode (xbc 125) 1 = .ok (.getfield 13, 3) := by decide +kernel
theorem d125_4 : decode (xbc 125) 4 = .ok (.bipush 24, 2) := by decide +kernel
theorem d125_6 : decode (xbc 125) 6 = .ok (.iload_n 1, 1) := by decide +kernel
theorem d125_7 : decode (xbc 125) 7 = .ok (.iadd, 1) := by decide +kernel
theorem d125_8 : decode (xbc 125) 8 = .ok (.iaload, 1) := by decide +kernel
theorem d125_9 : decode (xbc 125) 9 = .ok (.iload 4, 2) := by decide +kernel
theorem d125_11 : decode (xbc 125) 11 = .ok (.imul, 1) := by decide +kernel
theorem d125_12 : decode (xbc 125) 12 = .ok (.aload_n 0, 1) := by decide +kernel
theorem d125_13 : decode (xbc 125) 13 = .ok (.getfield 13, 3) := by decide +kernel
theorem d125_16 : decode (xbc 125) 16 = .ok (.bipush 32, 2) := by decide +kernel
theorem d125_18 : decode (xbc 125) 18 = .ok (.iload_n 1, 1) := by decide +kernel
theorem d125_19 : decode (xbc 125) 19 = .ok (.iadd, 1) := by decide +kernel
theorem d125_20 : decode (xbc 125) 20 = .ok (.iaload, 1) := by decide +kernel
theorem d125_21 : decode (xbc 125) 21 = .ok (.iload_n 3, 1) := by decide +kernel
theorem d125_22 : decode (xbc 125) 22 = .ok (.imul, 1) := by decide +kernel
theorem d125_23 : decode (xbc 125) 23 = .ok (.iadd, 1) := by decide +kernel
theorem d125_24 : decode (xbc 125) 24 = .ok (.aload_n 0, 1) := by decide +kernel
theorem d125_25 : decode (xbc 125) 25 = .ok (.getfield 13, 3) := by decide +kernel
theorem d125_28 : decode (xbc 125) 28 = .ok (.bipush 24, 2) := by decide +kernel
theorem d125_30 : decode (xbc 125) 30 = .ok (.iload_n 2, 1) := by decide +kernel
theorem d125_31 : decode (xbc 125) 31 = .ok (.iadd, 1) := by decide +kernel
theorem d125_32 : decode (xbc 125) 32 = .ok (.iaload, 1) := by decide +kernel
theorem d125_33 : decode (xbc 125) 33 = .ok (.iload 4, 2) := by decide +kernel
theorem d125_35 : decode (xbc 125) 35 = .ok (.imul, 1) := by decide +kernel
theorem d125_36 : decode (xbc 125) 36 = .ok (.isub, 1) := by decide +kernel
theorem d125_37 : decode (xbc 125) 37 = .ok (.aload_n 0, 1) := by decide +kernel
theorem d125_38 : decode (xbc 125) 38 = .ok (.getfield 13, 3) := by decide +kernel
theorem d125_41 : decode (xbc 125) 41 = .ok (.bipush 32, 2) := by decide +kernel
theorem d125_43 : decode (xbc 125) 43 = .ok (.iload_n 2, 1) := by decide +kernel
theorem d125_44 : decode (xbc 125) 44 = .ok (.iadd, 1) := by decide +kernel
theorem d125_45 : decode (xbc 125) 45 = .ok (.iaload, 1) := by decide +kernel
theorem d125_46 : decode (xbc 125) 46 = .ok (.iload_n 3, 1) := by decide +kernel
theorem d125_47 : decode (xbc 125) 47 = .ok (.imul, 1) := by decide +kernel
theorem d125_48 : decode (xbc 125) 48 = .ok (.isub, 1) := by decide +kernel
theorem d125_49 : decode (xbc 125) 49 = .ok (.istore 5, 2) := by decide +kernel
theorem d125_51 : decode (xbc 125) 51 = .ok (.iload 5, 2) := by decide +kernel
theorem d125_53 : decode (xbc 125) 53 = .ok (.ifCond .eq 14, 3) := by decide +kernel
theorem d125_56 : decode (xbc 125) 56 = .ok (.iload 5, 2) := by decide +kernel
theorem d125_58 : decode (xbc 125) 58 = .ok (.ifCond .le 7, 3) := by decide +kernel
theorem d125_61 : decode (xbc 125) 61 = .ok (.iconst 1, 1) := by decide +kernel
theorem d125_62 : decode (xbc 125) 62 = .ok (.goto 4, 3) := by decide +kernel
theorem d125_65 : decode (xbc 125) 65 = .ok (.iconst 0, 1) := by decide +kernel
theorem d125_66 : decode (xbc 125) 66 = .ok (.ireturn, 1) := by decide +kernel
theorem d125_67 : decode (xbc 125) 67 = .ok (.aload_n 0, 1) := by decide +kernel
theorem d125_68 : decode (xbc 125) 68 = .ok (.getfield 13, 3) := by decide +kernel
theorem d125_71 : decode (xbc 125) 71 = .ok (.bipush 32, 2) := by decide +kernel
theorem d125_73 : decode (xbc 125) 73 = .ok (.iload_n 1, 1) := by decide +kernel
theorem d125_74 : decode (xbc 125) 74 = .ok (.iadd, 1) := by decide +kernel
theorem d125_75 : decode (xbc 125) 75 = .ok (.iaload, 1) := by decide +kernel
theorem d125_76 : decode (xbc 125) 76 = .ok (.aload_n 0, 1) := by decide +kernel
theorem d125_77 : decode (xbc 125) 77 = .ok (.getfield 13, 3) := by decide +kernel
theorem d125_80 : decode (xbc 125) 80 = .ok (.bipush 32, 2) := by decide +kernel
theorem d125_82 : decode (xbc 125) 82 = .ok (.iload_n 2, 1) := by decide +kernel
theorem d125_83 : decode (xbc 125) 83 = .ok (.iadd, 1) := by decide +kernel
theorem d125_84 : decode (xbc 125) 84 = .ok (.iaload, 1) := by decide +kernel
theorem d125_85 : decode (xbc 125) 85 = .ok (.if_icmp .eq 32, 3) := by decide +kernel
theorem d125_88 : decode (xbc 125) 88 = .ok (.aload_n 0, 1) := by decide +kernel
theorem d125_89 : decode (xbc 125) 89 = .ok (.getfield 13, 3) := by decide +kernel
theorem d125_92 : decode (xbc 125) 92 = .ok (.bipush 32, 2) := by decide +kernel
theorem d125_94 : decode (xbc 125) 94 = .ok (.iload_n 1, 1) := by decide +kernel
theorem d125_95 : decode (xbc 125) 95 = .ok (.iadd, 1) := by decide +kernel
theorem d125_96 : decode (xbc 125) 96 = .ok (.iaload, 1) := by decide +kernel
theorem d125_97 : decode (xbc 125) 97 = .ok (.aload_n 0, 1) := by decide +kernel
theorem d125_98 : decode (xbc 125) 98 = .ok (.getfield 13, 3) := by decide +kernel
theorem d125_101 : decode (xbc 125) 101 = .ok (.bipush 32, 2) := by decide +kernel
theorem d125_103 : decode (xbc 125) 103 = .ok (.iload_n 2, 1) := by decide +kernel
theorem d125_104 : decode (xbc 125) 104 = .ok (.iadd, 1) := by decide +kernel
theorem d125_105 : decode (xbc 125) 105 = .ok (.iaload, 1) := by decide +kernel
theorem d125_106 : decode (xbc 125) 106 = .ok (.if_icmp .le 7, 3) := by decide +kernel
theorem d125_109 : decode (xbc 125) 109 = .ok (.iconst 1, 1) := by decide +kernel
theorem d125_110 : decode (xbc 125) 110 = .ok (.goto 17, 3) := by decide +kernel
theorem d125_113 : decode (xbc 125) 113 = .ok (.iconst 0, 1) := by decide +kernel
theorem d125_114 : decode (xbc 125) 114 = .ok (.goto 13, 3) := by decide +kernel
theorem d125_117 : decode (xbc 125) 117 = .ok (.iload_n 1, 1) := by decide +kernel
theorem d125_118 : decode (xbc 125) 118 = .ok (.iload_n 2, 1) := by decide +kernel
theorem d125_119 : decode (xbc 125) 119 = .ok (.if_icmp .ge 7, 3) := by decide +kernel
theorem d125_122 : decode (xbc 125) 122 = .ok (.iconst 1, 1) := by decide +kernel
theorem d125_123 : decode (xbc 125) 123 = .ok (.goto 4, 3) := by decide +kernel
theorem d125_126 : decode (xbc 125) 126 = .ok (.iconst 0, 1) := by decide +kernel
theorem d125_127 : decode (xbc 125) 127 = .ok (.ireturn, 1) := by decide +kernel
theorem d126_0 : decode (xbc 126) 0 = .ok (.aload_n 0, 1) := by decide +kernel
theorem d126_1 : decode (xbc 126) 1 = .ok (.getfield 13, 3) := by decide +kernel
theorem d126_4 : decode (xbc 126) 4 = .ok (.bipush 49, 2) := by decide +kernel
theorem d126_6 : decode (xbc 126) 6 = .ok (.iload_n 1, 1) := by decide +kernel
theorem d126_7 : decode (xbc 126) 7 = .ok (.iadd, 1) := by decide +kernel
theorem d126_8 : decode (xbc 126) 8 = .ok (.iaload, 1) := by decide +kernel
theorem d126_9 : decode (xbc 126) 9 = .ok (.istore_n 2, 1) := by decide +kernel
theorem d126_10 : decode (xbc 126) 10 = .ok (.aload_n 0, 1) := by decide +kernel
theorem d126_11 : decode (xbc 126) 11 = .ok (.getfield 13, 3) := by decide +kernel
theorem d126_14 : decode (xbc 126) 14 = .ok (.bipush 57, 2) := by decide +kernel
theorem d126_16 : decode (xbc 126) 16 = .ok (.iload_n 1, 1) := by decide +kernel
theorem d126_17 : decode (xbc 126) 17 = .ok (.iadd, 1) := by decide +kernel
theorem d126_18 : decode (xbc 126) 18 = .ok (.iaload, 1) := by decide +kernel
theorem d126_19 : decode (xbc 126) 19 = .ok (.istore_n 3, 1) := by decide +kernel
theorem d126_20 : decode (xbc 126) 20 = .ok (.aload_n 0, 1) := by decide +kernel
theorem d126_21 : decode (xbc 126) 21 = .ok (.getfield 13, 3) := by decide +kernel
theorem d126_24 : decode (xbc 126) 24 = .ok (.bipush 65, 2) := by decide +kernel
theorem d126_26 : decode (xbc 126) 26 = .ok (.iload_n 1, 1) := by decide +kernel
theorem d126_27 : decode (xbc 126) 27 = .ok (.iadd, 1) := by decide +kernel
theorem d126_28 : decode (xbc 126) 28 = .ok (.iconst 0, 1) := by decide +kernel
theorem d126_29 : decode (xbc 126) 29 = .ok (.iastore, 1) := by decide +kernel
theorem d126_30 : decode (xbc 126) 30 = .ok (.iload_n 2, 1) := by decide +kernel
theorem d126_31 : decode (xbc 126) 31 = .ok (.ifCond .lt 7, 3) := by decide +kernel
theorem d126_34 : decode (xbc 126) 34 = .ok (.iload_n 3, 1) := by decide +kernel
theorem d126_35 : decode (xbc 126) 35 = .ok (.ifCond .ge 4, 3) := by decide +kernel
theorem d126_38 : decode (xbc 126) 38 = .ok (.return_, 1) := by decide +kernel
theorem d126_39 : decode (xbc 126) 39 = .ok (.aload_n 0, 1) := by decide +kernel
theorem d126_40 : decode (xbc 126) 40 = .ok (.getfield 13, 3) := by decide +kernel
theorem d126_43 : decode (xbc 126) 43 = .ok (.bipush 41, 2) := by decide +kernel
theorem d126_45 : decode (xbc 126) 45 = .ok (.iload_n 1, 1) := by decide +kernel
theorem d126_46 : decode (xbc 126) 46 = .ok (.iadd, 1) := by decide +kernel
theorem d126_47 : decode (xbc 126) 47 = .ok (.iaload, 1) := by decide +kernel
theorem d126_48 : decode (xbc 126) 48 = .ok (.istore 4, 2) := by decide +kernel
theorem d126_50 : decode (xbc 126) 50 = .ok (.iload 4, 2) := by decide +kernel
theorem d126_52 : decode (xbc 126) 52 = .ok (.iload_n 2, 1) := by decide +kernel
theorem d126_53 : decode (xbc 126) 53 = .ok (.if_icmp .ne 7, 3) := by decide +kernel
theorem d126_56 : decode (xbc 126) 56 = .ok (.iload_n 3, 1) := by decide +kernel
theorem d126_57 : decode (xbc 126) 57 = .ok (.goto 4, 3) := by decide +kernel
theorem d126_60 : decode (xbc 126) 60 = .ok (.iload_n 2, 1) := by decide +kernel
theorem d126_61 : decode (xbc 126) 61 = .ok (.istore 5, 2) := by decide +kernel
theorem d126_63 : decode (xbc 126) 63 = .ok (.aload_n 0, 1) := by decide +kernel
theorem d126_64 : decode (xbc 126) 64 = .ok (.getfield 13, 3) := by decide +kernel
theorem d126_67 : decode (xbc 126) 67 = .ok (.bipush 32, 2) := by decide +kernel
theorem d126_69 : decode (xbc 126) 69 = .ok (.iload 5, 2) := by decide +kernel
theorem d126_71 : decode (xbc 126) 71 = .ok (.iadd, 1) := by decide +kernel
theorem d126_72 : decode (xbc 126) 72 = .ok (.iaload, 1) := by decide +kernel
theorem d126_73 : decode (xbc 126) 73 = .ok (.aload_n 0, 1) := by decide +kernel
theorem d126_74 : decode (xbc 126) 74 = .ok (.getfield 13, 3) := by decide +kernel
theorem d126_77 : decode (xbc 126) 77 = .ok (.bipush 32, 2) := by decide +kernel
theorem d126_79 : decode (xbc 126) 79 = .ok (.iload 4, 2) := by decide +kernel
theorem d126_81 : decode (xbc 126) 81 = .ok (.iadd, 1) := by decide +kernel
theorem d126_82 : decode (xbc 126) 82 = .ok (.iaload, 1) := by decide +kernel
theorem d126_83 : decode (xbc 126) 83 = .ok (.isub, 1) := by decide +kernel
theorem d126_84 : decode (xbc 126) 84 = .ok (.istore 6, 2) := by decide +kernel
theorem d126_86 : decode (xbc 126) 86 = .ok (.iload 6, 2) := by decide +kernel
theorem d126_88 : decode (xbc 126) 88 = .ok (.ifCond .le 124, 3) := by decide +kernel
theorem d126_91 : decode (xbc 126) 91 = .ok (.aload_n 0, 1) := by decide +kernel
theorem d126_92 : decode (xbc 126) 92 = .ok (.getfield 13, 3) := by decide +kernel
theorem d126_95 : decode (xbc 126) 95 = .ok (.bipush 73, 2) := by decide +kernel
theorem d126_97 : decode (xbc 126) 97 = .ok (.iaload, 1) := by decide +kernel
theorem d126_98 : decode (xbc 126) 98 = .ok (.istore 7, 2) := by decide +kernel
theorem d126_100 : decode (xbc 126) 100 = .ok (.aload_n 0, 1) := by decide +kernel
theorem d126_101 : decode (xbc 126) 101 = .ok (.getfield 13, 3) := by decide +kernel
theorem d126_104 : decode (xbc 126) 104 = .ok (.bipush 73, 2) := by decide +kernel
theorem d126_106 : decode (xbc 126) 106 = .ok (.dup2, 1) := by decide +kernel
theorem d126_107 : decode (xbc 126) 107 = .ok (.iaload, 1) := by decide +kernel
theorem d126_108 : decode (xbc 126) 108 = .ok (.iconst 1, 1) := by decide +kernel
theorem d126_109 : decode (xbc 126) 109 = .ok (.iadd, 1) := by decide +kernel
theorem d126_110 : decode (xbc 126) 110 = .ok (.iastore, 1) := by decide +kernel
theorem d126_111 : decode (xbc 126) 111 = .ok (.aload_n 0, 1) := by decide +kernel
theorem d126_112 : decode (xbc 126) 112 = .ok (.getfield 13, 3) := by decide +kernel
theorem d126_115 : decode (xbc 126) 115 = .ok (.bipush 74, 2) := by decide +kernel
theorem d126_117 : decode (xbc 126) 117 = .ok (.dup2, 1) := by decide +kernel
theorem d126_118 : decode (xbc 126) 118 = .ok (.iaload, 1) := by decide +kernel
theorem d126_119 : decode (xbc 126) 119 = .ok (.iconst 1, 1) := by decide +kernel
theorem d126_120 : decode (xbc 126) 120 = .ok (.iadd, 1) := by decide +kernel
theorem d126_121 : decode (xbc 126) 121 = .ok (.iastore, 1) := by decide +kernel
theorem d126_122 : decode (xbc 126) 122 = .ok (.aload_n 0, 1) := by decide +kernel
theorem d126_123 : decode (xbc 126) 123 = .ok (.getfield 13, 3) := by decide +kernel
theorem d126_126 : decode (xbc 126) 126 = .ok (.bipush 75, 2) := by decide +kernel
theorem d126_128 : decode (xbc 126) 128 = .ok (.iload 7, 2) := by decide +kernel
theorem d126_130 : decode (xbc 126) 130 = .ok (.iadd, 1) := by decide +kernel
theorem d126_131 : decode (xbc 126) 131 = .ok (.iload_n 1, 1) := by decide +kernel
theorem d126_132 : decode (xbc 126) 132 = .ok (.iastore, 1) := by decide +kernel
theorem d126_133 : decode (xbc 126) 133 = .ok (.aload_n 0, 1) := by decide +kernel
theorem d126_134 : decode (xbc 126) 134 = .ok (.getfield 13, 3) := by decide +kernel
theorem d126_137 : decode (xbc 126) 137 = .ok (.sipush 139, 3) := by decide +kernel
theorem d126_140 : decode (xbc 126) 140 = .ok (.iload 7, 2) := by decide +kernel
theorem d126_142 : decode (xbc 126) 142 = .ok (.iadd, 1) := by decide +kernel
theorem d126_143 : decode (xbc 126) 143 = .ok (.aload_n 0, 1) := by decide +kernel
theorem d126_144 : decode (xbc 126) 144 = .ok (.getfield 13, 3) := by decide +kernel
theorem d126_147 : decode (xbc 126) 147 = .ok (.bipush 24, 2) := by decide +kernel
theorem d126_149 : decode (xbc 126) 149 = .ok (.iload 4, 2) := by decide +kernel
theorem d126_151 : decode (xbc 126) 151 = .ok (.iadd, 1) := by decide +kernel
theorem d126_152 : decode (xbc 126) 152 = .ok (.iaload, 1) := by decide +kernel
theorem d126_153 : decode (xbc 126) 153 = .ok (.aload_n 0, 1) := by decide +kernel
theorem d126_154 : decode (xbc 126) 154 = .ok (.getfield 13, 3) := by decide +kernel
theorem d126_157 : decode (xbc 126) 157 = .ok (.bipush 24, 2) := by decide +kernel
theorem d126_159 : decode (xbc 126) 159 = .ok (.iload 5, 2) := by decide +kernel
theorem d126_161 : decode (xbc 126) 161 = .ok (.iadd, 1) := by decide +kernel
theorem d126_162 : decode (xbc 126) 162 = .ok (.iaload, 1) := by decide +kernel
theorem d126_163 : decode (xbc 126) 163 = .ok (.isub, 1) := by decide +kernel
theorem d126_164 : decode (xbc 126) 164 = .ok (.iastore, 1) := by decide +kernel
theorem d126_165 : decode (xbc 126) 165 = .ok (.aload_n 0, 1) := by decide +kernel
theorem d126_166 : decode (xbc 126) 166 = .ok (.getfield 13, 3) := by decide +kernel
theorem d126_169 : decode (xbc 126) 169 = .ok (.sipush 203, 3) := by decide +kernel
theorem d126_172 : decode (xbc 126) 172 = .ok (.iload 7, 2) := by decide +kernel
theorem d126_174 : decode (xbc 126) 174 = .ok (.iadd, 1) := by decide +kernel
theorem d126_175 : decode (xbc 126) 175 = .ok (.iload 6, 2) := by decide +kernel
theorem d126_177 : decode (xbc 126) 177 = .ok (.iastore, 1) := by decide +kernel
theorem d126_178 : decode (xbc 126) 178 = .ok (.aload_n 0, 1) := by decide +kernel
theorem d126_179 : decode (xbc 126) 179 = .ok (.getfield 13, 3) := by decide +kernel
theorem d126_182 : decode (xbc 126) 182 = .ok (.sipush 267, 3) := by decide +kernel
theorem d126_185 : decode (xbc 126) 185 = .ok (.iload 7, 2) := by decide +kernel
theorem d126_187 : decode (xbc 126) 187 = .ok (.iadd, 1) := by decide +kernel
theorem d126_188 : decode (xbc 126) 188 = .ok (.aload_n 0, 1) := by decide +kernel
theorem d126_189 : decode (xbc 126) 189 = .ok (.getfield 13, 3) := by decide +kernel
theorem d126_192 : decode (xbc 126) 192 = .ok (.bipush 74, 2) := by decide +kernel
theorem d126_194 : decode (xbc 126) 194 = .ok (.iaload, 1) := by decide +kernel
theorem d126_195 : decode (xbc 126) 195 = .ok (.iastore, 1) := by decide +kernel
theorem d126_196 : decode (xbc 126) 196 = .ok (.aload_n 0, 1) := by decide +kernel
theorem d126_197 : decode (xbc 126) 197 = .ok (.getfield 13, 3) := by decide +kernel
theorem d126_200 : decode (xbc 126) 200 = .ok (.bipush 65, 2) := by decide +kernel
theorem d126_202 : decode (xbc 126) 202 = .ok (.iload_n 1, 1) := by decide +kernel
theorem d126_203 : decode (xbc 126) 203 = .ok (.iadd, 1) := by decide +kernel
theorem d126_204 : decode (xbc 126) 204 = .ok (.aload_n 0, 1) := by decide +kernel
theorem d126_205 : decode (xbc 126) 205 = .ok (.getfield 13, 3) := by decide +kernel
theorem d126_208 : decode (xbc 126) 208 = .ok (.bipush 74, 2) := by decide +kernel
theorem d126_210 : decode (xbc 126) 210 = .ok (.iaload, 1) := by decide +kernel
theorem d126_211 : decode (xbc 126) 211 = .ok (.iastore, 1) := by decide +kernel
theorem d126_212 : decode (xbc 126) 212 = .ok (.return_, 1) := by decide +kernel
theorem d127_0 : decode (xbc 127) 0 = .ok (.iconst 0, 1) := by decide +kernel
theorem d127_1 : decode (xbc 127) 1 = .ok (.istore_n 1, 1) := by decide +kernel
theorem d127_2 : decode (xbc 127) 2 = .ok (.iload_n 1, 1) := by decide +kernel
theorem d127_3 : decode (xbc 127) 3 = .ok (.sipush 331, 3) := by decide +kernel
theorem d127_6 : decode (xbc 127) 6 = .ok (.if_icmp .ge 21, 3) := by decide +kernel
theorem d127_9 : decode (xbc 127) 9 = .ok (.aload_n 0, 1) := by decide +kernel
theorem d127_10 : decode (xbc 127) 10 = .ok (.getfield 7, 3) := by decide +kernel
theorem d127_13 : decode (xbc 127) 13 = .ok (.iload_n 1, 1) := by decide +kernel
theorem d127_14 : decode (xbc 127) 14 = .ok (.aload_n 0, 1) := by decide +kernel
theorem d127_15 : decode (xbc 127) 15 = .ok (.getfield 13, 3) := by decide +kernel
theorem d127_18 : decode (xbc 127) 18 = .ok (.iload_n 1, 1) := by decide +kernel
theorem d127_19 : decode (xbc 127) 19 = .ok (.iaload, 1) := by decide +kernel
theorem d127_20 : decode (xbc 127) 20 = .ok (.iastore, 1) := by decide +kernel
theorem d127_21 : decode (xbc 127) 21 = .ok (.iinc 1 1, 3) := by decide +kernel
theorem d127_24 : decode (xbc 127) 24 = .ok (.goto (-22), 3) := by decide +kernel
theorem d127_27 : decode (xbc 127) 27 = .ok (.return_, 1) := by decide +kernel
theorem d128_0 : decode (xbc 128) 0 = .ok (.iload_n 1, 1) := by decide +kernel
theorem d128_1 : decode (xbc 128) 1 = .ok (.invokestatic 78, 3) := by decide +kernel
theorem d128_4 : decode (xbc 128) 4 = .ok (.ifCond .ne 5, 3) := by decide +kernel
theorem d128_7 : decode (xbc 128) 7 = .ok (.iconst (-1), 1) := by decide +kernel
theorem d128_8 : decode (xbc 128) 8 = .ok (.ireturn, 1) := by decide +kernel
theorem d128_9 : decode (xbc 128) 9 = .ok (.iload_n 2, 1) := by decide +kernel
theorem d128_10 : decode (xbc 128) 10 = .ok (.iconst 0, 1) := by decide +kernel
theorem d128_11 : decode (xbc 128) 11 = .ok (.iconst 1, 1) := by decide +kernel
theorem d128_12 : decode (xbc 128) 12 = .ok (.invokestatic 38, 3) := by decide +kernel
theorem d128_15 : decode (xbc 128) 15 = .ok (.ifCond .eq 28, 3) := by decide +kernel
theorem d128_18 : decode (xbc 128) 18 = .ok (.iload_n 3, 1) := by decide +kernel
theorem d128_19 : decode (xbc 128) 19 = .ok (.sipush (-1000), 3) := by decide +kernel
theorem d128_22 : decode (xbc 128) 22 = .ok (.sipush 1000, 3) := by decide +kernel
theorem d128_25 : decode (xbc 128) 25 = .ok (.invokestatic 38, 3) := by decide +kernel
theorem d128_28 : decode (xbc 128) 28 = .ok (.ifCond .eq 15, 3) := by decide +kernel
theorem d128_31 : decode (xbc 128) 31 = .ok (.iload 4, 2) := by decide +kernel
theorem d128_33 : decode (xbc 128) 33 = .ok (.bipush (-50), 2) := by decide +kernel
theorem d128_35 : decode (xbc 128) 35 = .ok (.bipush 50, 2) := by decide +kernel
theorem d128_37 : decode (xbc 128) 37 = .ok (.invokestatic 38, 3) := by decide +kernel
theorem d128_40 : decode (xbc 128) 40 = .ok (.ifCond .ne 6, 3) := by decide +kernel
theorem d128_43 : decode (xbc 128) 43 = .ok (.bipush (-2), 2) := by decide +kernel
theorem d128_45 : decode (xbc 128) 45 = .ok (.ireturn, 1) := by decide +kernel
theorem d128_46 : decode (xbc 128) 46 = .ok (.aload_n 0, 1) := by decide +kernel
theorem d128_47 : decode (xbc 128) 47 = .ok (.invokevirtual 82, 3) := by decide +kernel
theorem d128_50 : decode (xbc 128) 50 = .ok (.iload_n 2, 1) := by decide +kernel
theorem d128_51 : decode (xbc 128) 51 = .ok (.iconst 1, 1) := by decide +kernel
theorem d128_52 : decode (xbc 128) 52 = .ok (.if_icmp .ne 19, 3) := by decide +kernel
theorem d128_55 : decode (xbc 128) 55 = .ok (.aload_n 0, 1) := by decide +kernel
theorem d128_56 : decode (xbc 128) 56 = .ok (.getfield 13, 3) := by decide +kernel
theorem d128_59 : decode (xbc 128) 59 = .ok (.bipush 16, 2) := by decide +kernel
theorem d128_61 : decode (xbc 128) 61 = .ok (.iload_n 1, 1) := by decide +kernel
theorem d128_62 : decode (xbc 128) 62 = .ok (.iadd, 1) := by decide +kernel
theorem d128_63 : decode (xbc 128) 63 = .ok (.iaload, 1) := by decide +kernel
theorem d128_64 : decode (xbc 128) 64 = .ok (.iconst 4, 1) := by decide +kernel
theorem d128_65 : decode (xbc 128) 65 = .ok (.if_icmp .ge 6, 3) := by decide +kernel
theorem d128_68 : decode (xbc 128) 68 = .ok (.bipush (-3), 2) := by decide +kernel
theorem d128_70 : decode (xbc 128) 70 = .ok (.ireturn, 1) := by decide +kernel
theorem d128_71 : decode (xbc 128) 71 = .ok (.bipush 10, 2) := by decide +kernel
theorem d128_73 : decode (xbc 128) 73 = .ok (.aload_n 0, 1) := by decide +kernel
theorem d128_74 : decode (xbc 128) 74 = .ok (.getfield 13, 3) := by decide +kernel
theorem d128_77 : decode (xbc 128) 77 = .ok (.bipush 8, 2) := by decide +kernel
theorem d128_79 : decode (xbc 128) 79 = .ok (.iload_n 1, 1) := by decide +kernel
theorem d128_80 : decode (xbc 128) 80 = .ok (.iadd, 1) := by decide +kernel
theorem d128_81 : decode (xbc 128) 81 = .ok (.iaload, 1) := by decide +kernel
theorem d128_82 : decode (xbc 128) 82 = .ok (.imul, 1) := by decide +kernel
theorem d128_83 : decode (xbc 128) 83 = .ok (.aload_n 0, 1) := by decide +kernel
theorem d128_84 : decode (xbc 128) 84 = .ok (.getfield 13, 3) := by decide +kernel
theorem d128_87 : decode (xbc 128) 87 = .ok (.iload_n 1, 1) := by decide +kernel
theorem d128_88 : decode (xbc 128) 88 = .ok (.iaload, 1) := by decide +kernel
theorem d128_89 : decode (xbc 128) 89 = .ok (.iadd, 1) := by decide +kernel
theorem d128_90 : decode (xbc 128) 90 = .ok (.istore 5, 2) := by decide +kernel
theorem d128_92 : decode (xbc 128) 92 = .ok (.aload_n 0, 1) := by decide +kernel
theorem d128_93 : decode (xbc 128) 93 = .ok (.getfield 13, 3) := by decide +kernel
theorem d128_96 : decode (xbc 128) 96 = .ok (.iload_n 1, 1) := by decide +kernel
theorem d128_97 : decode (xbc 128) 97 = .ok (.iconst 1, 1) := by decide +kernel
theorem d128_98 : decode (xbc 128) 98 = .ok (.iastore, 1) := by decide +kernel
theorem d128_99 : decode (xbc 128) 99 = .ok (.aload_n 0, 1) := by decide +kernel
theorem d128_100 : decode (xbc 128) 100 = .ok (.getfield 13, 3) := by decide +kernel
theorem d128_103 : decode (xbc 128) 103 = .ok (.bipush 8, 2) := by decide +kernel
theorem d128_105 : decode (xbc 128) 105 = .ok (.iload_n 1, 1) := by decide +kernel
theorem d128_106 : decode (xbc 128) 106 = .ok (.iadd, 1) := by decide +kernel
theorem d128_107 : decode (xbc 128) 107 = .ok (.iload_n 2, 1) := by decide +kernel
theorem d128_108 : decode (xbc 128) 108 = .ok (.iastore, 1) := by decide +kernel
theorem d128_109 : decode (xbc 128) 109 = .ok (.aload_n 0, 1) := by decide +kernel
theorem d128_110 : decode (xbc 128) 110 = .ok (.getfield 13, 3) := by decide +kernel
theorem d128_113 : decode (xbc 128) 113 = .ok (.bipush 24, 2) := by decide +kernel
theorem d128_115 : decode (xbc 128) 115 = .ok (.iload_n 1, 1) := by decide +kernel
theorem d128_116 : decode (xbc 128) 116 = .ok (.iadd, 1) := by decide +kernel
theorem d128_117 : decode (xbc 128) 117 = .ok (.iload_n 3, 1) := by decide +kernel
theorem d128_118 : decode (xbc 128) 118 = .ok (.iastore, 1) := by decide +kernel
theorem d128_119 : decode (xbc 128) 119 = .ok (.aload_n 0, 1) := by decide +kernel
theorem d128_120 : decode (xbc 128) 120 = .ok (.getfield 13, 3) := by decide +kernel
theorem d128_123 : decode (xbc 128) 123 = .ok (.bipush 32, 2) := by decide +kernel
theorem d128_125 : decode (xbc 128) 125 = .ok (.iload_n 1, 1) := by decide +kernel
theorem d128_126 : decode (xbc 128) 126 = .ok (.iadd, 1) := by decide +kernel
theorem d128_127 : decode (xbc 128) 127 = .ok (.iload 4, 2) := by decide +kernel
theorem d128_129 : decode (xbc 128) 129 = .ok (.iastore, 1) := by decide +kernel
theorem d128_130 : decode (xbc 128) 130 = .ok (.aload_n 0, 1) := by decide +kernel
theorem d128_131 : decode (xbc 128) 131 = .ok (.invokevirtual 32, 3) := by decide +kernel
theorem d128_134 : decode (xbc 128) 134 = .ok (.aload_n 0, 1) := by decide +kernel
theorem d128_135 : decode (xbc 128) 135 = .ok (.invokevirtual 35, 3) := by decide +kernel
theorem d128_138 : decode (xbc 128) 138 = .ok (.iload 5, 2) := by decide +kernel
theorem d128_140 : decode (xbc 128) 140 = .ok (.ireturn, 1) := by decide +kernel
theorem d129_0 : decode (xbc 129) 0 = .ok (.iload_n 0, 1) := by decide +kernel
theorem d129_1 : decode (xbc 129) 1 = .ok (.iconst 0, 1) := by decide +kernel
theorem d129_2 : decode (xbc 129) 2 = .ok (.bipush 7, 2) := by decide +kernel
theorem d129_4 : decode (xbc 129) 4 = .ok (.invokestatic 38, 3) := by decide +kernel
theorem d129_7 : decode (xbc 129) 7 = .ok (.ireturn, 1) := by decide +kernel
theorem d130_0 : decode (xbc 130) 0 = .ok (.iload_n 0, 1) := by decide +kernel
theorem d130_1 : decode (xbc 130) 1 = .ok (.iload_n 1, 1) := by decide +kernel
theorem d130_2 : decode (xbc 130) 2 = .ok (.if_icmp .lt 12, 3) := by decide +kernel
theorem d130_5 : decode (xbc 130) 5 = .ok (.iload_n 0, 1) := by decide +kernel
theorem d130_6 : decode (xbc 130) 6 = .ok (.iload_n 2, 1) := by decide +kernel
theorem d130_7 : decode (xbc 130) 7 = .ok (.if_icmp .gt 7, 3) := by decide +kernel
theorem d130_10 : decode (xbc 130) 10 = .ok (.iconst 1, 1) := by decide +kernel
theorem d130_11 : decode (xbc 130) 11 = .ok (.goto 4, 3) := by decide +kernel
theorem d130_14 : decode (xbc 130) 14 = .ok (.iconst 0, 1) := by decide +kernel
theorem d130_15 : decode (xbc 130) 15 = .ok (.ireturn, 1) := by decide +kernel
theorem d131_0 : decode (xbc 131) 0 = .ok (.iconst 0, 1) := by decide +kernel
theorem d131_1 : decode (xbc 131) 1 = .ok (.istore_n 1, 1) := by decide +kernel
theorem d131_2 : decode (xbc 131) 2 = .ok (.iload_n 1, 1) := by decide +kernel
theorem d131_3 : decode (xbc 131) 3 = .ok (.sipush 331, 3) := by decide +kernel
theorem d131_6 : decode (xbc 131) 6 = .ok (.if_icmp .ge 21, 3) := by decide +kernel
theorem d131_9 : decode (xbc 131) 9 = .ok (.aload_n 0, 1) := by decide +kernel
theorem d131_10 : decode (xbc 131) 10 = .ok (.getfield 13, 3) := by decide +kernel
theorem d131_13 : decode (xbc 131) 13 = .ok (.iload_n 1, 1) := by decide +kernel
theorem d131_14 : decode (xbc 131) 14 = .ok (.aload_n 0, 1) := by decide +kernel
theorem d131_15 : decode (xbc 131) 15 = .ok (.getfield 7, 3) := by decide +kernel
theorem d131_18 : decode (xbc 131) 18 = .ok (.iload_n 1, 1) := by decide +kernel
theorem d131_19 : decode (xbc 131) 19 = .ok (.iaload, 1) := by decide +kernel
theorem d131_20 : decode (xbc 131) 20 = .ok (.iastore, 1) := by decide +kernel
theorem d131_21 : decode (xbc 131) 21 = .ok (.iinc 1 1, 3) := by decide +kernel
theorem d131_24 : decode (xbc 131) 24 = .ok (.goto (-22), 3) := by decide +kernel
theorem d131_27 : decode (xbc 131) 27 = .ok (.aload_n 0, 1) := by decide +kernel
theorem d131_28 : decode (xbc 131) 28 = .ok (.iconst 0, 1) := by decide +kernel
theorem d131_29 : decode (xbc 131) 29 = .ok (.putfield 42, 3) := by decide +kernel
theorem d131_32 : decode (xbc 131) 32 = .ok (.aload_n 0, 1) := by decide +kernel
theorem d131_33 : decode (xbc 131) 33 = .ok (.iconst 0, 1) := by decide +kernel
theorem d131_34 : decode (xbc 131) 34 = .ok (.putfield 46, 3) := by decide +kernel
theorem d131_37 : decode (xbc 131) 37 = .ok (.aload_n 0, 1) := by decide +kernel
theorem d131_38 : decode (xbc 131) 38 = .ok (.iconst 0, 1) := by decide +kernel
theorem d131_39 : decode (xbc 131) 39 = .ok (.putfield 49, 3) := by decide +kernel
theorem d131_42 : decode (xbc 131) 42 = .ok (.aload_n 0, 1) := by decide +kernel
theorem d131_43 : decode (xbc 131) 43 = .ok (.bipush (-6), 2) := by decide +kernel
theorem d131_45 : decode (xbc 131) 45 = .ok (.putfield 52, 3) := by decide +kernel
theorem d131_48 : decode (xbc 131) 48 = .ok (.aload_n 0, 1) := by decide +kernel
theorem d131_49 : decode (xbc 131) 49 = .ok (.bipush (-6), 2) := by decide +kernel
theorem d131_51 : decode (xbc 131) 51 = .ok (.putfield 55, 3) := by decide +kernel
theorem d131_54 : decode (xbc 131) 54 = .ok (.return_, 1) := by decide +kernel
theorem d132_0 : decode (xbc 132) 0 = .ok (.iload_n 1, 1) := by decide +kernel
theorem d132_1 : decode (xbc 132) 1 = .ok (.bipush 33, 2) := by decide +kernel
theorem d132_3 : decode (xbc 132) 3 = .ok (.bipush 126, 2) := by decide +kernel
theorem d132_5 : decode (xbc 132) 5 = .ok (.invokestatic 38, 3) := by decide +kernel
theorem d132_8 : decode (xbc 132) 8 = .ok (.ifCond .ne 6, 3) := by decide +kernel
theorem d132_11 : decode (xbc 132) 11 = .ok (.bipush (-2), 2) := by decide +kernel
theorem d132_13 : decode (xbc 132) 13 = .ok (.ireturn, 1) := by decide +kernel
theorem d132_14 : decode (xbc 132) 14 = .ok (.aload_n 0, 1) := by decide +kernel
theorem d132_15 : decode (xbc 132) 15 = .ok (.getfield 85, 3) := by decide +kernel
theorem d132_18 : decode (xbc 132) 18 = .ok (.bipush 60, 2) := by decide +kernel
theorem d132_20 : decode (xbc 132) 20 = .ok (.if_icmp .ne 6, 3) := by decide +kernel
theorem d132_23 : decode (xbc 132) 23 = .ok (.bipush (-4), 2) := by decide +kernel
theorem d132_25 : decode (xbc 132) 25 = .ok (.ireturn, 1) := by decide +kernel
theorem d132_26 : decode (xbc 132) 26 = .ok (.aload_n 0, 1) := by decide +kernel
theorem d132_27 : decode (xbc 132) 27 = .ok (.getfield 19, 3) := by decide +kernel
theorem d132_30 : decode (xbc 132) 30 = .ok (.aload_n 0, 1) := by decide +kernel
theorem d132_31 : decode (xbc 132) 31 = .ok (.getfield 85, 3) := by decide +kernel
theorem d132_34 : decode (xbc 132) 34 = .ok (.iload_n 1, 1) := by decide +kernel
theorem d132_35 : decode (xbc 132) 35 = .ok (.iastore, 1) := by decide +kernel
theorem d132_36 : decode (xbc 132) 36 = .ok (.aload_n 0, 1) := by decide +kernel
theorem d132_37 : decode (xbc 132) 37 = .ok (.dup, 1) := by decide +kernel
theorem d132_38 : decode (xbc 132) 38 = .ok (.getfield 85, 3) := by decide +kernel
theorem d132_41 : decode (xbc 132) 41 = .ok (.iconst 1, 1) := by decide +kernel
theorem d132_42 : decode (xbc 132) 42 = .ok (.iadd, 1) := by decide +kernel
theorem d132_43 : decode (xbc 132) 43 = .ok (.putfield 85, 3) := by decide +kernel
theorem d132_46 : decode (xbc 132) 46 = .ok (.aload_n 0, 1) := by decide +kernel
theorem d132_47 : decode (xbc 132) 47 = .ok (.getfield 85, 3) := by decide +kernel
theorem d132_50 : decode (xbc 132) 50 = .ok (.ireturn, 1) := by decide +kernel
theorem d133_0 : decode (xbc 133) 0 = .ok (.aload_n 0, 1) := by decide +kernel
theorem d133_1 : decode (xbc 133) 1 = .ok (.getfield 85, 3) := by decide +kernel
theorem d133_4 : decode (xbc 133) 4 = .ok (.istore_n 1, 1) := by decide +kernel
theorem d133_5 : decode (xbc 133) 5 = .ok (.aload_n 0, 1) := by decide +kernel
theorem d133_6 : decode (xbc 133) 6 = .ok (.iconst 0, 1) := by decide +kernel
theorem d133_7 : decode (xbc 133) 7 = .ok (.putfield 85, 3) := by decide +kernel
theorem d133_10 : decode (xbc 133) 10 = .ok (.iload_n 1, 1) := by decide +kernel
theorem d133_11 : decode (xbc 133) 11 = .ok (.ireturn, 1) := by decide +kernel
theorem d134_0 : decode (xbc 134) 0 = .ok (.aload_n 0, 1) := by decide +kernel
theorem d134_1 : decode (xbc 134) 1 = .ok (.invokevirtual 91, 3) := by decide +kernel
theorem d134_4 : decode (xbc 134) 4 = .ok (.ireturn, 1) := by decide +kernel
theorem d135_0 : decode (xbc 135) 0 = .ok (.iconst 0, 1) := by decide +kernel
theorem d135_1 : decode (xbc 135) 1 = .ok (.istore_n 1, 1) := by decide +kernel
theorem d135_2 : decode (xbc 135) 2 = .ok (.iconst 0, 1) := by decide +kernel
theorem d135_3 : decode (xbc 135) 3 = .ok (.istore_n 2, 1) := by decide +kernel
theorem d135_4 : decode (xbc 135) 4 = .ok (.iload_n 2, 1) := by decide +kernel
theorem d135_5 : decode (xbc 135) 5 = .ok (.aload_n 0, 1) := by decide +kernel
theorem d135_6 : decode (xbc 135) 6 = .ok (.getfield 85, 3) := by decide +kernel
theorem d135_9 : decode (xbc 135) 9 = .ok (.if_icmp .ge 26, 3) := by decide +kernel
theorem d135_12 : decode (xbc 135) 12 = .ok (.iload_n 1, 1) := by decide +kernel
theorem d135_13 : decode (xbc 135) 13 = .ok (.aload_n 0, 1) := by decide +kernel
theorem d135_14 : decode (xbc 135) 14 = .ok (.getfield 19, 3) := by decide +kernel
theorem d135_17 : decode (xbc 135) 17 = .ok (.iload_n 2, 1) := by decide +kernel
theorem d135_18 : decode (xbc 135) 18 = .ok (.iaload, 1) := by decide +kernel
theorem d135_19 : decode (xbc 135) 19 = .ok (.invokestatic 88, 3) := by decide +kernel
theorem d135_22 : decode (xbc 135) 22 = .ok (.istore_n 1, 1) := by decide +kernel
theorem d135_23 : decode (xbc 135) 23 = .ok (.iload_n 1, 1) := by decide +kernel
theorem d135_24 : decode (xbc 135) 24 = .ok (.ifCond .ge 5, 3) := by decide +kernel
theorem d135_27 : decode (xbc 135) 27 = .ok (.iload_n 2, 1) := by decide +kernel
theorem d135_28 : decode (xbc 135) 28 = .ok (.ireturn, 1) := by decide +kernel
theorem d135_29 : decode (xbc 135) 29 = .ok (.iinc 2 1, 3) := by decide +kernel
theorem d135_32 : decode (xbc 135) 32 = .ok (.goto (-28), 3) := by decide +kernel
theorem d135_35 : decode (xbc 135) 35 = .ok (.iload_n 1, 1) := by decide +kernel
theorem d135_36 : decode (xbc 135) 36 = .ok (.ifCond .ne 8, 3) := by decide +kernel
theorem d135_39 : decode (xbc 135) 39 = .ok (.bipush (-6), 2) := by decide +kernel
theorem d135_41 : decode (xbc 135) 41 = .ok (.goto 7, 3) := by decide +kernel
theorem d135_44 : decode (xbc 135) 44 = .ok (.aload_n 0, 1) := by decide +kernel
theorem d135_45 : decode (xbc 135) 45 = .ok (.getfield 85, 3) := by decide +kernel
theorem d135_48 : decode (xbc 135) 48 = .ok (.ireturn, 1) := by decide +kernel
theorem d136_0 : decode (xbc 136) 0 = .ok (.iload_n 1, 1) := by decide +kernel
theorem d136_1 : decode (xbc 136) 1 = .ok (.bipush 97, 2) := by decide +kernel
theorem d136_3 : decode (xbc 136) 3 = .ok (.bipush 104, 2) := by decide +kernel
theorem d136_5 : decode (xbc 136) 5 = .ok (.invokestatic 38, 3) := by decide +kernel
theorem d136_8 : decode (xbc 136) 8 = .ok (.istore_n 2, 1) := by decide +kernel
theorem d136_9 : decode (xbc 136) 9 = .ok (.iload_n 0, 1) := by decide +kernel
theorem d136_10 : decode (xbc 136) 10 = .ok (.lookupswitch 88 #[(0, 26), (1, 47)], 26) := by decide +kernel
theorem d136_36 : decode (xbc 136) 36 = .ok (.iload_n 2, 1) := by decide +kernel
theorem d136_37 : decode (xbc 136) 37 = .ok (.ifCond .eq 7, 3) := by decide +kernel
theorem d136_40 : decode (xbc 136) 40 = .ok (.iconst 1, 1) := by decide +kernel
theorem d136_41 : decode (xbc 136) 41 = .ok (.goto 15, 3) := by decide +kernel
theorem d136_44 : decode (xbc 136) 44 = .ok (.iload_n 1, 1) := by decide +kernel
theorem d136_45 : decode (xbc 136) 45 = .ok (.bipush 46, 2) := by decide +kernel
theorem d136_47 : decode (xbc 136) 47 = .ok (.if_icmp .ne 7, 3) := by decide +kernel
theorem d136_50 : decode (xbc 136) 50 = .ok (.iconst 0, 1) := by decide +kernel
theorem d136_51 : decode (xbc 136) 51 = .ok (.goto 5, 3) := by decide +kernel
theorem d136_54 : decode (xbc 136) 54 = .ok (.bipush (-6), 2) := by decide +kernel
theorem d136_56 : decode (xbc 136) 56 = .ok (.ireturn, 1) := by decide +kernel
theorem d136_57 : decode (xbc 136) 57 = .ok (.iload_n 1, 1) := by decide +kernel
theorem d136_58 : decode (xbc 136) 58 = .ok (.bipush 43, 2) := by decide +kernel
theorem d136_60 : decode (xbc 136) 60 = .ok (.if_icmp .eq 21, 3) := by decide +kernel
theorem d136_63 : decode (xbc 136) 63 = .ok (.iload_n 1, 1) := by decide +kernel
theorem d136_64 : decode (xbc 136) 64 = .ok (.bipush 45, 2) := by decide +kernel
theorem d136_66 : decode (xbc 136) 66 = .ok (.if_icmp .eq 15, 3) := by decide +kernel
theorem d136_69 : decode (xbc 136) 69 = .ok (.iload_n 1, 1) := by decide +kernel
theorem d136_70 : decode (xbc 136) 70 = .ok (.bipush 33, 2) := by decide +kernel
theorem d136_72 : decode (xbc 136) 72 = .ok (.if_icmp .eq 9, 3) := by decide +kernel
theorem d136_75 : decode (xbc 136) 75 = .ok (.iload_n 1, 1) := by decide +kernel
theorem d136_76 : decode (xbc 136) 76 = .ok (.bipush 35, 2) := by decide +kernel
theorem d136_78 : decode (xbc 136) 78 = .ok (.if_icmp .ne 7, 3) := by decide +kernel
theorem d136_81 : decode (xbc 136) 81 = .ok (.iconst 0, 1) := by decide +kernel
theorem d136_82 : decode (xbc 136) 82 = .ok (.goto 15, 3) := by decide +kernel
theorem d136_85 : decode (xbc 136) 85 = .ok (.iload_n 1, 1) := by decide +kernel
theorem d136_86 : decode (xbc 136) 86 = .ok (.bipush 37, 2) := by decide +kernel
theorem d136_88 : decode (xbc 136) 88 = .ok (.if_icmp .ne 7, 3) := by decide +kernel
theorem d136_91 : decode (xbc 136) 91 = .ok (.iconst 2, 1) := by decide +kernel
theorem d136_92 : decode (xbc 136) 92 = .ok (.goto 5, 3) := by decide +kernel
theorem d136_95 : decode (xbc 136) 95 = .ok (.bipush (-6), 2) := by decide +kernel
theorem d136_97 : decode (xbc 136) 97 = .ok (.ireturn, 1) := by decide +kernel
theorem d136_98 : decode (xbc 136) 98 = .ok (.iload_n 2, 1) := by decide +kernel
theorem d136_99 : decode (xbc 136) 99 = .ok (.ifCond .eq 7, 3) := by decide +kernel
theorem d136_102 : decode (xbc 136) 102 = .ok (.iconst 0, 1) := by decide +kernel
theorem d136_103 : decode (xbc 136) 103 = .ok (.goto 5, 3) := by decide +kernel
theorem d136_106 : decode (xbc 136) 106 = .ok (.bipush (-6), 2) := by decide +kernel
theorem d136_108 : decode (xbc 136) 108 = .ok (.ireturn, 1) := by decide +kernel
theorem d137_0 : decode (xbc 137) 0 = .ok (.iload_n 1, 1) := by decide +kernel
theorem d137_1 : decode (xbc 137) 1 = .ok (.iconst 0, 1) := by decide +kernel
theorem d137_2 : decode (xbc 137) 2 = .ok (.iconst 1, 1) := by decide +kernel
theorem d137_3 : decode (xbc 137) 3 = .ok (.invokestatic 38, 3) := by decide +kernel
theorem d137_6 : decode (xbc 137) 6 = .ok (.ifCond .ne 6, 3) := by decide +kernel
theorem d137_9 : decode (xbc 137) 9 = .ok (.bipush (-2), 2) := by decide +kernel
theorem d137_11 : decode (xbc 137) 11 = .ok (.ireturn, 1) := by decide +kernel
theorem d137_12 : decode (xbc 137) 12 = .ok (.aload_n 0, 1) := by decide +kernel
theorem d137_13 : decode (xbc 137) 13 = .ok (.invokevirtual 91, 3) := by decide +kernel
theorem d137_16 : decode (xbc 137) 16 = .ok (.ifCond .lt 6, 3) := by decide +kernel
theorem d137_19 : decode (xbc 137) 19 = .ok (.bipush (-5), 2) := by decide +kernel
theorem d137_21 : decode (xbc 137) 21 = .ok (.ireturn, 1) := by decide +kernel
theorem d137_22 : decode (xbc 137) 22 = .ok (.aload_n 0, 1) := by decide +kernel
theorem d137_23 : decode (xbc 137) 23 = .ok (.invokevirtual 124, 3) := by decide +kernel
theorem d137_26 : decode (xbc 137) 26 = .ok (.istore_n 2, 1) := by decide +kernel
theorem d137_27 : decode (xbc 137) 27 = .ok (.iload_n 2, 1) := by decide +kernel
theorem d137_28 : decode (xbc 137) 28 = .ok (.ifCond .lt 7, 3) := by decide +kernel
theorem d137_31 : decode (xbc 137) 31 = .ok (.iload_n 1, 1) := by decide +kernel
theorem d137_32 : decode (xbc 137) 32 = .ok (.ifCond .ne 7, 3) := by decide +kernel
theorem d137_35 : decode (xbc 137) 35 = .ok (.iload_n 2, 1) := by decide +kernel
theorem d137_36 : decode (xbc 137) 36 = .ok (.goto 7, 3) := by decide +kernel
theorem d137_39 : decode (xbc 137) 39 = .ok (.aload_n 0, 1) := by decide +kernel
theorem d137_40 : decode (xbc 137) 40 = .ok (.getfield 121, 3) := by decide +kernel
theorem d137_43 : decode (xbc 137) 43 = .ok (.ireturn, 1) := by decide +kernel
theorem d138_0 : decode (xbc 138) 0 = .ok (.aload_n 0, 1) := by decide +kernel
theorem d138_1 : decode (xbc 138) 1 = .ok (.invokevirtual 82, 3) := by decide +kernel
theorem d138_4 : decode (xbc 138) 4 = .ok (.aload_n 0, 1) := by decide +kernel
theorem d138_5 : decode (xbc 138) 5 = .ok (.iconst 0, 1) := by decide +kernel
theorem d138_6 : decode (xbc 138) 6 = .ok (.putfield 102, 3) := by decide +kernel
theorem d138_9 : decode (xbc 138) 9 = .ok (.iconst 0, 1) := by decide +kernel
theorem d138_10 : decode (xbc 138) 10 = .ok (.istore_n 1, 1) := by decide +kernel
theorem d138_11 : decode (xbc 138) 11 = .ok (.iload_n 1, 1) := by decide +kernel
theorem d138_12 : decode (xbc 138) 12 = .ok (.aload_n 0, 1) := by decide +kernel
theorem d138_13 : decode (xbc 138) 13 = .ok (.getfield 85, 3) := by decide +kernel
theorem d138_16 : decode (xbc 138) 16 = .ok (.if_icmp .ge 73, 3) := by decide +kernel
theorem d138_19 : decode (xbc 138) 19 = .ok (.aload_n 0, 1) := by decide +kernel
theorem d138_20 : decode (xbc 138) 20 = .ok (.aload_n 0, 1) := by decide +kernel
theorem d138_21 : decode (xbc 138) 21 = .ok (.iload_n 1, 1) := by decide +kernel
theorem d138_22 : decode (xbc 138) 22 = .ok (.invokevirtual 118, 3) := by decide +kernel
theorem d138_25 : decode (xbc 138) 25 = .ok (.putfield 121, 3) := by decide +kernel
theorem d138_28 : decode (xbc 138) 28 = .ok (.iload_n 1, 1) := by decide +kernel
theorem d138_29 : decode (xbc 138) 29 = .ok (.aload_n 0, 1) := by decide +kernel
theorem d138_30 : decode (xbc 138) 30 = .ok (.getfield 19, 3) := by decide +kernel
theorem d138_33 : decode (xbc 138) 33 = .ok (.iload_n 1, 1) := by decide +kernel
theorem d138_34 : decode (xbc 138) 34 = .ok (.iaload, 1) := by decide +kernel
theorem d138_35 : decode (xbc 138) 35 = .ok (.bipush 46, 2) := by decide +kernel
theorem d138_37 : decode (xbc 138) 37 = .ok (.if_icmp .ne 7, 3) := by decide +kernel
theorem d138_40 : decode (xbc 138) 40 = .ok (.iconst 1, 1) := by decide +kernel
theorem d138_41 : decode (xbc 138) 41 = .ok (.goto 21, 3) := by decide +kernel
theorem d138_44 : decode (xbc 138) 44 = .ok (.aload_n 0, 1) := by decide +kernel
theorem d138_45 : decode (xbc 138) 45 = .ok (.getfield 19, 3) := by decide +kernel
theorem d138_48 : decode (xbc 138) 48 = .ok (.iload_n 1, 1) := by decide +kernel
theorem d138_49 : decode (xbc 138) 49 = .ok (.iconst 1, 1) := by decide +kernel
theorem d138_50 : decode (xbc 138) 50 = .ok (.iadd, 1) := by decide +kernel
theorem d138_51 : decode (xbc 138) 51 = .ok (.iaload, 1) := by decide +kernel
theorem d138_52 : decode (xbc 138) 52 = .ok (.bipush 37, 2) := by decide +kernel
theorem d138_54 : decode (xbc 138) 54 = .ok (.if_icmp .ne 7, 3) := by decide +kernel
theorem d138_57 : decode (xbc 138) 57 = .ok (.iconst 3, 1) := by decide +kernel
theorem d138_58 : decode (xbc 138) 58 = .ok (.goto 4, 3) := by decide +kernel
theorem d138_61 : decode (xbc 138) 61 = .ok (.iconst 2, 1) := by decide +kernel
theorem d138_62 : decode (xbc 138) 62 = .ok (.iadd, 1) := by decide +kernel
theorem d138_63 : decode (xbc 138) 63 = .ok (.istore_n 1, 1) := by decide +kernel
theorem d138_64 : decode (xbc 138) 64 = .ok (.aload_n 0, 1) := by decide +kernel
theorem d138_65 : decode (xbc 138) 65 = .ok (.getfield 121, 3) := by decide +kernel
theorem d138_68 : decode (xbc 138) 68 = .ok (.ifCond .le 8, 3) := by decide +kernel
theorem d138_71 : decode (xbc 138) 71 = .ok (.aload_n 0, 1) := by decide +kernel
theorem d138_72 : decode (xbc 138) 72 = .ok (.getfield 102, 3) := by decide +kernel
theorem d138_75 : decode (xbc 138) 75 = .ok (.ireturn, 1) := by decide +kernel
theorem d138_76 : decode (xbc 138) 76 = .ok (.aload_n 0, 1) := by decide +kernel
theorem d138_77 : decode (xbc 138) 77 = .ok (.dup, 1) := by decide +kernel
theorem d138_78 : decode (xbc 138) 78 = .ok (.getfield 102, 3) := by decide +kernel
theorem d138_81 : decode (xbc 138) 81 = .ok (.iconst 1, 1) := by decide +kernel
theorem d138_82 : decode (xbc 138) 82 = .ok (.iadd, 1) := by decide +kernel
theorem d138_83 : decode (xbc 138) 83 = .ok (.putfield 102, 3) := by decide +kernel
theorem d138_86 : decode (xbc 138) 86 = .ok (.goto (-75), 3) := by decide +kernel
theorem d138_89 : decode (xbc 138) 89 = .ok (.bipush (-6), 2) := by decide +kernel
theorem d138_91 : decode (xbc 138) 91 = .ok (.ireturn, 1) := by decide +kernel
theorem d139_0 : decode (xbc 139) 0 = .ok (.aload_n 0, 1) := by decide +kernel
theorem d139_1 : decode (xbc 139) 1 = .ok (.getfield 19, 3) := by decide +kernel
theorem d139_4 : decode (xbc 139) 4 = .ok (.iload_n 1, 1) := by decide +kernel
theorem d139_5 : decode (xbc 139) 5 = .ok (.iaload, 1) := by decide +kernel
theorem d139_6 : decode (xbc 139) 6 = .ok (.bipush 46, 2) := by decide +kernel
theorem d139_8 : decode (xbc 139) 8 = .ok (.if_icmp .ne 12, 3) := by decide +kernel
theorem d139_11 : decode (xbc 139) 11 = .ok (.aload_n 0, 1) := by decide +kernel
theorem d139_12 : decode (xbc 139) 12 = .ok (.aload_n 0, 1) := by decide +kernel
theorem d139_13 : decode (xbc 139) 13 = .ok (.getfield 102, 3) := by decide +kernel
theorem d139_16 : decode (xbc 139) 16 = .ok (.invokevirtual 105, 3) := by decide +kernel
theorem d139_19 : decode (xbc 139) 19 = .ok (.ireturn, 1) := by decide +kernel
theorem d139_20 : decode (xbc 139) 20 = .ok (.aload_n 0, 1) := by decide +kernel
theorem d139_21 : decode (xbc 139) 21 = .ok (.getfield 19, 3) := by decide +kernel
theorem d139_24 : decode (xbc 139) 24 = .ok (.iload_n 1, 1) := by decide +kernel
theorem d139_25 : decode (xbc 139) 25 = .ok (.iaload, 1) := by decide +kernel
theorem d139_26 : decode (xbc 139) 26 = .ok (.bipush 97, 2) := by decide +kernel
theorem d139_28 : decode (xbc 139) 28 = .ok (.isub, 1) := by decide +kernel
theorem d139_29 : decode (xbc 139) 29 = .ok (.istore_n 2, 1) := by decide +kernel
theorem d139_30 : decode (xbc 139) 30 = .ok (.aload_n 0, 1) := by decide +kernel
theorem d139_31 : decode (xbc 139) 31 = .ok (.getfield 19, 3) := by decide +kernel
theorem d139_34 : decode (xbc 139) 34 = .ok (.iload_n 1, 1) := by decide +kernel
theorem d139_35 : decode (xbc 139) 35 = .ok (.iconst 1, 1) := by decide +kernel
theorem d139_36 : decode (xbc 139) 36 = .ok (.iadd, 1) := by decide +kernel
theorem d139_37 : decode (xbc 139) 37 = .ok (.iaload, 1) := by decide +kernel
theorem d139_38 : decode (xbc 139) 38 = .ok (.lookupswitch 70 #[(33, 56), (35, 63), (43, 42), (45, 49)], 42) := by decide +kernel
theorem d139_80 : decode (xbc 139) 80 = .ok (.aload_n 0, 1) := by decide +kernel
theorem d139_81 : decode (xbc 139) 81 = .ok (.iload_n 2, 1) := by decide +kernel
theorem d139_82 : decode (xbc 139) 82 = .ok (.iconst 1, 1) := by decide +kernel
theorem d139_83 : decode (xbc 139) 83 = .ok (.invokevirtual 108, 3) := by decide +kernel
theorem d139_86 : decode (xbc 139) 86 = .ok (.ireturn, 1) := by decide +kernel
theorem d139_87 : decode (xbc 139) 87 = .ok (.aload_n 0, 1) := by decide +kernel
theorem d139_88 : decode (xbc 139) 88 = .ok (.iload_n 2, 1) := by decide +kernel
theorem d139_89 : decode (xbc 139) 89 = .ok (.iconst (-1), 1) := by decide +kernel
theorem d139_90 : decode (xbc 139) 90 = .ok (.invokevirtual 108, 3) := by decide +kernel
theorem d139_93 : decode (xbc 139) 93 = .ok (.ireturn, 1) := by decide +kernel
theorem d139_94 : decode (xbc 139) 94 = .ok (.aload_n 0, 1) := by decide +kernel
theorem d139_95 : decode (xbc 139) 95 = .ok (.iload_n 2, 1) := by decide +kernel
theorem d139_96 : decode (xbc 139) 96 = .ok (.iconst 1, 1) := by decide +kernel
theorem d139_97 : decode (xbc 139) 97 = .ok (.invokevirtual 111, 3) := by decide +kernel
theorem d139_100 : decode (xbc 139) 100 = .ok (.ireturn, 1) := by decide +kernel
theorem d139_101 : decode (xbc 139) 101 = .ok (.aload_n 0, 1) := by decide +kernel
theorem d139_102 : decode (xbc 139) 102 = .ok (.iload_n 2, 1) := by decide +kernel
theorem d139_103 : decode (xbc 139) 103 = .ok (.iconst 0, 1) := by decide +kernel
theorem d139_104 : decode (xbc 139) 104 = .ok (.invokevirtual 111, 3) := by decide +kernel
theorem d139_107 : decode (xbc 139) 107 = .ok (.ireturn, 1) := by decide +kernel
theorem d139_108 : decode (xbc 139) 108 = .ok (.aload_n 0, 1) := by decide +kernel
theorem d139_109 : decode (xbc 139) 109 = .ok (.iload_n 2, 1) := by decide +kernel
theorem d139_110 : decode (xbc 139) 110 = .ok (.aload_n 0, 1) := by decide +kernel
theorem d139_111 : decode (xbc 139) 111 = .ok (.getfield 19, 3) := by decide +kernel
theorem d139_114 : decode (xbc 139) 114 = .ok (.iload_n 1, 1) := by decide +kernel
theorem d139_115 : decode (xbc 139) 115 = .ok (.iconst 2, 1) := by decide +kernel
theorem d139_116 : decode (xbc 139) 116 = .ok (.iadd, 1) := by decide +kernel
theorem d139_117 : decode (xbc 139) 117 = .ok (.iaload, 1) := by decide +kernel
theorem d139_118 : decode (xbc 139) 118 = .ok (.bipush 97, 2) := by decide +kernel
theorem d139_120 : decode (xbc 139) 120 = .ok (.isub, 1) := by decide +kernel
theorem d139_121 : decode (xbc 139) 121 = .ok (.invokevirtual 115, 3) := by decide +kernel
theorem d139_124 : decode (xbc 139) 124 = .ok (.ireturn, 1) := by decide +kernel
theorem d140_0 : decode (xbc 140) 0 = .ok (.aload_n 0, 1) := by decide +kernel
theorem d140_1 : decode (xbc 140) 1 = .ok (.getfield 13, 3) := by decide +kernel
theorem d140_4 : decode (xbc 140) 4 = .ok (.bipush 40, 2) := by decide +kernel
theorem d140_6 : decode (xbc 140) 6 = .ok (.iaload, 1) := by decide +kernel
theorem d140_7 : decode (xbc 140) 7 = .ok (.bipush 99, 2) := by decide +kernel
theorem d140_9 : decode (xbc 140) 9 = .ok (.if_icmp .ne 6, 3) := by decide +kernel
theorem d140_12 : decode (xbc 140) 12 = .ok (.bipush 7, 2) := by decide +kernel
theorem d140_14 : decode (xbc 140) 14 = .ok (.ireturn, 1) := by decide +kernel
theorem d140_15 : decode (xbc 140) 15 = .ok (.aload_n 0, 1) := by decide +kernel
theorem d140_16 : decode (xbc 140) 16 = .ok (.aload_n 0, 1) := by decide +kernel
theorem d140_17 : decode (xbc 140) 17 = .ok (.getfield 13, 3) := by decide +kernel
theorem d140_20 : decode (xbc 140) 20 = .ok (.bipush 40, 2) := by decide +kernel
theorem d140_22 : decode (xbc 140) 22 = .ok (.iaload, 1) := by decide +kernel
theorem d140_23 : decode (xbc 140) 23 = .ok (.iconst 1, 1) := by decide +kernel
theorem d140_24 : decode (xbc 140) 24 = .ok (.iadd, 1) := by decide +kernel
theorem d140_25 : decode (xbc 140) 25 = .ok (.invokevirtual 95, 3) := by decide +kernel
theorem d140_28 : decode (xbc 140) 28 = .ok (.istore_n 2, 1) := by decide +kernel
theorem d140_29 : decode (xbc 140) 29 = .ok (.iload_n 2, 1) := by decide +kernel
theorem d140_30 : decode (xbc 140) 30 = .ok (.ifCond .lt 26, 3) := by decide +kernel
theorem d140_33 : decode (xbc 140) 33 = .ok (.aload_n 0, 1) := by decide +kernel
theorem d140_34 : decode (xbc 140) 34 = .ok (.iload_n 2, 1) := by decide +kernel
theorem d140_35 : decode (xbc 140) 35 = .ok (.iload_n 1, 1) := by decide +kernel
theorem d140_36 : decode (xbc 140) 36 = .ok (.invokevirtual 98, 3) := by decide +kernel
theorem d140_39 : decode (xbc 140) 39 = .ok (.aload_n 0, 1) := by decide +kernel
theorem d140_40 : decode (xbc 140) 40 = .ok (.aload_n 0, 1) := by decide +kernel
theorem d140_41 : decode (xbc 140) 41 = .ok (.getfield 13, 3) := by decide +kernel
theorem d140_44 : decode (xbc 140) 44 = .ok (.bipush 40, 2) := by decide +kernel
theorem d140_46 : decode (xbc 140) 46 = .ok (.iaload, 1) := by decide +kernel
theorem d140_47 : decode (xbc 140) 47 = .ok (.iconst 1, 1) := by decide +kernel
theorem d140_48 : decode (xbc 140) 48 = .ok (.iadd, 1) := by decide +kernel
theorem d140_49 : decode (xbc 140) 49 = .ok (.invokevirtual 95, 3) := by decide +kernel
theorem d140_52 : decode (xbc 140) 52 = .ok (.istore_n 2, 1) := by decide +kernel
theorem d140_53 : decode (xbc 140) 53 = .ok (.goto (-24), 3) := by decide +kernel
theorem d140_56 : decode (xbc 140) 56 = .ok (.aload_n 0, 1) := by decide +kernel
theorem d140_57 : decode (xbc 140) 57 = .ok (.getfield 13, 3) := by decide +kernel
theorem d140_60 : decode (xbc 140) 60 = .ok (.bipush 40, 2) := by decide +kernel
theorem d140_62 : decode (xbc 140) 62 = .ok (.dup2, 1) := by decide +kernel
theorem d140_63 : decode (xbc 140) 63 = .ok (.iaload, 1) := by decide +kernel
theorem d140_64 : decode (xbc 140) 64 = .ok (.iconst 1, 1) := by decide +kernel
theorem d140_65 : decode (xbc 140) 65 = .ok (.iadd, 1) := by decide +kernel
theorem d140_66 : decode (xbc 140) 66 = .ok (.iastore, 1) := by decide +kernel
theorem d140_67 : decode (xbc 140) 67 = .ok (.iconst 0, 1) := by decide +kernel
theorem d140_68 : decode (xbc 140) 68 = .ok (.ireturn, 1) := by decide +kernel
theorem d141_0 : decode (xbc 141) 0 = .ok (.bipush (-6), 2) := by decide +kernel
theorem d141_2 : decode (xbc 141) 2 = .ok (.istore_n 2, 1) := by decide +kernel
theorem d141_3 : decode (xbc 141) 3 = .ok (.iconst 0, 1) := by decide +kernel
theorem d141_4 : decode (xbc 141) 4 = .ok (.istore_n 3, 1) := by decide +kernel
theorem d141_5 : decode (xbc 141) 5 = .ok (.iload_n 3, 1) := by decide +kernel
theorem d141_6 : decode (xbc 141) 6 = .ok (.aload_n 0, 1) := by decide +kernel
theorem d141_7 : decode (xbc 141) 7 = .ok (.getfield 13, 3) := by decide +kernel
theorem d141_10 : decode (xbc 141) 10 = .ok (.bipush 73, 2) := by decide +kernel
theorem d141_12 : decode (xbc 141) 12 = .ok (.iaload, 1) := by decide +kernel
theorem d141_13 : decode (xbc 141) 13 = .ok (.if_icmp .ge 180, 3) := by decide +kernel
theorem d141_16 : decode (xbc 141) 16 = .ok (.aload_n 0, 1) := by decide +kernel
theorem d141_17 : decode (xbc 141) 17 = .ok (.getfield 13, 3) := by decide +kernel
theorem d141_20 : decode (xbc 141) 20 = .ok (.sipush 139, 3) := by decide +kernel
theorem d141_23 : decode (xbc 141) 23 = .ok (.iload_n 3, 1) := by decide +kernel
theorem d141_24 : decode (xbc 141) 24 = .ok (.iadd, 1) := by decide +kernel
theorem d141_25 : decode (xbc 141) 25 = .ok (.iaload, 1) := by decide +kernel
theorem d141_26 : decode (xbc 141) 26 = .ok (.iload_n 1, 1) := by decide +kernel
theorem d141_27 : decode (xbc 141) 27 = .ok (.aload_n 0, 1) := by decide +kernel
theorem d141_28 : decode (xbc 141) 28 = .ok (.getfield 13, 3) := by decide +kernel
theorem d141_31 : decode (xbc 141) 31 = .ok (.sipush 203, 3) := by decide +kernel
theorem d141_34 : decode (xbc 141) 34 = .ok (.iload_n 3, 1) := by decide +kernel
theorem d141_35 : decode (xbc 141) 35 = .ok (.iadd, 1) := by decide +kernel
theorem d141_36 : decode (xbc 141) 36 = .ok (.iaload, 1) := by decide +kernel
theorem d141_37 : decode (xbc 141) 37 = .ok (.imul, 1) := by decide +kernel
theorem d141_38 : decode (xbc 141) 38 = .ok (.if_icmp .gt 149, 3) := by decide +kernel
theorem d141_41 : decode (xbc 141) 41 = .ok (.iload_n 2, 1) := by decide +kernel
theorem d141_42 : decode (xbc 141) 42 = .ok (.ifCond .ge 7, 3) := by decide +kernel
theorem d141_45 : decode (xbc 141) 45 = .ok (.iconst (-1), 1) := by decide +kernel
theorem d141_46 : decode (xbc 141) 46 = .ok (.goto 46, 3) := by decide +kernel
theorem d141_49 : decode (xbc 141) 49 = .ok (.aload_n 0, 1) := by decide +kernel
theorem d141_50 : decode (xbc 141) 50 = .ok (.getfield 13, 3) := by decide +kernel
theorem d141_53 : decode (xbc 141) 53 = .ok (.sipush 139, 3) := by decide +kernel
theorem d141_56 : decode (xbc 141) 56 = .ok (.iload_n 3, 1) := by decide +kernel
theorem d141_57 : decode (xbc 141) 57 = .ok (.iadd, 1) := by decide +kernel
theorem d141_58 : decode (xbc 141) 58 = .ok (.iaload, 1) := by decide +kernel
theorem d141_59 : decode (xbc 141) 59 = .ok (.aload_n 0, 1) := by decide +kernel
theorem d141_60 : decode (xbc 141) 60 = .ok (.getfield 13, 3) := by decide +kernel
theorem d141_63 : decode (xbc 141) 63 = .ok (.sipush 203, 3) := by decide +kernel
theorem d141_66 : decode (xbc 141) 66 = .ok (.iload_n 2, 1) := by decide +kernel
theorem d141_67 : decode (xbc 141) 67 = .ok (.iadd, 1) := by decide +kernel
theorem d141_68 : decode (xbc 141) 68 = .ok (.iaload, 1) := by decide +kernel
theorem d141_69 : decode (xbc 141) 69 = .ok (.imul, 1) := by decide +kernel
theorem d141_70 : decode (xbc 141) 70 = .ok (.aload_n 0, 1) := by decide +kernel
theorem d141_71 : decode (xbc 141) 71 = .ok (.getfield 13, 3) := by decide +kernel
theorem d141_74 : decode (xbc 141) 74 = .ok (.sipush 139, 3) := by decide +kernel
theorem d141_77 : decode (xbc 141) 77 = .ok (.iload_n 2, 1) := by decide +kernel
theorem d141_78 : decode (xbc 141) 78 = .ok (.iadd, 1) := by decide +kernel
theorem d141_79 : decode (xbc 141) 79 = .ok (.iaload, 1) := by decide +kernel
theorem d141_80 : decode (xbc 141) 80 = .ok (.aload_n 0, 1) := by decide +kernel
theorem d141_81 : decode (xbc 141) 81 = .ok (.getfield 13, 3) := by decide +kernel
theorem d141_84 : decode (xbc 141) 84 = .ok (.sipush 203, 3) := by decide +kernel
theorem d141_87 : decode (xbc 141) 87 = .ok (.iload_n 3, 1) := by decide +kernel
theorem d141_88 : decode (xbc 141) 88 = .ok (.iadd, 1) := by decide +kernel
theorem d141_89 : decode (xbc 141) 89 = .ok (.iaload, 1) := by decide +kernel
theorem d141_90 : decode (xbc 141) 90 = .ok (.imul, 1) := by decide +kernel
theorem d141_91 : decode (xbc 141) 91 = .ok (.isub, 1) := by decide +kernel
theorem d141_92 : decode (xbc 141) 92 = .ok (.istore 4, 2) := by decide +kernel
theorem d141_94 : decode (xbc 141) 94 = .ok (.iload 4, 2) := by decide +kernel
theorem d141_96 : decode (xbc 141) 96 = .ok (.ifCond .lt 73, 3) := by decide +kernel
theorem d141_99 : decode (xbc 141) 99 = .ok (.iload 4, 2) := by decide +kernel
theorem d141_101 : decode (xbc 141) 101 = .ok (.ifCond .ne 72, 3) := by decide +kernel
theorem d141_104 : decode (xbc 141) 104 = .ok (.aload_n 0, 1) := by decide +kernel
theorem d141_105 : decode (xbc 141) 105 = .ok (.getfield 13, 3) := by decide +kernel
theorem d141_108 : decode (xbc 141) 108 = .ok (.bipush 75, 2) := by decide +kernel
theorem d141_110 : decode (xbc 141) 110 = .ok (.iload_n 3, 1) := by decide +kernel
theorem d141_111 : decode (xbc 141) 111 = .ok (.iadd, 1) := by decide +kernel
theorem d141_112 : decode (xbc 141) 112 = .ok (.iaload, 1) := by decide +kernel
theorem d141_113 : decode (xbc 141) 113 = .ok (.aload_n 0, 1) := by decide +kernel
theorem d141_114 : decode (xbc 141) 114 = .ok (.getfield 13, 3) := by decide +kernel
theorem d141_117 : decode (xbc 141) 117 = .ok (.bipush 75, 2) := by decide +kernel
theorem d141_119 : decode (xbc 141) 119 = .ok (.iload_n 2, 1) := by decide +kernel
theorem d141_120 : decode (xbc 141) 120 = .ok (.iadd, 1) := by decide +kernel
theorem d141_121 : decode (xbc 141) 121 = .ok (.iaload, 1) := by decide +kernel
theorem d141_122 : decode (xbc 141) 122 = .ok (.if_icmp .gt 47, 3) := by decide +kernel
theorem d141_125 : decode (xbc 141) 125 = .ok (.aload_n 0, 1) := by decide +kernel
theorem d141_126 : decode (xbc 141) 126 = .ok (.getfield 13, 3) := by decide +kernel
theorem d141_129 : decode (xbc 141) 129 = .ok (.bipush 75, 2) := by decide +kernel
theorem d141_131 : decode (xbc 141) 131 = .ok (.iload_n 3, 1) := by decide +kernel
theorem d141_132 : decode (xbc 141) 132 = .ok (.iadd, 1) := by decide +kernel
theorem d141_133 : decode (xbc 141) 133 = .ok (.iaload, 1) := by decide +kernel
theorem d141_134 : decode (xbc 141) 134 = .ok (.aload_n 0, 1) := by decide +kernel
theorem d141_135 : decode (xbc 141) 135 = .ok (.getfield 13, 3) := by decide +kernel
theorem d141_138 : decode (xbc 141) 138 = .ok (.bipush 75, 2) := by decide +kernel
theorem d141_140 : decode (xbc 141) 140 = .ok (.iload_n 2, 1) := by decide +kernel
theorem d141_141 : decode (xbc 141) 141 = .ok (.iadd, 1) := by decide +kernel
theorem d141_142 : decode (xbc 141) 142 = .ok (.iaload, 1) := by decide +kernel
theorem d141_143 : decode (xbc 141) 143 = .ok (.if_icmp .ne 30, 3) := by decide +kernel
theorem d141_146 : decode (xbc 141) 146 = .ok (.aload_n 0, 1) := by decide +kernel
theorem d141_147 : decode (xbc 141) 147 = .ok (.getfield 13, 3) := by decide +kernel
theorem d141_150 : decode (xbc 141) 150 = .ok (.sipush 267, 3) := by decide +kernel
theorem d141_153 : decode (xbc 141) 153 = .ok (.iload_n 3, 1) := by decide +kernel
theorem d141_154 : decode (xbc 141) 154 = .ok (.iadd, 1) := by decide +kernel
theorem d141_155 : decode (xbc 141) 155 = .ok (.iaload, 1) := by decide +kernel
theorem d141_156 : decode (xbc 141) 156 = .ok (.aload_n 0, 1) := by decide +kernel
theorem d141_157 : decode (xbc 141) 157 = .ok (.getfield 13, 3) := by decide +kernel
theorem d141_160 : decode (xbc 141) 160 = .ok (.sipush 267, 3) := by decide +kernel
theorem d141_163 : decode (xbc 141) 163 = .ok (.iload_n 2, 1) := by decide +kernel
theorem d141_164 : decode (xbc 141) 164 = .ok (.iadd, 1) := by decide +kernel
theorem d141_165 : decode (xbc 141) 165 = .ok (.iaload, 1) := by decide +kernel
theorem d141_166 : decode (xbc 141) 166 = .ok (.if_icmp .ge 7, 3) := by decide +kernel
theorem d141_169 : decode (xbc 141) 169 = .ok (.iconst 1, 1) := by decide +kernel
theorem d141_170 : decode (xbc 141) 170 = .ok (.goto 4, 3) := by decide +kernel
theorem d141_173 : decode (xbc 141) 173 = .ok (.iconst 0, 1) := by decide +kernel
theorem d141_174 : decode (xbc 141) 174 = .ok (.istore 5, 2) := by decide +kernel
theorem d141_176 : decode (xbc 141) 176 = .ok (.iload 5, 2) := by decide +kernel
theorem d141_178 : decode (xbc 141) 178 = .ok (.ifCond .eq 7, 3) := by decide +kernel
theorem d141_181 : decode (xbc 141) 181 = .ok (.iload_n 3, 1) := by decide +kernel
theorem d141_182 : decode (xbc 141) 182 = .ok (.goto 4, 3) := by decide +kernel
theorem d141_185 : decode (xbc 141) 185 = .ok (.iload_n 2, 1) := by decide +kernel
theorem d141_186 : decode (xbc 141) 186 = .ok (.istore_n 2, 1) := by decide +kernel
theorem d141_187 : decode (xbc 141) 187 = .ok (.iinc 3 1, 3) := by decide +kernel
theorem d141_190 : decode (xbc 141) 190 = .ok (.goto (-185), 3) := by decide +kernel
theorem d141_193 : decode (xbc 141) 193 = .ok (.iload_n 2, 1) := by decide +kernel
theorem d141_194 : decode (xbc 141) 194 = .ok (.ireturn, 1) := by decide +kernel
theorem d142_0 : decode (xbc 142) 0 = .ok (.aload_n 0, 1) := by decide +kernel
theorem d142_1 : decode (xbc 142) 1 = .ok (.getfield 13, 3) := by decide +kernel
theorem d142_4 : decode (xbc 142) 4 = .ok (.bipush 75, 2) := by decide +kernel
theorem d142_6 : decode (xbc 142) 6 = .ok (.iload_n 1, 1) := by decide +kernel
theorem d142_7 : decode (xbc 142) 7 = .ok (.iadd, 1) := by decide +kernel
theorem d142_8 : decode (xbc 142) 8 = .ok (.iaload, 1) := by decide +kernel
theorem d142_9 : decode (xbc 142) 9 = .ok (.istore_n 3, 1) := by decide +kernel
theorem d142_10 : decode (xbc 142) 10 = .ok (.aload_n 0, 1) := by decide +kernel
theorem d142_11 : decode (xbc 142) 11 = .ok (.getfield 13, 3) := by decide +kernel
theorem d142_14 : decode (xbc 142) 14 = .ok (.sipush 139, 3) := by decide +kernel
theorem d142_17 : decode (xbc 142) 17 = .ok (.iload_n 1, 1) := by decide +kernel
theorem d142_18 : decode (xbc 142) 18 = .ok (.iadd, 1) := by decide +kernel
theorem d142_19 : decode (xbc 142) 19 = .ok (.iaload, 1) := by decide +kernel
theorem d142_20 : decode (xbc 142) 20 = .ok (.istore 4, 2) := by decide +kernel
theorem d142_22 : decode (xbc 142) 22 = .ok (.aload_n 0, 1) := by decide +kernel
theorem d142_23 : decode (xbc 142) 23 = .ok (.getfield 13, 3) := by decide +kernel
theorem d142_26 : decode (xbc 142) 26 = .ok (.sipush 203, 3) := by decide +kernel
theorem d142_29 : decode (xbc 142) 29 = .ok (.iload_n 1, 1) := by decide +kernel
theorem d142_30 : decode (xbc 142) 30 = .ok (.iadd, 1) := by decide +kernel
theorem d142_31 : decode (xbc 142) 31 = .ok (.iaload, 1) := by decide +kernel
theorem d142_32 : decode (xbc 142) 32 = .ok (.istore 5, 2) := by decide +kernel
theorem d142_34 : decode (xbc 142) 34 = .ok (.aload_n 0, 1) := by decide +kernel
theorem d142_35 : decode (xbc 142) 35 = .ok (.getfield 13, 3) := by decide +kernel
theorem d142_38 : decode (xbc 142) 38 = .ok (.bipush 65, 2) := by decide +kernel
theorem d142_40 : decode (xbc 142) 40 = .ok (.iload_n 3, 1) := by decide +kernel
theorem d142_41 : decode (xbc 142) 41 = .ok (.iadd, 1) := by decide +kernel
theorem d142_42 : decode (xbc 142) 42 = .ok (.iaload, 1) := by decide +kernel
theorem d142_43 : decode (xbc 142) 43 = .ok (.aload_n 0, 1) := by decide +kernel
theorem d142_44 : decode (xbc 142) 44 = .ok (.getfield 13, 3) := by decide +kernel
theorem d142_47 : decode (xbc 142) 47 = .ok (.sipush 267, 3) := by decide +kernel
theorem d142_50 : decode (xbc 142) 50 = .ok (.iload_n 1, 1) := by decide +kernel
theorem d142_51 : decode (xbc 142) 51 = .ok (.iadd, 1) := by decide +kernel
theorem d142_52 : decode (xbc 142) 52 = .ok (.iaload, 1) := by decide +kernel
theorem d142_53 : decode (xbc 142) 53 = .ok (.if_icmp .ne 7, 3) := by decide +kernel
theorem d142_56 : decode (xbc 142) 56 = .ok (.iconst 1, 1) := by decide +kernel
theorem d142_57 : decode (xbc 142) 57 = .ok (.goto 4, 3) := by decide +kernel
theorem d142_60 : decode (xbc 142) 60 = .ok (.iconst 0, 1) := by decide +kernel
theorem d142_61 : decode (xbc 142) 61 = .ok (.istore 6, 2) := by decide +kernel
theorem d142_63 : decode (xbc 142) 63 = .ok (.aload_n 0, 1) := by decide +kernel
theorem d142_64 : decode (xbc 142) 64 = .ok (.getfield 13, 3) := by decide +kernel
theorem d142_67 : decode (xbc 142) 67 = .ok (.bipush 73, 2) := by decide +kernel
theorem d142_69 : decode (xbc 142) 69 = .ok (.dup2, 1) := by decide +kernel
theorem d142_70 : decode (xbc 142) 70 = .ok (.iaload, 1) := by decide +kernel
theorem d142_71 : decode (xbc 142) 71 = .ok (.iconst 1, 1) := by decide +kernel
theorem d142_72 : decode (xbc 142) 72 = .ok (.isub, 1) := by decide +kernel
theorem d142_73 : decode (xbc 142) 73 = .ok (.iastore, 1) := by decide +kernel
theorem d142_74 : decode (xbc 142) 74 = .ok (.iload_n 1, 1) := by decide +kernel
theorem d142_75 : decode (xbc 142) 75 = .ok (.istore 7, 2) := by decide +kernel
theorem d142_77 : decode (xbc 142) 77 = .ok (.iload 7, 2) := by decide +kernel
theorem d142_79 : decode (xbc 142) 79 = .ok (.aload_n 0, 1) := by decide +kernel
theorem d142_80 : decode (xbc 142) 80 = .ok (.getfield 13, 3) := by decide +kernel
theorem d142_83 : decode (xbc 142) 83 = .ok (.bipush 73, 2) := by decide +kernel
theorem d142_85 : decode (xbc 142) 85 = .ok (.iaload, 1) := by decide +kernel
theorem d142_86 : decode (xbc 142) 86 = .ok (.if_icmp .ge 95, 3) := by decide +kernel
theorem d142_89 : decode (xbc 142) 89 = .ok (.aload_n 0, 1) := by decide +kernel
theorem d142_90 : decode (xbc 142) 90 = .ok (.getfield 13, 3) := by decide +kernel
theorem d142_93 : decode (xbc 142) 93 = .ok (.bipush 75, 2) := by decide +kernel
theorem d142_95 : decode (xbc 142) 95 = .ok (.iload 7, 2) := by decide +kernel
theorem d142_97 : decode (xbc 142) 97 = .ok (.iadd, 1) := by decide +kernel
theorem d142_98 : decode (xbc 142) 98 = .ok (.aload_n 0, 1) := by decide +kernel
theorem d142_99 : decode (xbc 142) 99 = .ok (.getfield 13, 3) := by decide +kernel
theorem d142_102 : decode (xbc 142) 102 = .ok (.bipush 76, 2) := by decide +kernel
theorem d142_104 : decode (xbc 142) 104 = .ok (.iload 7, 2) := by decide +kernel
theorem d142_106 : decode (xbc 142) 106 = .ok (.iadd, 1) := by decide +kernel
theorem d142_107 : decode (xbc 142) 107 = .ok (.iaload, 1) := by decide +kernel
theorem d142_108 : decode (xbc 142) 108 = .ok (.iastore, 1) := by decide +kernel
theorem d142_109 : decode (xbc 142) 109 = .ok (.aload_n 0, 1) := by decide +kernel
theorem d142_110 : decode (xbc 142) 110 = .ok (.getfield 13, 3) := by decide +kernel
theorem d142_113 : decode (xbc 142) 113 = .ok (.sipush 139, 3) := by decide +kernel
theorem d142_116 : decode (xbc 142) 116 = .ok (.iload 7, 2) := by decide +kernel
theorem d142_118 : decode (xbc 142) 118 = .ok (.iadd, 1) := by decide +kernel
theorem d142_119 : decode (xbc 142) 119 = .ok (.aload_n 0, 1) := by decide +kernel
theorem d142_120 : decode (xbc 142) 120 = .ok (.getfield 13, 3) := by decide +kernel
theorem d142_123 : decode (xbc 142) 123 = .ok (.sipush 140, 3) := by decide +kernel
theorem d142_126 : decode (xbc 142) 126 = .ok (.iload 7, 2) := by decide +kernel
theorem d142_128 : decode (xbc 142) 128 = .ok (.iadd, 1) := by decide +kernel
theorem d142_129 : decode (xbc 142) 129 = .ok (.iaload, 1) := by decide +kernel
theorem d142_130 : decode (xbc 142) 130 = .ok (.iastore, 1) := by decide +kernel
theorem d142_131 : decode (xbc 142) 131 = .ok (.aload_n 0, 1) := by decide +kernel
theorem d142_132 : decode (xbc 142) 132 = .ok (.getfield 13, 3) := by decide +kernel
theorem d142_135 : decode (xbc 142) 135 = .ok (.sipush 203, 3) := by decide +kernel
theorem d142_138 : decode (xbc 142) 138 = .ok (.iload 7, 2) := by decide +kernel
theorem d142_140 : decode (xbc 142) 140 = .ok (.iadd, 1) := by decide +kernel
theorem d142_141 : decode (xbc 142) 141 = .ok (.aload_n 0, 1) := by decide +kernel
theorem d142_142 : decode (xbc 142) 142 = .ok (.getfield 13, 3) := by decide +kernel
theorem d142_145 : decode (xbc 142) 145 = .ok (.sipush 204, 3) := by decide +kernel
theorem d142_148 : decode (xbc 142) 148 = .ok (.iload 7, 2) := by decide +kernel
theorem d142_150 : decode (xbc 142) 150 = .ok (.iadd, 1) := by decide +kernel
theorem d142_151 : decode (xbc 142) 151 = .ok (.iaload, 1) := by decide +kernel
theorem d142_152 : decode (xbc 142) 152 = .ok (.iastore, 1) := by decide +kernel
theorem d142_153 : decode (xbc 142) 153 = .ok (.aload_n 0, 1) := by decide +kernel
theorem d142_154 : decode (xbc 142) 154 = .ok (.getfield 13, 3) := by decide +kernel
theorem d142_157 : decode (xbc 142) 157 = .ok (.sipush 267, 3) := by decide +kernel
theorem d142_160 : decode (xbc 142) 160 = .ok (.iload 7, 2) := by decide +kernel
theorem d142_162 : decode (xbc 142) 162 = .ok (.iadd, 1) := by decide +kernel
theorem d142_163 : decode (xbc 142) 163 = .ok (.aload_n 0, 1) := by decide +kernel
theorem d142_164 : decode (xbc 142) 164 = .ok (.getfield 13, 3) := by decide +kernel
theorem d142_167 : decode (xbc 142) 167 = .ok (.sipush 268, 3) := by decide +kernel
theorem d142_170 : decode (xbc 142) 170 = .ok (.iload 7, 2) := by decide +kernel
theorem d142_172 : decode (xbc 142) 172 = .ok (.iadd, 1) := by decide +kernel
theorem d142_173 : decode (xbc 142) 173 = .ok (.iaload, 1) := by decide +kernel
theorem d142_174 : decode (xbc 142) 174 = .ok (.iastore, 1) := by decide +kernel
theorem d142_175 : decode (xbc 142) 175 = .ok (.iinc 7 1, 3) := by decide +kernel
theorem d142_178 : decode (xbc 142) 178 = .ok (.goto (-101), 3) := by decide +kernel
theorem d142_181 : decode (xbc 142) 181 = .ok (.aload_n 0, 1) := by decide +kernel
theorem d142_182 : decode (xbc 142) 182 = .ok (.dup, 1) := by decide +kernel
theorem d142_183 : decode (xbc 142) 183 = .ok (.getfield 42, 3) := by decide +kernel
theorem d142_186 : decode (xbc 142) 186 = .ok (.iconst 1, 1) := by decide +kernel
theorem d142_187 : decode (xbc 142) 187 = .ok (.iadd, 1) := by decide +kernel
theorem d142_188 : decode (xbc 142) 188 = .ok (.putfield 42, 3) := by decide +kernel
theorem d142_191 : decode (xbc 142) 191 = .ok (.iload 6, 2) := by decide +kernel
theorem d142_193 : decode (xbc 142) 193 = .ok (.ifCond .ne 14, 3) := by decide +kernel
theorem d142_196 : decode (xbc 142) 196 = .ok (.aload_n 0, 1) := by decide +kernel
theorem d142_197 : decode (xbc 142) 197 = .ok (.dup, 1) := by decide +kernel
theorem d142_198 : decode (xbc 142) 198 = .ok (.getfield 46, 3) := by decide +kernel
theorem d142_201 : decode (xbc 142) 201 = .ok (.iconst 1, 1) := by decide +kernel
theorem d142_202 : decode (xbc 142) 202 = .ok (.iadd, 1) := by decide +kernel
theorem d142_203 : decode (xbc 142) 203 = .ok (.putfield 46, 3) := by decide +kernel
theorem d142_206 : decode (xbc 142) 206 = .ok (.return_, 1) := by decide +kernel
theorem d142_207 : decode (xbc 142) 207 = .ok (.aload_n 0, 1) := by decide +kernel
theorem d142_208 : decode (xbc 142) 208 = .ok (.dup, 1) := by decide +kernel
theorem d142_209 : decode (xbc 142) 209 = .ok (.getfield 49, 3) := by decide +kernel
theorem d142_212 : decode (xbc 142) 212 = .ok (.iconst 1, 1) := by decide +kernel
theorem d142_213 : decode (xbc 142) 213 = .ok (.iadd, 1) := by decide +kernel
theorem d142_214 : decode (xbc 142) 214 = .ok (.putfield 49, 3) := by decide +kernel
theorem d142_217 : decode (xbc 142) 217 = .ok (.aload_n 0, 1) := by decide +kernel
theorem d142_218 : decode (xbc 142) 218 = .ok (.getfield 52, 3) := by decide +kernel
theorem d142_221 : decode (xbc 142) 221 = .ok (.ifCond .ge 13, 3) := by decide +kernel
theorem d142_224 : decode (xbc 142) 224 = .ok (.aload_n 0, 1) := by decide +kernel
theorem d142_225 : decode (xbc 142) 225 = .ok (.iload_n 2, 1) := by decide +kernel
theorem d142_226 : decode (xbc 142) 226 = .ok (.putfield 52, 3) := by decide +kernel
theorem d142_229 : decode (xbc 142) 229 = .ok (.aload_n 0, 1) := by decide +kernel
theorem d142_230 : decode (xbc 142) 230 = .ok (.iload_n 3, 1) := by decide +kernel
theorem d142_231 : decode (xbc 142) 231 = .ok (.putfield 55, 3) := by decide +kernel
theorem d142_234 : decode (xbc 142) 234 = .ok (.iconst 1, 1) := by decide +kernel
theorem d142_235 : decode (xbc 142) 235 = .ok (.istore 7, 2) := by decide +kernel
theorem d142_237 : decode (xbc 142) 237 = .ok (.iload_n 3, 1) := by decide +kernel
theorem d142_238 : decode (xbc 142) 238 = .ok (.istore 8, 2) := by decide +kernel
theorem d142_240 : decode (xbc 142) 240 = .ok (.iload 8, 2) := by decide +kernel
theorem d142_242 : decode (xbc 142) 242 = .ok (.ifCond .le 164, 3) := by decide +kernel
theorem d142_245 : decode (xbc 142) 245 = .ok (.iload 7, 2) := by decide +kernel
theorem d142_247 : decode (xbc 142) 247 = .ok (.ifCond .eq 159, 3) := by decide +kernel
theorem d142_250 : decode (xbc 142) 250 = .ok (.aload_n 0, 1) := by decide +kernel
theorem d142_251 : decode (xbc 142) 251 = .ok (.iload 8, 2) := by decide +kernel
theorem d142_253 : decode (xbc 142) 253 = .ok (.iconst 0, 1) := by decide +kernel
theorem d142_254 : decode (xbc 142) 254 = .ok (.invokevirtual 66, 3) := by decide +kernel
theorem d142_257 : decode (xbc 142) 257 = .ok (.istore 9, 2) := by decide +kernel
theorem d142_259 : decode (xbc 142) 259 = .ok (.aload_n 0, 1) := by decide +kernel
theorem d142_260 : decode (xbc 142) 260 = .ok (.iload 8, 2) := by decide +kernel
theorem d142_262 : decode (xbc 142) 262 = .ok (.iconst 1, 1) := by decide +kernel
theorem d142_263 : decode (xbc 142) 263 = .ok (.invokevirtual 66, 3) := by decide +kernel
theorem d142_266 : decode (xbc 142) 266 = .ok (.istore 10, 2) := by decide +kernel
theorem d142_268 : decode (xbc 142) 268 = .ok (.aload_n 0, 1) := by decide +kernel
theorem d142_269 : decode (xbc 142) 269 = .ok (.iload 9, 2) := by decide +kernel
theorem d142_271 : decode (xbc 142) 271 = .ok (.iload 10, 2) := by decide +kernel
theorem d142_273 : decode (xbc 142) 273 = .ok (.iload 4, 2) := by decide +kernel
theorem d142_275 : decode (xbc 142) 275 = .ok (.iload 5, 2) := by decide +kernel
theorem d142_277 : decode (xbc 142) 277 = .ok (.invokevirtual 70, 3) := by decide +kernel
theorem d142_280 : decode (xbc 142) 280 = .ok (.istore 11, 2) := by decide +kernel
theorem d142_282 : decode (xbc 142) 282 = .ok (.iload 11, 2) := by decide +kernel
theorem d142_284 : decode (xbc 142) 284 = .ok (.aload_n 0, 1) := by decide +kernel
theorem d142_285 : decode (xbc 142) 285 = .ok (.getfield 13, 3) := by decide +kernel
theorem d142_288 : decode (xbc 142) 288 = .ok (.bipush 41, 2) := by decide +kernel
theorem d142_290 : decode (xbc 142) 290 = .ok (.iload 8, 2) := by decide +kernel
theorem d142_292 : decode (xbc 142) 292 = .ok (.iadd, 1) := by decide +kernel
theorem d142_293 : decode (xbc 142) 293 = .ok (.iaload, 1) := by decide +kernel
theorem d142_294 : decode (xbc 142) 294 = .ok (.if_icmp .eq 7, 3) := by decide +kernel
theorem d142_297 : decode (xbc 142) 297 = .ok (.iconst 1, 1) := by decide +kernel
theorem d142_298 : decode (xbc 142) 298 = .ok (.goto 4, 3) := by decide +kernel
theorem d142_301 : decode (xbc 142) 301 = .ok (.iconst 0, 1) := by decide +kernel
theorem d142_302 : decode (xbc 142) 302 = .ok (.istore 12, 2) := by decide +kernel
theorem d142_304 : decode (xbc 142) 304 = .ok (.iload 9, 2) := by decide +kernel
theorem d142_306 : decode (xbc 142) 306 = .ok (.aload_n 0, 1) := by decide +kernel
theorem d142_307 : decode (xbc 142) 307 = .ok (.getfield 13, 3) := by decide +kernel
theorem d142_310 : decode (xbc 142) 310 = .ok (.bipush 49, 2) := by decide +kernel
theorem d142_312 : decode (xbc 142) 312 = .ok (.iload 8, 2) := by decide +kernel
theorem d142_314 : decode (xbc 142) 314 = .ok (.iadd, 1) := by decide +kernel
theorem d142_315 : decode (xbc 142) 315 = .ok (.iaload, 1) := by decide +kernel
theorem d142_316 : decode (xbc 142) 316 = .ok (.if_icmp .ne 18, 3) := by decide +kernel
theorem d142_319 : decode (xbc 142) 319 = .ok (.iload 10, 2) := by decide +kernel
theorem d142_321 : decode (xbc 142) 321 = .ok (.aload_n 0, 1) := by decide +kernel
theorem d142_322 : decode (xbc 142) 322 = .ok (.getfield 13, 3) := by decide +kernel
theorem d142_325 : decode (xbc 142) 325 = .ok (.bipush 57, 2) := by decide +kernel
theorem d142_327 : decode (xbc 142) 327 = .ok (.iload 8, 2) := by decide +kernel
theorem d142_329 : decode (xbc 142) 329 = .ok (.iadd, 1) := by decide +kernel
theorem d142_330 : decode (xbc 142) 330 = .ok (.iaload, 1) := by decide +kernel
theorem d142_331 : decode (xbc 142) 331 = .ok (.if_icmp .eq 7, 3) := by decide +kernel
theorem d142_334 : decode (xbc 142) 334 = .ok (.iconst 1, 1) := by decide +kernel
theorem d142_335 : decode (xbc 142) 335 = .ok (.goto 4, 3) := by decide +kernel
theorem d142_338 : decode (xbc 142) 338 = .ok (.iconst 0, 1) := by decide +kernel
theorem d142_339 : decode (xbc 142) 339 = .ok (.istore 13, 2) := by decide +kernel
theorem d142_341 : decode (xbc 142) 341 = .ok (.aload_n 0, 1) := by decide +kernel
theorem d142_342 : decode (xbc 142) 342 = .ok (.getfield 13, 3) := by decide +kernel
theorem d142_345 : decode (xbc 142) 345 = .ok (.bipush 41, 2) := by decide +kernel
theorem d142_347 : decode (xbc 142) 347 = .ok (.iload 8, 2) := by decide +kernel
theorem d142_349 : decode (xbc 142) 349 = .ok (.iadd, 1) := by decide +kernel
theorem d142_350 : decode (xbc 142) 350 = .ok (.iload 11, 2) := by decide +kernel
theorem d142_352 : decode (xbc 142) 352 = .ok (.iastore, 1) := by decide +kernel
theorem d142_353 : decode (xbc 142) 353 = .ok (.aload_n 0, 1) := by decide +kernel
theorem d142_354 : decode (xbc 142) 354 = .ok (.getfield 13, 3) := by decide +kernel
theorem d142_357 : decode (xbc 142) 357 = .ok (.bipush 49, 2) := by decide +kernel
theorem d142_359 : decode (xbc 142) 359 = .ok (.iload 8, 2) := by decide +kernel
theorem d142_361 : decode (xbc 142) 361 = .ok (.iadd, 1) := by decide +kernel
theorem d142_362 : decode (xbc 142) 362 = .ok (.iload 9, 2) := by decide +kernel
theorem d142_364 : decode (xbc 142) 364 = .ok (.iastore, 1) := by decide +kernel
theorem d142_365 : decode (xbc 142) 365 = .ok (.aload_n 0, 1) := by decide +kernel
theorem d142_366 : decode (xbc 142) 366 = .ok (.getfield 13, 3) := by decide +kernel
theorem d142_369 : decode (xbc 142) 369 = .ok (.bipush 57, 2) := by decide +kernel
theorem d142_371 : decode (xbc 142) 371 = .ok (.iload 8, 2) := by decide +kernel
theorem d142_373 : decode (xbc 142) 373 = .ok (.iadd, 1) := by decide +kernel
theorem d142_374 : decode (xbc 142) 374 = .ok (.iload 10, 2) := by decide +kernel
theorem d142_376 : decode (xbc 142) 376 = .ok (.iastore, 1) := by decide +kernel
theorem d142_377 : decode (xbc 142) 377 = .ok (.iload 12, 2) := by decide +kernel
theorem d142_379 : decode (xbc 142) 379 = .ok (.ifCond .ne 8, 3) := by decide +kernel
theorem d142_382 : decode (xbc 142) 382 = .ok (.iload 13, 2) := by decide +kernel
theorem d142_384 : decode (xbc 142) 384 = .ok (.ifCond .eq 9, 3) := by decide +kernel
theorem d142_387 : decode (xbc 142) 387 = .ok (.aload_n 0, 1) := by decide +kernel
theorem d142_388 : decode (xbc 142) 388 = .ok (.iload 8, 2) := by decide +kernel
theorem d142_390 : decode (xbc 142) 390 = .ok (.invokevirtual 74, 3) := by decide +kernel
theorem d142_393 : decode (xbc 142) 393 = .ok (.iload 12, 2) := by decide +kernel
theorem d142_395 : decode (xbc 142) 395 = .ok (.istore 7, 2) := by decide +kernel
theorem d142_397 : decode (xbc 142) 397 = .ok (.iload 8, 2) := by decide +kernel
theorem d142_399 : decode (xbc 142) 399 = .ok (.iconst 2, 1) := by decide +kernel
theorem d142_400 : decode (xbc 142) 400 = .ok (.idiv, 1) := by decide +kernel
theorem d142_401 : decode (xbc 142) 401 = .ok (.istore 8, 2) := by decide +kernel
theorem d142_403 : decode (xbc 142) 403 = .ok (.goto (-163), 3) := by decide +kernel
theorem d142_406 : decode (xbc 142) 406 = .ok (.return_, 1) := by decide +kernel
theorem d143_0 : decode (xbc 143) 0 = .ok (.aload_n 0, 1) := by decide +kernel
theorem d143_1 : decode (xbc 143) 1 = .ok (.getfield 13, 3) := by decide +kernel
theorem d143_4 : decode (xbc 143) 4 = .ok (.iload_n 1, 1) := by decide +kernel
theorem d143_5 : decode (xbc 143) 5 = .ok (.iaload, 1) := by decide +kernel
theorem d143_6 : decode (xbc 143) 6 = .ok (.ifCond .ne 5, 3) := by decide +kernel
theorem d143_9 : decode (xbc 143) 9 = .ok (.iconst 1, 1) := by decide +kernel
theorem d143_10 : decode (xbc 143) 10 = .ok (.ireturn, 1) := by decide +kernel
theorem d143_11 : decode (xbc 143) 11 = .ok (.aload_n 0, 1) := by decide +kernel
theorem d143_12 : decode (xbc 143) 12 = .ok (.getfield 13, 3) := by decide +kernel
theorem d143_15 : decode (xbc 143) 15 = .ok (.bipush 8, 2) := by decide +kernel
theorem d143_17 : decode (xbc 143) 17 = .ok (.iload_n 1, 1) := by decide +kernel
theorem d143_18 : decode (xbc 143) 18 = .ok (.iadd, 1) := by decide +kernel
theorem d143_19 : decode (xbc 143) 19 = .ok (.iaload, 1) := by decide +kernel
theorem d143_20 : decode (xbc 143) 20 = .ok (.ifCond .ne 5, 3) := by decide +kernel
theorem d143_23 : decode (xbc 143) 23 = .ok (.iconst 2, 1) := by decide +kernel
theorem d143_24 : decode (xbc 143) 24 = .ok (.ireturn, 1) := by decide +kernel
theorem d143_25 : decode (xbc 143) 25 = .ok (.aload_n 0, 1) := by decide +kernel
theorem d143_26 : decode (xbc 143) 26 = .ok (.getfield 13, 3) := by decide +kernel
theorem d143_29 : decode (xbc 143) 29 = .ok (.bipush 32, 2) := by decide +kernel
theorem d143_31 : decode (xbc 143) 31 = .ok (.iload_n 1, 1) := by decide +kernel
theorem d143_32 : decode (xbc 143) 32 = .ok (.iadd, 1) := by decide +kernel
theorem d143_33 : decode (xbc 143) 33 = .ok (.iaload, 1) := by decide +kernel
theorem d143_34 : decode (xbc 143) 34 = .ok (.iload_n 2, 1) := by decide +kernel
theorem d143_35 : decode (xbc 143) 35 = .ok (.iadd, 1) := by decide +kernel
theorem d143_36 : decode (xbc 143) 36 = .ok (.bipush (-50), 2) := by decide +kernel
theorem d143_38 : decode (xbc 143) 38 = .ok (.bipush 50, 2) := by decide +kernel
theorem d143_40 : decode (xbc 143) 40 = .ok (.invokestatic 38, 3) := by decide +kernel
theorem d143_43 : decode (xbc 143) 43 = .ok (.ifCond .ne 5, 3) := by decide +kernel
theorem d143_46 : decode (xbc 143) 46 = .ok (.iconst 3, 1) := by decide +kernel
theorem d143_47 : decode (xbc 143) 47 = .ok (.ireturn, 1) := by decide +kernel
theorem d143_48 : decode (xbc 143) 48 = .ok (.aload_n 0, 1) := by decide +kernel
theorem d143_49 : decode (xbc 143) 49 = .ok (.getfield 13, 3) := by decide +kernel
theorem d143_52 : decode (xbc 143) 52 = .ok (.bipush 32, 2) := by decide +kernel
theorem d143_54 : decode (xbc 143) 54 = .ok (.iload_n 1, 1) := by decide +kernel
theorem d143_55 : decode (xbc 143) 55 = .ok (.iadd, 1) := by decide +kernel
theorem d143_56 : decode (xbc 143) 56 = .ok (.dup2, 1) := by decide +kernel
theorem d143_57 : decode (xbc 143) 57 = .ok (.iaload, 1) := by decide +kernel
theorem d143_58 : decode (xbc 143) 58 = .ok (.iload_n 2, 1) := by decide +kernel
theorem d143_59 : decode (xbc 143) 59 = .ok (.iadd, 1) := by decide +kernel
theorem d143_60 : decode (xbc 143) 60 = .ok (.iastore, 1) := by decide +kernel
theorem d143_61 : decode (xbc 143) 61 = .ok (.aload_n 0, 1) := by decide +kernel
theorem d143_62 : decode (xbc 143) 62 = .ok (.getfield 13, 3) := by decide +kernel
theorem d143_65 : decode (xbc 143) 65 = .ok (.bipush 24, 2) := by decide +kernel
theorem d143_67 : decode (xbc 143) 67 = .ok (.iload_n 1, 1) := by decide +kernel
theorem d143_68 : decode (xbc 143) 68 = .ok (.iadd, 1) := by decide +kernel
theorem d143_69 : decode (xbc 143) 69 = .ok (.dup2, 1) := by decide +kernel
theorem d143_70 : decode (xbc 143) 70 = .ok (.iaload, 1) := by decide +kernel
theorem d143_71 : decode (xbc 143) 71 = .ok (.iload_n 2, 1) := by decide +kernel
theorem d143_72 : decode (xbc 143) 72 = .ok (.aload_n 0, 1) := by decide +kernel
theorem d143_73 : decode (xbc 143) 73 = .ok (.getfield 13, 3) := by decide +kernel
theorem d143_76 : decode (xbc 143) 76 = .ok (.bipush 40, 2) := by decide +kernel
theorem d143_78 : decode (xbc 143) 78 = .ok (.iaload, 1) := by decide +kernel
theorem d143_79 : decode (xbc 143) 79 = .ok (.imul, 1) := by decide +kernel
theorem d143_80 : decode (xbc 143) 80 = .ok (.isub, 1) := by decide +kernel
theorem d143_81 : decode (xbc 143) 81 = .ok (.iastore, 1) := by decide +kernel
theorem d143_82 : decode (xbc 143) 82 = .ok (.aload_n 0, 1) := by decide +kernel
theorem d143_83 : decode (xbc 143) 83 = .ok (.invokevirtual 32, 3) := by decide +kernel
theorem d143_86 : decode (xbc 143) 86 = .ok (.iconst 0, 1) := by decide +kernel
theorem d143_87 : decode (xbc 143) 87 = .ok (.ireturn, 1) := by decide +kernel
theorem d144_0 : decode (xbc 144) 0 = .ok (.aload_n 0, 1) := by decide +kernel
theorem d144_1 : decode (xbc 144) 1 = .ok (.getfield 13, 3) := by decide +kernel
theorem d144_4 : decode (xbc 144) 4 = .ok (.iload_n 1, 1) := by decide +kernel
theorem d144_5 : decode (xbc 144) 5 = .ok (.iaload, 1) := by decide +kernel
theorem d144_6 : decode (xbc 144) 6 = .ok (.iload_n 2, 1) := by decide +kernel
theorem d144_7 : decode (xbc 144) 7 = .ok (.ifCond .eq 7, 3) := by decide +kernel
theorem d144_10 : decode (xbc 144) 10 = .ok (.iconst 0, 1) := by decide +kernel
theorem d144_11 : decode (xbc 144) 11 = .ok (.goto 4, 3) := by decide +kernel
theorem d144_14 : decode (xbc 144) 14 = .ok (.iconst 1, 1) := by decide +kernel
theorem d144_15 : decode (xbc 144) 15 = .ok (.if_icmp .ne 13, 3) := by decide +kernel
theorem d144_18 : decode (xbc 144) 18 = .ok (.iload_n 2, 1) := by decide +kernel
theorem d144_19 : decode (xbc 144) 19 = .ok (.ifCond .eq 7, 3) := by decide +kernel
theorem d144_22 : decode (xbc 144) 22 = .ok (.iconst 1, 1) := by decide +kernel
theorem d144_23 : decode (xbc 144) 23 = .ok (.goto 4, 3) := by decide +kernel
theorem d144_26 : decode (xbc 144) 26 = .ok (.iconst 4, 1) := by decide +kernel
theorem d144_27 : decode (xbc 144) 27 = .ok (.ireturn, 1) := by decide +kernel
theorem d144_28 : decode (xbc 144) 28 = .ok (.aload_n 0, 1) := by decide +kernel
theorem d144_29 : decode (xbc 144) 29 = .ok (.getfield 13, 3) := by decide +kernel
theorem d144_32 : decode (xbc 144) 32 = .ok (.iload_n 1, 1) := by decide +kernel
theorem d144_33 : decode (xbc 144) 33 = .ok (.iload_n 2, 1) := by decide +kernel
theorem d144_34 : decode (xbc 144) 34 = .ok (.ifCond .eq 7, 3) := by decide +kernel
theorem d144_37 : decode (xbc 144) 37 = .ok (.iconst 0, 1) := by decide +kernel
theorem d144_38 : decode (xbc 144) 38 = .ok (.goto 4, 3) := by decide +kernel
theorem d144_41 : decode (xbc 144) 41 = .ok (.iconst 1, 1) := by decide +kernel
theorem d144_42 : decode (xbc 144) 42 = .ok (.iastore, 1) := by decide +kernel
theorem d144_43 : decode (xbc 144) 43 = .ok (.aload_n 0, 1) := by decide +kernel
theorem d144_44 : decode (xbc 144) 44 = .ok (.invokevirtual 32, 3) := by decide +kernel
theorem d144_47 : decode (xbc 144) 47 = .ok (.iconst 0, 1) := by decide +kernel
theorem d144_48 : decode (xbc 144) 48 = .ok (.ireturn, 1) := by decide +kernel
end
section
theorem d145_0 : decode (xbc 145) 0 = .ok (.iload_n 1, 1) := by decide +kernel
theorem d145_1 : decode (xbc 145) 1 = .ok (.iload_n 2, 1) := by decide +kernel
theorem d145_2 : decode (xbc 145) 2 = .ok (.if_icmp .ne 5, 3) := by decide +kernel
theorem d145_5 : decode (xbc 145) 5 = .ok (.iconst 5, 1) := by decide +kernel
theorem d145_6 : decode (xbc 145) 6 = .ok (.ireturn, 1) := by decide +kernel
theorem d145_7 : decode (xbc 145) 7 = .ok (.aload_n 0, 1) := by decide +kernel
theorem d145_8 : decode (xbc 145) 8 = .ok (.getfield 13, 3) := by decide +kernel
theorem d145_11 : decode (xbc 145) 11 = .ok (.bipush 16, 2) := by decide +kernel
theorem d145_13 : decode (xbc 145) 13 = .ok (.iload_n 1, 1) := by decide +kernel
theorem d145_14 : decode (xbc 145) 14 = .ok (.iadd, 1) := by decide +kernel
theorem d145_15 : decode (xbc 145) 15 = .ok (.iaload, 1) := by decide +kernel
theorem d145_16 : decode (xbc 145) 16 = .ok (.istore_n 3, 1) := by decide +kernel
theorem d145_17 : decode (xbc 145) 17 = .ok (.aload_n 0, 1) := by decide +kernel
theorem d145_18 : decode (xbc 145) 18 = .ok (.getfield 13, 3) := by decide +kernel
theorem d145_21 : decode (xbc 145) 21 = .ok (.bipush 16, 2) := by decide +kernel
theorem d145_23 : decode (xbc 145) 23 = .ok (.iload_n 2, 1) := by decide +kernel
theorem d145_24 : decode (xbc 145) 24 = .ok (.iadd, 1) := by decide +kernel
theorem d145_25 : decode (xbc 145) 25 = .ok (.iaload, 1) := by decide +kernel
theorem d145_26 : decode (xbc 145) 26 = .ok (.istore 4, 2) := by decide +kernel
theorem d145_28 : decode (xbc 145) 28 = .ok (.iload 4, 2) := by decide +kernel
theorem d145_30 : decode (xbc 145) 30 = .ok (.iconst 4, 1) := by decide +kernel
theorem d145_31 : decode (xbc 145) 31 = .ok (.if_icmp .ge 16, 3) := by decide +kernel
theorem d145_34 : decode (xbc 145) 34 = .ok (.aload_n 0, 1) := by decide +kernel
theorem d145_35 : decode (xbc 145) 35 = .ok (.getfield 13, 3) := by decide +kernel
theorem d145_38 : decode (xbc 145) 38 = .ok (.bipush 8, 2) := by decide +kernel
theorem d145_40 : decode (xbc 145) 40 = .ok (.iload_n 1, 1) := by decide +kernel
theorem d145_41 : decode (xbc 145) 41 = .ok (.iadd, 1) := by decide +kernel
theorem d145_42 : decode (xbc 145) 42 = .ok (.iaload, 1) := by decide +kernel
theorem d145_43 : decode (xbc 145) 43 = .ok (.iconst 1, 1) := by decide +kernel
theorem d145_44 : decode (xbc 145) 44 = .ok (.if_icmp .eq 21, 3) := by decide +kernel
theorem d145_47 : decode (xbc 145) 47 = .ok (.iload_n 3, 1) := by decide +kernel
theorem d145_48 : decode (xbc 145) 48 = .ok (.iconst 4, 1) := by decide +kernel
theorem d145_49 : decode (xbc 145) 49 = .ok (.if_icmp .ge 19, 3) := by decide +kernel
theorem d145_52 : decode (xbc 145) 52 = .ok (.aload_n 0, 1) := by decide +kernel
theorem d145_53 : decode (xbc 145) 53 = .ok (.getfield 13, 3) := by decide +kernel
theorem d145_56 : decode (xbc 145) 56 = .ok (.bipush 8, 2) := by decide +kernel
theorem d145_58 : decode (xbc 145) 58 = .ok (.iload_n 2, 1) := by decide +kernel
theorem d145_59 : decode (xbc 145) 59 = .ok (.iadd, 1) := by decide +kernel
theorem d145_60 : decode (xbc 145) 60 = .ok (.iaload, 1) := by decide +kernel
theorem d145_61 : decode (xbc 145) 61 = .ok (.iconst 1, 1) := by decide +kernel
theorem d145_62 : decode (xbc 145) 62 = .ok (.if_icmp .ne 6, 3) := by decide +kernel
theorem d145_65 : decode (xbc 145) 65 = .ok (.bipush 6, 2) := by decide +kernel
theorem d145_67 : decode (xbc 145) 67 = .ok (.ireturn, 1) := by decide +kernel
theorem d145_68 : decode (xbc 145) 68 = .ok (.aload_n 0, 1) := by decide +kernel
theorem d145_69 : decode (xbc 145) 69 = .ok (.getfield 13, 3) := by decide +kernel
theorem d145_72 : decode (xbc 145) 72 = .ok (.bipush 16, 2) := by decide +kernel
theorem d145_74 : decode (xbc 145) 74 = .ok (.iload_n 1, 1) := by decide +kernel
theorem d145_75 : decode (xbc 145) 75 = .ok (.iadd, 1) := by decide +kernel
theorem d145_76 : decode (xbc 145) 76 = .ok (.iload 4, 2) := by decide +kernel
theorem d145_78 : decode (xbc 145) 78 = .ok (.iastore, 1) := by decide +kernel
theorem d145_79 : decode (xbc 145) 79 = .ok (.aload_n 0, 1) := by decide +kernel
theorem d145_80 : decode (xbc 145) 80 = .ok (.getfield 13, 3) := by decide +kernel
theorem d145_83 : decode (xbc 145) 83 = .ok (.bipush 16, 2) := by decide +kernel
theorem d145_85 : decode (xbc 145) 85 = .ok (.iload_n 2, 1) := by decide +kernel
theorem d145_86 : decode (xbc 145) 86 = .ok (.iadd, 1) := by decide +kernel
theorem d145_87 : decode (xbc 145) 87 = .ok (.iload_n 3, 1) := by decide +kernel
theorem d145_88 : decode (xbc 145) 88 = .ok (.iastore, 1) := by decide +kernel
theorem d145_89 : decode (xbc 145) 89 = .ok (.aload_n 0, 1) := by decide +kernel
theorem d145_90 : decode (xbc 145) 90 = .ok (.invokevirtual 32, 3) := by decide +kernel
theorem d145_93 : decode (xbc 145) 93 = .ok (.iconst 0, 1) := by decide +kernel
theorem d145_94 : decode (xbc 145) 94 = .ok (.ireturn, 1) := by decide +kernel
theorem d146_0 : decode (xbc 146) 0 = .ok (.aload_n 0, 1) := by decide +kernel
theorem d146_1 : decode (xbc 146) 1 = .ok (.invokevirtual 127, 3) := by decide +kernel
theorem d146_4 : decode (xbc 146) 4 = .ok (.ifCond .ge 6, 3) := by decide +kernel
theorem d146_7 : decode (xbc 146) 7 = .ok (.bipush (-5), 2) := by decide +kernel
theorem d146_9 : decode (xbc 146) 9 = .ok (.ireturn, 1) := by decide +kernel
theorem d146_10 : decode (xbc 146) 10 = .ok (.aload_n 0, 1) := by decide +kernel
theorem d146_11 : decode (xbc 146) 11 = .ok (.invokevirtual 35, 3) := by decide +kernel
theorem d146_14 : decode (xbc 146) 14 = .ok (.aload_n 0, 1) := by decide +kernel
theorem d146_15 : decode (xbc 146) 15 = .ok (.iconst 0, 1) := by decide +kernel
theorem d146_16 : decode (xbc 146) 16 = .ok (.putfield 85, 3) := by decide +kernel
theorem d146_19 : decode (xbc 146) 19 = .ok (.aload_n 0, 1) := by decide +kernel
theorem d146_20 : decode (xbc 146) 20 = .ok (.getfield 102, 3) := by decide +kernel
theorem d146_23 : decode (xbc 146) 23 = .ok (.ireturn, 1) := by decide +kernel
theorem d147_0 : decode (xbc 147) 0 = .ok (.aload_n 0, 1) := by decide +kernel
theorem d147_1 : decode (xbc 147) 1 = .ok (.invokevirtual 91, 3) := by decide +kernel
theorem d147_4 : decode (xbc 147) 4 = .ok (.ifCond .ge 10, 3) := by decide +kernel
theorem d147_7 : decode (xbc 147) 7 = .ok (.aload_n 0, 1) := by decide +kernel
theorem d147_8 : decode (xbc 147) 8 = .ok (.invokevirtual 124, 3) := by decide +kernel
theorem d147_11 : decode (xbc 147) 11 = .ok (.ifCond .lt 8, 3) := by decide +kernel
theorem d147_14 : decode (xbc 147) 14 = .ok (.bipush (-5), 2) := by decide +kernel
theorem d147_16 : decode (xbc 147) 16 = .ok (.goto 4, 3) := by decide +kernel
theorem d147_19 : decode (xbc 147) 19 = .ok (.iconst 0, 1) := by decide +kernel
theorem d147_20 : decode (xbc 147) 20 = .ok (.ireturn, 1) := by decide +kernel
theorem d148_0 : decode (xbc 148) 0 = .ok (.iload_n 1, 1) := by decide +kernel
theorem d148_1 : decode (xbc 148) 1 = .ok (.invokestatic 78, 3) := by decide +kernel
theorem d148_4 : decode (xbc 148) 4 = .ok (.ifCond .ne 5, 3) := by decide +kernel
theorem d148_7 : decode (xbc 148) 7 = .ok (.iconst (-1), 1) := by decide +kernel
theorem d148_8 : decode (xbc 148) 8 = .ok (.ireturn, 1) := by decide +kernel
theorem d148_9 : decode (xbc 148) 9 = .ok (.iload_n 2, 1) := by decide +kernel
theorem d148_10 : decode (xbc 148) 10 = .ok (.iconst 0, 1) := by decide +kernel
theorem d148_11 : decode (xbc 148) 11 = .ok (.iconst 3, 1) := by decide +kernel
theorem d148_12 : decode (xbc 148) 12 = .ok (.invokestatic 38, 3) := by decide +kernel
theorem d148_15 : decode (xbc 148) 15 = .ok (.ifCond .ne 6, 3) := by decide +kernel
theorem d148_18 : decode (xbc 148) 18 = .ok (.bipush (-2), 2) := by decide +kernel
theorem d148_20 : decode (xbc 148) 20 = .ok (.ireturn, 1) := by decide +kernel
theorem d148_21 : decode (xbc 148) 21 = .ok (.aload_n 0, 1) := by decide +kernel
theorem d148_22 : decode (xbc 148) 22 = .ok (.invokevirtual 127, 3) := by decide +kernel
theorem d148_25 : decode (xbc 148) 25 = .ok (.ifCond .ge 6, 3) := by decide +kernel
theorem d148_28 : decode (xbc 148) 28 = .ok (.bipush (-5), 2) := by decide +kernel
theorem d148_30 : decode (xbc 148) 30 = .ok (.ireturn, 1) := by decide +kernel
theorem d148_31 : decode (xbc 148) 31 = .ok (.iload_n 2, 1) := by decide +kernel
theorem d148_32 : decode (xbc 148) 32 = .ok (.ifCond .ne 12, 3) := by decide +kernel
theorem d148_35 : decode (xbc 148) 35 = .ok (.aload_n 0, 1) := by decide +kernel
theorem d148_36 : decode (xbc 148) 36 = .ok (.getfield 13, 3) := by decide +kernel
theorem d148_39 : decode (xbc 148) 39 = .ok (.iload_n 1, 1) := by decide +kernel
theorem d148_40 : decode (xbc 148) 40 = .ok (.iaload, 1) := by decide +kernel
theorem d148_41 : decode (xbc 148) 41 = .ok (.goto 17, 3) := by decide +kernel
theorem d148_44 : decode (xbc 148) 44 = .ok (.aload_n 0, 1) := by decide +kernel
theorem d148_45 : decode (xbc 148) 45 = .ok (.getfield 13, 3) := by decide +kernel
theorem d148_48 : decode (xbc 148) 48 = .ok (.bipush 8, 2) := by decide +kernel
theorem d148_50 : decode (xbc 148) 50 = .ok (.bipush 8, 2) := by decide +kernel
theorem d148_52 : decode (xbc 148) 52 = .ok (.iload_n 2, 1) := by decide +kernel
theorem d148_53 : decode (xbc 148) 53 = .ok (.imul, 1) := by decide +kernel
theorem d148_54 : decode (xbc 148) 54 = .ok (.iadd, 1) := by decide +kernel
theorem d148_55 : decode (xbc 148) 55 = .ok (.iload_n 1, 1) := by decide +kernel
theorem d148_56 : decode (xbc 148) 56 = .ok (.iadd, 1) := by decide +kernel
theorem d148_57 : decode (xbc 148) 57 = .ok (.iaload, 1) := by decide +kernel
theorem d148_58 : decode (xbc 148) 58 = .ok (.ireturn, 1) := by decide +kernel
theorem d149_0 : decode (xbc 149) 0 = .ok (.iload_n 1, 1) := by decide +kernel
theorem d149_1 : decode (xbc 149) 1 = .ok (.iconst 1, 1) := by decide +kernel
theorem d149_2 : decode (xbc 149) 2 = .ok (.bipush 7, 2) := by decide +kernel
theorem d149_4 : decode (xbc 149) 4 = .ok (.invokestatic 38, 3) := by decide +kernel
theorem d149_7 : decode (xbc 149) 7 = .ok (.ifCond .ne 5, 3) := by decide +kernel
theorem d149_10 : decode (xbc 149) 10 = .ok (.iconst (-1), 1) := by decide +kernel
theorem d149_11 : decode (xbc 149) 11 = .ok (.ireturn, 1) := by decide +kernel
theorem d149_12 : decode (xbc 149) 12 = .ok (.aload_n 0, 1) := by decide +kernel
theorem d149_13 : decode (xbc 149) 13 = .ok (.invokevirtual 127, 3) := by decide +kernel
theorem d149_16 : decode (xbc 149) 16 = .ok (.ifCond .ge 8, 3) := by decide +kernel
theorem d149_19 : decode (xbc 149) 19 = .ok (.bipush (-5), 2) := by decide +kernel
theorem d149_21 : decode (xbc 149) 21 = .ok (.goto 12, 3) := by decide +kernel
theorem d149_24 : decode (xbc 149) 24 = .ok (.aload_n 0, 1) := by decide +kernel
theorem d149_25 : decode (xbc 149) 25 = .ok (.getfield 13, 3) := by decide +kernel
theorem d149_28 : decode (xbc 149) 28 = .ok (.bipush 41, 2) := by decide +kernel
theorem d149_30 : decode (xbc 149) 30 = .ok (.iload_n 1, 1) := by decide +kernel
theorem d149_31 : decode (xbc 149) 31 = .ok (.iadd, 1) := by decide +kernel
theorem d149_32 : decode (xbc 149) 32 = .ok (.iaload, 1) := by decide +kernel
theorem d149_33 : decode (xbc 149) 33 = .ok (.ireturn, 1) := by decide +kernel
theorem d150_0 : decode (xbc 150) 0 = .ok (.iload_n 1, 1) := by decide +kernel
theorem d150_1 : decode (xbc 150) 1 = .ok (.iconst 0, 1) := by decide +kernel
theorem d150_2 : decode (xbc 150) 2 = .ok (.bipush 6, 2) := by decide +kernel
theorem d150_4 : decode (xbc 150) 4 = .ok (.invokestatic 38, 3) := by decide +kernel
theorem d150_7 : decode (xbc 150) 7 = .ok (.ifCond .ne 6, 3) := by decide +kernel
theorem d150_10 : decode (xbc 150) 10 = .ok (.bipush (-2), 2) := by decide +kernel
theorem d150_12 : decode (xbc 150) 12 = .ok (.ireturn, 1) := by decide +kernel
theorem d150_13 : decode (xbc 150) 13 = .ok (.aload_n 0, 1) := by decide +kernel
theorem d150_14 : decode (xbc 150) 14 = .ok (.invokevirtual 127, 3) := by decide +kernel
theorem d150_17 : decode (xbc 150) 17 = .ok (.ifCond .ge 6, 3) := by decide +kernel
theorem d150_20 : decode (xbc 150) 20 = .ok (.bipush (-5), 2) := by decide +kernel
theorem d150_22 : decode (xbc 150) 22 = .ok (.ireturn, 1) := by decide +kernel
theorem d150_23 : decode (xbc 150) 23 = .ok (.iload_n 1, 1) := by decide +kernel
theorem d150_24 : decode (xbc 150) 24 = .ok (.tableswitch 67 0 4 #[36, 44, 52, 57, 62], 36) := by decide +kernel
theorem d150_60 : decode (xbc 150) 60 = .ok (.aload_n 0, 1) := by decide +kernel
theorem d150_61 : decode (xbc 150) 61 = .ok (.getfield 13, 3) := by decide +kernel
theorem d150_64 : decode (xbc 150) 64 = .ok (.bipush 40, 2) := by decide +kernel
theorem d150_66 : decode (xbc 150) 66 = .ok (.iaload, 1) := by decide +kernel
theorem d150_67 : decode (xbc 150) 67 = .ok (.ireturn, 1) := by decide +kernel
theorem d150_68 : decode (xbc 150) 68 = .ok (.aload_n 0, 1) := by decide +kernel
theorem d150_69 : decode (xbc 150) 69 = .ok (.getfield 13, 3) := by decide +kernel
theorem d150_72 : decode (xbc 150) 72 = .ok (.bipush 42, 2) := by decide +kernel
theorem d150_74 : decode (xbc 150) 74 = .ok (.iaload, 1) := by decide +kernel
theorem d150_75 : decode (xbc 150) 75 = .ok (.ireturn, 1) := by decide +kernel
theorem d150_76 : decode (xbc 150) 76 = .ok (.aload_n 0, 1) := by decide +kernel
theorem d150_77 : decode (xbc 150) 77 = .ok (.getfield 42, 3) := by decide +kernel
theorem d150_80 : decode (xbc 150) 80 = .ok (.ireturn, 1) := by decide +kernel
theorem d150_81 : decode (xbc 150) 81 = .ok (.aload_n 0, 1) := by decide +kernel
theorem d150_82 : decode (xbc 150) 82 = .ok (.getfield 46, 3) := by decide +kernel
theorem d150_85 : decode (xbc 150) 85 = .ok (.ireturn, 1) := by decide +kernel
theorem d150_86 : decode (xbc 150) 86 = .ok (.aload_n 0, 1) := by decide +kernel
theorem d150_87 : decode (xbc 150) 87 = .ok (.getfield 49, 3) := by decide +kernel
theorem d150_90 : decode (xbc 150) 90 = .ok (.ireturn, 1) := by decide +kernel
theorem d150_91 : decode (xbc 150) 91 = .ok (.iload_n 1, 1) := by decide +kernel
theorem d150_92 : decode (xbc 150) 92 = .ok (.iconst 5, 1) := by decide +kernel
theorem d150_93 : decode (xbc 150) 93 = .ok (.if_icmp .ne 10, 3) := by decide +kernel
theorem d150_96 : decode (xbc 150) 96 = .ok (.aload_n 0, 1) := by decide +kernel
theorem d150_97 : decode (xbc 150) 97 = .ok (.getfield 52, 3) := by decide +kernel
theorem d150_100 : decode (xbc 150) 100 = .ok (.goto 7, 3) := by decide +kernel
theorem d150_103 : decode (xbc 150) 103 = .ok (.aload_n 0, 1) := by decide +kernel
theorem d150_104 : decode (xbc 150) 104 = .ok (.getfield 55, 3) := by decide +kernel
theorem d150_107 : decode (xbc 150) 107 = .ok (.ireturn, 1) := by decide +kernel
theorem d151_0 : decode (xbc 151) 0 = .ok (.iload_n 1, 1) := by decide +kernel
theorem d151_1 : decode (xbc 151) 1 = .ok (.iload_n 2, 1) := by decide +kernel
theorem d151_2 : decode (xbc 151) 2 = .ok (.invokestatic 134, 3) := by decide +kernel
theorem d151_5 : decode (xbc 151) 5 = .ok (.ifCond .ne 6, 3) := by decide +kernel
theorem d151_8 : decode (xbc 151) 8 = .ok (.bipush (-2), 2) := by decide +kernel
theorem d151_10 : decode (xbc 151) 10 = .ok (.ireturn, 1) := by decide +kernel
theorem d151_11 : decode (xbc 151) 11 = .ok (.aload_n 0, 1) := by decide +kernel
theorem d151_12 : decode (xbc 151) 12 = .ok (.invokevirtual 82, 3) := by decide +kernel
theorem d151_15 : decode (xbc 151) 15 = .ok (.aload_n 0, 1) := by decide +kernel
theorem d151_16 : decode (xbc 151) 16 = .ok (.iconst 1, 1) := by decide +kernel
theorem d151_17 : decode (xbc 151) 17 = .ok (.iload_n 1, 1) := by decide +kernel
theorem d151_18 : decode (xbc 151) 18 = .ok (.iload_n 2, 1) := by decide +kernel
theorem d151_19 : decode (xbc 151) 19 = .ok (.invokevirtual 137, 3) := by decide +kernel
theorem d151_22 : decode (xbc 151) 22 = .ok (.ireturn, 1) := by decide +kernel
theorem d152_0 : decode (xbc 152) 0 = .ok (.iload_n 0, 1) := by decide +kernel
theorem d152_1 : decode (xbc 152) 1 = .ok (.iconst 0, 1) := by decide +kernel
theorem d152_2 : decode (xbc 152) 2 = .ok (.sipush 9999, 3) := by decide +kernel
theorem d152_5 : decode (xbc 152) 5 = .ok (.invokestatic 38, 3) := by decide +kernel
theorem d152_8 : decode (xbc 152) 8 = .ok (.ifCond .eq 17, 3) := by decide +kernel
theorem d152_11 : decode (xbc 152) 11 = .ok (.iload_n 1, 1) := by decide +kernel
theorem d152_12 : decode (xbc 152) 12 = .ok (.iconst 1, 1) := by decide +kernel
theorem d152_13 : decode (xbc 152) 13 = .ok (.bipush 100, 2) := by decide +kernel
theorem d152_15 : decode (xbc 152) 15 = .ok (.invokestatic 38, 3) := by decide +kernel
theorem d152_18 : decode (xbc 152) 18 = .ok (.ifCond .eq 7, 3) := by decide +kernel
theorem d152_21 : decode (xbc 152) 21 = .ok (.iconst 1, 1) := by decide +kernel
theorem d152_22 : decode (xbc 152) 22 = .ok (.goto 4, 3) := by decide +kernel
theorem d152_25 : decode (xbc 152) 25 = .ok (.iconst 0, 1) := by decide +kernel
theorem d152_26 : decode (xbc 152) 26 = .ok (.ireturn, 1) := by decide +kernel
theorem d153_0 : decode (xbc 153) 0 = .ok (.bipush (-6), 2) := by decide +kernel
theorem d153_2 : decode (xbc 153) 2 = .ok (.istore 4, 2) := by decide +kernel
theorem d153_4 : decode (xbc 153) 4 = .ok (.iconst 0, 1) := by decide +kernel
theorem d153_5 : decode (xbc 153) 5 = .ok (.istore 5, 2) := by decide +kernel
theorem d153_7 : decode (xbc 153) 7 = .ok (.iload 5, 2) := by decide +kernel
theorem d153_9 : decode (xbc 153) 9 = .ok (.bipush 8, 2) := by decide +kernel
theorem d153_11 : decode (xbc 153) 11 = .ok (.if_icmp .ge 47, 3) := by decide +kernel
theorem d153_14 : decode (xbc 153) 14 = .ok (.aload_n 0, 1) := by decide +kernel
theorem d153_15 : decode (xbc 153) 15 = .ok (.getfield 13, 3) := by decide +kernel
theorem d153_18 : decode (xbc 153) 18 = .ok (.iload 5, 2) := by decide +kernel
theorem d153_20 : decode (xbc 153) 20 = .ok (.iaload, 1) := by decide +kernel
theorem d153_21 : decode (xbc 153) 21 = .ok (.iconst 1, 1) := by decide +kernel
theorem d153_22 : decode (xbc 153) 22 = .ok (.if_icmp .ne 26, 3) := by decide +kernel
theorem d153_25 : decode (xbc 153) 25 = .ok (.aload_n 0, 1) := by decide +kernel
theorem d153_26 : decode (xbc 153) 26 = .ok (.iload 5, 2) := by decide +kernel
theorem d153_28 : decode (xbc 153) 28 = .ok (.iload_n 1, 1) := by decide +kernel
theorem d153_29 : decode (xbc 153) 29 = .ok (.invokevirtual 130, 3) := by decide +kernel
theorem d153_32 : decode (xbc 153) 32 = .ok (.ifCond .eq 16, 3) := by decide +kernel
theorem d153_35 : decode (xbc 153) 35 = .ok (.aload_n 0, 1) := by decide +kernel
theorem d153_36 : decode (xbc 153) 36 = .ok (.iload 4, 2) := by decide +kernel
theorem d153_38 : decode (xbc 153) 38 = .ok (.iload 5, 2) := by decide +kernel
theorem d153_40 : decode (xbc 153) 40 = .ok (.iload_n 2, 1) := by decide +kernel
theorem d153_41 : decode (xbc 153) 41 = .ok (.iload_n 3, 1) := by decide +kernel
theorem d153_42 : decode (xbc 153) 42 = .ok (.invokevirtual 70, 3) := by decide +kernel
theorem d153_45 : decode (xbc 153) 45 = .ok (.goto 5, 3) := by decide +kernel
theorem d153_48 : decode (xbc 153) 48 = .ok (.iload 4, 2) := by decide +kernel
theorem d153_50 : decode (xbc 153) 50 = .ok (.istore 4, 2) := by decide +kernel
theorem d153_52 : decode (xbc 153) 52 = .ok (.iinc 5 1, 3) := by decide +kernel
theorem d153_55 : decode (xbc 153) 55 = .ok (.goto (-48), 3) := by decide +kernel
theorem d153_58 : decode (xbc 153) 58 = .ok (.iload 4, 2) := by decide +kernel
theorem d153_60 : decode (xbc 153) 60 = .ok (.ireturn, 1) := by decide +kernel
theorem d154_0 : decode (xbc 154) 0 = .ok (.iconst 4, 1) := by decide +kernel
theorem d154_1 : decode (xbc 154) 1 = .ok (.aload_n 0, 1) := by decide +kernel
theorem d154_2 : decode (xbc 154) 2 = .ok (.getfield 13, 3) := by decide +kernel
theorem d154_5 : decode (xbc 154) 5 = .ok (.bipush 16, 2) := by decide +kernel
theorem d154_7 : decode (xbc 154) 7 = .ok (.iload_n 1, 1) := by decide +kernel
theorem d154_8 : decode (xbc 154) 8 = .ok (.iadd, 1) := by decide +kernel
theorem d154_9 : decode (xbc 154) 9 = .ok (.iaload, 1) := by decide +kernel
theorem d154_10 : decode (xbc 154) 10 = .ok (.iconst 2, 1) := by decide +kernel
theorem d154_11 : decode (xbc 154) 11 = .ok (.idiv, 1) := by decide +kernel
theorem d154_12 : decode (xbc 154) 12 = .ok (.iadd, 1) := by decide +kernel
theorem d154_13 : decode (xbc 154) 13 = .ok (.istore_n 3, 1) := by decide +kernel
theorem d154_14 : decode (xbc 154) 14 = .ok (.iload_n 3, 1) := by decide +kernel
theorem d154_15 : decode (xbc 154) 15 = .ok (.iload_n 2, 1) := by decide +kernel
theorem d154_16 : decode (xbc 154) 16 = .ok (.if_icmp .le 10, 3) := by decide +kernel
theorem d154_19 : decode (xbc 154) 19 = .ok (.iload_n 3, 1) := by decide +kernel
theorem d154_20 : decode (xbc 154) 20 = .ok (.iconst 2, 1) := by decide +kernel
theorem d154_21 : decode (xbc 154) 21 = .ok (.idiv, 1) := by decide +kernel
theorem d154_22 : decode (xbc 154) 22 = .ok (.istore_n 3, 1) := by decide +kernel
theorem d154_23 : decode (xbc 154) 23 = .ok (.goto (-9), 3) := by decide +kernel
theorem d154_26 : decode (xbc 154) 26 = .ok (.iload_n 3, 1) := by decide +kernel
theorem d154_27 : decode (xbc 154) 27 = .ok (.iload_n 2, 1) := by decide +kernel
theorem d154_28 : decode (xbc 154) 28 = .ok (.if_icmp .ne 7, 3) := by decide +kernel
theorem d154_31 : decode (xbc 154) 31 = .ok (.iconst 1, 1) := by decide +kernel
theorem d154_32 : decode (xbc 154) 32 = .ok (.goto 4, 3) := by decide +kernel
theorem d154_35 : decode (xbc 154) 35 = .ok (.iconst 0, 1) := by decide +kernel
theorem d154_36 : decode (xbc 154) 36 = .ok (.ireturn, 1) := by decide +kernel
theorem d155_0 : decode (xbc 155) 0 = .ok (.iload_n 1, 1) := by decide +kernel
theorem d155_1 : decode (xbc 155) 1 = .ok (.iconst 0, 1) := by decide +kernel
theorem d155_2 : decode (xbc 155) 2 = .ok (.iconst 1, 1) := by decide +kernel
theorem d155_3 : decode (xbc 155) 3 = .ok (.invokestatic 38, 3) := by decide +kernel
theorem d155_6 : decode (xbc 155) 6 = .ok (.ifCond .ne 7, 3) := by decide +kernel
theorem d155_9 : decode (xbc 155) 9 = .ok (.ldc2_w 156, 3) := by decide +kernel
theorem d155_12 : decode (xbc 155) 12 = .ok (.lreturn, 1) := by decide +kernel
theorem d155_13 : decode (xbc 155) 13 = .ok (.aload_n 0, 1) := by decide +kernel
theorem d155_14 : decode (xbc 155) 14 = .ok (.invokevirtual 82, 3) := by decide +kernel
theorem d155_17 : decode (xbc 155) 17 = .ok (.aload_n 0, 1) := by decide +kernel
theorem d155_18 : decode (xbc 155) 18 = .ok (.invokevirtual 158, 3) := by decide +kernel
theorem d155_21 : decode (xbc 155) 21 = .ok (.ifCond .ge 9, 3) := by decide +kernel
theorem d155_24 : decode (xbc 155) 24 = .ok (.ldc2_w 161, 3) := by decide +kernel
theorem d155_27 : decode (xbc 155) 27 = .ok (.goto 17, 3) := by decide +kernel
theorem d155_30 : decode (xbc 155) 30 = .ok (.aload_n 0, 1) := by decide +kernel
theorem d155_31 : decode (xbc 155) 31 = .ok (.getfield 153, 3) := by decide +kernel
theorem d155_34 : decode (xbc 155) 34 = .ok (.i2l, 1) := by decide +kernel
theorem d155_35 : decode (xbc 155) 35 = .ok (.aload_n 0, 1) := by decide +kernel
theorem d155_36 : decode (xbc 155) 36 = .ok (.getfield 150, 3) := by decide +kernel
theorem d155_39 : decode (xbc 155) 39 = .ok (.i2l, 1) := by decide +kernel
theorem d155_40 : decode (xbc 155) 40 = .ok (.iload_n 1, 1) := by decide +kernel
theorem d155_41 : decode (xbc 155) 41 = .ok (.invokestatic 163, 3) := by decide +kernel
theorem d155_44 : decode (xbc 155) 44 = .ok (.lreturn, 1) := by decide +kernel
theorem d156_0 : decode (xbc 156) 0 = .ok (.bipush (-6), 2) := by decide +kernel
theorem d156_2 : decode (xbc 156) 2 = .ok (.istore_n 1, 1) := by decide +kernel
theorem d156_3 : decode (xbc 156) 3 = .ok (.bipush 7, 2) := by decide +kernel
theorem d156_5 : decode (xbc 156) 5 = .ok (.istore_n 2, 1) := by decide +kernel
theorem d156_6 : decode (xbc 156) 6 = .ok (.iload_n 2, 1) := by decide +kernel
theorem d156_7 : decode (xbc 156) 7 = .ok (.ifCond .le 73, 3) := by decide +kernel
theorem d156_10 : decode (xbc 156) 10 = .ok (.aload_n 0, 1) := by decide +kernel
theorem d156_11 : decode (xbc 156) 11 = .ok (.iload_n 2, 1) := by decide +kernel
theorem d156_12 : decode (xbc 156) 12 = .ok (.aload_n 0, 1) := by decide +kernel
theorem d156_13 : decode (xbc 156) 13 = .ok (.iload_n 2, 1) := by decide +kernel
theorem d156_14 : decode (xbc 156) 14 = .ok (.aload_n 0, 1) := by decide +kernel
theorem d156_15 : decode (xbc 156) 15 = .ok (.getfield 13, 3) := by decide +kernel
theorem d156_18 : decode (xbc 156) 18 = .ok (.bipush 40, 2) := by decide +kernel
theorem d156_20 : decode (xbc 156) 20 = .ok (.iaload, 1) := by decide +kernel
theorem d156_21 : decode (xbc 156) 21 = .ok (.iconst 1, 1) := by decide +kernel
theorem d156_22 : decode (xbc 156) 22 = .ok (.invokevirtual 137, 3) := by decide +kernel
theorem d156_25 : decode (xbc 156) 25 = .ok (.invokevirtual 147, 3) := by decide +kernel
theorem d156_28 : decode (xbc 156) 28 = .ok (.ifCond .eq 46, 3) := by decide +kernel
theorem d156_31 : decode (xbc 156) 31 = .ok (.iload_n 1, 1) := by decide +kernel
theorem d156_32 : decode (xbc 156) 32 = .ok (.ifCond .lt 24, 3) := by decide +kernel
theorem d156_35 : decode (xbc 156) 35 = .ok (.aload_n 0, 1) := by decide +kernel
theorem d156_36 : decode (xbc 156) 36 = .ok (.getfield 144, 3) := by decide +kernel
theorem d156_39 : decode (xbc 156) 39 = .ok (.aload_n 0, 1) := by decide +kernel
theorem d156_40 : decode (xbc 156) 40 = .ok (.getfield 150, 3) := by decide +kernel
theorem d156_43 : decode (xbc 156) 43 = .ok (.imul, 1) := by decide +kernel
theorem d156_44 : decode (xbc 156) 44 = .ok (.aload_n 0, 1) := by decide +kernel
theorem d156_45 : decode (xbc 156) 45 = .ok (.getfield 153, 3) := by decide +kernel
theorem d156_48 : decode (xbc 156) 48 = .ok (.aload_n 0, 1) := by decide +kernel
theorem d156_49 : decode (xbc 156) 49 = .ok (.getfield 141, 3) := by decide +kernel
theorem d156_52 : decode (xbc 156) 52 = .ok (.imul, 1) := by decide +kernel
theorem d156_53 : decode (xbc 156) 53 = .ok (.if_icmp .ge 21, 3) := by decide +kernel
theorem d156_56 : decode (xbc 156) 56 = .ok (.iload_n 2, 1) := by decide +kernel
theorem d156_57 : decode (xbc 156) 57 = .ok (.istore_n 1, 1) := by decide +kernel
theorem d156_58 : decode (xbc 156) 58 = .ok (.aload_n 0, 1) := by decide +kernel
theorem d156_59 : decode (xbc 156) 59 = .ok (.aload_n 0, 1) := by decide +kernel
theorem d156_60 : decode (xbc 156) 60 = .ok (.getfield 144, 3) := by decide +kernel
theorem d156_63 : decode (xbc 156) 63 = .ok (.putfield 153, 3) := by decide +kernel
theorem d156_66 : decode (xbc 156) 66 = .ok (.aload_n 0, 1) := by decide +kernel
theorem d156_67 : decode (xbc 156) 67 = .ok (.aload_n 0, 1) := by decide +kernel
theorem d156_68 : decode (xbc 156) 68 = .ok (.getfield 141, 3) := by decide +kernel
theorem d156_71 : decode (xbc 156) 71 = .ok (.putfield 150, 3) := by decide +kernel
theorem d156_74 : decode (xbc 156) 74 = .ok (.iinc 2 (-1), 3) := by decide +kernel
theorem d156_77 : decode (xbc 156) 77 = .ok (.goto (-71), 3) := by decide +kernel
theorem d156_80 : decode (xbc 156) 80 = .ok (.iload_n 1, 1) := by decide +kernel
theorem d156_81 : decode (xbc 156) 81 = .ok (.ireturn, 1) := by decide +kernel
theorem d157_0 : decode (xbc 157) 0 = .ok (.iconst 0, 1) := by decide +kernel
theorem d157_1 : decode (xbc 157) 1 = .ok (.istore_n 3, 1) := by decide +kernel
theorem d157_2 : decode (xbc 157) 2 = .ok (.iconst 0, 1) := by decide +kernel
theorem d157_3 : decode (xbc 157) 3 = .ok (.istore 4, 2) := by decide +kernel
theorem d157_5 : decode (xbc 157) 5 = .ok (.iload 4, 2) := by decide +kernel
theorem d157_7 : decode (xbc 157) 7 = .ok (.bipush 8, 2) := by decide +kernel
theorem d157_9 : decode (xbc 157) 9 = .ok (.if_icmp .ge 149, 3) := by decide +kernel
theorem d157_12 : decode (xbc 157) 12 = .ok (.iload_n 2, 1) := by decide +kernel
theorem d157_13 : decode (xbc 157) 13 = .ok (.ifCond .lt 145, 3) := by decide +kernel
theorem d157_16 : decode (xbc 157) 16 = .ok (.aload_n 0, 1) := by decide +kernel
theorem d157_17 : decode (xbc 157) 17 = .ok (.getfield 13, 3) := by decide +kernel
theorem d157_20 : decode (xbc 157) 20 = .ok (.bipush 32, 2) := by decide +kernel
theorem d157_22 : decode (xbc 157) 22 = .ok (.iload 4, 2) := by decide +kernel
theorem d157_24 : decode (xbc 157) 24 = .ok (.iadd, 1) := by decide +kernel
theorem d157_25 : decode (xbc 157) 25 = .ok (.iaload, 1) := by decide +kernel
theorem d157_26 : decode (xbc 157) 26 = .ok (.aload_n 0, 1) := by decide +kernel
theorem d157_27 : decode (xbc 157) 27 = .ok (.getfield 13, 3) := by decide +kernel
theorem d157_30 : decode (xbc 157) 30 = .ok (.bipush 32, 2) := by decide +kernel
theorem d157_32 : decode (xbc 157) 32 = .ok (.iload_n 2, 1) := by decide +kernel
theorem d157_33 : decode (xbc 157) 33 = .ok (.iadd, 1) := by decide +kernel
theorem d157_34 : decode (xbc 157) 34 = .ok (.iaload, 1) := by decide +kernel
theorem d157_35 : decode (xbc 157) 35 = .ok (.isub, 1) := by decide +kernel
theorem d157_36 : decode (xbc 157) 36 = .ok (.istore 5, 2) := by decide +kernel
theorem d157_38 : decode (xbc 157) 38 = .ok (.aload_n 0, 1) := by decide +kernel
theorem d157_39 : decode (xbc 157) 39 = .ok (.getfield 13, 3) := by decide +kernel
theorem d157_42 : decode (xbc 157) 42 = .ok (.iload 4, 2) := by decide +kernel
theorem d157_44 : decode (xbc 157) 44 = .ok (.iaload, 1) := by decide +kernel
theorem d157_45 : decode (xbc 157) 45 = .ok (.iconst 1, 1) := by decide +kernel
theorem d157_46 : decode (xbc 157) 46 = .ok (.if_icmp .ne 106, 3) := by decide +kernel
theorem d157_49 : decode (xbc 157) 49 = .ok (.aload_n 0, 1) := by decide +kernel
theorem d157_50 : decode (xbc 157) 50 = .ok (.iload 4, 2) := by decide +kernel
theorem d157_52 : decode (xbc 157) 52 = .ok (.iload_n 1, 1) := by decide +kernel
theorem d157_53 : decode (xbc 157) 53 = .ok (.invokevirtual 130, 3) := by decide +kernel
theorem d157_56 : decode (xbc 157) 56 = .ok (.ifCond .eq 96, 3) := by decide +kernel
theorem d157_59 : decode (xbc 157) 59 = .ok (.iload 5, 2) := by decide +kernel
theorem d157_61 : decode (xbc 157) 61 = .ok (.ifCond .le 91, 3) := by decide +kernel
theorem d157_64 : decode (xbc 157) 64 = .ok (.aload_n 0, 1) := by decide +kernel
theorem d157_65 : decode (xbc 157) 65 = .ok (.getfield 13, 3) := by decide +kernel
theorem d157_68 : decode (xbc 157) 68 = .ok (.bipush 24, 2) := by decide +kernel
theorem d157_70 : decode (xbc 157) 70 = .ok (.iload_n 2, 1) := by decide +kernel
theorem d157_71 : decode (xbc 157) 71 = .ok (.iadd, 1) := by decide +kernel
theorem d157_72 : decode (xbc 157) 72 = .ok (.iaload, 1) := by decide +kernel
theorem d157_73 : decode (xbc 157) 73 = .ok (.aload_n 0, 1) := by decide +kernel
theorem d157_74 : decode (xbc 157) 74 = .ok (.getfield 13, 3) := by decide +kernel
theorem d157_77 : decode (xbc 157) 77 = .ok (.bipush 24, 2) := by decide +kernel
theorem d157_79 : decode (xbc 157) 79 = .ok (.iload 4, 2) := by decide +kernel
theorem d157_81 : decode (xbc 157) 81 = .ok (.iadd, 1) := by decide +kernel
theorem d157_82 : decode (xbc 157) 82 = .ok (.iaload, 1) := by decide +kernel
theorem d157_83 : decode (xbc 157) 83 = .ok (.isub, 1) := by decide +kernel
theorem d157_84 : decode (xbc 157) 84 = .ok (.istore 6, 2) := by decide +kernel
theorem d157_86 : decode (xbc 157) 86 = .ok (.iload_n 3, 1) := by decide +kernel
theorem d157_87 : decode (xbc 157) 87 = .ok (.ifCond .eq 20, 3) := by decide +kernel
theorem d157_90 : decode (xbc 157) 90 = .ok (.iload 6, 2) := by decide +kernel
theorem d157_92 : decode (xbc 157) 92 = .ok (.aload_n 0, 1) := by decide +kernel
theorem d157_93 : decode (xbc 157) 93 = .ok (.getfield 141, 3) := by decide +kernel
theorem d157_96 : decode (xbc 157) 96 = .ok (.imul, 1) := by decide +kernel
theorem d157_97 : decode (xbc 157) 97 = .ok (.aload_n 0, 1) := by decide +kernel
theorem d157_98 : decode (xbc 157) 98 = .ok (.getfield 144, 3) := by decide +kernel
theorem d157_101 : decode (xbc 157) 101 = .ok (.iload 5, 2) := by decide +kernel
theorem d157_103 : decode (xbc 157) 103 = .ok (.imul, 1) := by decide +kernel
theorem d157_104 : decode (xbc 157) 104 = .ok (.if_icmp .ge 7, 3) := by decide +kernel
theorem d157_107 : decode (xbc 157) 107 = .ok (.iconst 1, 1) := by decide +kernel
theorem d157_108 : decode (xbc 157) 108 = .ok (.goto 4, 3) := by decide +kernel
theorem d157_111 : decode (xbc 157) 111 = .ok (.iconst 0, 1) := by decide +kernel
theorem d157_112 : decode (xbc 157) 112 = .ok (.istore 7, 2) := by decide +kernel
theorem d157_114 : decode (xbc 157) 114 = .ok (.aload_n 0, 1) := by decide +kernel
theorem d157_115 : decode (xbc 157) 115 = .ok (.iload 7, 2) := by decide +kernel
theorem d157_117 : decode (xbc 157) 117 = .ok (.ifCond .eq 8, 3) := by decide +kernel
theorem d157_120 : decode (xbc 157) 120 = .ok (.iload 6, 2) := by decide +kernel
theorem d157_122 : decode (xbc 157) 122 = .ok (.goto 7, 3) := by decide +kernel
theorem d157_125 : decode (xbc 157) 125 = .ok (.aload_n 0, 1) := by decide +kernel
theorem d157_126 : decode (xbc 157) 126 = .ok (.getfield 144, 3) := by decide +kernel
theorem d157_129 : decode (xbc 157) 129 = .ok (.putfield 144, 3) := by decide +kernel
theorem d157_132 : decode (xbc 157) 132 = .ok (.aload_n 0, 1) := by decide +kernel
theorem d157_133 : decode (xbc 157) 133 = .ok (.iload 7, 2) := by decide +kernel
theorem d157_135 : decode (xbc 157) 135 = .ok (.ifCond .eq 8, 3) := by decide +kernel
theorem d157_138 : decode (xbc 157) 138 = .ok (.iload 5, 2) := by decide +kernel
theorem d157_140 : decode (xbc 157) 140 = .ok (.goto 7, 3) := by decide +kernel
theorem d157_143 : decode (xbc 157) 143 = .ok (.aload_n 0, 1) := by decide +kernel
theorem d157_144 : decode (xbc 157) 144 = .ok (.getfield 141, 3) := by decide +kernel
theorem d157_147 : decode (xbc 157) 147 = .ok (.putfield 141, 3) := by decide +kernel
theorem d157_150 : decode (xbc 157) 150 = .ok (.iconst 1, 1) := by decide +kernel
theorem d157_151 : decode (xbc 157) 151 = .ok (.istore_n 3, 1) := by decide +kernel
theorem d157_152 : decode (xbc 157) 152 = .ok (.iinc 4 1, 3) := by decide +kernel
theorem d157_155 : decode (xbc 157) 155 = .ok (.goto (-150), 3) := by decide +kernel
theorem d157_158 : decode (xbc 157) 158 = .ok (.iload_n 3, 1) := by decide +kernel
theorem d157_159 : decode (xbc 157) 159 = .ok (.ireturn, 1) := by decide +kernel
theorem d158_0 : decode (xbc 158) 0 = .ok (.lload_n 0, 1) := by decide +kernel
theorem d158_1 : decode (xbc 158) 1 = .ok (.lconst 0, 1) := by decide +kernel
theorem d158_2 : decode (xbc 158) 2 = .ok (.lcmp, 1) := by decide +kernel
theorem d158_3 : decode (xbc 158) 3 = .ok (.ifCond .ge 8, 3) := by decide +kernel
theorem d158_6 : decode (xbc 158) 6 = .ok (.lload_n 0, 1) := by decide +kernel
theorem d158_7 : decode (xbc 158) 7 = .ok (.lneg, 1) := by decide +kernel
theorem d158_8 : decode (xbc 158) 8 = .ok (.goto 4, 3) := by decide +kernel
theorem d158_11 : decode (xbc 158) 11 = .ok (.lload_n 0, 1) := by decide +kernel
theorem d158_12 : decode (xbc 158) 12 = .ok (.lstore 5, 2) := by decide +kernel
theorem d158_14 : decode (xbc 158) 14 = .ok (.lload_n 2, 1) := by decide +kernel
theorem d158_15 : decode (xbc 158) 15 = .ok (.lstore 7, 2) := by decide +kernel
theorem d158_17 : decode (xbc 158) 17 = .ok (.lload 7, 2) := by decide +kernel
theorem d158_19 : decode (xbc 158) 19 = .ok (.lconst 0, 1) := by decide +kernel
theorem d158_20 : decode (xbc 158) 20 = .ok (.lcmp, 1) := by decide +kernel
theorem d158_21 : decode (xbc 158) 21 = .ok (.ifCond .eq 21, 3) := by decide +kernel
theorem d158_24 : decode (xbc 158) 24 = .ok (.lload 5, 2) := by decide +kernel
theorem d158_26 : decode (xbc 158) 26 = .ok (.lload 7, 2) := by decide +kernel
theorem d158_28 : decode (xbc 158) 28 = .ok (.lrem, 1) := by decide +kernel
theorem d158_29 : decode (xbc 158) 29 = .ok (.lstore 9, 2) := by decide +kernel
theorem d158_31 : decode (xbc 158) 31 = .ok (.lload 7, 2) := by decide +kernel
theorem d158_33 : decode (xbc 158) 33 = .ok (.lstore 5, 2) := by decide +kernel
theorem d158_35 : decode (xbc 158) 35 = .ok (.lload 9, 2) := by decide +kernel
theorem d158_37 : decode (xbc 158) 37 = .ok (.lstore 7, 2) := by decide +kernel
theorem d158_39 : decode (xbc 158) 39 = .ok (.goto (-22), 3) := by decide +kernel
theorem d158_42 : decode (xbc 158) 42 = .ok (.iload 4, 2) := by decide +kernel
theorem d158_44 : decode (xbc 158) 44 = .ok (.ifCond .ne 10, 3) := by decide +kernel
theorem d158_47 : decode (xbc 158) 47 = .ok (.lload_n 0, 1) := by decide +kernel
theorem d158_48 : decode (xbc 158) 48 = .ok (.lload 5, 2) := by decide +kernel
theorem d158_50 : decode (xbc 158) 50 = .ok (.ldiv, 1) := by decide +kernel
theorem d158_51 : decode (xbc 158) 51 = .ok (.goto 7, 3) := by decide +kernel
theorem d158_54 : decode (xbc 158) 54 = .ok (.lload_n 2, 1) := by decide +kernel
theorem d158_55 : decode (xbc 158) 55 = .ok (.lload 5, 2) := by decide +kernel
theorem d158_57 : decode (xbc 158) 57 = .ok (.ldiv, 1) := by decide +kernel
theorem d158_58 : decode (xbc 158) 58 = .ok (.lreturn, 1) := by decide +kernel
theorem d159_0 : decode (xbc 159) 0 = .ok (.aload_n 0, 1) := by decide +kernel
theorem d159_1 : decode (xbc 159) 1 = .ok (.invokevirtual 82, 3) := by decide +kernel
theorem d159_4 : decode (xbc 159) 4 = .ok (.aload_n 0, 1) := by decide +kernel
theorem d159_5 : decode (xbc 159) 5 = .ok (.invokevirtual 158, 3) := by decide +kernel
theorem d159_8 : decode (xbc 159) 8 = .ok (.ireturn, 1) := by decide +kernel
theorem d160_0 : decode (xbc 160) 0 = .ok (.aload_n 0, 1) := by decide +kernel
theorem d160_1 : decode (xbc 160) 1 = .ok (.invokevirtual 82, 3) := by decide +kernel
theorem d160_4 : decode (xbc 160) 4 = .ok (.iload_n 1, 1) := by decide +kernel
theorem d160_5 : decode (xbc 160) 5 = .ok (.iload_n 2, 1) := by decide +kernel
theorem d160_6 : decode (xbc 160) 6 = .ok (.invokestatic 134, 3) := by decide +kernel
theorem d160_9 : decode (xbc 160) 9 = .ok (.ifCond .eq 16, 3) := by decide +kernel
theorem d160_12 : decode (xbc 160) 12 = .ok (.iload_n 1, 1) := by decide +kernel
theorem d160_13 : decode (xbc 160) 13 = .ok (.aload_n 0, 1) := by decide +kernel
theorem d160_14 : decode (xbc 160) 14 = .ok (.getfield 13, 3) := by decide +kernel
theorem d160_17 : decode (xbc 160) 17 = .ok (.bipush 40, 2) := by decide +kernel
theorem d160_19 : decode (xbc 160) 19 = .ok (.iaload, 1) := by decide +kernel
theorem d160_20 : decode (xbc 160) 20 = .ok (.iload_n 2, 1) := by decide +kernel
theorem d160_21 : decode (xbc 160) 21 = .ok (.imul, 1) := by decide +kernel
theorem d160_22 : decode (xbc 160) 22 = .ok (.if_icmp .ge 6, 3) := by decide +kernel
theorem d160_25 : decode (xbc 160) 25 = .ok (.bipush (-2), 2) := by decide +kernel
theorem d160_27 : decode (xbc 160) 27 = .ok (.ireturn, 1) := by decide +kernel
theorem d160_28 : decode (xbc 160) 28 = .ok (.aload_n 0, 1) := by decide +kernel
theorem d160_29 : decode (xbc 160) 29 = .ok (.iconst 1, 1) := by decide +kernel
theorem d160_30 : decode (xbc 160) 30 = .ok (.aload_n 0, 1) := by decide +kernel
theorem d160_31 : decode (xbc 160) 31 = .ok (.getfield 13, 3) := by decide +kernel
theorem d160_34 : decode (xbc 160) 34 = .ok (.bipush 40, 2) := by decide +kernel
theorem d160_36 : decode (xbc 160) 36 = .ok (.iaload, 1) := by decide +kernel
theorem d160_37 : decode (xbc 160) 37 = .ok (.iconst 1, 1) := by decide +kernel
theorem d160_38 : decode (xbc 160) 38 = .ok (.invokevirtual 137, 3) := by decide +kernel
theorem d160_41 : decode (xbc 160) 41 = .ok (.istore_n 3, 1) := by decide +kernel
theorem d160_42 : decode (xbc 160) 42 = .ok (.iconst 0, 1) := by decide +kernel
theorem d160_43 : decode (xbc 160) 43 = .ok (.istore 4, 2) := by decide +kernel
theorem d160_45 : decode (xbc 160) 45 = .ok (.iload_n 3, 1) := by decide +kernel
theorem d160_46 : decode (xbc 160) 46 = .ok (.ifCond .lt 69, 3) := by decide +kernel
theorem d160_49 : decode (xbc 160) 49 = .ok (.iload 4, 2) := by decide +kernel
theorem d160_51 : decode (xbc 160) 51 = .ok (.iconst 1, 1) := by decide +kernel
theorem d160_52 : decode (xbc 160) 52 = .ok (.iload_n 3, 1) := by decide +kernel
theorem d160_53 : decode (xbc 160) 53 = .ok (.ishl, 1) := by decide +kernel
theorem d160_54 : decode (xbc 160) 54 = .ok (.ior, 1) := by decide +kernel
theorem d160_55 : decode (xbc 160) 55 = .ok (.istore 4, 2) := by decide +kernel
theorem d160_57 : decode (xbc 160) 57 = .ok (.aload_n 0, 1) := by decide +kernel
theorem d160_58 : decode (xbc 160) 58 = .ok (.iconst 1, 1) := by decide +kernel
theorem d160_59 : decode (xbc 160) 59 = .ok (.iload_n 3, 1) := by decide +kernel
theorem d160_60 : decode (xbc 160) 60 = .ok (.invokevirtual 147, 3) := by decide +kernel
theorem d160_63 : decode (xbc 160) 63 = .ok (.ifCond .eq 22, 3) := by decide +kernel
theorem d160_66 : decode (xbc 160) 66 = .ok (.aload_n 0, 1) := by decide +kernel
theorem d160_67 : decode (xbc 160) 67 = .ok (.getfield 144, 3) := by decide +kernel
theorem d160_70 : decode (xbc 160) 70 = .ok (.iload_n 2, 1) := by decide +kernel
theorem d160_71 : decode (xbc 160) 71 = .ok (.imul, 1) := by decide +kernel
theorem d160_72 : decode (xbc 160) 72 = .ok (.iload_n 1, 1) := by decide +kernel
theorem d160_73 : decode (xbc 160) 73 = .ok (.aload_n 0, 1) := by decide +kernel
theorem d160_74 : decode (xbc 160) 74 = .ok (.getfield 141, 3) := by decide +kernel
theorem d160_77 : decode (xbc 160) 77 = .ok (.imul, 1) := by decide +kernel
theorem d160_78 : decode (xbc 160) 78 = .ok (.if_icmp .gt 7, 3) := by decide +kernel
theorem d160_81 : decode (xbc 160) 81 = .ok (.iconst 1, 1) := by decide +kernel
theorem d160_82 : decode (xbc 160) 82 = .ok (.goto 4, 3) := by decide +kernel
theorem d160_85 : decode (xbc 160) 85 = .ok (.iconst 0, 1) := by decide +kernel
theorem d160_86 : decode (xbc 160) 86 = .ok (.istore 5, 2) := by decide +kernel
theorem d160_88 : decode (xbc 160) 88 = .ok (.iload 5, 2) := by decide +kernel
theorem d160_90 : decode (xbc 160) 90 = .ok (.ifCond .eq 19, 3) := by decide +kernel
theorem d160_93 : decode (xbc 160) 93 = .ok (.aload_n 0, 1) := by decide +kernel
theorem d160_94 : decode (xbc 160) 94 = .ok (.iconst 1, 1) := by decide +kernel
theorem d160_95 : decode (xbc 160) 95 = .ok (.aload_n 0, 1) := by decide +kernel
theorem d160_96 : decode (xbc 160) 96 = .ok (.getfield 144, 3) := by decide +kernel
theorem d160_99 : decode (xbc 160) 99 = .ok (.aload_n 0, 1) := by decide +kernel
theorem d160_100 : decode (xbc 160) 100 = .ok (.getfield 141, 3) := by decide +kernel
theorem d160_103 : decode (xbc 160) 103 = .ok (.invokevirtual 137, 3) := by decide +kernel
theorem d160_106 : decode (xbc 160) 106 = .ok (.goto 5, 3) := by decide +kernel
theorem d160_109 : decode (xbc 160) 109 = .ok (.bipush (-6), 2) := by decide +kernel
theorem d160_111 : decode (xbc 160) 111 = .ok (.istore_n 3, 1) := by decide +kernel
theorem d160_112 : decode (xbc 160) 112 = .ok (.goto (-67), 3) := by decide +kernel
theorem d160_115 : decode (xbc 160) 115 = .ok (.iload 4, 2) := by decide +kernel
theorem d160_117 : decode (xbc 160) 117 = .ok (.ireturn, 1) := by decide +kernel
theorem d161_0 : decode (xbc 161) 0 = .ok (.iload_n 1, 1) := by decide +kernel
theorem d161_1 : decode (xbc 161) 1 = .ok (.invokestatic 78, 3) := by decide +kernel
theorem d161_4 : decode (xbc 161) 4 = .ok (.ifCond .ne 7, 3) := by decide +kernel
theorem d161_7 : decode (xbc 161) 7 = .ok (.ldc2_w 167, 3) := by decide +kernel
theorem d161_10 : decode (xbc 161) 10 = .ok (.lreturn, 1) := by decide +kernel
theorem d161_11 : decode (xbc 161) 11 = .ok (.iload_n 2, 1) := by decide +kernel
theorem d161_12 : decode (xbc 161) 12 = .ok (.iload_n 3, 1) := by decide +kernel
theorem d161_13 : decode (xbc 161) 13 = .ok (.invokestatic 134, 3) := by decide +kernel
theorem d161_16 : decode (xbc 161) 16 = .ok (.ifCond .eq 13, 3) := by decide +kernel
theorem d161_19 : decode (xbc 161) 19 = .ok (.iload 4, 2) := by decide +kernel
theorem d161_21 : decode (xbc 161) 21 = .ok (.iconst 0, 1) := by decide +kernel
theorem d161_22 : decode (xbc 161) 22 = .ok (.iconst 1, 1) := by decide +kernel
theorem d161_23 : decode (xbc 161) 23 = .ok (.invokestatic 38, 3) := by decide +kernel
theorem d161_26 : decode (xbc 161) 26 = .ok (.ifCond .ne 7, 3) := by decide +kernel
theorem d161_29 : decode (xbc 161) 29 = .ok (.ldc2_w 156, 3) := by decide +kernel
theorem d161_32 : decode (xbc 161) 32 = .ok (.lreturn, 1) := by decide +kernel
theorem d161_33 : decode (xbc 161) 33 = .ok (.aload_n 0, 1) := by decide +kernel
theorem d161_34 : decode (xbc 161) 34 = .ok (.getfield 7, 3) := by decide +kernel
theorem d161_37 : decode (xbc 161) 37 = .ok (.bipush 24, 2) := by decide +kernel
theorem d161_39 : decode (xbc 161) 39 = .ok (.iload_n 1, 1) := by decide +kernel
theorem d161_40 : decode (xbc 161) 40 = .ok (.iadd, 1) := by decide +kernel
theorem d161_41 : decode (xbc 161) 41 = .ok (.iaload, 1) := by decide +kernel
theorem d161_42 : decode (xbc 161) 42 = .ok (.i2l, 1) := by decide +kernel
theorem d161_43 : decode (xbc 161) 43 = .ok (.iload_n 3, 1) := by decide +kernel
theorem d161_44 : decode (xbc 161) 44 = .ok (.i2l, 1) := by decide +kernel
theorem d161_45 : decode (xbc 161) 45 = .ok (.lmul, 1) := by decide +kernel
theorem d161_46 : decode (xbc 161) 46 = .ok (.aload_n 0, 1) := by decide +kernel
theorem d161_47 : decode (xbc 161) 47 = .ok (.getfield 7, 3) := by decide +kernel
theorem d161_50 : decode (xbc 161) 50 = .ok (.bipush 32, 2) := by decide +kernel
theorem d161_52 : decode (xbc 161) 52 = .ok (.iload_n 1, 1) := by decide +kernel
theorem d161_53 : decode (xbc 161) 53 = .ok (.iadd, 1) := by decide +kernel
theorem d161_54 : decode (xbc 161) 54 = .ok (.iaload, 1) := by decide +kernel
theorem d161_55 : decode (xbc 161) 55 = .ok (.i2l, 1) := by decide +kernel
theorem d161_56 : decode (xbc 161) 56 = .ok (.iload_n 2, 1) := by decide +kernel
theorem d161_57 : decode (xbc 161) 57 = .ok (.i2l, 1) := by decide +kernel
theorem d161_58 : decode (xbc 161) 58 = .ok (.lmul, 1) := by decide +kernel
theorem d161_59 : decode (xbc 161) 59 = .ok (.ladd, 1) := by decide +kernel
theorem d161_60 : decode (xbc 161) 60 = .ok (.iload_n 3, 1) := by decide +kernel
theorem d161_61 : decode (xbc 161) 61 = .ok (.i2l, 1) := by decide +kernel
theorem d161_62 : decode (xbc 161) 62 = .ok (.iload 4, 2) := by decide +kernel
theorem d161_64 : decode (xbc 161) 64 = .ok (.invokestatic 163, 3) := by decide +kernel
theorem d161_67 : decode (xbc 161) 67 = .ok (.lreturn, 1) := by decide +kernel
theorem d162_0 : decode (xbc 162) 0 = .ok (.iload_n 1, 1) := by decide +kernel
theorem d162_1 : decode (xbc 162) 1 = .ok (.invokestatic 78, 3) := by decide +kernel
theorem d162_4 : decode (xbc 162) 4 = .ok (.ifCond .ne 7, 3) := by decide +kernel
theorem d162_7 : decode (xbc 162) 7 = .ok (.ldc2_w 167, 3) := by decide +kernel
theorem d162_10 : decode (xbc 162) 10 = .ok (.lreturn, 1) := by decide +kernel
theorem d162_11 : decode (xbc 162) 11 = .ok (.iload_n 2, 1) := by decide +kernel
theorem d162_12 : decode (xbc 162) 12 = .ok (.iload_n 3, 1) := by decide +kernel
theorem d162_13 : decode (xbc 162) 13 = .ok (.invokestatic 134, 3) := by decide +kernel
theorem d162_16 : decode (xbc 162) 16 = .ok (.ifCond .eq 13, 3) := by decide +kernel
theorem d162_19 : decode (xbc 162) 19 = .ok (.iload 4, 2) := by decide +kernel
theorem d162_21 : decode (xbc 162) 21 = .ok (.iconst 0, 1) := by decide +kernel
theorem d162_22 : decode (xbc 162) 22 = .ok (.iconst 2, 1) := by decide +kernel
theorem d162_23 : decode (xbc 162) 23 = .ok (.invokestatic 38, 3) := by decide +kernel
theorem d162_26 : decode (xbc 162) 26 = .ok (.ifCond .ne 7, 3) := by decide +kernel
theorem d162_29 : decode (xbc 162) 29 = .ok (.ldc2_w 156, 3) := by decide +kernel
theorem d162_32 : decode (xbc 162) 32 = .ok (.lreturn, 1) := by decide +kernel
theorem d162_33 : decode (xbc 162) 33 = .ok (.aload_n 0, 1) := by decide +kernel
theorem d162_34 : decode (xbc 162) 34 = .ok (.getfield 7, 3) := by decide +kernel
theorem d162_37 : decode (xbc 162) 37 = .ok (.bipush 24, 2) := by decide +kernel
theorem d162_39 : decode (xbc 162) 39 = .ok (.iload_n 1, 1) := by decide +kernel
theorem d162_40 : decode (xbc 162) 40 = .ok (.iadd, 1) := by decide +kernel
theorem d162_41 : decode (xbc 162) 41 = .ok (.iaload, 1) := by decide +kernel
theorem d162_42 : decode (xbc 162) 42 = .ok (.i2l, 1) := by decide +kernel
theorem d162_43 : decode (xbc 162) 43 = .ok (.iload_n 3, 1) := by decide +kernel
theorem d162_44 : decode (xbc 162) 44 = .ok (.i2l, 1) := by decide +kernel
theorem d162_45 : decode (xbc 162) 45 = .ok (.lmul, 1) := by decide +kernel
theorem d162_46 : decode (xbc 162) 46 = .ok (.aload_n 0, 1) := by decide +kernel
theorem d162_47 : decode (xbc 162) 47 = .ok (.getfield 7, 3) := by decide +kernel
theorem d162_50 : decode (xbc 162) 50 = .ok (.bipush 32, 2) := by decide +kernel
theorem d162_52 : decode (xbc 162) 52 = .ok (.iload_n 1, 1) := by decide +kernel
theorem d162_53 : decode (xbc 162) 53 = .ok (.iadd, 1) := by decide +kernel
theorem d162_54 : decode (xbc 162) 54 = .ok (.iaload, 1) := by decide +kernel
theorem d162_55 : decode (xbc 162) 55 = .ok (.i2l, 1) := by decide +kernel
theorem d162_56 : decode (xbc 162) 56 = .ok (.iload_n 2, 1) := by decide +kernel
theorem d162_57 : decode (xbc 162) 57 = .ok (.i2l, 1) := by decide +kernel
theorem d162_58 : decode (xbc 162) 58 = .ok (.lmul, 1) := by decide +kernel
theorem d162_59 : decode (xbc 162) 59 = .ok (.ladd, 1) := by decide +kernel
theorem d162_60 : decode (xbc 162) 60 = .ok (.lstore 5, 2) := by decide +kernel
theorem d162_62 : decode (xbc 162) 62 = .ok (.iload 4, 2) := by decide +kernel
theorem d162_64 : decode (xbc 162) 64 = .ok (.iconst 1, 1) := by decide +kernel
theorem d162_65 : decode (xbc 162) 65 = .ok (.if_icmp .ne 11, 3) := by decide +kernel
theorem d162_68 : decode (xbc 162) 68 = .ok (.lload 5, 2) := by decide +kernel
theorem d162_70 : decode (xbc 162) 70 = .ok (.iload_n 3, 1) := by decide +kernel
theorem d162_71 : decode (xbc 162) 71 = .ok (.i2l, 1) := by decide +kernel
theorem d162_72 : decode (xbc 162) 72 = .ok (.invokestatic 189, 3) := by decide +kernel
theorem d162_75 : decode (xbc 162) 75 = .ok (.lreturn, 1) := by decide +kernel
theorem d162_76 : decode (xbc 162) 76 = .ok (.lload 5, 2) := by decide +kernel
theorem d162_78 : decode (xbc 162) 78 = .ok (.iload_n 3, 1) := by decide +kernel
theorem d162_79 : decode (xbc 162) 79 = .ok (.i2l, 1) := by decide +kernel
theorem d162_80 : decode (xbc 162) 80 = .ok (.invokestatic 193, 3) := by decide +kernel
theorem d162_83 : decode (xbc 162) 83 = .ok (.lstore 7, 2) := by decide +kernel
theorem d162_85 : decode (xbc 162) 85 = .ok (.iload 4, 2) := by decide +kernel
theorem d162_87 : decode (xbc 162) 87 = .ok (.ifCond .ne 11, 3) := by decide +kernel
theorem d162_90 : decode (xbc 162) 90 = .ok (.lload 7, 2) := by decide +kernel
theorem d162_92 : decode (xbc 162) 92 = .ok (.invokestatic 196, 3) := by decide +kernel
theorem d162_95 : decode (xbc 162) 95 = .ok (.goto 8, 3) := by decide +kernel
theorem d162_98 : decode (xbc 162) 98 = .ok (.lload 7, 2) := by decide +kernel
theorem d162_100 : decode (xbc 162) 100 = .ok (.invokestatic 200, 3) := by decide +kernel
theorem d162_103 : decode (xbc 162) 103 = .ok (.lreturn, 1) := by decide +kernel
theorem d163_0 : decode (xbc 163) 0 = .ok (.lload_n 0, 1) := by decide +kernel
theorem d163_1 : decode (xbc 163) 1 = .ok (.lconst 0, 1) := by decide +kernel
theorem d163_2 : decode (xbc 163) 2 = .ok (.lcmp, 1) := by decide +kernel
theorem d163_3 : decode (xbc 163) 3 = .ok (.ifCond .ne 5, 3) := by decide +kernel
theorem d163_6 : decode (xbc 163) 6 = .ok (.lconst 0, 1) := by decide +kernel
theorem d163_7 : decode (xbc 163) 7 = .ok (.lreturn, 1) := by decide +kernel
theorem d163_8 : decode (xbc 163) 8 = .ok (.lload_n 0, 1) := by decide +kernel
theorem d163_9 : decode (xbc 163) 9 = .ok (.lconst 0, 1) := by decide +kernel
theorem d163_10 : decode (xbc 163) 10 = .ok (.lcmp, 1) := by decide +kernel
theorem d163_11 : decode (xbc 163) 11 = .ok (.ifCond .ge 8, 3) := by decide +kernel
theorem d163_14 : decode (xbc 163) 14 = .ok (.lload_n 0, 1) := by decide +kernel
theorem d163_15 : decode (xbc 163) 15 = .ok (.lneg, 1) := by decide +kernel
theorem d163_16 : decode (xbc 163) 16 = .ok (.goto 4, 3) := by decide +kernel
theorem d163_19 : decode (xbc 163) 19 = .ok (.lload_n 0, 1) := by decide +kernel
theorem d163_20 : decode (xbc 163) 20 = .ok (.lstore 4, 2) := by decide +kernel
theorem d163_22 : decode (xbc 163) 22 = .ok (.lload 4, 2) := by decide +kernel
theorem d163_24 : decode (xbc 163) 24 = .ok (.lload_n 2, 1) := by decide +kernel
theorem d163_25 : decode (xbc 163) 25 = .ok (.ldiv, 1) := by decide +kernel
theorem d163_26 : decode (xbc 163) 26 = .ok (.lstore 6, 2) := by decide +kernel
theorem d163_28 : decode (xbc 163) 28 = .ok (.lload 4, 2) := by decide +kernel
theorem d163_30 : decode (xbc 163) 30 = .ok (.lload_n 2, 1) := by decide +kernel
theorem d163_31 : decode (xbc 163) 31 = .ok (.lrem, 1) := by decide +kernel
theorem d163_32 : decode (xbc 163) 32 = .ok (.lstore 8, 2) := by decide +kernel
theorem d163_34 : decode (xbc 163) 34 = .ok (.iconst 0, 1) := by decide +kernel
theorem d163_35 : decode (xbc 163) 35 = .ok (.istore 10, 2) := by decide +kernel
theorem d163_37 : decode (xbc 163) 37 = .ok (.lload 6, 2) := by decide +kernel
theorem d163_39 : decode (xbc 163) 39 = .ok (.ldc2_w 183, 3) := by decide +kernel
theorem d163_42 : decode (xbc 163) 42 = .ok (.lcmp, 1) := by decide +kernel
theorem d163_43 : decode (xbc 163) 43 = .ok (.ifCond .ge 36, 3) := by decide +kernel
theorem d163_46 : decode (xbc 163) 46 = .ok (.lload 8, 2) := by decide +kernel
theorem d163_48 : decode (xbc 163) 48 = .ok (.ldc2_w 173, 3) := by decide +kernel
theorem d163_51 : decode (xbc 163) 51 = .ok (.lmul, 1) := by decide +kernel
theorem d163_52 : decode (xbc 163) 52 = .ok (.lstore 8, 2) := by decide +kernel
theorem d163_54 : decode (xbc 163) 54 = .ok (.ldc2_w 173, 3) := by decide +kernel
theorem d163_57 : decode (xbc 163) 57 = .ok (.lload 6, 2) := by decide +kernel
theorem d163_59 : decode (xbc 163) 59 = .ok (.lmul, 1) := by decide +kernel
theorem d163_60 : decode (xbc 163) 60 = .ok (.lload 8, 2) := by decide +kernel
theorem d163_62 : decode (xbc 163) 62 = .ok (.lload_n 2, 1) := by decide +kernel
theorem d163_63 : decode (xbc 163) 63 = .ok (.ldiv, 1) := by decide +kernel
theorem d163_64 : decode (xbc 163) 64 = .ok (.ladd, 1) := by decide +kernel
theorem d163_65 : decode (xbc 163) 65 = .ok (.lstore 6, 2) := by decide +kernel
theorem d163_67 : decode (xbc 163) 67 = .ok (.lload 8, 2) := by decide +kernel
theorem d163_69 : decode (xbc 163) 69 = .ok (.lload_n 2, 1) := by decide +kernel
theorem d163_70 : decode (xbc 163) 70 = .ok (.lrem, 1) := by decide +kernel
theorem d163_71 : decode (xbc 163) 71 = .ok (.lstore 8, 2) := by decide +kernel
theorem d163_73 : decode (xbc 163) 73 = .ok (.iinc 10 (-1), 3) := by decide +kernel
theorem d163_76 : decode (xbc 163) 76 = .ok (.goto (-39), 3) := by decide +kernel
theorem d163_79 : decode (xbc 163) 79 = .ok (.ldc2_w 173, 3) := by decide +kernel
theorem d163_82 : decode (xbc 163) 82 = .ok (.lload 8, 2) := by decide +kernel
theorem d163_84 : decode (xbc 163) 84 = .ok (.lmul, 1) := by decide +kernel
theorem d163_85 : decode (xbc 163) 85 = .ok (.lload_n 2, 1) := by decide +kernel
theorem d163_86 : decode (xbc 163) 86 = .ok (.lcmp, 1) := by decide +kernel
theorem d163_87 : decode (xbc 163) 87 = .ok (.ifCond .gt 23, 3) := by decide +kernel
theorem d163_90 : decode (xbc 163) 90 = .ok (.ldc2_w 173, 3) := by decide +kernel
theorem d163_93 : decode (xbc 163) 93 = .ok (.lload 8, 2) := by decide +kernel
theorem d163_95 : decode (xbc 163) 95 = .ok (.lmul, 1) := by decide +kernel
theorem d163_96 : decode (xbc 163) 96 = .ok (.lload_n 2, 1) := by decide +kernel
theorem d163_97 : decode (xbc 163) 97 = .ok (.lcmp, 1) := by decide +kernel
theorem d163_98 : decode (xbc 163) 98 = .ok (.ifCond .ne 18, 3) := by decide +kernel
theorem d163_101 : decode (xbc 163) 101 = .ok (.lload 6, 2) := by decide +kernel
theorem d163_103 : decode (xbc 163) 103 = .ok (.lconst 1, 1) := by decide +kernel
theorem d163_104 : decode (xbc 163) 104 = .ok (.land, 1) := by decide +kernel
theorem d163_105 : decode (xbc 163) 105 = .ok (.lconst 1, 1) := by decide +kernel
theorem d163_106 : decode (xbc 163) 106 = .ok (.lcmp, 1) := by decide +kernel
theorem d163_107 : decode (xbc 163) 107 = .ok (.ifCond .ne 9, 3) := by decide +kernel
theorem d163_110 : decode (xbc 163) 110 = .ok (.lload 6, 2) := by decide +kernel
theorem d163_112 : decode (xbc 163) 112 = .ok (.lconst 1, 1) := by decide +kernel
theorem d163_113 : decode (xbc 163) 113 = .ok (.ladd, 1) := by decide +kernel
theorem d163_114 : decode (xbc 163) 114 = .ok (.lstore 6, 2) := by decide +kernel
theorem d163_116 : decode (xbc 163) 116 = .ok (.lload 6, 2) := by decide +kernel
theorem d163_118 : decode (xbc 163) 118 = .ok (.ldc2_w 185, 3) := by decide +kernel
theorem d163_121 : decode (xbc 163) 121 = .ok (.lcmp, 1) := by decide +kernel
theorem d163_122 : decode (xbc 163) 122 = .ok (.ifCond .ne 14, 3) := by decide +kernel
theorem d163_125 : decode (xbc 163) 125 = .ok (.lload 6, 2) := by decide +kernel
theorem d163_127 : decode (xbc 163) 127 = .ok (.ldc2_w 173, 3) := by decide +kernel
theorem d163_130 : decode (xbc 163) 130 = .ok (.ldiv, 1) := by decide +kernel
theorem d163_131 : decode (xbc 163) 131 = .ok (.lstore 6, 2) := by decide +kernel
theorem d163_133 : decode (xbc 163) 133 = .ok (.iinc 10 1, 3) := by decide +kernel
theorem d163_136 : decode (xbc 163) 136 = .ok (.iload 10, 2) := by decide +kernel
theorem d163_138 : decode (xbc 163) 138 = .ok (.bipush 52, 2) := by decide +kernel
theorem d163_140 : decode (xbc 163) 140 = .ok (.iadd, 1) := by decide +kernel
theorem d163_141 : decode (xbc 163) 141 = .ok (.sipush 1023, 3) := by decide +kernel
theorem d163_144 : decode (xbc 163) 144 = .ok (.iadd, 1) := by decide +kernel
theorem d163_145 : decode (xbc 163) 145 = .ok (.i2l, 1) := by decide +kernel
theorem d163_146 : decode (xbc 163) 146 = .ok (.bipush 52, 2) := by decide +kernel
theorem d163_148 : decode (xbc 163) 148 = .ok (.lshl, 1) := by decide +kernel
theorem d163_149 : decode (xbc 163) 149 = .ok (.lload 6, 2) := by decide +kernel
theorem d163_151 : decode (xbc 163) 151 = .ok (.ldc2_w 183, 3) := by decide +kernel
theorem d163_154 : decode (xbc 163) 154 = .ok (.lsub, 1) := by decide +kernel
theorem d163_155 : decode (xbc 163) 155 = .ok (.lor, 1) := by decide +kernel
theorem d163_156 : decode (xbc 163) 156 = .ok (.lstore 11, 2) := by decide +kernel
theorem d163_158 : decode (xbc 163) 158 = .ok (.lload_n 0, 1) := by decide +kernel
theorem d163_159 : decode (xbc 163) 159 = .ok (.lconst 0, 1) := by decide +kernel
theorem d163_160 : decode (xbc 163) 160 = .ok (.lcmp, 1) := by decide +kernel
theorem d163_161 : decode (xbc 163) 161 = .ok (.ifCond .ge 12, 3) := by decide +kernel
theorem d163_164 : decode (xbc 163) 164 = .ok (.lload 11, 2) := by decide +kernel
theorem d163_166 : decode (xbc 163) 166 = .ok (.ldc2_w 187, 3) := by decide +kernel
theorem d163_169 : decode (xbc 163) 169 = .ok (.lor, 1) := by decide +kernel
theorem d163_170 : decode (xbc 163) 170 = .ok (.goto 5, 3) := by decide +kernel
theorem d163_173 : decode (xbc 163) 173 = .ok (.lload 11, 2) := by decide +kernel
theorem d163_175 : decode (xbc 163) 175 = .ok (.lreturn, 1) := by decide +kernel
theorem d164_0 : decode (xbc 164) 0 = .ok (.lload_n 0, 1) := by decide +kernel
theorem d164_1 : decode (xbc 164) 1 = .ok (.lconst 0, 1) := by decide +kernel
theorem d164_2 : decode (xbc 164) 2 = .ok (.lcmp, 1) := by decide +kernel
theorem d164_3 : decode (xbc 164) 3 = .ok (.ifCond .ge 8, 3) := by decide +kernel
theorem d164_6 : decode (xbc 164) 6 = .ok (.lload_n 0, 1) := by decide +kernel
theorem d164_7 : decode (xbc 164) 7 = .ok (.lneg, 1) := by decide +kernel
theorem d164_8 : decode (xbc 164) 8 = .ok (.goto 4, 3) := by decide +kernel
theorem d164_11 : decode (xbc 164) 11 = .ok (.lload_n 0, 1) := by decide +kernel
theorem d164_12 : decode (xbc 164) 12 = .ok (.lstore 4, 2) := by decide +kernel
theorem d164_14 : decode (xbc 164) 14 = .ok (.lload 4, 2) := by decide +kernel
theorem d164_16 : decode (xbc 164) 16 = .ok (.bipush 30, 2) := by decide +kernel
theorem d164_18 : decode (xbc 164) 18 = .ok (.lshl, 1) := by decide +kernel
theorem d164_19 : decode (xbc 164) 19 = .ok (.lload_n 2, 1) := by decide +kernel
theorem d164_20 : decode (xbc 164) 20 = .ok (.ldiv, 1) := by decide +kernel
theorem d164_21 : decode (xbc 164) 21 = .ok (.lstore 6, 2) := by decide +kernel
theorem d164_23 : decode (xbc 164) 23 = .ok (.lload 4, 2) := by decide +kernel
theorem d164_25 : decode (xbc 164) 25 = .ok (.bipush 30, 2) := by decide +kernel
theorem d164_27 : decode (xbc 164) 27 = .ok (.lshl, 1) := by decide +kernel
theorem d164_28 : decode (xbc 164) 28 = .ok (.lload_n 2, 1) := by decide +kernel
theorem d164_29 : decode (xbc 164) 29 = .ok (.lrem, 1) := by decide +kernel
theorem d164_30 : decode (xbc 164) 30 = .ok (.lstore 8, 2) := by decide +kernel
theorem d164_32 : decode (xbc 164) 32 = .ok (.lload 6, 2) := by decide +kernel
theorem d164_34 : decode (xbc 164) 34 = .ok (.lload 8, 2) := by decide +kernel
theorem d164_36 : decode (xbc 164) 36 = .ok (.lconst 0, 1) := by decide +kernel
theorem d164_37 : decode (xbc 164) 37 = .ok (.lcmp, 1) := by decide +kernel
theorem d164_38 : decode (xbc 164) 38 = .ok (.ifCond .le 7, 3) := by decide +kernel
theorem d164_41 : decode (xbc 164) 41 = .ok (.iconst 1, 1) := by decide +kernel
theorem d164_42 : decode (xbc 164) 42 = .ok (.goto 4, 3) := by decide +kernel
theorem d164_45 : decode (xbc 164) 45 = .ok (.iconst 0, 1) := by decide +kernel
theorem d164_46 : decode (xbc 164) 46 = .ok (.ldc2_w 173, 3) := by decide +kernel
theorem d164_49 : decode (xbc 164) 49 = .ok (.lload 8, 2) := by decide +kernel
theorem d164_51 : decode (xbc 164) 51 = .ok (.lmul, 1) := by decide +kernel
theorem d164_52 : decode (xbc 164) 52 = .ok (.lload_n 2, 1) := by decide +kernel
theorem d164_53 : decode (xbc 164) 53 = .ok (.lcmp, 1) := by decide +kernel
theorem d164_54 : decode (xbc 164) 54 = .ok (.ifCond .ne 7, 3) := by decide +kernel
theorem d164_57 : decode (xbc 164) 57 = .ok (.iconst 1, 1) := by decide +kernel
theorem d164_58 : decode (xbc 164) 58 = .ok (.goto 4, 3) := by decide +kernel
theorem d164_61 : decode (xbc 164) 61 = .ok (.iconst 0, 1) := by decide +kernel
theorem d164_62 : decode (xbc 164) 62 = .ok (.ldc2_w 173, 3) := by decide +kernel
theorem d164_65 : decode (xbc 164) 65 = .ok (.lload 8, 2) := by decide +kernel
theorem d164_67 : decode (xbc 164) 67 = .ok (.lmul, 1) := by decide +kernel
theorem d164_68 : decode (xbc 164) 68 = .ok (.lload_n 2, 1) := by decide +kernel
theorem d164_69 : decode (xbc 164) 69 = .ok (.lcmp, 1) := by decide +kernel
theorem d164_70 : decode (xbc 164) 70 = .ok (.ifCond .le 7, 3) := by decide +kernel
theorem d164_73 : decode (xbc 164) 73 = .ok (.iconst 1, 1) := by decide +kernel
theorem d164_74 : decode (xbc 164) 74 = .ok (.goto 4, 3) := by decide +kernel
theorem d164_77 : decode (xbc 164) 77 = .ok (.iconst 0, 1) := by decide +kernel
theorem d164_78 : decode (xbc 164) 78 = .ok (.invokestatic 175, 3) := by decide +kernel
theorem d164_81 : decode (xbc 164) 81 = .ok (.lstore 10, 2) := by decide +kernel
theorem d164_83 : decode (xbc 164) 83 = .ok (.lload_n 0, 1) := by decide +kernel
theorem d164_84 : decode (xbc 164) 84 = .ok (.lconst 0, 1) := by decide +kernel
theorem d164_85 : decode (xbc 164) 85 = .ok (.lcmp, 1) := by decide +kernel
theorem d164_86 : decode (xbc 164) 86 = .ok (.ifCond .ge 9, 3) := by decide +kernel
theorem d164_89 : decode (xbc 164) 89 = .ok (.lload 10, 2) := by decide +kernel
theorem d164_91 : decode (xbc 164) 91 = .ok (.lneg, 1) := by decide +kernel
theorem d164_92 : decode (xbc 164) 92 = .ok (.goto 5, 3) := by decide +kernel
theorem d164_95 : decode (xbc 164) 95 = .ok (.lload 10, 2) := by decide +kernel
theorem d164_97 : decode (xbc 164) 97 = .ok (.lreturn, 1) := by decide +kernel
theorem d165_0 : decode (xbc 165) 0 = .ok (.lload_n 0, 1) := by decide +kernel
theorem d165_1 : decode (xbc 165) 1 = .ok (.invokestatic 169, 3) := by decide +kernel
theorem d165_4 : decode (xbc 165) 4 = .ok (.bipush 24, 2) := by decide +kernel
theorem d165_6 : decode (xbc 165) 6 = .ok (.isub, 1) := by decide +kernel
theorem d165_7 : decode (xbc 165) 7 = .ok (.istore 5, 2) := by decide +kernel
theorem d165_9 : decode (xbc 165) 9 = .ok (.iload 5, 2) := by decide +kernel
theorem d165_11 : decode (xbc 165) 11 = .ok (.ifCond .gt 28, 3) := by decide +kernel
theorem d165_14 : decode (xbc 165) 14 = .ok (.lload_n 0, 1) := by decide +kernel
theorem d165_15 : decode (xbc 165) 15 = .ok (.iload 4, 2) := by decide +kernel
theorem d165_17 : decode (xbc 165) 17 = .ok (.ifCond .ne 15, 3) := by decide +kernel
theorem d165_20 : decode (xbc 165) 20 = .ok (.iload_n 3, 1) := by decide +kernel
theorem d165_21 : decode (xbc 165) 21 = .ok (.ifCond .eq 15, 3) := by decide +kernel
theorem d165_24 : decode (xbc 165) 24 = .ok (.lload_n 0, 1) := by decide +kernel
theorem d165_25 : decode (xbc 165) 25 = .ok (.lconst 1, 1) := by decide +kernel
theorem d165_26 : decode (xbc 165) 26 = .ok (.land, 1) := by decide +kernel
theorem d165_27 : decode (xbc 165) 27 = .ok (.lconst 1, 1) := by decide +kernel
theorem d165_28 : decode (xbc 165) 28 = .ok (.lcmp, 1) := by decide +kernel
theorem d165_29 : decode (xbc 165) 29 = .ok (.ifCond .ne 7, 3) := by decide +kernel
theorem d165_32 : decode (xbc 165) 32 = .ok (.lconst 1, 1) := by decide +kernel
theorem d165_33 : decode (xbc 165) 33 = .ok (.goto 4, 3) := by decide +kernel
theorem d165_36 : decode (xbc 165) 36 = .ok (.lconst 0, 1) := by decide +kernel
theorem d165_37 : decode (xbc 165) 37 = .ok (.ladd, 1) := by decide +kernel
theorem d165_38 : decode (xbc 165) 38 = .ok (.lreturn, 1) := by decide +kernel
theorem d165_39 : decode (xbc 165) 39 = .ok (.lload_n 0, 1) := by decide +kernel
theorem d165_40 : decode (xbc 165) 40 = .ok (.lconst 1, 1) := by decide +kernel
theorem d165_41 : decode (xbc 165) 41 = .ok (.iload 5, 2) := by decide +kernel
theorem d165_43 : decode (xbc 165) 43 = .ok (.lshl, 1) := by decide +kernel
theorem d165_44 : decode (xbc 165) 44 = .ok (.lconst 1, 1) := by decide +kernel
theorem d165_45 : decode (xbc 165) 45 = .ok (.lsub, 1) := by decide +kernel
theorem d165_46 : decode (xbc 165) 46 = .ok (.land, 1) := by decide +kernel
theorem d165_47 : decode (xbc 165) 47 = .ok (.lstore 6, 2) := by decide +kernel
theorem d165_49 : decode (xbc 165) 49 = .ok (.lconst 1, 1) := by decide +kernel
theorem d165_50 : decode (xbc 165) 50 = .ok (.iload 5, 2) := by decide +kernel
theorem d165_52 : decode (xbc 165) 52 = .ok (.iconst 1, 1) := by decide +kernel
theorem d165_53 : decode (xbc 165) 53 = .ok (.isub, 1) := by decide +kernel
theorem d165_54 : decode (xbc 165) 54 = .ok (.lshl, 1) := by decide +kernel
theorem d165_55 : decode (xbc 165) 55 = .ok (.lstore 8, 2) := by decide +kernel
theorem d165_57 : decode (xbc 165) 57 = .ok (.lload_n 0, 1) := by decide +kernel
theorem d165_58 : decode (xbc 165) 58 = .ok (.iload 5, 2) := by decide +kernel
theorem d165_60 : decode (xbc 165) 60 = .ok (.lshr, 1) := by decide +kernel
theorem d165_61 : decode (xbc 165) 61 = .ok (.lstore 10, 2) := by decide +kernel
theorem d165_63 : decode (xbc 165) 63 = .ok (.lload 6, 2) := by decide +kernel
theorem d165_65 : decode (xbc 165) 65 = .ok (.lload 8, 2) := by decide +kernel
theorem d165_67 : decode (xbc 165) 67 = .ok (.lcmp, 1) := by decide +kernel
theorem d165_68 : decode (xbc 165) 68 = .ok (.ifCond .gt 24, 3) := by decide +kernel
theorem d165_71 : decode (xbc 165) 71 = .ok (.lload 6, 2) := by decide +kernel
theorem d165_73 : decode (xbc 165) 73 = .ok (.lload 8, 2) := by decide +kernel
theorem d165_75 : decode (xbc 165) 75 = .ok (.lcmp, 1) := by decide +kernel
theorem d165_76 : decode (xbc 165) 76 = .ok (.ifCond .ne 20, 3) := by decide +kernel
theorem d165_79 : decode (xbc 165) 79 = .ok (.iload_n 2, 1) := by decide +kernel
theorem d165_80 : decode (xbc 165) 80 = .ok (.ifCond .ne 12, 3) := by decide +kernel
theorem d165_83 : decode (xbc 165) 83 = .ok (.lload 10, 2) := by decide +kernel
theorem d165_85 : decode (xbc 165) 85 = .ok (.lconst 1, 1) := by decide +kernel
theorem d165_86 : decode (xbc 165) 86 = .ok (.land, 1) := by decide +kernel
theorem d165_87 : decode (xbc 165) 87 = .ok (.lconst 1, 1) := by decide +kernel
theorem d165_88 : decode (xbc 165) 88 = .ok (.lcmp, 1) := by decide +kernel
theorem d165_89 : decode (xbc 165) 89 = .ok (.ifCond .ne 7, 3) := by decide +kernel
theorem d165_92 : decode (xbc 165) 92 = .ok (.iconst 1, 1) := by decide +kernel
theorem d165_93 : decode (xbc 165) 93 = .ok (.goto 4, 3) := by decide +kernel
theorem d165_96 : decode (xbc 165) 96 = .ok (.iconst 0, 1) := by decide +kernel
theorem d165_97 : decode (xbc 165) 97 = .ok (.istore 12, 2) := by decide +kernel
theorem d165_99 : decode (xbc 165) 99 = .ok (.lload 10, 2) := by decide +kernel
theorem d165_101 : decode (xbc 165) 101 = .ok (.iload 12, 2) := by decide +kernel
theorem d165_103 : decode (xbc 165) 103 = .ok (.ifCond .eq 7, 3) := by decide +kernel
theorem d165_106 : decode (xbc 165) 106 = .ok (.lconst 1, 1) := by decide +kernel
theorem d165_107 : decode (xbc 165) 107 = .ok (.goto 4, 3) := by decide +kernel
theorem d165_110 : decode (xbc 165) 110 = .ok (.lconst 0, 1) := by decide +kernel
theorem d165_111 : decode (xbc 165) 111 = .ok (.ladd, 1) := by decide +kernel
theorem d165_112 : decode (xbc 165) 112 = .ok (.iload 5, 2) := by decide +kernel
theorem d165_114 : decode (xbc 165) 114 = .ok (.lshl, 1) := by decide +kernel
theorem d165_115 : decode (xbc 165) 115 = .ok (.lreturn, 1) := by decide +kernel
theorem d166_0 : decode (xbc 166) 0 = .ok (.iconst 0, 1) := by decide +kernel
theorem d166_1 : decode (xbc 166) 1 = .ok (.istore_n 2, 1) := by decide +kernel
theorem d166_2 : decode (xbc 166) 2 = .ok (.lload_n 0, 1) := by decide +kernel
theorem d166_3 : decode (xbc 166) 3 = .ok (.iload_n 2, 1) := by decide +kernel
theorem d166_4 : decode (xbc 166) 4 = .ok (.lshr, 1) := by decide +kernel
theorem d166_5 : decode (xbc 166) 5 = .ok (.lconst 0, 1) := by decide +kernel
theorem d166_6 : decode (xbc 166) 6 = .ok (.lcmp, 1) := by decide +kernel
theorem d166_7 : decode (xbc 166) 7 = .ok (.ifCond .le 9, 3) := by decide +kernel
theorem d166_10 : decode (xbc 166) 10 = .ok (.iinc 2 1, 3) := by decide +kernel
theorem d166_13 : decode (xbc 166) 13 = .ok (.goto (-11), 3) := by decide +kernel
theorem d166_16 : decode (xbc 166) 16 = .ok (.iload_n 2, 1) := by decide +kernel
theorem d166_17 : decode (xbc 166) 17 = .ok (.ireturn, 1) := by decide +kernel
theorem d167_0 : decode (xbc 167) 0 = .ok (.lload_n 0, 1) := by decide +kernel
theorem d167_1 : decode (xbc 167) 1 = .ok (.lconst 0, 1) := by decide +kernel
theorem d167_2 : decode (xbc 167) 2 = .ok (.lcmp, 1) := by decide +kernel
theorem d167_3 : decode (xbc 167) 3 = .ok (.ifCond .ne 5, 3) := by decide +kernel
theorem d167_6 : decode (xbc 167) 6 = .ok (.lconst 0, 1) := by decide +kernel
theorem d167_7 : decode (xbc 167) 7 = .ok (.lreturn, 1) := by decide +kernel
theorem d167_8 : decode (xbc 167) 8 = .ok (.lload_n 0, 1) := by decide +kernel
theorem d167_9 : decode (xbc 167) 9 = .ok (.lconst 0, 1) := by decide +kernel
theorem d167_10 : decode (xbc 167) 10 = .ok (.lcmp, 1) := by decide +kernel
theorem d167_11 : decode (xbc 167) 11 = .ok (.ifCond .ge 8, 3) := by decide +kernel
theorem d167_14 : decode (xbc 167) 14 = .ok (.lload_n 0, 1) := by decide +kernel
theorem d167_15 : decode (xbc 167) 15 = .ok (.lneg, 1) := by decide +kernel
theorem d167_16 : decode (xbc 167) 16 = .ok (.goto 4, 3) := by decide +kernel
theorem d167_19 : decode (xbc 167) 19 = .ok (.lload_n 0, 1) := by decide +kernel
theorem d167_20 : decode (xbc 167) 20 = .ok (.lstore_n 2, 1) := by decide +kernel
theorem d167_21 : decode (xbc 167) 21 = .ok (.lload_n 2, 1) := by decide +kernel
theorem d167_22 : decode (xbc 167) 22 = .ok (.invokestatic 169, 3) := by decide +kernel
theorem d167_25 : decode (xbc 167) 25 = .ok (.istore 4, 2) := by decide +kernel
theorem d167_27 : decode (xbc 167) 27 = .ok (.iload 4, 2) := by decide +kernel
theorem d167_29 : decode (xbc 167) 29 = .ok (.bipush 24, 2) := by decide +kernel
theorem d167_31 : decode (xbc 167) 31 = .ok (.if_icmp .le 13, 3) := by decide +kernel
theorem d167_34 : decode (xbc 167) 34 = .ok (.lload_n 2, 1) := by decide +kernel
theorem d167_35 : decode (xbc 167) 35 = .ok (.iload 4, 2) := by decide +kernel
theorem d167_37 : decode (xbc 167) 37 = .ok (.bipush 24, 2) := by decide +kernel
theorem d167_39 : decode (xbc 167) 39 = .ok (.isub, 1) := by decide +kernel
theorem d167_40 : decode (xbc 167) 40 = .ok (.lshr, 1) := by decide +kernel
theorem d167_41 : decode (xbc 167) 41 = .ok (.goto 10, 3) := by decide +kernel
theorem d167_44 : decode (xbc 167) 44 = .ok (.lload_n 2, 1) := by decide +kernel
theorem d167_45 : decode (xbc 167) 45 = .ok (.bipush 24, 2) := by decide +kernel
theorem d167_47 : decode (xbc 167) 47 = .ok (.iload 4, 2) := by decide +kernel
theorem d167_49 : decode (xbc 167) 49 = .ok (.isub, 1) := by decide +kernel
theorem d167_50 : decode (xbc 167) 50 = .ok (.lshl, 1) := by decide +kernel
theorem d167_51 : decode (xbc 167) 51 = .ok (.lstore 5, 2) := by decide +kernel
theorem d167_53 : decode (xbc 167) 53 = .ok (.iload 4, 2) := by decide +kernel
theorem d167_55 : decode (xbc 167) 55 = .ok (.bipush 31, 2) := by decide +kernel
theorem d167_57 : decode (xbc 167) 57 = .ok (.isub, 1) := by decide +kernel
theorem d167_58 : decode (xbc 167) 58 = .ok (.bipush 127, 2) := by decide +kernel
theorem d167_60 : decode (xbc 167) 60 = .ok (.iadd, 1) := by decide +kernel
theorem d167_61 : decode (xbc 167) 61 = .ok (.i2l, 1) := by decide +kernel
theorem d167_62 : decode (xbc 167) 62 = .ok (.bipush 23, 2) := by decide +kernel
theorem d167_64 : decode (xbc 167) 64 = .ok (.lshl, 1) := by decide +kernel
theorem d167_65 : decode (xbc 167) 65 = .ok (.lload 5, 2) := by decide +kernel
theorem d167_67 : decode (xbc 167) 67 = .ok (.ldc2_w 179, 3) := by decide +kernel
theorem d167_70 : decode (xbc 167) 70 = .ok (.lsub, 1) := by decide +kernel
theorem d167_71 : decode (xbc 167) 71 = .ok (.lor, 1) := by decide +kernel
theorem d167_72 : decode (xbc 167) 72 = .ok (.lstore 7, 2) := by decide +kernel
theorem d167_74 : decode (xbc 167) 74 = .ok (.lload_n 0, 1) := by decide +kernel
theorem d167_75 : decode (xbc 167) 75 = .ok (.lconst 0, 1) := by decide +kernel
theorem d167_76 : decode (xbc 167) 76 = .ok (.lcmp, 1) := by decide +kernel
theorem d167_77 : decode (xbc 167) 77 = .ok (.ifCond .ge 12, 3) := by decide +kernel
theorem d167_80 : decode (xbc 167) 80 = .ok (.lload 7, 2) := by decide +kernel
theorem d167_82 : decode (xbc 167) 82 = .ok (.ldc2_w 181, 3) := by decide +kernel
theorem d167_85 : decode (xbc 167) 85 = .ok (.lsub, 1) := by decide +kernel
theorem d167_86 : decode (xbc 167) 86 = .ok (.goto 5, 3) := by decide +kernel
theorem d167_89 : decode (xbc 167) 89 = .ok (.lload 7, 2) := by decide +kernel
theorem d167_91 : decode (xbc 167) 91 = .ok (.lreturn, 1) := by decide +kernel
theorem d168_0 : decode (xbc 168) 0 = .ok (.lload_n 0, 1) := by decide +kernel
theorem d168_1 : decode (xbc 168) 1 = .ok (.lconst 0, 1) := by decide +kernel
theorem d168_2 : decode (xbc 168) 2 = .ok (.lcmp, 1) := by decide +kernel
theorem d168_3 : decode (xbc 168) 3 = .ok (.ifCond .ge 12, 3) := by decide +kernel
theorem d168_6 : decode (xbc 168) 6 = .ok (.lload_n 0, 1) := by decide +kernel
theorem d168_7 : decode (xbc 168) 7 = .ok (.lneg, 1) := by decide +kernel
theorem d168_8 : decode (xbc 168) 8 = .ok (.bipush 30, 2) := by decide +kernel
theorem d168_10 : decode (xbc 168) 10 = .ok (.lshr, 1) := by decide +kernel
theorem d168_11 : decode (xbc 168) 11 = .ok (.lneg, 1) := by decide +kernel
theorem d168_12 : decode (xbc 168) 12 = .ok (.goto 7, 3) := by decide +kernel
theorem d168_15 : decode (xbc 168) 15 = .ok (.lload_n 0, 1) := by decide +kernel
theorem d168_16 : decode (xbc 168) 16 = .ok (.bipush 30, 2) := by decide +kernel
theorem d168_18 : decode (xbc 168) 18 = .ok (.lshr, 1) := by decide +kernel
theorem d168_19 : decode (xbc 168) 19 = .ok (.lreturn, 1) := by decide +kernel
theorem d169_0 : decode (xbc 169) 0 = .ok (.iload_n 1, 1) := by decide +kernel
theorem d169_1 : decode (xbc 169) 1 = .ok (.iload_n 2, 1) := by decide +kernel
theorem d169_2 : decode (xbc 169) 2 = .ok (.invokestatic 134, 3) := by decide +kernel
theorem d169_5 : decode (xbc 169) 5 = .ok (.ifCond .eq 12, 3) := by decide +kernel
theorem d169_8 : decode (xbc 169) 8 = .ok (.iload_n 3, 1) := by decide +kernel
theorem d169_9 : decode (xbc 169) 9 = .ok (.iconst 0, 1) := by decide +kernel
theorem d169_10 : decode (xbc 169) 10 = .ok (.iconst 1, 1) := by decide +kernel
theorem d169_11 : decode (xbc 169) 11 = .ok (.invokestatic 38, 3) := by decide +kernel
theorem d169_14 : decode (xbc 169) 14 = .ok (.ifCond .ne 7, 3) := by decide +kernel
theorem d169_17 : decode (xbc 169) 17 = .ok (.ldc2_w 156, 3) := by decide +kernel
theorem d169_20 : decode (xbc 169) 20 = .ok (.lreturn, 1) := by decide +kernel
theorem d169_21 : decode (xbc 169) 21 = .ok (.lconst 0, 1) := by decide +kernel
theorem d169_22 : decode (xbc 169) 22 = .ok (.lstore 4, 2) := by decide +kernel
theorem d169_24 : decode (xbc 169) 24 = .ok (.iconst 0, 1) := by decide +kernel
theorem d169_25 : decode (xbc 169) 25 = .ok (.istore 6, 2) := by decide +kernel
theorem d169_27 : decode (xbc 169) 27 = .ok (.iload 6, 2) := by decide +kernel
theorem d169_29 : decode (xbc 169) 29 = .ok (.bipush 8, 2) := by decide +kernel
theorem d169_31 : decode (xbc 169) 31 = .ok (.if_icmp .ge 99, 3) := by decide +kernel
theorem d169_34 : decode (xbc 169) 34 = .ok (.aload_n 0, 1) := by decide +kernel
theorem d169_35 : decode (xbc 169) 35 = .ok (.getfield 7, 3) := by decide +kernel
theorem d169_38 : decode (xbc 169) 38 = .ok (.iload 6, 2) := by decide +kernel
theorem d169_40 : decode (xbc 169) 40 = .ok (.iaload, 1) := by decide +kernel
theorem d169_41 : decode (xbc 169) 41 = .ok (.iconst 1, 1) := by decide +kernel
theorem d169_42 : decode (xbc 169) 42 = .ok (.if_icmp .ne 82, 3) := by decide +kernel
theorem d169_45 : decode (xbc 169) 45 = .ok (.lload 4, 2) := by decide +kernel
theorem d169_47 : decode (xbc 169) 47 = .ok (.aload_n 0, 1) := by decide +kernel
theorem d169_48 : decode (xbc 169) 48 = .ok (.getfield 7, 3) := by decide +kernel
theorem d169_51 : decode (xbc 169) 51 = .ok (.bipush 24, 2) := by decide +kernel
theorem d169_53 : decode (xbc 169) 53 = .ok (.iload 6, 2) := by decide +kernel
theorem d169_55 : decode (xbc 169) 55 = .ok (.iadd, 1) := by decide +kernel
theorem d169_56 : decode (xbc 169) 56 = .ok (.iaload, 1) := by decide +kernel
theorem d169_57 : decode (xbc 169) 57 = .ok (.i2l, 1) := by decide +kernel
theorem d169_58 : decode (xbc 169) 58 = .ok (.iload_n 2, 1) := by decide +kernel
theorem d169_59 : decode (xbc 169) 59 = .ok (.i2l, 1) := by decide +kernel
theorem d169_60 : decode (xbc 169) 60 = .ok (.lmul, 1) := by decide +kernel
theorem d169_61 : decode (xbc 169) 61 = .ok (.aload_n 0, 1) := by decide +kernel
theorem d169_62 : decode (xbc 169) 62 = .ok (.getfield 7, 3) := by decide +kernel
theorem d169_65 : decode (xbc 169) 65 = .ok (.bipush 32, 2) := by decide +kernel
theorem d169_67 : decode (xbc 169) 67 = .ok (.iload 6, 2) := by decide +kernel
theorem d169_69 : decode (xbc 169) 69 = .ok (.iadd, 1) := by decide +kernel
theorem d169_70 : decode (xbc 169) 70 = .ok (.iaload, 1) := by decide +kernel
theorem d169_71 : decode (xbc 169) 71 = .ok (.i2l, 1) := by decide +kernel
theorem d169_72 : decode (xbc 169) 72 = .ok (.iload_n 1, 1) := by decide +kernel
theorem d169_73 : decode (xbc 169) 73 = .ok (.i2l, 1) := by decide +kernel
theorem d169_74 : decode (xbc 169) 74 = .ok (.lmul, 1) := by decide +kernel
theorem d169_75 : decode (xbc 169) 75 = .ok (.ladd, 1) := by decide +kernel
theorem d169_76 : decode (xbc 169) 76 = .ok (.iload_n 2, 1) := by decide +kernel
theorem d169_77 : decode (xbc 169) 77 = .ok (.i2l, 1) := by decide +kernel
theorem d169_78 : decode (xbc 169) 78 = .ok (.invokestatic 193, 3) := by decide +kernel
theorem d169_81 : decode (xbc 169) 81 = .ok (.ladd, 1) := by decide +kernel
theorem d169_82 : decode (xbc 169) 82 = .ok (.lstore 4, 2) := by decide +kernel
theorem d169_84 : decode (xbc 169) 84 = .ok (.lload 4, 2) := by decide +kernel
theorem d169_86 : decode (xbc 169) 86 = .ok (.lconst 0, 1) := by decide +kernel
theorem d169_87 : decode (xbc 169) 87 = .ok (.lcmp, 1) := by decide +kernel
theorem d169_88 : decode (xbc 169) 88 = .ok (.ifCond .ge 9, 3) := by decide +kernel
theorem d169_91 : decode (xbc 169) 91 = .ok (.lload 4, 2) := by decide +kernel
theorem d169_93 : decode (xbc 169) 93 = .ok (.lneg, 1) := by decide +kernel
theorem d169_94 : decode (xbc 169) 94 = .ok (.goto 5, 3) := by decide +kernel
theorem d169_97 : decode (xbc 169) 97 = .ok (.lload 4, 2) := by decide +kernel
theorem d169_99 : decode (xbc 169) 99 = .ok (.iconst 0, 1) := by decide +kernel
theorem d169_100 : decode (xbc 169) 100 = .ok (.iconst 0, 1) := by decide +kernel
theorem d169_101 : decode (xbc 169) 101 = .ok (.iconst 0, 1) := by decide +kernel
theorem d169_102 : decode (xbc 169) 102 = .ok (.invokestatic 175, 3) := by decide +kernel
theorem d169_105 : decode (xbc 169) 105 = .ok (.lstore 7, 2) := by decide +kernel
theorem d169_107 : decode (xbc 169) 107 = .ok (.lload 4, 2) := by decide +kernel
theorem d169_109 : decode (xbc 169) 109 = .ok (.lconst 0, 1) := by decide +kernel
theorem d169_110 : decode (xbc 169) 110 = .ok (.lcmp, 1) := by decide +kernel
theorem d169_111 : decode (xbc 169) 111 = .ok (.ifCond .ge 9, 3) := by decide +kernel
theorem d169_114 : decode (xbc 169) 114 = .ok (.lload 7, 2) := by decide +kernel
theorem d169_116 : decode (xbc 169) 116 = .ok (.lneg, 1) := by decide +kernel
theorem d169_117 : decode (xbc 169) 117 = .ok (.goto 5, 3) := by decide +kernel
theorem d169_120 : decode (xbc 169) 120 = .ok (.lload 7, 2) := by decide +kernel
theorem d169_122 : decode (xbc 169) 122 = .ok (.lstore 4, 2) := by decide +kernel
theorem d169_124 : decode (xbc 169) 124 = .ok (.iinc 6 1, 3) := by decide +kernel
theorem d169_127 : decode (xbc 169) 127 = .ok (.goto (-100), 3) := by decide +kernel
theorem d169_130 : decode (xbc 169) 130 = .ok (.iload_n 3, 1) := by decide +kernel
theorem d169_131 : decode (xbc 169) 131 = .ok (.ifCond .ne 11, 3) := by decide +kernel
theorem d169_134 : decode (xbc 169) 134 = .ok (.lload 4, 2) := by decide +kernel
theorem d169_136 : decode (xbc 169) 136 = .ok (.invokestatic 196, 3) := by decide +kernel
theorem d169_139 : decode (xbc 169) 139 = .ok (.goto 8, 3) := by decide +kernel
theorem d169_142 : decode (xbc 169) 142 = .ok (.lload 4, 2) := by decide +kernel
theorem d169_144 : decode (xbc 169) 144 = .ok (.invokestatic 200, 3) := by decide +kernel
theorem d169_147 : decode (xbc 169) 147 = .ok (.lreturn, 1) := by decide +kernel
theorem d170_0 : decode (xbc 170) 0 = .ok (.iload_n 1, 1) := by decide +kernel
theorem d170_1 : decode (xbc 170) 1 = .ok (.iconst 0, 1) := by decide +kernel
theorem d170_2 : decode (xbc 170) 2 = .ok (.bipush 9, 2) := by decide +kernel
theorem d170_4 : decode (xbc 170) 4 = .ok (.invokestatic 38, 3) := by decide +kernel
theorem d170_7 : decode (xbc 170) 7 = .ok (.ifCond .eq 14, 3) := by decide +kernel
theorem d170_10 : decode (xbc 170) 10 = .ok (.iload_n 2, 1) := by decide +kernel
theorem d170_11 : decode (xbc 170) 11 = .ok (.bipush (-99), 2) := by decide +kernel
theorem d170_13 : decode (xbc 170) 13 = .ok (.bipush 99, 2) := by decide +kernel
theorem d170_15 : decode (xbc 170) 15 = .ok (.invokestatic 38, 3) := by decide +kernel
theorem d170_18 : decode (xbc 170) 18 = .ok (.ifCond .ne 6, 3) := by decide +kernel
theorem d170_21 : decode (xbc 170) 21 = .ok (.bipush (-2), 2) := by decide +kernel
theorem d170_23 : decode (xbc 170) 23 = .ok (.ireturn, 1) := by decide +kernel
theorem d170_24 : decode (xbc 170) 24 = .ok (.aload_n 0, 1) := by decide +kernel
theorem d170_25 : decode (xbc 170) 25 = .ok (.getfield 203, 3) := by decide +kernel
theorem d170_28 : decode (xbc 170) 28 = .ok (.bipush 8, 2) := by decide +kernel
theorem d170_30 : decode (xbc 170) 30 = .ok (.if_icmp .ne 6, 3) := by decide +kernel
theorem d170_33 : decode (xbc 170) 33 = .ok (.bipush (-4), 2) := by decide +kernel
theorem d170_35 : decode (xbc 170) 35 = .ok (.ireturn, 1) := by decide +kernel
theorem d170_36 : decode (xbc 170) 36 = .ok (.aload_n 0, 1) := by decide +kernel
theorem d170_37 : decode (xbc 170) 37 = .ok (.getfield 16, 3) := by decide +kernel
theorem d170_40 : decode (xbc 170) 40 = .ok (.iconst 3, 1) := by decide +kernel
theorem d170_41 : decode (xbc 170) 41 = .ok (.aload_n 0, 1) := by decide +kernel
theorem d170_42 : decode (xbc 170) 42 = .ok (.getfield 203, 3) := by decide +kernel
theorem d170_45 : decode (xbc 170) 45 = .ok (.imul, 1) := by decide +kernel
theorem d170_46 : decode (xbc 170) 46 = .ok (.iload_n 1, 1) := by decide +kernel
theorem d170_47 : decode (xbc 170) 47 = .ok (.iastore, 1) := by decide +kernel
theorem d170_48 : decode (xbc 170) 48 = .ok (.aload_n 0, 1) := by decide +kernel
theorem d170_49 : decode (xbc 170) 49 = .ok (.getfield 16, 3) := by decide +kernel
theorem d170_52 : decode (xbc 170) 52 = .ok (.iconst 3, 1) := by decide +kernel
theorem d170_53 : decode (xbc 170) 53 = .ok (.aload_n 0, 1) := by decide +kernel
theorem d170_54 : decode (xbc 170) 54 = .ok (.getfield 203, 3) := by decide +kernel
theorem d170_57 : decode (xbc 170) 57 = .ok (.imul, 1) := by decide +kernel
theorem d170_58 : decode (xbc 170) 58 = .ok (.iconst 1, 1) := by decide +kernel
theorem d170_59 : decode (xbc 170) 59 = .ok (.iadd, 1) := by decide +kernel
theorem d170_60 : decode (xbc 170) 60 = .ok (.iload_n 2, 1) := by decide +kernel
theorem d170_61 : decode (xbc 170) 61 = .ok (.iastore, 1) := by decide +kernel
theorem d170_62 : decode (xbc 170) 62 = .ok (.aload_n 0, 1) := by decide +kernel
theorem d170_63 : decode (xbc 170) 63 = .ok (.getfield 16, 3) := by decide +kernel
theorem d170_66 : decode (xbc 170) 66 = .ok (.iconst 3, 1) := by decide +kernel
theorem d170_67 : decode (xbc 170) 67 = .ok (.aload_n 0, 1) := by decide +kernel
theorem d170_68 : decode (xbc 170) 68 = .ok (.getfield 203, 3) := by decide +kernel
theorem d170_71 : decode (xbc 170) 71 = .ok (.imul, 1) := by decide +kernel
theorem d170_72 : decode (xbc 170) 72 = .ok (.iconst 2, 1) := by decide +kernel
theorem d170_73 : decode (xbc 170) 73 = .ok (.iadd, 1) := by decide +kernel
theorem d170_74 : decode (xbc 170) 74 = .ok (.iload_n 3, 1) := by decide +kernel
theorem d170_75 : decode (xbc 170) 75 = .ok (.ifCond .eq 7, 3) := by decide +kernel
theorem d170_78 : decode (xbc 170) 78 = .ok (.iconst 1, 1) := by decide +kernel
theorem d170_79 : decode (xbc 170) 79 = .ok (.goto 4, 3) := by decide +kernel
theorem d170_82 : decode (xbc 170) 82 = .ok (.iconst 0, 1) := by decide +kernel
theorem d170_83 : decode (xbc 170) 83 = .ok (.iastore, 1) := by decide +kernel
theorem d170_84 : decode (xbc 170) 84 = .ok (.aload_n 0, 1) := by decide +kernel
theorem d170_85 : decode (xbc 170) 85 = .ok (.dup, 1) := by decide +kernel
theorem d170_86 : decode (xbc 170) 86 = .ok (.getfield 203, 3) := by decide +kernel
theorem d170_89 : decode (xbc 170) 89 = .ok (.iconst 1, 1) := by decide +kernel
theorem d170_90 : decode (xbc 170) 90 = .ok (.iadd, 1) := by decide +kernel
theorem d170_91 : decode (xbc 170) 91 = .ok (.putfield 203, 3) := by decide +kernel
theorem d170_94 : decode (xbc 170) 94 = .ok (.aload_n 0, 1) := by decide +kernel
theorem d170_95 : decode (xbc 170) 95 = .ok (.getfield 203, 3) := by decide +kernel
theorem d170_98 : decode (xbc 170) 98 = .ok (.ireturn, 1) := by decide +kernel
theorem d171_0 : decode (xbc 171) 0 = .ok (.aload_n 0, 1) := by decide +kernel
theorem d171_1 : decode (xbc 171) 1 = .ok (.getfield 203, 3) := by decide +kernel
theorem d171_4 : decode (xbc 171) 4 = .ok (.istore_n 1, 1) := by decide +kernel
theorem d171_5 : decode (xbc 171) 5 = .ok (.aload_n 0, 1) := by decide +kernel
theorem d171_6 : decode (xbc 171) 6 = .ok (.iconst 0, 1) := by decide +kernel
theorem d171_7 : decode (xbc 171) 7 = .ok (.putfield 203, 3) := by decide +kernel
theorem d171_10 : decode (xbc 171) 10 = .ok (.iload_n 1, 1) := by decide +kernel
theorem d171_11 : decode (xbc 171) 11 = .ok (.ireturn, 1) := by decide +kernel
theorem d172_0 : decode (xbc 172) 0 = .ok (.iconst 0, 1) := by decide +kernel
theorem d172_1 : decode (xbc 172) 1 = .ok (.istore_n 2, 1) := by decide +kernel
theorem d172_2 : decode (xbc 172) 2 = .ok (.iconst 0, 1) := by decide +kernel
theorem d172_3 : decode (xbc 172) 3 = .ok (.istore_n 3, 1) := by decide +kernel
theorem d172_4 : decode (xbc 172) 4 = .ok (.iload_n 3, 1) := by decide +kernel
theorem d172_5 : decode (xbc 172) 5 = .ok (.sipush 3100, 3) := by decide +kernel
theorem d172_8 : decode (xbc 172) 8 = .ok (.if_icmp .ge 27, 3) := by decide +kernel
theorem d172_11 : decode (xbc 172) 11 = .ok (.aload_n 0, 1) := by decide +kernel
theorem d172_12 : decode (xbc 172) 12 = .ok (.iload_n 3, 1) := by decide +kernel
theorem d172_13 : decode (xbc 172) 13 = .ok (.invokevirtual 209, 3) := by decide +kernel
theorem d172_16 : decode (xbc 172) 16 = .ok (.ifCond .eq 13, 3) := by decide +kernel
theorem d172_19 : decode (xbc 172) 19 = .ok (.iload_n 2, 1) := by decide +kernel
theorem d172_20 : decode (xbc 172) 20 = .ok (.iload_n 1, 1) := by decide +kernel
theorem d172_21 : decode (xbc 172) 21 = .ok (.if_icmp .ne 5, 3) := by decide +kernel
theorem d172_24 : decode (xbc 172) 24 = .ok (.iload_n 3, 1) := by decide +kernel
theorem d172_25 : decode (xbc 172) 25 = .ok (.ireturn, 1) := by decide +kernel
theorem d172_26 : decode (xbc 172) 26 = .ok (.iinc 2 1, 3) := by decide +kernel
theorem d172_29 : decode (xbc 172) 29 = .ok (.iinc 3 1, 3) := by decide +kernel
theorem d172_32 : decode (xbc 172) 32 = .ok (.goto (-28), 3) := by decide +kernel
theorem d172_35 : decode (xbc 172) 35 = .ok (.iload_n 1, 1) := by decide +kernel
theorem d172_36 : decode (xbc 172) 36 = .ok (.iconst (-1), 1) := by decide +kernel
theorem d172_37 : decode (xbc 172) 37 = .ok (.if_icmp .ne 7, 3) := by decide +kernel
theorem d172_40 : decode (xbc 172) 40 = .ok (.iload_n 2, 1) := by decide +kernel
theorem d172_41 : decode (xbc 172) 41 = .ok (.goto 5, 3) := by decide +kernel
theorem d172_44 : decode (xbc 172) 44 = .ok (.bipush (-6), 2) := by decide +kernel
theorem d172_46 : decode (xbc 172) 46 = .ok (.ireturn, 1) := by decide +kernel
theorem d173_0 : decode (xbc 173) 0 = .ok (.iload_n 1, 1) := by decide +kernel
theorem d173_1 : decode (xbc 173) 1 = .ok (.bipush 100, 2) := by decide +kernel
theorem d173_3 : decode (xbc 173) 3 = .ok (.irem, 1) := by decide +kernel
theorem d173_4 : decode (xbc 173) 4 = .ok (.bipush 41, 2) := by decide +kernel
theorem d173_6 : decode (xbc 173) 6 = .ok (.bipush 59, 2) := by decide +kernel
theorem d173_8 : decode (xbc 173) 8 = .ok (.invokestatic 38, 3) := by decide +kernel
theorem d173_11 : decode (xbc 173) 11 = .ok (.istore_n 2, 1) := by decide +kernel
theorem d173_12 : decode (xbc 173) 12 = .ok (.iconst 0, 1) := by decide +kernel
theorem d173_13 : decode (xbc 173) 13 = .ok (.istore_n 3, 1) := by decide +kernel
theorem d173_14 : decode (xbc 173) 14 = .ok (.iload_n 3, 1) := by decide +kernel
theorem d173_15 : decode (xbc 173) 15 = .ok (.aload_n 0, 1) := by decide +kernel
theorem d173_16 : decode (xbc 173) 16 = .ok (.getfield 203, 3) := by decide +kernel
theorem d173_19 : decode (xbc 173) 19 = .ok (.if_icmp .ge 63, 3) := by decide +kernel
theorem d173_22 : decode (xbc 173) 22 = .ok (.iload_n 2, 1) := by decide +kernel
theorem d173_23 : decode (xbc 173) 23 = .ok (.ifCond .eq 59, 3) := by decide +kernel
theorem d173_26 : decode (xbc 173) 26 = .ok (.iload_n 1, 1) := by decide +kernel
theorem d173_27 : decode (xbc 173) 27 = .ok (.aload_n 0, 1) := by decide +kernel
theorem d173_28 : decode (xbc 173) 28 = .ok (.getfield 16, 3) := by decide +kernel
theorem d173_31 : decode (xbc 173) 31 = .ok (.iconst 3, 1) := by decide +kernel
theorem d173_32 : decode (xbc 173) 32 = .ok (.iload_n 3, 1) := by decide +kernel
theorem d173_33 : decode (xbc 173) 33 = .ok (.imul, 1) := by decide +kernel
theorem d173_34 : decode (xbc 173) 34 = .ok (.iaload, 1) := by decide +kernel
theorem d173_35 : decode (xbc 173) 35 = .ok (.aload_n 0, 1) := by decide +kernel
theorem d173_36 : decode (xbc 173) 36 = .ok (.getfield 16, 3) := by decide +kernel
theorem d173_39 : decode (xbc 173) 39 = .ok (.iconst 3, 1) := by decide +kernel
theorem d173_40 : decode (xbc 173) 40 = .ok (.iload_n 3, 1) := by decide +kernel
theorem d173_41 : decode (xbc 173) 41 = .ok (.imul, 1) := by decide +kernel
theorem d173_42 : decode (xbc 173) 42 = .ok (.iconst 1, 1) := by decide +kernel
theorem d173_43 : decode (xbc 173) 43 = .ok (.iadd, 1) := by decide +kernel
theorem d173_44 : decode (xbc 173) 44 = .ok (.iaload, 1) := by decide +kernel
theorem d173_45 : decode (xbc 173) 45 = .ok (.invokestatic 206, 3) := by decide +kernel
theorem d173_48 : decode (xbc 173) 48 = .ok (.aload_n 0, 1) := by decide +kernel
theorem d173_49 : decode (xbc 173) 49 = .ok (.getfield 16, 3) := by decide +kernel
theorem d173_52 : decode (xbc 173) 52 = .ok (.iconst 3, 1) := by decide +kernel
theorem d173_53 : decode (xbc 173) 53 = .ok (.iload_n 3, 1) := by decide +kernel
theorem d173_54 : decode (xbc 173) 54 = .ok (.imul, 1) := by decide +kernel
theorem d173_55 : decode (xbc 173) 55 = .ok (.iconst 2, 1) := by decide +kernel
theorem d173_56 : decode (xbc 173) 56 = .ok (.iadd, 1) := by decide +kernel
theorem d173_57 : decode (xbc 173) 57 = .ok (.iaload, 1) := by decide +kernel
theorem d173_58 : decode (xbc 173) 58 = .ok (.iconst 1, 1) := by decide +kernel
theorem d173_59 : decode (xbc 173) 59 = .ok (.if_icmp .ne 7, 3) := by decide +kernel
theorem d173_62 : decode (xbc 173) 62 = .ok (.iconst 1, 1) := by decide +kernel
theorem d173_63 : decode (xbc 173) 63 = .ok (.goto 4, 3) := by decide +kernel
theorem d173_66 : decode (xbc 173) 66 = .ok (.iconst 0, 1) := by decide +kernel
theorem d173_67 : decode (xbc 173) 67 = .ok (.if_icmp .ne 7, 3) := by decide +kernel
theorem d173_70 : decode (xbc 173) 70 = .ok (.iconst 1, 1) := by decide +kernel
theorem d173_71 : decode (xbc 173) 71 = .ok (.goto 4, 3) := by decide +kernel
theorem d173_74 : decode (xbc 173) 74 = .ok (.iconst 0, 1) := by decide +kernel
theorem d173_75 : decode (xbc 173) 75 = .ok (.istore_n 2, 1) := by decide +kernel
theorem d173_76 : decode (xbc 173) 76 = .ok (.iinc 3 1, 3) := by decide +kernel
theorem d173_79 : decode (xbc 173) 79 = .ok (.goto (-65), 3) := by decide +kernel
theorem d173_82 : decode (xbc 173) 82 = .ok (.iload_n 2, 1) := by decide +kernel
theorem d173_83 : decode (xbc 173) 83 = .ok (.ireturn, 1) := by decide +kernel
theorem d174_0 : decode (xbc 174) 0 = .ok (.iload_n 0, 1) := by decide +kernel
theorem d174_1 : decode (xbc 174) 1 = .ok (.bipush 100, 2) := by decide +kernel
theorem d174_3 : decode (xbc 174) 3 = .ok (.idiv, 1) := by decide +kernel
theorem d174_4 : decode (xbc 174) 4 = .ok (.iload_n 0, 1) := by decide +kernel
theorem d174_5 : decode (xbc 174) 5 = .ok (.bipush 100, 2) := by decide +kernel
theorem d174_7 : decode (xbc 174) 7 = .ok (.irem, 1) := by decide +kernel
theorem d174_8 : decode (xbc 174) 8 = .ok (.bipush 50, 2) := by decide +kernel
theorem d174_10 : decode (xbc 174) 10 = .ok (.isub, 1) := by decide +kernel
theorem d174_11 : decode (xbc 174) 11 = .ok (.iload_n 1, 1) := by decide +kernel
theorem d174_12 : decode (xbc 174) 12 = .ok (.imul, 1) := by decide +kernel
theorem d174_13 : decode (xbc 174) 13 = .ok (.iadd, 1) := by decide +kernel
theorem d174_14 : decode (xbc 174) 14 = .ok (.iload_n 2, 1) := by decide +kernel
theorem d174_15 : decode (xbc 174) 15 = .ok (.if_icmp .lt 7, 3) := by decide +kernel
theorem d174_18 : decode (xbc 174) 18 = .ok (.iconst 1, 1) := by decide +kernel
theorem d174_19 : decode (xbc 174) 19 = .ok (.goto 4, 3) := by decide +kernel
theorem d174_22 : decode (xbc 174) 22 = .ok (.iconst 0, 1) := by decide +kernel
theorem d174_23 : decode (xbc 174) 23 = .ok (.ireturn, 1) := by decide +kernel
theorem d175_0 : decode (xbc 175) 0 = .ok (.iload_n 1, 1) := by decide +kernel
theorem d175_1 : decode (xbc 175) 1 = .ok (.iconst 0, 1) := by decide +kernel
theorem d175_2 : decode (xbc 175) 2 = .ok (.iconst 1, 1) := by decide +kernel
theorem d175_3 : decode (xbc 175) 3 = .ok (.invokestatic 38, 3) := by decide +kernel
theorem d175_6 : decode (xbc 175) 6 = .ok (.ifCond .ne 6, 3) := by decide +kernel
theorem d175_9 : decode (xbc 175) 9 = .ok (.bipush (-2), 2) := by decide +kernel
theorem d175_11 : decode (xbc 175) 11 = .ok (.ireturn, 1) := by decide +kernel
theorem d175_12 : decode (xbc 175) 12 = .ok (.iconst 0, 1) := by decide +kernel
theorem d175_13 : decode (xbc 175) 13 = .ok (.istore_n 2, 1) := by decide +kernel
theorem d175_14 : decode (xbc 175) 14 = .ok (.iconst 0, 1) := by decide +kernel
theorem d175_15 : decode (xbc 175) 15 = .ok (.istore_n 3, 1) := by decide +kernel
theorem d175_16 : decode (xbc 175) 16 = .ok (.iload_n 3, 1) := by decide +kernel
theorem d175_17 : decode (xbc 175) 17 = .ok (.sipush 3100, 3) := by decide +kernel
theorem d175_20 : decode (xbc 175) 20 = .ok (.if_icmp .ge 27, 3) := by decide +kernel
theorem d175_23 : decode (xbc 175) 23 = .ok (.aload_n 0, 1) := by decide +kernel
theorem d175_24 : decode (xbc 175) 24 = .ok (.iload_n 3, 1) := by decide +kernel
theorem d175_25 : decode (xbc 175) 25 = .ok (.invokevirtual 209, 3) := by decide +kernel
theorem d175_28 : decode (xbc 175) 28 = .ok (.ifCond .eq 13, 3) := by decide +kernel
theorem d175_31 : decode (xbc 175) 31 = .ok (.aload_n 0, 1) := by decide +kernel
theorem d175_32 : decode (xbc 175) 32 = .ok (.getfield 22, 3) := by decide +kernel
theorem d175_35 : decode (xbc 175) 35 = .ok (.iload_n 2, 1) := by decide +kernel
theorem d175_36 : decode (xbc 175) 36 = .ok (.iload_n 3, 1) := by decide +kernel
theorem d175_37 : decode (xbc 175) 37 = .ok (.iastore, 1) := by decide +kernel
theorem d175_38 : decode (xbc 175) 38 = .ok (.iinc 2 1, 3) := by decide +kernel
theorem d175_41 : decode (xbc 175) 41 = .ok (.iinc 3 1, 3) := by decide +kernel
theorem d175_44 : decode (xbc 175) 44 = .ok (.goto (-28), 3) := by decide +kernel
theorem d175_47 : decode (xbc 175) 47 = .ok (.bipush (-6), 2) := by decide +kernel
theorem d175_49 : decode (xbc 175) 49 = .ok (.istore_n 3, 1) := by decide +kernel
theorem d175_50 : decode (xbc 175) 50 = .ok (.ldc 212, 2) := by decide +kernel
theorem d175_52 : decode (xbc 175) 52 = .ok (.istore 4, 2) := by decide +kernel
theorem d175_54 : decode (xbc 175) 54 = .ok (.iconst 0, 1) := by decide +kernel
theorem d175_55 : decode (xbc 175) 55 = .ok (.istore 5, 2) := by decide +kernel
theorem d175_57 : decode (xbc 175) 57 = .ok (.iload 5, 2) := by decide +kernel
theorem d175_59 : decode (xbc 175) 59 = .ok (.bipush 10, 2) := by decide +kernel
theorem d175_61 : decode (xbc 175) 61 = .ok (.if_icmp .ge 136, 3) := by decide +kernel
theorem d175_64 : decode (xbc 175) 64 = .ok (.iload_n 2, 1) := by decide +kernel
theorem d175_65 : decode (xbc 175) 65 = .ok (.ifCond .le 132, 3) := by decide +kernel
theorem d175_68 : decode (xbc 175) 68 = .ok (.bipush (-99), 2) := by decide +kernel
theorem d175_70 : decode (xbc 175) 70 = .ok (.istore 6, 2) := by decide +kernel
theorem d175_72 : decode (xbc 175) 72 = .ok (.iload 6, 2) := by decide +kernel
theorem d175_74 : decode (xbc 175) 74 = .ok (.bipush 100, 2) := by decide +kernel
theorem d175_76 : decode (xbc 175) 76 = .ok (.if_icmp .ge 115, 3) := by decide +kernel
theorem d175_79 : decode (xbc 175) 79 = .ok (.iconst 0, 1) := by decide +kernel
theorem d175_80 : decode (xbc 175) 80 = .ok (.istore 7, 2) := by decide +kernel
theorem d175_82 : decode (xbc 175) 82 = .ok (.iconst 0, 1) := by decide +kernel
theorem d175_83 : decode (xbc 175) 83 = .ok (.istore 8, 2) := by decide +kernel
theorem d175_85 : decode (xbc 175) 85 = .ok (.iload 8, 2) := by decide +kernel
theorem d175_87 : decode (xbc 175) 87 = .ok (.iload_n 2, 1) := by decide +kernel
theorem d175_88 : decode (xbc 175) 88 = .ok (.if_icmp .ge 36, 3) := by decide +kernel
theorem d175_91 : decode (xbc 175) 91 = .ok (.iload 7, 2) := by decide +kernel
theorem d175_93 : decode (xbc 175) 93 = .ok (.aload_n 0, 1) := by decide +kernel
theorem d175_94 : decode (xbc 175) 94 = .ok (.getfield 22, 3) := by decide +kernel
theorem d175_97 : decode (xbc 175) 97 = .ok (.iload 8, 2) := by decide +kernel
theorem d175_99 : decode (xbc 175) 99 = .ok (.iaload, 1) := by decide +kernel
theorem d175_100 : decode (xbc 175) 100 = .ok (.iload 5, 2) := by decide +kernel
theorem d175_102 : decode (xbc 175) 102 = .ok (.iload 6, 2) := by decide +kernel
theorem d175_104 : decode (xbc 175) 104 = .ok (.invokestatic 206, 3) := by decide +kernel
theorem d175_107 : decode (xbc 175) 107 = .ok (.ifCond .eq 7, 3) := by decide +kernel
theorem d175_110 : decode (xbc 175) 110 = .ok (.iconst 1, 1) := by decide +kernel
theorem d175_111 : decode (xbc 175) 111 = .ok (.goto 4, 3) := by decide +kernel
theorem d175_114 : decode (xbc 175) 114 = .ok (.iconst 0, 1) := by decide +kernel
theorem d175_115 : decode (xbc 175) 115 = .ok (.iadd, 1) := by decide +kernel
theorem d175_116 : decode (xbc 175) 116 = .ok (.istore 7, 2) := by decide +kernel
theorem d175_118 : decode (xbc 175) 118 = .ok (.iinc 8 1, 3) := by decide +kernel
theorem d175_121 : decode (xbc 175) 121 = .ok (.goto (-36), 3) := by decide +kernel
theorem d175_124 : decode (xbc 175) 124 = .ok (.iload 7, 2) := by decide +kernel
theorem d175_126 : decode (xbc 175) 126 = .ok (.iload_n 2, 1) := by decide +kernel
theorem d175_127 : decode (xbc 175) 127 = .ok (.iload 7, 2) := by decide +kernel
theorem d175_129 : decode (xbc 175) 129 = .ok (.isub, 1) := by decide +kernel
theorem d175_130 : decode (xbc 175) 130 = .ok (.if_icmp .le 8, 3) := by decide +kernel
theorem d175_133 : decode (xbc 175) 133 = .ok (.iload 7, 2) := by decide +kernel
theorem d175_135 : decode (xbc 175) 135 = .ok (.goto 7, 3) := by decide +kernel
theorem d175_138 : decode (xbc 175) 138 = .ok (.iload_n 2, 1) := by decide +kernel
theorem d175_139 : decode (xbc 175) 139 = .ok (.iload 7, 2) := by decide +kernel
theorem d175_141 : decode (xbc 175) 141 = .ok (.isub, 1) := by decide +kernel
theorem d175_142 : decode (xbc 175) 142 = .ok (.istore 8, 2) := by decide +kernel
theorem d175_144 : decode (xbc 175) 144 = .ok (.iload 8, 2) := by decide +kernel
theorem d175_146 : decode (xbc 175) 146 = .ok (.iload 4, 2) := by decide +kernel
theorem d175_148 : decode (xbc 175) 148 = .ok (.if_icmp .ge 19, 3) := by decide +kernel
theorem d175_151 : decode (xbc 175) 151 = .ok (.sipush 1000, 3) := by decide +kernel
theorem d175_154 : decode (xbc 175) 154 = .ok (.iload 5, 2) := by decide +kernel
theorem d175_156 : decode (xbc 175) 156 = .ok (.imul, 1) := by decide +kernel
theorem d175_157 : decode (xbc 175) 157 = .ok (.iload 6, 2) := by decide +kernel
theorem d175_159 : decode (xbc 175) 159 = .ok (.iadd, 1) := by decide +kernel
theorem d175_160 : decode (xbc 175) 160 = .ok (.sipush 500, 3) := by decide +kernel
theorem d175_163 : decode (xbc 175) 163 = .ok (.iadd, 1) := by decide +kernel
theorem d175_164 : decode (xbc 175) 164 = .ok (.goto 4, 3) := by decide +kernel
theorem d175_167 : decode (xbc 175) 167 = .ok (.iload_n 3, 1) := by decide +kernel
theorem d175_168 : decode (xbc 175) 168 = .ok (.istore_n 3, 1) := by decide +kernel
theorem d175_169 : decode (xbc 175) 169 = .ok (.iload 8, 2) := by decide +kernel
theorem d175_171 : decode (xbc 175) 171 = .ok (.iload 4, 2) := by decide +kernel
theorem d175_173 : decode (xbc 175) 173 = .ok (.if_icmp .ge 8, 3) := by decide +kernel
theorem d175_176 : decode (xbc 175) 176 = .ok (.iload 8, 2) := by decide +kernel
theorem d175_178 : decode (xbc 175) 178 = .ok (.goto 5, 3) := by decide +kernel
theorem d175_181 : decode (xbc 175) 181 = .ok (.iload 4, 2) := by decide +kernel
theorem d175_183 : decode (xbc 175) 183 = .ok (.istore 4, 2) := by decide +kernel
theorem d175_185 : decode (xbc 175) 185 = .ok (.iinc 6 1, 3) := by decide +kernel
theorem d175_188 : decode (xbc 175) 188 = .ok (.goto (-116), 3) := by decide +kernel
theorem d175_191 : decode (xbc 175) 191 = .ok (.iinc 5 1, 3) := by decide +kernel
theorem d175_194 : decode (xbc 175) 194 = .ok (.goto (-137), 3) := by decide +kernel
theorem d175_197 : decode (xbc 175) 197 = .ok (.iload_n 3, 1) := by decide +kernel
theorem d175_198 : decode (xbc 175) 198 = .ok (.ifCond .lt 7, 3) := by decide +kernel
theorem d175_201 : decode (xbc 175) 201 = .ok (.iload_n 1, 1) := by decide +kernel
theorem d175_202 : decode (xbc 175) 202 = .ok (.ifCond .ne 7, 3) := by decide +kernel
theorem d175_205 : decode (xbc 175) 205 = .ok (.iload_n 3, 1) := by decide +kernel
theorem d175_206 : decode (xbc 175) 206 = .ok (.goto 5, 3) := by decide +kernel
theorem d175_209 : decode (xbc 175) 209 = .ok (.iload 4, 2) := by decide +kernel
theorem d175_211 : decode (xbc 175) 211 = .ok (.ireturn, 1) := by decide +kernel
theorem d176_0 : decode (xbc 176) 0 = .ok (.iload_n 1, 1) := by decide +kernel
theorem d176_1 : decode (xbc 176) 1 = .ok (.invokestatic 78, 3) := by decide +kernel
theorem d176_4 : decode (xbc 176) 4 = .ok (.ifCond .eq 10, 3) := by decide +kernel
theorem d176_7 : decode (xbc 176) 7 = .ok (.iload_n 2, 1) := by decide +kernel
theorem d176_8 : decode (xbc 176) 8 = .ok (.invokestatic 78, 3) := by decide +kernel
theorem d176_11 : decode (xbc 176) 11 = .ok (.ifCond .ne 7, 3) := by decide +kernel
theorem d176_14 : decode (xbc 176) 14 = .ok (.ldc2_w 167, 3) := by decide +kernel
theorem d176_17 : decode (xbc 176) 17 = .ok (.lreturn, 1) := by decide +kernel
theorem d176_18 : decode (xbc 176) 18 = .ok (.iload_n 1, 1) := by decide +kernel
theorem d176_19 : decode (xbc 176) 19 = .ok (.iload_n 2, 1) := by decide +kernel
theorem d176_20 : decode (xbc 176) 20 = .ok (.if_icmp .eq 12, 3) := by decide +kernel
theorem d176_23 : decode (xbc 176) 23 = .ok (.iload_n 3, 1) := by decide +kernel
theorem d176_24 : decode (xbc 176) 24 = .ok (.iconst 0, 1) := by decide +kernel
theorem d176_25 : decode (xbc 176) 25 = .ok (.iconst 1, 1) := by decide +kernel
theorem d176_26 : decode (xbc 176) 26 = .ok (.invokestatic 38, 3) := by decide +kernel
theorem d176_29 : decode (xbc 176) 29 = .ok (.ifCond .ne 7, 3) := by decide +kernel
theorem d176_32 : decode (xbc 176) 32 = .ok (.ldc2_w 156, 3) := by decide +kernel
theorem d176_35 : decode (xbc 176) 35 = .ok (.lreturn, 1) := by decide +kernel
theorem d176_36 : decode (xbc 176) 36 = .ok (.aload_n 0, 1) := by decide +kernel
theorem d176_37 : decode (xbc 176) 37 = .ok (.getfield 7, 3) := by decide +kernel
theorem d176_40 : decode (xbc 176) 40 = .ok (.bipush 32, 2) := by decide +kernel
theorem d176_42 : decode (xbc 176) 42 = .ok (.iload_n 1, 1) := by decide +kernel
theorem d176_43 : decode (xbc 176) 43 = .ok (.iadd, 1) := by decide +kernel
theorem d176_44 : decode (xbc 176) 44 = .ok (.iaload, 1) := by decide +kernel
theorem d176_45 : decode (xbc 176) 45 = .ok (.aload_n 0, 1) := by decide +kernel
theorem d176_46 : decode (xbc 176) 46 = .ok (.getfield 7, 3) := by decide +kernel
theorem d176_49 : decode (xbc 176) 49 = .ok (.bipush 32, 2) := by decide +kernel
theorem d176_51 : decode (xbc 176) 51 = .ok (.iload_n 2, 1) := by decide +kernel
theorem d176_52 : decode (xbc 176) 52 = .ok (.iadd, 1) := by decide +kernel
theorem d176_53 : decode (xbc 176) 53 = .ok (.iaload, 1) := by decide +kernel
theorem d176_54 : decode (xbc 176) 54 = .ok (.isub, 1) := by decide +kernel
theorem d176_55 : decode (xbc 176) 55 = .ok (.istore 4, 2) := by decide +kernel
theorem d176_57 : decode (xbc 176) 57 = .ok (.iload 4, 2) := by decide +kernel
theorem d176_59 : decode (xbc 176) 59 = .ok (.ifCond .ne 7, 3) := by decide +kernel
theorem d176_62 : decode (xbc 176) 62 = .ok (.ldc2_w 161, 3) := by decide +kernel
theorem d176_65 : decode (xbc 176) 65 = .ok (.lreturn, 1) := by decide +kernel
theorem d176_66 : decode (xbc 176) 66 = .ok (.aload_n 0, 1) := by decide +kernel
theorem d176_67 : decode (xbc 176) 67 = .ok (.getfield 7, 3) := by decide +kernel
theorem d176_70 : decode (xbc 176) 70 = .ok (.bipush 24, 2) := by decide +kernel
theorem d176_72 : decode (xbc 176) 72 = .ok (.iload_n 2, 1) := by decide +kernel
theorem d176_73 : decode (xbc 176) 73 = .ok (.iadd, 1) := by decide +kernel
theorem d176_74 : decode (xbc 176) 74 = .ok (.iaload, 1) := by decide +kernel
theorem d176_75 : decode (xbc 176) 75 = .ok (.aload_n 0, 1) := by decide +kernel
theorem d176_76 : decode (xbc 176) 76 = .ok (.getfield 7, 3) := by decide +kernel
theorem d176_79 : decode (xbc 176) 79 = .ok (.bipush 24, 2) := by decide +kernel
theorem d176_81 : decode (xbc 176) 81 = .ok (.iload_n 1, 1) := by decide +kernel
theorem d176_82 : decode (xbc 176) 82 = .ok (.iadd, 1) := by decide +kernel
theorem d176_83 : decode (xbc 176) 83 = .ok (.iaload, 1) := by decide +kernel
theorem d176_84 : decode (xbc 176) 84 = .ok (.isub, 1) := by decide +kernel
theorem d176_85 : decode (xbc 176) 85 = .ok (.istore 5, 2) := by decide +kernel
theorem d176_87 : decode (xbc 176) 87 = .ok (.iload 4, 2) := by decide +kernel
theorem d176_89 : decode (xbc 176) 89 = .ok (.ifCond .le 16, 3) := by decide +kernel
theorem d176_92 : decode (xbc 176) 92 = .ok (.iload 5, 2) := by decide +kernel
theorem d176_94 : decode (xbc 176) 94 = .ok (.i2l, 1) := by decide +kernel
theorem d176_95 : decode (xbc 176) 95 = .ok (.iload 4, 2) := by decide +kernel
theorem d176_97 : decode (xbc 176) 97 = .ok (.i2l, 1) := by decide +kernel
theorem d176_98 : decode (xbc 176) 98 = .ok (.iload_n 3, 1) := by decide +kernel
theorem d176_99 : decode (xbc 176) 99 = .ok (.invokestatic 163, 3) := by decide +kernel
theorem d176_102 : decode (xbc 176) 102 = .ok (.goto 15, 3) := by decide +kernel
theorem d176_105 : decode (xbc 176) 105 = .ok (.iload 5, 2) := by decide +kernel
theorem d176_107 : decode (xbc 176) 107 = .ok (.ineg, 1) := by decide +kernel
theorem d176_108 : decode (xbc 176) 108 = .ok (.i2l, 1) := by decide +kernel
theorem d176_109 : decode (xbc 176) 109 = .ok (.iload 4, 2) := by decide +kernel
theorem d176_111 : decode (xbc 176) 111 = .ok (.ineg, 1) := by decide +kernel
theorem d176_112 : decode (xbc 176) 112 = .ok (.i2l, 1) := by decide +kernel
theorem d176_113 : decode (xbc 176) 113 = .ok (.iload_n 3, 1) := by decide +kernel
theorem d176_114 : decode (xbc 176) 114 = .ok (.invokestatic 163, 3) := by decide +kernel
theorem d176_117 : decode (xbc 176) 117 = .ok (.lreturn, 1) := by decide +kernel
theorem d177_0 : decode (xbc 177) 0 = .ok (.iload_n 1, 1) := by decide +kernel
theorem d177_1 : decode (xbc 177) 1 = .ok (.iconst 0, 1) := by decide +kernel
theorem d177_2 : decode (xbc 177) 2 = .ok (.sipush 9999, 3) := by decide +kernel
theorem d177_5 : decode (xbc 177) 5 = .ok (.invokestatic 38, 3) := by decide +kernel
theorem d177_8 : decode (xbc 177) 8 = .ok (.ifCond .eq 22, 3) := by decide +kernel
theorem d177_11 : decode (xbc 177) 11 = .ok (.iload_n 2, 1) := by decide +kernel
theorem d177_12 : decode (xbc 177) 12 = .ok (.iconst 1, 1) := by decide +kernel
theorem d177_13 : decode (xbc 177) 13 = .ok (.bipush 99, 2) := by decide +kernel
theorem d177_15 : decode (xbc 177) 15 = .ok (.invokestatic 38, 3) := by decide +kernel
theorem d177_18 : decode (xbc 177) 18 = .ok (.ifCond .eq 12, 3) := by decide +kernel
theorem d177_21 : decode (xbc 177) 21 = .ok (.iload_n 3, 1) := by decide +kernel
theorem d177_22 : decode (xbc 177) 22 = .ok (.iconst 0, 1) := by decide +kernel
theorem d177_23 : decode (xbc 177) 23 = .ok (.iconst 2, 1) := by decide +kernel
theorem d177_24 : decode (xbc 177) 24 = .ok (.invokestatic 38, 3) := by decide +kernel
theorem d177_27 : decode (xbc 177) 27 = .ok (.ifCond .ne 6, 3) := by decide +kernel
theorem d177_30 : decode (xbc 177) 30 = .ok (.bipush (-2), 2) := by decide +kernel
theorem d177_32 : decode (xbc 177) 32 = .ok (.ireturn, 1) := by decide +kernel
theorem d177_33 : decode (xbc 177) 33 = .ok (.aload_n 0, 1) := by decide +kernel
theorem d177_34 : decode (xbc 177) 34 = .ok (.invokevirtual 82, 3) := by decide +kernel
theorem d177_37 : decode (xbc 177) 37 = .ok (.iload_n 1, 1) := by decide +kernel
theorem d177_38 : decode (xbc 177) 38 = .ok (.istore 4, 2) := by decide +kernel
theorem d177_40 : decode (xbc 177) 40 = .ok (.iconst 0, 1) := by decide +kernel
theorem d177_41 : decode (xbc 177) 41 = .ok (.istore 5, 2) := by decide +kernel
theorem d177_43 : decode (xbc 177) 43 = .ok (.iload 5, 2) := by decide +kernel
theorem d177_45 : decode (xbc 177) 45 = .ok (.iload_n 2, 1) := by decide +kernel
theorem d177_46 : decode (xbc 177) 46 = .ok (.if_icmp .ge 159, 3) := by decide +kernel
theorem d177_49 : decode (xbc 177) 49 = .ok (.bipush 75, 2) := by decide +kernel
theorem d177_51 : decode (xbc 177) 51 = .ok (.iload 4, 2) := by decide +kernel
theorem d177_53 : decode (xbc 177) 53 = .ok (.imul, 1) := by decide +kernel
theorem d177_54 : decode (xbc 177) 54 = .ok (.bipush 74, 2) := by decide +kernel
theorem d177_56 : decode (xbc 177) 56 = .ok (.iadd, 1) := by decide +kernel
theorem d177_57 : decode (xbc 177) 57 = .ok (.ldc 213, 2) := by decide +kernel
theorem d177_59 : decode (xbc 177) 59 = .ok (.irem, 1) := by decide +kernel
theorem d177_60 : decode (xbc 177) 60 = .ok (.istore 4, 2) := by decide +kernel
theorem d177_62 : decode (xbc 177) 62 = .ok (.iload 4, 2) := by decide +kernel
theorem d177_64 : decode (xbc 177) 64 = .ok (.bipush 8, 2) := by decide +kernel
theorem d177_66 : decode (xbc 177) 66 = .ok (.irem, 1) := by decide +kernel
theorem d177_67 : decode (xbc 177) 67 = .ok (.istore 6, 2) := by decide +kernel
theorem d177_69 : decode (xbc 177) 69 = .ok (.iload 4, 2) := by decide +kernel
theorem d177_71 : decode (xbc 177) 71 = .ok (.bipush 8, 2) := by decide +kernel
theorem d177_73 : decode (xbc 177) 73 = .ok (.idiv, 1) := by decide +kernel
theorem d177_74 : decode (xbc 177) 74 = .ok (.bipush 8, 2) := by decide +kernel
theorem d177_76 : decode (xbc 177) 76 = .ok (.irem, 1) := by decide +kernel
theorem d177_77 : decode (xbc 177) 77 = .ok (.tableswitch 112 0 4 #[35, 49, 63, 77, 91], 35) := by decide +kernel
theorem d177_112 : decode (xbc 177) 112 = .ok (.aload_n 0, 1) := by decide +kernel
theorem d177_113 : decode (xbc 177) 113 = .ok (.aload_n 0, 1) := by decide +kernel
theorem d177_114 : decode (xbc 177) 114 = .ok (.iload 6, 2) := by decide +kernel
theorem d177_116 : decode (xbc 177) 116 = .ok (.iconst 1, 1) := by decide +kernel
theorem d177_117 : decode (xbc 177) 117 = .ok (.invokevirtual 108, 3) := by decide +kernel
theorem d177_120 : decode (xbc 177) 120 = .ok (.putfield 121, 3) := by decide +kernel
theorem d177_123 : decode (xbc 177) 123 = .ok (.goto 76, 3) := by decide +kernel
theorem d177_126 : decode (xbc 177) 126 = .ok (.aload_n 0, 1) := by decide +kernel
theorem d177_127 : decode (xbc 177) 127 = .ok (.aload_n 0, 1) := by decide +kernel
theorem d177_128 : decode (xbc 177) 128 = .ok (.iload 6, 2) := by decide +kernel
theorem d177_130 : decode (xbc 177) 130 = .ok (.iconst (-1), 1) := by decide +kernel
theorem d177_131 : decode (xbc 177) 131 = .ok (.invokevirtual 108, 3) := by decide +kernel
theorem d177_134 : decode (xbc 177) 134 = .ok (.putfield 121, 3) := by decide +kernel
theorem d177_137 : decode (xbc 177) 137 = .ok (.goto 62, 3) := by decide +kernel
theorem d177_140 : decode (xbc 177) 140 = .ok (.aload_n 0, 1) := by decide +kernel
theorem d177_141 : decode (xbc 177) 141 = .ok (.aload_n 0, 1) := by decide +kernel
theorem d177_142 : decode (xbc 177) 142 = .ok (.iload 6, 2) := by decide +kernel
theorem d177_144 : decode (xbc 177) 144 = .ok (.iconst 1, 1) := by decide +kernel
theorem d177_145 : decode (xbc 177) 145 = .ok (.invokevirtual 111, 3) := by decide +kernel
theorem d177_148 : decode (xbc 177) 148 = .ok (.putfield 121, 3) := by decide +kernel
theorem d177_151 : decode (xbc 177) 151 = .ok (.goto 48, 3) := by decide +kernel
theorem d177_154 : decode (xbc 177) 154 = .ok (.aload_n 0, 1) := by decide +kernel
theorem d177_155 : decode (xbc 177) 155 = .ok (.aload_n 0, 1) := by decide +kernel
theorem d177_156 : decode (xbc 177) 156 = .ok (.iload 6, 2) := by decide +kernel
theorem d177_158 : decode (xbc 177) 158 = .ok (.iconst 0, 1) := by decide +kernel
theorem d177_159 : decode (xbc 177) 159 = .ok (.invokevirtual 111, 3) := by decide +kernel
theorem d177_162 : decode (xbc 177) 162 = .ok (.putfield 121, 3) := by decide +kernel
theorem d177_165 : decode (xbc 177) 165 = .ok (.goto 34, 3) := by decide +kernel
theorem d177_168 : decode (xbc 177) 168 = .ok (.aload_n 0, 1) := by decide +kernel
theorem d177_169 : decode (xbc 177) 169 = .ok (.aload_n 0, 1) := by decide +kernel
theorem d177_170 : decode (xbc 177) 170 = .ok (.iload 6, 2) := by decide +kernel
theorem d177_172 : decode (xbc 177) 172 = .ok (.iload 4, 2) := by decide +kernel
theorem d177_174 : decode (xbc 177) 174 = .ok (.bipush 64, 2) := by decide +kernel
theorem d177_176 : decode (xbc 177) 176 = .ok (.idiv, 1) := by decide +kernel
theorem d177_177 : decode (xbc 177) 177 = .ok (.bipush 8, 2) := by decide +kernel
theorem d177_179 : decode (xbc 177) 179 = .ok (.irem, 1) := by decide +kernel
theorem d177_180 : decode (xbc 177) 180 = .ok (.invokevirtual 115, 3) := by decide +kernel
theorem d177_183 : decode (xbc 177) 183 = .ok (.putfield 121, 3) := by decide +kernel
theorem d177_186 : decode (xbc 177) 186 = .ok (.goto 13, 3) := by decide +kernel
theorem d177_189 : decode (xbc 177) 189 = .ok (.aload_n 0, 1) := by decide +kernel
theorem d177_190 : decode (xbc 177) 190 = .ok (.aload_n 0, 1) := by decide +kernel
theorem d177_191 : decode (xbc 177) 191 = .ok (.iload 5, 2) := by decide +kernel
theorem d177_193 : decode (xbc 177) 193 = .ok (.invokevirtual 105, 3) := by decide +kernel
theorem d177_196 : decode (xbc 177) 196 = .ok (.putfield 121, 3) := by decide +kernel
theorem d177_199 : decode (xbc 177) 199 = .ok (.iinc 5 1, 3) := by decide +kernel
theorem d177_202 : decode (xbc 177) 202 = .ok (.goto (-159), 3) := by decide +kernel
theorem d177_205 : decode (xbc 177) 205 = .ok (.iload_n 3, 1) := by decide +kernel
theorem d177_206 : decode (xbc 177) 206 = .ok (.ifCond .ne 13, 3) := by decide +kernel
theorem d177_209 : decode (xbc 177) 209 = .ok (.aload_n 0, 1) := by decide +kernel
theorem d177_210 : decode (xbc 177) 210 = .ok (.getfield 13, 3) := by decide +kernel
theorem d177_213 : decode (xbc 177) 213 = .ok (.bipush 42, 2) := by decide +kernel
theorem d177_215 : decode (xbc 177) 215 = .ok (.iaload, 1) := by decide +kernel
theorem d177_216 : decode (xbc 177) 216 = .ok (.goto 19, 3) := by decide +kernel
theorem d177_219 : decode (xbc 177) 219 = .ok (.iload_n 3, 1) := by decide +kernel
theorem d177_220 : decode (xbc 177) 220 = .ok (.iconst 1, 1) := by decide +kernel
theorem d177_221 : decode (xbc 177) 221 = .ok (.if_icmp .ne 10, 3) := by decide +kernel
theorem d177_224 : decode (xbc 177) 224 = .ok (.aload_n 0, 1) := by decide +kernel
theorem d177_225 : decode (xbc 177) 225 = .ok (.getfield 49, 3) := by decide +kernel
theorem d177_228 : decode (xbc 177) 228 = .ok (.goto 7, 3) := by decide +kernel
theorem d177_231 : decode (xbc 177) 231 = .ok (.aload_n 0, 1) := by decide +kernel
theorem d177_232 : decode (xbc 177) 232 = .ok (.getfield 46, 3) := by decide +kernel
theorem d177_235 : decode (xbc 177) 235 = .ok (.ireturn, 1) := by decide +kernel
theorem d178_0 : decode (xbc 178) 0 = .ok (.iload_n 1, 1) := by decide +kernel
theorem d178_1 : decode (xbc 178) 1 = .ok (.iconst 0, 1) := by decide +kernel
theorem d178_2 : decode (xbc 178) 2 = .ok (.iconst 1, 1) := by decide +kernel
theorem d178_3 : decode (xbc 178) 3 = .ok (.invokestatic 38, 3) := by decide +kernel
theorem d178_6 : decode (xbc 178) 6 = .ok (.ifCond .ne 6, 3) := by decide +kernel
theorem d178_9 : decode (xbc 178) 9 = .ok (.bipush (-2), 2) := by decide +kernel
theorem d178_11 : decode (xbc 178) 11 = .ok (.ireturn, 1) := by decide +kernel
theorem d178_12 : decode (xbc 178) 12 = .ok (.sipush 360, 3) := by decide +kernel
theorem d178_15 : decode (xbc 178) 15 = .ok (.iload_n 1, 1) := by decide +kernel
theorem d178_16 : decode (xbc 178) 16 = .ok (.imul, 1) := by decide +kernel
theorem d178_17 : decode (xbc 178) 17 = .ok (.istore_n 2, 1) := by decide +kernel
theorem d178_18 : decode (xbc 178) 18 = .ok (.iconst 0, 1) := by decide +kernel
theorem d178_19 : decode (xbc 178) 19 = .ok (.istore_n 3, 1) := by decide +kernel
theorem d178_20 : decode (xbc 178) 20 = .ok (.iload_n 3, 1) := by decide +kernel
theorem d178_21 : decode (xbc 178) 21 = .ok (.sipush 331, 3) := by decide +kernel
theorem d178_24 : decode (xbc 178) 24 = .ok (.if_icmp .ge 23, 3) := by decide +kernel
theorem d178_27 : decode (xbc 178) 27 = .ok (.aload_n 0, 1) := by decide +kernel
theorem d178_28 : decode (xbc 178) 28 = .ok (.getfield 25, 3) := by decide +kernel
theorem d178_31 : decode (xbc 178) 31 = .ok (.iload_n 2, 1) := by decide +kernel
theorem d178_32 : decode (xbc 178) 32 = .ok (.iload_n 3, 1) := by decide +kernel
theorem d178_33 : decode (xbc 178) 33 = .ok (.iadd, 1) := by decide +kernel
theorem d178_34 : decode (xbc 178) 34 = .ok (.aload_n 0, 1) := by decide +kernel
theorem d178_35 : decode (xbc 178) 35 = .ok (.getfield 7, 3) := by decide +kernel
theorem d178_38 : decode (xbc 178) 38 = .ok (.iload_n 3, 1) := by decide +kernel
theorem d178_39 : decode (xbc 178) 39 = .ok (.iaload, 1) := by decide +kernel
theorem d178_40 : decode (xbc 178) 40 = .ok (.iastore, 1) := by decide +kernel
theorem d178_41 : decode (xbc 178) 41 = .ok (.iinc 3 1, 3) := by decide +kernel
theorem d178_44 : decode (xbc 178) 44 = .ok (.goto (-24), 3) := by decide +kernel
theorem d178_47 : decode (xbc 178) 47 = .ok (.iconst 0, 1) := by decide +kernel
theorem d178_48 : decode (xbc 178) 48 = .ok (.istore_n 3, 1) := by decide +kernel
theorem d178_49 : decode (xbc 178) 49 = .ok (.iload_n 3, 1) := by decide +kernel
theorem d178_50 : decode (xbc 178) 50 = .ok (.bipush 24, 2) := by decide +kernel
theorem d178_52 : decode (xbc 178) 52 = .ok (.if_icmp .ge 27, 3) := by decide +kernel
theorem d178_55 : decode (xbc 178) 55 = .ok (.aload_n 0, 1) := by decide +kernel
theorem d178_56 : decode (xbc 178) 56 = .ok (.getfield 25, 3) := by decide +kernel
theorem d178_59 : decode (xbc 178) 59 = .ok (.iload_n 2, 1) := by decide +kernel
theorem d178_60 : decode (xbc 178) 60 = .ok (.sipush 331, 3) := by decide +kernel
theorem d178_63 : decode (xbc 178) 63 = .ok (.iadd, 1) := by decide +kernel
theorem d178_64 : decode (xbc 178) 64 = .ok (.iload_n 3, 1) := by decide +kernel
theorem d178_65 : decode (xbc 178) 65 = .ok (.iadd, 1) := by decide +kernel
theorem d178_66 : decode (xbc 178) 66 = .ok (.aload_n 0, 1) := by decide +kernel
theorem d178_67 : decode (xbc 178) 67 = .ok (.getfield 16, 3) := by decide +kernel
theorem d178_70 : decode (xbc 178) 70 = .ok (.iload_n 3, 1) := by decide +kernel
theorem d178_71 : decode (xbc 178) 71 = .ok (.iaload, 1) := by decide +kernel
theorem d178_72 : decode (xbc 178) 72 = .ok (.iastore, 1) := by decide +kernel
theorem d178_73 : decode (xbc 178) 73 = .ok (.iinc 3 1, 3) := by decide +kernel
theorem d178_76 : decode (xbc 178) 76 = .ok (.goto (-27), 3) := by decide +kernel
theorem d178_79 : decode (xbc 178) 79 = .ok (.aload_n 0, 1) := by decide +kernel
theorem d178_80 : decode (xbc 178) 80 = .ok (.getfield 25, 3) := by decide +kernel
theorem d178_83 : decode (xbc 178) 83 = .ok (.iload_n 2, 1) := by decide +kernel
theorem d178_84 : decode (xbc 178) 84 = .ok (.sipush 358, 3) := by decide +kernel
theorem d178_87 : decode (xbc 178) 87 = .ok (.iadd, 1) := by decide +kernel
theorem d178_88 : decode (xbc 178) 88 = .ok (.aload_n 0, 1) := by decide +kernel
theorem d178_89 : decode (xbc 178) 89 = .ok (.getfield 203, 3) := by decide +kernel
theorem d178_92 : decode (xbc 178) 92 = .ok (.iastore, 1) := by decide +kernel
theorem d178_93 : decode (xbc 178) 93 = .ok (.aload_n 0, 1) := by decide +kernel
theorem d178_94 : decode (xbc 178) 94 = .ok (.getfield 28, 3) := by decide +kernel
theorem d178_97 : decode (xbc 178) 97 = .ok (.iload_n 1, 1) := by decide +kernel
theorem d178_98 : decode (xbc 178) 98 = .ok (.iconst 1, 1) := by decide +kernel
theorem d178_99 : decode (xbc 178) 99 = .ok (.bastore, 1) := by decide +kernel
theorem d178_100 : decode (xbc 178) 100 = .ok (.iconst 1, 1) := by decide +kernel
theorem d178_101 : decode (xbc 178) 101 = .ok (.ireturn, 1) := by decide +kernel
theorem d179_0 : decode (xbc 179) 0 = .ok (.iload_n 1, 1) := by decide +kernel
theorem d179_1 : decode (xbc 179) 1 = .ok (.iconst 0, 1) := by decide +kernel
theorem d179_2 : decode (xbc 179) 2 = .ok (.iconst 1, 1) := by decide +kernel
theorem d179_3 : decode (xbc 179) 3 = .ok (.invokestatic 38, 3) := by decide +kernel
theorem d179_6 : decode (xbc 179) 6 = .ok (.ifCond .ne 6, 3) := by decide +kernel
theorem d179_9 : decode (xbc 179) 9 = .ok (.bipush (-2), 2) := by decide +kernel
theorem d179_11 : decode (xbc 179) 11 = .ok (.ireturn, 1) := by decide +kernel
theorem d179_12 : decode (xbc 179) 12 = .ok (.aload_n 0, 1) := by decide +kernel
theorem d179_13 : decode (xbc 179) 13 = .ok (.getfield 28, 3) := by decide +kernel
theorem d179_16 : decode (xbc 179) 16 = .ok (.iload_n 1, 1) := by decide +kernel
theorem d179_17 : decode (xbc 179) 17 = .ok (.baload, 1) := by decide +kernel
theorem d179_18 : decode (xbc 179) 18 = .ok (.ifCond .ne 6, 3) := by decide +kernel
theorem d179_21 : decode (xbc 179) 21 = .ok (.bipush (-3), 2) := by decide +kernel
theorem d179_23 : decode (xbc 179) 23 = .ok (.ireturn, 1) := by decide +kernel
theorem d179_24 : decode (xbc 179) 24 = .ok (.sipush 360, 3) := by decide +kernel
theorem d179_27 : decode (xbc 179) 27 = .ok (.iload_n 1, 1) := by decide +kernel
theorem d179_28 : decode (xbc 179) 28 = .ok (.imul, 1) := by decide +kernel
theorem d179_29 : decode (xbc 179) 29 = .ok (.istore_n 2, 1) := by decide +kernel
theorem d179_30 : decode (xbc 179) 30 = .ok (.iconst 0, 1) := by decide +kernel
theorem d179_31 : decode (xbc 179) 31 = .ok (.istore_n 3, 1) := by decide +kernel
theorem d179_32 : decode (xbc 179) 32 = .ok (.iload_n 3, 1) := by decide +kernel
theorem d179_33 : decode (xbc 179) 33 = .ok (.sipush 331, 3) := by decide +kernel
theorem d179_36 : decode (xbc 179) 36 = .ok (.if_icmp .ge 23, 3) := by decide +kernel
theorem d179_39 : decode (xbc 179) 39 = .ok (.aload_n 0, 1) := by decide +kernel
theorem d179_40 : decode (xbc 179) 40 = .ok (.getfield 7, 3) := by decide +kernel
theorem d179_43 : decode (xbc 179) 43 = .ok (.iload_n 3, 1) := by decide +kernel
theorem d179_44 : decode (xbc 179) 44 = .ok (.aload_n 0, 1) := by decide +kernel
theorem d179_45 : decode (xbc 179) 45 = .ok (.getfield 25, 3) := by decide +kernel
theorem d179_48 : decode (xbc 179) 48 = .ok (.iload_n 2, 1) := by decide +kernel
theorem d179_49 : decode (xbc 179) 49 = .ok (.iload_n 3, 1) := by decide +kernel
theorem d179_50 : decode (xbc 179) 50 = .ok (.iadd, 1) := by decide +kernel
theorem d179_51 : decode (xbc 179) 51 = .ok (.iaload, 1) := by decide +kernel
theorem d179_52 : decode (xbc 179) 52 = .ok (.iastore, 1) := by decide +kernel
theorem d179_53 : decode (xbc 179) 53 = .ok (.iinc 3 1, 3) := by decide +kernel
theorem d179_56 : decode (xbc 179) 56 = .ok (.goto (-24), 3) := by decide +kernel
theorem d179_59 : decode (xbc 179) 59 = .ok (.iconst 0, 1) := by decide +kernel
theorem d179_60 : decode (xbc 179) 60 = .ok (.istore_n 3, 1) := by decide +kernel
theorem d179_61 : decode (xbc 179) 61 = .ok (.iload_n 3, 1) := by decide +kernel
theorem d179_62 : decode (xbc 179) 62 = .ok (.bipush 24, 2) := by decide +kernel
theorem d179_64 : decode (xbc 179) 64 = .ok (.if_icmp .ge 27, 3) := by decide +kernel
theorem d179_67 : decode (xbc 179) 67 = .ok (.aload_n 0, 1) := by decide +kernel
theorem d179_68 : decode (xbc 179) 68 = .ok (.getfield 16, 3) := by decide +kernel
theorem d179_71 : decode (xbc 179) 71 = .ok (.iload_n 3, 1) := by decide +kernel
theorem d179_72 : decode (xbc 179) 72 = .ok (.aload_n 0, 1) := by decide +kernel
theorem d179_73 : decode (xbc 179) 73 = .ok (.getfield 25, 3) := by decide +kernel
theorem d179_76 : decode (xbc 179) 76 = .ok (.iload_n 2, 1) := by decide +kernel
theorem d179_77 : decode (xbc 179) 77 = .ok (.sipush 331, 3) := by decide +kernel
theorem d179_80 : decode (xbc 179) 80 = .ok (.iadd, 1) := by decide +kernel
theorem d179_81 : decode (xbc 179) 81 = .ok (.iload_n 3, 1) := by decide +kernel
theorem d179_82 : decode (xbc 179) 82 = .ok (.iadd, 1) := by decide +kernel
theorem d179_83 : decode (xbc 179) 83 = .ok (.iaload, 1) := by decide +kernel
theorem d179_84 : decode (xbc 179) 84 = .ok (.iastore, 1) := by decide +kernel
theorem d179_85 : decode (xbc 179) 85 = .ok (.iinc 3 1, 3) := by decide +kernel
theorem d179_88 : decode (xbc 179) 88 = .ok (.goto (-27), 3) := by decide +kernel
theorem d179_91 : decode (xbc 179) 91 = .ok (.aload_n 0, 1) := by decide +kernel
theorem d179_92 : decode (xbc 179) 92 = .ok (.aload_n 0, 1) := by decide +kernel
theorem d179_93 : decode (xbc 179) 93 = .ok (.getfield 25, 3) := by decide +kernel
theorem d179_96 : decode (xbc 179) 96 = .ok (.iload_n 2, 1) := by decide +kernel
theorem d179_97 : decode (xbc 179) 97 = .ok (.sipush 358, 3) := by decide +kernel
theorem d179_100 : decode (xbc 179) 100 = .ok (.iadd, 1) := by decide +kernel
theorem d179_101 : decode (xbc 179) 101 = .ok (.iaload, 1) := by decide +kernel
theorem d179_102 : decode (xbc 179) 102 = .ok (.putfield 203, 3) := by decide +kernel
theorem d179_105 : decode (xbc 179) 105 = .ok (.iconst 1, 1) := by decide +kernel
theorem d179_106 : decode (xbc 179) 106 = .ok (.ireturn, 1) := by decide +kernel
theorem d180_0 : decode (xbc 180) 0 = .ok (.iload_n 1, 1) := by decide +kernel
theorem d180_1 : decode (xbc 180) 1 = .ok (.bipush 50, 2) := by decide +kernel
theorem d180_3 : decode (xbc 180) 3 = .ok (.if_icmp .lt 29, 3) := by decide +kernel
theorem d180_6 : decode (xbc 180) 6 = .ok (.iload_n 1, 1) := by decide +kernel
theorem d180_7 : decode (xbc 180) 7 = .ok (.bipush 51, 2) := by decide +kernel
theorem d180_9 : decode (xbc 180) 9 = .ok (.bipush 57, 2) := by decide +kernel
theorem d180_11 : decode (xbc 180) 11 = .ok (.invokestatic 38, 3) := by decide +kernel
theorem d180_14 : decode (xbc 180) 14 = .ok (.ifCond .eq 15, 3) := by decide +kernel
theorem d180_17 : decode (xbc 180) 17 = .ok (.aload_n 0, 1) := by decide +kernel
theorem d180_18 : decode (xbc 180) 18 = .ok (.getfield 7, 3) := by decide +kernel
theorem d180_21 : decode (xbc 180) 21 = .ok (.iload_n 1, 1) := by decide +kernel
theorem d180_22 : decode (xbc 180) 22 = .ok (.bipush 9, 2) := by decide +kernel
theorem d180_24 : decode (xbc 180) 24 = .ok (.isub, 1) := by decide +kernel
theorem d180_25 : decode (xbc 180) 25 = .ok (.iaload, 1) := by decide +kernel
theorem d180_26 : decode (xbc 180) 26 = .ok (.goto 5, 3) := by decide +kernel
theorem d180_29 : decode (xbc 180) 29 = .ok (.bipush (-2), 2) := by decide +kernel
theorem d180_31 : decode (xbc 180) 31 = .ok (.ireturn, 1) := by decide +kernel
theorem d180_32 : decode (xbc 180) 32 = .ok (.iload_n 1, 1) := by decide +kernel
theorem d180_33 : decode (xbc 180) 33 = .ok (.bipush 10, 2) := by decide +kernel
theorem d180_35 : decode (xbc 180) 35 = .ok (.if_icmp .lt 56, 3) := by decide +kernel
theorem d180_38 : decode (xbc 180) 38 = .ok (.iload_n 1, 1) := by decide +kernel
theorem d180_39 : decode (xbc 180) 39 = .ok (.bipush 10, 2) := by decide +kernel
theorem d180_41 : decode (xbc 180) 41 = .ok (.irem, 1) := by decide +kernel
theorem d180_42 : decode (xbc 180) 42 = .ok (.istore_n 2, 1) := by decide +kernel
theorem d180_43 : decode (xbc 180) 43 = .ok (.iload_n 1, 1) := by decide +kernel
theorem d180_44 : decode (xbc 180) 44 = .ok (.bipush 10, 2) := by decide +kernel
theorem d180_46 : decode (xbc 180) 46 = .ok (.idiv, 1) := by decide +kernel
theorem d180_47 : decode (xbc 180) 47 = .ok (.istore_n 3, 1) := by decide +kernel
theorem d180_48 : decode (xbc 180) 48 = .ok (.iload_n 2, 1) := by decide +kernel
theorem d180_49 : decode (xbc 180) 49 = .ok (.invokestatic 78, 3) := by decide +kernel
theorem d180_52 : decode (xbc 180) 52 = .ok (.ifCond .ne 8, 3) := by decide +kernel
theorem d180_55 : decode (xbc 180) 55 = .ok (.bipush (-2), 2) := by decide +kernel
theorem d180_57 : decode (xbc 180) 57 = .ok (.goto 33, 3) := by decide +kernel
theorem d180_60 : decode (xbc 180) 60 = .ok (.iload_n 3, 1) := by decide +kernel
theorem d180_61 : decode (xbc 180) 61 = .ok (.iconst 4, 1) := by decide +kernel
theorem d180_62 : decode (xbc 180) 62 = .ok (.if_icmp .ne 15, 3) := by decide +kernel
theorem d180_65 : decode (xbc 180) 65 = .ok (.aload_n 0, 1) := by decide +kernel
theorem d180_66 : decode (xbc 180) 66 = .ok (.getfield 7, 3) := by decide +kernel
theorem d180_69 : decode (xbc 180) 69 = .ok (.bipush 32, 2) := by decide +kernel
theorem d180_71 : decode (xbc 180) 71 = .ok (.iload_n 2, 1) := by decide +kernel
theorem d180_72 : decode (xbc 180) 72 = .ok (.iadd, 1) := by decide +kernel
theorem d180_73 : decode (xbc 180) 73 = .ok (.iaload, 1) := by decide +kernel
theorem d180_74 : decode (xbc 180) 74 = .ok (.goto 16, 3) := by decide +kernel
theorem d180_77 : decode (xbc 180) 77 = .ok (.aload_n 0, 1) := by decide +kernel
theorem d180_78 : decode (xbc 180) 78 = .ok (.getfield 7, 3) := by decide +kernel
theorem d180_81 : decode (xbc 180) 81 = .ok (.bipush 8, 2) := by decide +kernel
theorem d180_83 : decode (xbc 180) 83 = .ok (.iload_n 3, 1) := by decide +kernel
theorem d180_84 : decode (xbc 180) 84 = .ok (.iconst 1, 1) := by decide +kernel
theorem d180_85 : decode (xbc 180) 85 = .ok (.isub, 1) := by decide +kernel
theorem d180_86 : decode (xbc 180) 86 = .ok (.imul, 1) := by decide +kernel
theorem d180_87 : decode (xbc 180) 87 = .ok (.iload_n 2, 1) := by decide +kernel
theorem d180_88 : decode (xbc 180) 88 = .ok (.iadd, 1) := by decide +kernel
theorem d180_89 : decode (xbc 180) 89 = .ok (.iaload, 1) := by decide +kernel
theorem d180_90 : decode (xbc 180) 90 = .ok (.ireturn, 1) := by decide +kernel
theorem d180_91 : decode (xbc 180) 91 = .ok (.iload_n 1, 1) := by decide +kernel
theorem d180_92 : decode (xbc 180) 92 = .ok (.tableswitch 61 0 3 #[32, 37, 45, 53], 32) := by decide +kernel
theorem d180_124 : decode (xbc 180) 124 = .ok (.aload_n 0, 1) := by decide +kernel
theorem d180_125 : decode (xbc 180) 125 = .ok (.getfield 85, 3) := by decide +kernel
theorem d180_128 : decode (xbc 180) 128 = .ok (.ireturn, 1) := by decide +kernel
theorem d180_129 : decode (xbc 180) 129 = .ok (.aload_n 0, 1) := by decide +kernel
theorem d180_130 : decode (xbc 180) 130 = .ok (.getfield 7, 3) := by decide +kernel
theorem d180_133 : decode (xbc 180) 133 = .ok (.bipush 40, 2) := by decide +kernel
theorem d180_135 : decode (xbc 180) 135 = .ok (.iaload, 1) := by decide +kernel
theorem d180_136 : decode (xbc 180) 136 = .ok (.ireturn, 1) := by decide +kernel
theorem d180_137 : decode (xbc 180) 137 = .ok (.aload_n 0, 1) := by decide +kernel
theorem d180_138 : decode (xbc 180) 138 = .ok (.getfield 7, 3) := by decide +kernel
theorem d180_141 : decode (xbc 180) 141 = .ok (.bipush 42, 2) := by decide +kernel
theorem d180_143 : decode (xbc 180) 143 = .ok (.iaload, 1) := by decide +kernel
theorem d180_144 : decode (xbc 180) 144 = .ok (.ireturn, 1) := by decide +kernel
theorem d180_145 : decode (xbc 180) 145 = .ok (.aload_n 0, 1) := by decide +kernel
theorem d180_146 : decode (xbc 180) 146 = .ok (.getfield 7, 3) := by decide +kernel
theorem d180_149 : decode (xbc 180) 149 = .ok (.bipush 73, 2) := by decide +kernel
theorem d180_151 : decode (xbc 180) 151 = .ok (.iaload, 1) := by decide +kernel
theorem d180_152 : decode (xbc 180) 152 = .ok (.ireturn, 1) := by decide +kernel
theorem d180_153 : decode (xbc 180) 153 = .ok (.iload_n 1, 1) := by decide +kernel
theorem d180_154 : decode (xbc 180) 154 = .ok (.iconst 4, 1) := by decide +kernel
theorem d180_155 : decode (xbc 180) 155 = .ok (.if_icmp .ne 10, 3) := by decide +kernel
theorem d180_158 : decode (xbc 180) 158 = .ok (.aload_n 0, 1) := by decide +kernel
theorem d180_159 : decode (xbc 180) 159 = .ok (.getfield 203, 3) := by decide +kernel
theorem d180_162 : decode (xbc 180) 162 = .ok (.goto 5, 3) := by decide +kernel
theorem d180_165 : decode (xbc 180) 165 = .ok (.bipush (-2), 2) := by decide +kernel
theorem d180_167 : decode (xbc 180) 167 = .ok (.ireturn, 1) := by decide +kernel
end
section
theorem d181_0 : decode (xbc 181) 0 = .ok (.lload_n 0, 1) := by decide +kernel
theorem d181_1 : decode (xbc 181) 1 = .ok (.lload_n 2, 1) := by decide +kernel
theorem d181_2 : decode (xbc 181) 2 = .ok (.bipush 24, 2) := by decide +kernel
theorem d181_4 : decode (xbc 181) 4 = .ok (.bipush 127, 2) := by decide +kernel
theorem d181_6 : decode (xbc 181) 6 = .ok (.invokestatic 23, 3) := by decide +kernel
theorem d181_9 : decode (xbc 181) 9 = .ok (.l2i, 1) := by decide +kernel
theorem d181_10 : decode (xbc 181) 10 = .ok (.istore 4, 2) := by decide +kernel
theorem d181_12 : decode (xbc 181) 12 = .ok (.lload_n 0, 1) := by decide +kernel
theorem d181_13 : decode (xbc 181) 13 = .ok (.lconst 0, 1) := by decide +kernel
theorem d181_14 : decode (xbc 181) 14 = .ok (.lcmp, 1) := by decide +kernel
theorem d181_15 : decode (xbc 181) 15 = .ok (.ifCond .ge 12, 3) := by decide +kernel
theorem d181_18 : decode (xbc 181) 18 = .ok (.iload 4, 2) := by decide +kernel
theorem d181_20 : decode (xbc 181) 20 = .ok (.ldc 29, 2) := by decide +kernel
theorem d181_22 : decode (xbc 181) 22 = .ok (.ior, 1) := by decide +kernel
theorem d181_23 : decode (xbc 181) 23 = .ok (.i2l, 1) := by decide +kernel
theorem d181_24 : decode (xbc 181) 24 = .ok (.goto 6, 3) := by decide +kernel
theorem d181_27 : decode (xbc 181) 27 = .ok (.iload 4, 2) := by decide +kernel
theorem d181_29 : decode (xbc 181) 29 = .ok (.i2l, 1) := by decide +kernel
theorem d181_30 : decode (xbc 181) 30 = .ok (.lreturn, 1) := by decide +kernel
theorem d182_0 : decode (xbc 182) 0 = .ok (.lload_n 0, 1) := by decide +kernel
theorem d182_1 : decode (xbc 182) 1 = .ok (.lconst 0, 1) := by decide +kernel
theorem d182_2 : decode (xbc 182) 2 = .ok (.lcmp, 1) := by decide +kernel
theorem d182_3 : decode (xbc 182) 3 = .ok (.ifCond .eq 9, 3) := by decide +kernel
theorem d182_6 : decode (xbc 182) 6 = .ok (.lload_n 2, 1) := by decide +kernel
theorem d182_7 : decode (xbc 182) 7 = .ok (.lconst 0, 1) := by decide +kernel
theorem d182_8 : decode (xbc 182) 8 = .ok (.lcmp, 1) := by decide +kernel
theorem d182_9 : decode (xbc 182) 9 = .ok (.ifCond .gt 5, 3) := by decide +kernel
theorem d182_12 : decode (xbc 182) 12 = .ok (.lconst 0, 1) := by decide +kernel
theorem d182_13 : decode (xbc 182) 13 = .ok (.lreturn, 1) := by decide +kernel
theorem d182_14 : decode (xbc 182) 14 = .ok (.lload_n 0, 1) := by decide +kernel
theorem d182_15 : decode (xbc 182) 15 = .ok (.invokestatic 9, 3) := by decide +kernel
theorem d182_18 : decode (xbc 182) 18 = .ok (.lstore 6, 2) := by decide +kernel
theorem d182_20 : decode (xbc 182) 20 = .ok (.lload 6, 2) := by decide +kernel
theorem d182_22 : decode (xbc 182) 22 = .ok (.lload_n 2, 1) := by decide +kernel
theorem d182_23 : decode (xbc 182) 23 = .ok (.iload 4, 2) := by decide +kernel
theorem d182_25 : decode (xbc 182) 25 = .ok (.invokestatic 15, 3) := by decide +kernel
theorem d182_28 : decode (xbc 182) 28 = .ok (.istore 8, 2) := by decide +kernel
theorem d182_30 : decode (xbc 182) 30 = .ok (.lload 6, 2) := by decide +kernel
theorem d182_32 : decode (xbc 182) 32 = .ok (.iload 8, 2) := by decide +kernel
theorem d182_34 : decode (xbc 182) 34 = .ok (.lshl, 1) := by decide +kernel
theorem d182_35 : decode (xbc 182) 35 = .ok (.lload_n 2, 1) := by decide +kernel
theorem d182_36 : decode (xbc 182) 36 = .ok (.invokestatic 19, 3) := by decide +kernel
theorem d182_39 : decode (xbc 182) 39 = .ok (.lstore 9, 2) := by decide +kernel
theorem d182_41 : decode (xbc 182) 41 = .ok (.iload 4, 2) := by decide +kernel
theorem d182_43 : decode (xbc 182) 43 = .ok (.iconst 1, 1) := by decide +kernel
theorem d182_44 : decode (xbc 182) 44 = .ok (.isub, 1) := by decide +kernel
theorem d182_45 : decode (xbc 182) 45 = .ok (.iload 8, 2) := by decide +kernel
theorem d182_47 : decode (xbc 182) 47 = .ok (.isub, 1) := by decide +kernel
theorem d182_48 : decode (xbc 182) 48 = .ok (.iload 5, 2) := by decide +kernel
theorem d182_50 : decode (xbc 182) 50 = .ok (.iadd, 1) := by decide +kernel
theorem d182_51 : decode (xbc 182) 51 = .ok (.i2l, 1) := by decide +kernel
theorem d182_52 : decode (xbc 182) 52 = .ok (.lstore 11, 2) := by decide +kernel
theorem d182_54 : decode (xbc 182) 54 = .ok (.lload 11, 2) := by decide +kernel
theorem d182_56 : decode (xbc 182) 56 = .ok (.iload 4, 2) := by decide +kernel
theorem d182_58 : decode (xbc 182) 58 = .ok (.iconst 1, 1) := by decide +kernel
theorem d182_59 : decode (xbc 182) 59 = .ok (.isub, 1) := by decide +kernel
theorem d182_60 : decode (xbc 182) 60 = .ok (.lshl, 1) := by decide +kernel
theorem d182_61 : decode (xbc 182) 61 = .ok (.lload 9, 2) := by decide +kernel
theorem d182_63 : decode (xbc 182) 63 = .ok (.ladd, 1) := by decide +kernel
theorem d182_64 : decode (xbc 182) 64 = .ok (.lconst 1, 1) := by decide +kernel
theorem d182_65 : decode (xbc 182) 65 = .ok (.iload 4, 2) := by decide +kernel
theorem d182_67 : decode (xbc 182) 67 = .ok (.iconst 1, 1) := by decide +kernel
theorem d182_68 : decode (xbc 182) 68 = .ok (.isub, 1) := by decide +kernel
theorem d182_69 : decode (xbc 182) 69 = .ok (.lshl, 1) := by decide +kernel
theorem d182_70 : decode (xbc 182) 70 = .ok (.lsub, 1) := by decide +kernel
theorem d182_71 : decode (xbc 182) 71 = .ok (.lreturn, 1) := by decide +kernel
theorem d183_0 : decode (xbc 183) 0 = .ok (.iconst 0, 1) := by decide +kernel
theorem d183_1 : decode (xbc 183) 1 = .ok (.istore 5, 2) := by decide +kernel
theorem d183_3 : decode (xbc 183) 3 = .ok (.iload 5, 2) := by decide +kernel
theorem d183_5 : decode (xbc 183) 5 = .ok (.bipush 62, 2) := by decide +kernel
theorem d183_7 : decode (xbc 183) 7 = .ok (.if_icmp .ge 23, 3) := by decide +kernel
theorem d183_10 : decode (xbc 183) 10 = .ok (.lload_n 0, 1) := by decide +kernel
theorem d183_11 : decode (xbc 183) 11 = .ok (.iload 5, 2) := by decide +kernel
theorem d183_13 : decode (xbc 183) 13 = .ok (.lshl, 1) := by decide +kernel
theorem d183_14 : decode (xbc 183) 14 = .ok (.lload_n 2, 1) := by decide +kernel
theorem d183_15 : decode (xbc 183) 15 = .ok (.iload 4, 2) := by decide +kernel
theorem d183_17 : decode (xbc 183) 17 = .ok (.iconst 1, 1) := by decide +kernel
theorem d183_18 : decode (xbc 183) 18 = .ok (.isub, 1) := by decide +kernel
theorem d183_19 : decode (xbc 183) 19 = .ok (.lshl, 1) := by decide +kernel
theorem d183_20 : decode (xbc 183) 20 = .ok (.lcmp, 1) := by decide +kernel
theorem d183_21 : decode (xbc 183) 21 = .ok (.ifCond .ge 9, 3) := by decide +kernel
theorem d183_24 : decode (xbc 183) 24 = .ok (.iinc 5 1, 3) := by decide +kernel
theorem d183_27 : decode (xbc 183) 27 = .ok (.goto (-24), 3) := by decide +kernel
theorem d183_30 : decode (xbc 183) 30 = .ok (.iload 5, 2) := by decide +kernel
theorem d183_32 : decode (xbc 183) 32 = .ok (.ireturn, 1) := by decide +kernel
theorem d184_0 : decode (xbc 184) 0 = .ok (.lload_n 2, 1) := by decide +kernel
theorem d184_1 : decode (xbc 184) 1 = .ok (.lconst 0, 1) := by decide +kernel
theorem d184_2 : decode (xbc 184) 2 = .ok (.lcmp, 1) := by decide +kernel
theorem d184_3 : decode (xbc 184) 3 = .ok (.ifCond .gt 5, 3) := by decide +kernel
theorem d184_6 : decode (xbc 184) 6 = .ok (.lconst 0, 1) := by decide +kernel
theorem d184_7 : decode (xbc 184) 7 = .ok (.lreturn, 1) := by decide +kernel
theorem d184_8 : decode (xbc 184) 8 = .ok (.lload_n 0, 1) := by decide +kernel
theorem d184_9 : decode (xbc 184) 9 = .ok (.lload_n 2, 1) := by decide +kernel
theorem d184_10 : decode (xbc 184) 10 = .ok (.ldiv, 1) := by decide +kernel
theorem d184_11 : decode (xbc 184) 11 = .ok (.lstore 4, 2) := by decide +kernel
theorem d184_13 : decode (xbc 184) 13 = .ok (.ldc2_w 34, 3) := by decide +kernel
theorem d184_16 : decode (xbc 184) 16 = .ok (.lload_n 0, 1) := by decide +kernel
theorem d184_17 : decode (xbc 184) 17 = .ok (.lload_n 2, 1) := by decide +kernel
theorem d184_18 : decode (xbc 184) 18 = .ok (.lrem, 1) := by decide +kernel
theorem d184_19 : decode (xbc 184) 19 = .ok (.lmul, 1) := by decide +kernel
theorem d184_20 : decode (xbc 184) 20 = .ok (.lstore 6, 2) := by decide +kernel
theorem d184_22 : decode (xbc 184) 22 = .ok (.lload 6, 2) := by decide +kernel
theorem d184_24 : decode (xbc 184) 24 = .ok (.lload_n 2, 1) := by decide +kernel
theorem d184_25 : decode (xbc 184) 25 = .ok (.lcmp, 1) := by decide +kernel
theorem d184_26 : decode (xbc 184) 26 = .ok (.ifCond .gt 21, 3) := by decide +kernel
theorem d184_29 : decode (xbc 184) 29 = .ok (.lload 6, 2) := by decide +kernel
theorem d184_31 : decode (xbc 184) 31 = .ok (.lload_n 2, 1) := by decide +kernel
theorem d184_32 : decode (xbc 184) 32 = .ok (.lcmp, 1) := by decide +kernel
theorem d184_33 : decode (xbc 184) 33 = .ok (.ifCond .ne 18, 3) := by decide +kernel
theorem d184_36 : decode (xbc 184) 36 = .ok (.lload 4, 2) := by decide +kernel
theorem d184_38 : decode (xbc 184) 38 = .ok (.ldc2_w 34, 3) := by decide +kernel
theorem d184_41 : decode (xbc 184) 41 = .ok (.lrem, 1) := by decide +kernel
theorem d184_42 : decode (xbc 184) 42 = .ok (.lconst 1, 1) := by decide +kernel
theorem d184_43 : decode (xbc 184) 43 = .ok (.lcmp, 1) := by decide +kernel
theorem d184_44 : decode (xbc 184) 44 = .ok (.ifCond .ne 7, 3) := by decide +kernel
theorem d184_47 : decode (xbc 184) 47 = .ok (.iconst 1, 1) := by decide +kernel
theorem d184_48 : decode (xbc 184) 48 = .ok (.goto 4, 3) := by decide +kernel
theorem d184_51 : decode (xbc 184) 51 = .ok (.iconst 0, 1) := by decide +kernel
theorem d184_52 : decode (xbc 184) 52 = .ok (.istore 8, 2) := by decide +kernel
theorem d184_54 : decode (xbc 184) 54 = .ok (.iload 8, 2) := by decide +kernel
theorem d184_56 : decode (xbc 184) 56 = .ok (.ifCond .eq 10, 3) := by decide +kernel
theorem d184_59 : decode (xbc 184) 59 = .ok (.lload 4, 2) := by decide +kernel
theorem d184_61 : decode (xbc 184) 61 = .ok (.lconst 1, 1) := by decide +kernel
theorem d184_62 : decode (xbc 184) 62 = .ok (.ladd, 1) := by decide +kernel
theorem d184_63 : decode (xbc 184) 63 = .ok (.goto 5, 3) := by decide +kernel
theorem d184_66 : decode (xbc 184) 66 = .ok (.lload 4, 2) := by decide +kernel
theorem d184_68 : decode (xbc 184) 68 = .ok (.lreturn, 1) := by decide +kernel
theorem d185_0 : decode (xbc 185) 0 = .ok (.lload_n 0, 1) := by decide +kernel
theorem d185_1 : decode (xbc 185) 1 = .ok (.lload_n 2, 1) := by decide +kernel
theorem d185_2 : decode (xbc 185) 2 = .ok (.bipush 53, 2) := by decide +kernel
theorem d185_4 : decode (xbc 185) 4 = .ok (.sipush 1023, 3) := by decide +kernel
theorem d185_7 : decode (xbc 185) 7 = .ok (.invokestatic 23, 3) := by decide +kernel
theorem d185_10 : decode (xbc 185) 10 = .ok (.lstore 4, 2) := by decide +kernel
theorem d185_12 : decode (xbc 185) 12 = .ok (.lload_n 0, 1) := by decide +kernel
theorem d185_13 : decode (xbc 185) 13 = .ok (.lconst 0, 1) := by decide +kernel
theorem d185_14 : decode (xbc 185) 14 = .ok (.lcmp, 1) := by decide +kernel
theorem d185_15 : decode (xbc 185) 15 = .ok (.ifCond .ge 12, 3) := by decide +kernel
theorem d185_18 : decode (xbc 185) 18 = .ok (.lload 4, 2) := by decide +kernel
theorem d185_20 : decode (xbc 185) 20 = .ok (.ldc2_w 32, 3) := by decide +kernel
theorem d185_23 : decode (xbc 185) 23 = .ok (.lor, 1) := by decide +kernel
theorem d185_24 : decode (xbc 185) 24 = .ok (.goto 5, 3) := by decide +kernel
theorem d185_27 : decode (xbc 185) 27 = .ok (.lload 4, 2) := by decide +kernel
theorem d185_29 : decode (xbc 185) 29 = .ok (.lreturn, 1) := by decide +kernel
theorem d186_0 : decode (xbc 186) 0 = .ok (.lload_n 0, 1) := by decide +kernel
theorem d186_1 : decode (xbc 186) 1 = .ok (.lconst 0, 1) := by decide +kernel
theorem d186_2 : decode (xbc 186) 2 = .ok (.lcmp, 1) := by decide +kernel
theorem d186_3 : decode (xbc 186) 3 = .ok (.ifCond .eq 9, 3) := by decide +kernel
theorem d186_6 : decode (xbc 186) 6 = .ok (.lload_n 2, 1) := by decide +kernel
theorem d186_7 : decode (xbc 186) 7 = .ok (.lconst 0, 1) := by decide +kernel
theorem d186_8 : decode (xbc 186) 8 = .ok (.lcmp, 1) := by decide +kernel
theorem d186_9 : decode (xbc 186) 9 = .ok (.ifCond .gt 5, 3) := by decide +kernel
theorem d186_12 : decode (xbc 186) 12 = .ok (.lconst 0, 1) := by decide +kernel
theorem d186_13 : decode (xbc 186) 13 = .ok (.lreturn, 1) := by decide +kernel
theorem d186_14 : decode (xbc 186) 14 = .ok (.lload_n 0, 1) := by decide +kernel
theorem d186_15 : decode (xbc 186) 15 = .ok (.invokestatic 9, 3) := by decide +kernel
theorem d186_18 : decode (xbc 186) 18 = .ok (.lstore 4, 2) := by decide +kernel
theorem d186_20 : decode (xbc 186) 20 = .ok (.lload 4, 2) := by decide +kernel
theorem d186_22 : decode (xbc 186) 22 = .ok (.lload_n 2, 1) := by decide +kernel
theorem d186_23 : decode (xbc 186) 23 = .ok (.bipush 24, 2) := by decide +kernel
theorem d186_25 : decode (xbc 186) 25 = .ok (.invokestatic 15, 3) := by decide +kernel
theorem d186_28 : decode (xbc 186) 28 = .ok (.istore 6, 2) := by decide +kernel
theorem d186_30 : decode (xbc 186) 30 = .ok (.lload 4, 2) := by decide +kernel
theorem d186_32 : decode (xbc 186) 32 = .ok (.iload 6, 2) := by decide +kernel
theorem d186_34 : decode (xbc 186) 34 = .ok (.lshl, 1) := by decide +kernel
theorem d186_35 : decode (xbc 186) 35 = .ok (.lload_n 2, 1) := by decide +kernel
theorem d186_36 : decode (xbc 186) 36 = .ok (.invokestatic 19, 3) := by decide +kernel
theorem d186_39 : decode (xbc 186) 39 = .ok (.lstore 7, 2) := by decide +kernel
theorem d186_41 : decode (xbc 186) 41 = .ok (.iload 6, 2) := by decide +kernel
theorem d186_43 : decode (xbc 186) 43 = .ok (.bipush 30, 2) := by decide +kernel
theorem d186_45 : decode (xbc 186) 45 = .ok (.if_icmp .gt 14, 3) := by decide +kernel
theorem d186_48 : decode (xbc 186) 48 = .ok (.lload 7, 2) := by decide +kernel
theorem d186_50 : decode (xbc 186) 50 = .ok (.bipush 30, 2) := by decide +kernel
theorem d186_52 : decode (xbc 186) 52 = .ok (.iload 6, 2) := by decide +kernel
theorem d186_54 : decode (xbc 186) 54 = .ok (.isub, 1) := by decide +kernel
theorem d186_55 : decode (xbc 186) 55 = .ok (.lshl, 1) := by decide +kernel
theorem d186_56 : decode (xbc 186) 56 = .ok (.goto 11, 3) := by decide +kernel
theorem d186_59 : decode (xbc 186) 59 = .ok (.lload 7, 2) := by decide +kernel
theorem d186_61 : decode (xbc 186) 61 = .ok (.iload 6, 2) := by decide +kernel
theorem d186_63 : decode (xbc 186) 63 = .ok (.bipush 30, 2) := by decide +kernel
theorem d186_65 : decode (xbc 186) 65 = .ok (.isub, 1) := by decide +kernel
theorem d186_66 : decode (xbc 186) 66 = .ok (.lshr, 1) := by decide +kernel
theorem d186_67 : decode (xbc 186) 67 = .ok (.lstore 9, 2) := by decide +kernel
theorem d186_69 : decode (xbc 186) 69 = .ok (.lload_n 0, 1) := by decide +kernel
theorem d186_70 : decode (xbc 186) 70 = .ok (.lconst 0, 1) := by decide +kernel
theorem d186_71 : decode (xbc 186) 71 = .ok (.lcmp, 1) := by decide +kernel
theorem d186_72 : decode (xbc 186) 72 = .ok (.ifCond .ge 9, 3) := by decide +kernel
theorem d186_75 : decode (xbc 186) 75 = .ok (.lload 9, 2) := by decide +kernel
theorem d186_77 : decode (xbc 186) 77 = .ok (.lneg, 1) := by decide +kernel
theorem d186_78 : decode (xbc 186) 78 = .ok (.goto 5, 3) := by decide +kernel
theorem d186_81 : decode (xbc 186) 81 = .ok (.lload 9, 2) := by decide +kernel
theorem d186_83 : decode (xbc 186) 83 = .ok (.lreturn, 1) := by decide +kernel
theorem d187_0 : decode (xbc 187) 0 = .ok (.iconst 0, 1) := by decide +kernel
theorem d187_1 : decode (xbc 187) 1 = .ok (.istore_n 2, 1) := by decide +kernel
theorem d187_2 : decode (xbc 187) 2 = .ok (.aload_n 0, 1) := by decide +kernel
theorem d187_3 : decode (xbc 187) 3 = .ok (.arraylength, 1) := by decide +kernel
theorem d187_4 : decode (xbc 187) 4 = .ok (.istore_n 3, 1) := by decide +kernel
theorem d187_5 : decode (xbc 187) 5 = .ok (.iload_n 2, 1) := by decide +kernel
theorem d187_6 : decode (xbc 187) 6 = .ok (.iload_n 3, 1) := by decide +kernel
theorem d187_7 : decode (xbc 187) 7 = .ok (.if_icmp .ge 13, 3) := by decide +kernel
theorem d187_10 : decode (xbc 187) 10 = .ok (.aload_n 0, 1) := by decide +kernel
theorem d187_11 : decode (xbc 187) 11 = .ok (.iload_n 2, 1) := by decide +kernel
theorem d187_12 : decode (xbc 187) 12 = .ok (.iload_n 1, 1) := by decide +kernel
theorem d187_13 : decode (xbc 187) 13 = .ok (.iastore, 1) := by decide +kernel
theorem d187_14 : decode (xbc 187) 14 = .ok (.iinc 2 1, 3) := by decide +kernel
theorem d187_17 : decode (xbc 187) 17 = .ok (.goto (-12), 3) := by decide +kernel
theorem d187_20 : decode (xbc 187) 20 = .ok (.return_, 1) := by decide +kernel
end
section
theorem d0_0 : decode (xbc 0) 0 = .ok (.new 7, 3) := by decide +kernel
theorem d0_3 : decode (xbc 0) 3 = .ok (.dup, 1) := by decide +kernel
theorem d0_4 : decode (xbc 0) 4 = .ok (.invokespecial 9, 3) := by decide +kernel
theorem d0_7 : decode (xbc 0) 7 = .ok (.astore_n 1, 1) := by decide +kernel
theorem d0_8 : decode (xbc 0) 8 = .ok (.new 10, 3) := by decide +kernel
theorem d0_11 : decode (xbc 0) 11 = .ok (.dup, 1) := by decide +kernel
theorem d0_12 : decode (xbc 0) 12 = .ok (.invokespecial 12, 3) := by decide +kernel
theorem d0_15 : decode (xbc 0) 15 = .ok (.astore_n 2, 1) := by decide +kernel
theorem d0_16 : decode (xbc 0) 16 = .ok (.iconst 0, 1) := by decide +kernel
theorem d0_17 : decode (xbc 0) 17 = .ok (.istore_n 3, 1) := by decide +kernel
theorem d0_18 : decode (xbc 0) 18 = .ok (.iload_n 3, 1) := by decide +kernel
theorem d0_19 : decode (xbc 0) 19 = .ok (.aload_n 0, 1) := by decide +kernel
theorem d0_20 : decode (xbc 0) 20 = .ok (.arraylength, 1) := by decide +kernel
theorem d0_21 : decode (xbc 0) 21 = .ok (.iconst 5, 1) := by decide +kernel
theorem d0_22 : decode (xbc 0) 22 = .ok (.isub, 1) := by decide +kernel
theorem d0_23 : decode (xbc 0) 23 = .ok (.if_icmp .gt 877, 3) := by decide +kernel
theorem d0_26 : decode (xbc 0) 26 = .ok (.aload_n 0, 1) := by decide +kernel
theorem d0_27 : decode (xbc 0) 27 = .ok (.iload_n 3, 1) := by decide +kernel
theorem d0_28 : decode (xbc 0) 28 = .ok (.iaload, 1) := by decide +kernel
theorem d0_29 : decode (xbc 0) 29 = .ok (.bipush 31, 2) := by decide +kernel
theorem d0_31 : decode (xbc 0) 31 = .ok (.iand, 1) := by decide +kernel
theorem d0_32 : decode (xbc 0) 32 = .ok (.tableswitch 862 0 24 #[116, 169, 192, 205, 218, 241, 254, 287, 310, 333, 366, 390, 403, 436, 490, 544, 588, 647, 660, 683, 706, 750, 793, 816, 839], 116) := by decide +kernel
theorem d0_148 : decode (xbc 0) 148 = .ok (.aload_n 1, 1) := by decide +kernel
theorem d0_149 : decode (xbc 0) 149 = .ok (.aload_n 0, 1) := by decide +kernel
theorem d0_150 : decode (xbc 0) 150 = .ok (.iload_n 3, 1) := by decide +kernel
theorem d0_151 : decode (xbc 0) 151 = .ok (.iconst 1, 1) := by decide +kernel
theorem d0_152 : decode (xbc 0) 152 = .ok (.iadd, 1) := by decide +kernel
theorem d0_153 : decode (xbc 0) 153 = .ok (.iaload, 1) := by decide +kernel
theorem d0_154 : decode (xbc 0) 154 = .ok (.aload_n 0, 1) := by decide +kernel
theorem d0_155 : decode (xbc 0) 155 = .ok (.iload_n 3, 1) := by decide +kernel
theorem d0_156 : decode (xbc 0) 156 = .ok (.iconst 2, 1) := by decide +kernel
theorem d0_157 : decode (xbc 0) 157 = .ok (.iadd, 1) := by decide +kernel
theorem d0_158 : decode (xbc 0) 158 = .ok (.iaload, 1) := by decide +kernel
theorem d0_159 : decode (xbc 0) 159 = .ok (.aload_n 0, 1) := by decide +kernel
theorem d0_160 : decode (xbc 0) 160 = .ok (.iload_n 3, 1) := by decide +kernel
theorem d0_161 : decode (xbc 0) 161 = .ok (.iconst 3, 1) := by decide +kernel
theorem d0_162 : decode (xbc 0) 162 = .ok (.iadd, 1) := by decide +kernel
theorem d0_163 : decode (xbc 0) 163 = .ok (.iaload, 1) := by decide +kernel
theorem d0_164 : decode (xbc 0) 164 = .ok (.aload_n 0, 1) := by decide +kernel
theorem d0_165 : decode (xbc 0) 165 = .ok (.iload_n 3, 1) := by decide +kernel
theorem d0_166 : decode (xbc 0) 166 = .ok (.iconst 4, 1) := by decide +kernel
theorem d0_167 : decode (xbc 0) 167 = .ok (.iadd, 1) := by decide +kernel
theorem d0_168 : decode (xbc 0) 168 = .ok (.iaload, 1) := by decide +kernel
theorem d0_169 : decode (xbc 0) 169 = .ok (.invokevirtual 13, 3) := by decide +kernel
theorem d0_172 : decode (xbc 0) 172 = .ok (.aload_n 2, 1) := by decide +kernel
theorem d0_173 : decode (xbc 0) 173 = .ok (.aload_n 0, 1) := by decide +kernel
theorem d0_174 : decode (xbc 0) 174 = .ok (.iload_n 3, 1) := by decide +kernel
theorem d0_175 : decode (xbc 0) 175 = .ok (.iconst 1, 1) := by decide +kernel
theorem d0_176 : decode (xbc 0) 176 = .ok (.iadd, 1) := by decide +kernel
theorem d0_177 : decode (xbc 0) 177 = .ok (.iaload, 1) := by decide +kernel
theorem d0_178 : decode (xbc 0) 178 = .ok (.aload_n 0, 1) := by decide +kernel
theorem d0_179 : decode (xbc 0) 179 = .ok (.iload_n 3, 1) := by decide +kernel
theorem d0_180 : decode (xbc 0) 180 = .ok (.iconst 2, 1) := by decide +kernel
theorem d0_181 : decode (xbc 0) 181 = .ok (.iadd, 1) := by decide +kernel
theorem d0_182 : decode (xbc 0) 182 = .ok (.iaload, 1) := by decide +kernel
theorem d0_183 : decode (xbc 0) 183 = .ok (.aload_n 0, 1) := by decide +kernel
theorem d0_184 : decode (xbc 0) 184 = .ok (.iload_n 3, 1) := by decide +kernel
theorem d0_185 : decode (xbc 0) 185 = .ok (.iconst 3, 1) := by decide +kernel
theorem d0_186 : decode (xbc 0) 186 = .ok (.iadd, 1) := by decide +kernel
theorem d0_187 : decode (xbc 0) 187 = .ok (.iaload, 1) := by decide +kernel
theorem d0_188 : decode (xbc 0) 188 = .ok (.aload_n 0, 1) := by decide +kernel
theorem d0_189 : decode (xbc 0) 189 = .ok (.iload_n 3, 1) := by decide +kernel
theorem d0_190 : decode (xbc 0) 190 = .ok (.iconst 4, 1) := by decide +kernel
theorem d0_191 : decode (xbc 0) 191 = .ok (.iadd, 1) := by decide +kernel
theorem d0_192 : decode (xbc 0) 192 = .ok (.iaload, 1) := by decide +kernel
theorem d0_193 : decode (xbc 0) 193 = .ok (.invokevirtual 17, 3) := by decide +kernel
theorem d0_196 : decode (xbc 0) 196 = .ok (.if_icmp .eq 698, 3) := by decide +kernel
theorem d0_199 : decode (xbc 0) 199 = .ok (.iconst 0, 1) := by decide +kernel
theorem d0_200 : decode (xbc 0) 200 = .ok (.ireturn, 1) := by decide +kernel
theorem d0_201 : decode (xbc 0) 201 = .ok (.aload_n 1, 1) := by decide +kernel
theorem d0_202 : decode (xbc 0) 202 = .ok (.aload_n 0, 1) := by decide +kernel
theorem d0_203 : decode (xbc 0) 203 = .ok (.iload_n 3, 1) := by decide +kernel
theorem d0_204 : decode (xbc 0) 204 = .ok (.iconst 1, 1) := by decide +kernel
theorem d0_205 : decode (xbc 0) 205 = .ok (.iadd, 1) := by decide +kernel
theorem d0_206 : decode (xbc 0) 206 = .ok (.iaload, 1) := by decide +kernel
theorem d0_207 : decode (xbc 0) 207 = .ok (.invokevirtual 18, 3) := by decide +kernel
theorem d0_210 : decode (xbc 0) 210 = .ok (.aload_n 2, 1) := by decide +kernel
theorem d0_211 : decode (xbc 0) 211 = .ok (.aload_n 0, 1) := by decide +kernel
theorem d0_212 : decode (xbc 0) 212 = .ok (.iload_n 3, 1) := by decide +kernel
theorem d0_213 : decode (xbc 0) 213 = .ok (.iconst 1, 1) := by decide +kernel
theorem d0_214 : decode (xbc 0) 214 = .ok (.iadd, 1) := by decide +kernel
theorem d0_215 : decode (xbc 0) 215 = .ok (.iaload, 1) := by decide +kernel
theorem d0_216 : decode (xbc 0) 216 = .ok (.invokevirtual 22, 3) := by decide +kernel
theorem d0_219 : decode (xbc 0) 219 = .ok (.if_icmp .eq 675, 3) := by decide +kernel
theorem d0_222 : decode (xbc 0) 222 = .ok (.iconst 0, 1) := by decide +kernel
theorem d0_223 : decode (xbc 0) 223 = .ok (.ireturn, 1) := by decide +kernel
theorem d0_224 : decode (xbc 0) 224 = .ok (.aload_n 1, 1) := by decide +kernel
theorem d0_225 : decode (xbc 0) 225 = .ok (.invokevirtual 23, 3) := by decide +kernel
theorem d0_228 : decode (xbc 0) 228 = .ok (.aload_n 2, 1) := by decide +kernel
theorem d0_229 : decode (xbc 0) 229 = .ok (.invokevirtual 27, 3) := by decide +kernel
theorem d0_232 : decode (xbc 0) 232 = .ok (.if_icmp .eq 662, 3) := by decide +kernel
theorem d0_235 : decode (xbc 0) 235 = .ok (.iconst 0, 1) := by decide +kernel
theorem d0_236 : decode (xbc 0) 236 = .ok (.ireturn, 1) := by decide +kernel
theorem d0_237 : decode (xbc 0) 237 = .ok (.aload_n 1, 1) := by decide +kernel
theorem d0_238 : decode (xbc 0) 238 = .ok (.invokevirtual 28, 3) := by decide +kernel
theorem d0_241 : decode (xbc 0) 241 = .ok (.aload_n 2, 1) := by decide +kernel
theorem d0_242 : decode (xbc 0) 242 = .ok (.invokevirtual 31, 3) := by decide +kernel
theorem d0_245 : decode (xbc 0) 245 = .ok (.if_icmp .eq 649, 3) := by decide +kernel
theorem d0_248 : decode (xbc 0) 248 = .ok (.iconst 0, 1) := by decide +kernel
theorem d0_249 : decode (xbc 0) 249 = .ok (.ireturn, 1) := by decide +kernel
theorem d0_250 : decode (xbc 0) 250 = .ok (.aload_n 1, 1) := by decide +kernel
theorem d0_251 : decode (xbc 0) 251 = .ok (.aload_n 0, 1) := by decide +kernel
theorem d0_252 : decode (xbc 0) 252 = .ok (.iload_n 3, 1) := by decide +kernel
theorem d0_253 : decode (xbc 0) 253 = .ok (.iconst 1, 1) := by decide +kernel
theorem d0_254 : decode (xbc 0) 254 = .ok (.iadd, 1) := by decide +kernel
theorem d0_255 : decode (xbc 0) 255 = .ok (.iaload, 1) := by decide +kernel
theorem d0_256 : decode (xbc 0) 256 = .ok (.invokevirtual 32, 3) := by decide +kernel
theorem d0_259 : decode (xbc 0) 259 = .ok (.aload_n 2, 1) := by decide +kernel
theorem d0_260 : decode (xbc 0) 260 = .ok (.aload_n 0, 1) := by decide +kernel
theorem d0_261 : decode (xbc 0) 261 = .ok (.iload_n 3, 1) := by decide +kernel
theorem d0_262 : decode (xbc 0) 262 = .ok (.iconst 1, 1) := by decide +kernel
theorem d0_263 : decode (xbc 0) 263 = .ok (.iadd, 1) := by decide +kernel
theorem d0_264 : decode (xbc 0) 264 = .ok (.iaload, 1) := by decide +kernel
theorem d0_265 : decode (xbc 0) 265 = .ok (.invokevirtual 35, 3) := by decide +kernel
theorem d0_268 : decode (xbc 0) 268 = .ok (.if_icmp .eq 626, 3) := by decide +kernel
theorem d0_271 : decode (xbc 0) 271 = .ok (.iconst 0, 1) := by decide +kernel
theorem d0_272 : decode (xbc 0) 272 = .ok (.ireturn, 1) := by decide +kernel
theorem d0_273 : decode (xbc 0) 273 = .ok (.aload_n 1, 1) := by decide +kernel
theorem d0_274 : decode (xbc 0) 274 = .ok (.invokevirtual 36, 3) := by decide +kernel
theorem d0_277 : decode (xbc 0) 277 = .ok (.aload_n 2, 1) := by decide +kernel
theorem d0_278 : decode (xbc 0) 278 = .ok (.invokevirtual 39, 3) := by decide +kernel
theorem d0_281 : decode (xbc 0) 281 = .ok (.if_icmp .eq 613, 3) := by decide +kernel
theorem d0_284 : decode (xbc 0) 284 = .ok (.iconst 0, 1) := by decide +kernel
theorem d0_285 : decode (xbc 0) 285 = .ok (.ireturn, 1) := by decide +kernel
theorem d0_286 : decode (xbc 0) 286 = .ok (.aload_n 1, 1) := by decide +kernel
theorem d0_287 : decode (xbc 0) 287 = .ok (.aload_n 0, 1) := by decide +kernel
theorem d0_288 : decode (xbc 0) 288 = .ok (.iload_n 3, 1) := by decide +kernel
theorem d0_289 : decode (xbc 0) 289 = .ok (.iconst 1, 1) := by decide +kernel
theorem d0_290 : decode (xbc 0) 290 = .ok (.iadd, 1) := by decide +kernel
theorem d0_291 : decode (xbc 0) 291 = .ok (.iaload, 1) := by decide +kernel
theorem d0_292 : decode (xbc 0) 292 = .ok (.aload_n 0, 1) := by decide +kernel
theorem d0_293 : decode (xbc 0) 293 = .ok (.iload_n 3, 1) := by decide +kernel
theorem d0_294 : decode (xbc 0) 294 = .ok (.iconst 2, 1) := by decide +kernel
theorem d0_295 : decode (xbc 0) 295 = .ok (.iadd, 1) := by decide +kernel
theorem d0_296 : decode (xbc 0) 296 = .ok (.iaload, 1) := by decide +kernel
theorem d0_297 : decode (xbc 0) 297 = .ok (.invokevirtual 40, 3) := by decide +kernel
theorem d0_300 : decode (xbc 0) 300 = .ok (.aload_n 2, 1) := by decide +kernel
theorem d0_301 : decode (xbc 0) 301 = .ok (.aload_n 0, 1) := by decide +kernel
theorem d0_302 : decode (xbc 0) 302 = .ok (.iload_n 3, 1) := by decide +kernel
theorem d0_303 : decode (xbc 0) 303 = .ok (.iconst 1, 1) := by decide +kernel
theorem d0_304 : decode (xbc 0) 304 = .ok (.iadd, 1) := by decide +kernel
theorem d0_305 : decode (xbc 0) 305 = .ok (.iaload, 1) := by decide +kernel
theorem d0_306 : decode (xbc 0) 306 = .ok (.aload_n 0, 1) := by decide +kernel
theorem d0_307 : decode (xbc 0) 307 = .ok (.iload_n 3, 1) := by decide +kernel
theorem d0_308 : decode (xbc 0) 308 = .ok (.iconst 2, 1) := by decide +kernel
theorem d0_309 : decode (xbc 0) 309 = .ok (.iadd, 1) := by decide +kernel
theorem d0_310 : decode (xbc 0) 310 = .ok (.iaload, 1) := by decide +kernel
theorem d0_311 : decode (xbc 0) 311 = .ok (.invokevirtual 44, 3) := by decide +kernel
theorem d0_314 : decode (xbc 0) 314 = .ok (.if_icmp .eq 580, 3) := by decide +kernel
theorem d0_317 : decode (xbc 0) 317 = .ok (.iconst 0, 1) := by decide +kernel
theorem d0_318 : decode (xbc 0) 318 = .ok (.ireturn, 1) := by decide +kernel
theorem d0_319 : decode (xbc 0) 319 = .ok (.aload_n 1, 1) := by decide +kernel
theorem d0_320 : decode (xbc 0) 320 = .ok (.aload_n 0, 1) := by decide +kernel
theorem d0_321 : decode (xbc 0) 321 = .ok (.iload_n 3, 1) := by decide +kernel
theorem d0_322 : decode (xbc 0) 322 = .ok (.iconst 1, 1) := by decide +kernel
theorem d0_323 : decode (xbc 0) 323 = .ok (.iadd, 1) := by decide +kernel
theorem d0_324 : decode (xbc 0) 324 = .ok (.iaload, 1) := by decide +kernel
theorem d0_325 : decode (xbc 0) 325 = .ok (.invokevirtual 45, 3) := by decide +kernel
theorem d0_328 : decode (xbc 0) 328 = .ok (.aload_n 2, 1) := by decide +kernel
theorem d0_329 : decode (xbc 0) 329 = .ok (.aload_n 0, 1) := by decide +kernel
theorem d0_330 : decode (xbc 0) 330 = .ok (.iload_n 3, 1) := by decide +kernel
theorem d0_331 : decode (xbc 0) 331 = .ok (.iconst 1, 1) := by decide +kernel
theorem d0_332 : decode (xbc 0) 332 = .ok (.iadd, 1) := by decide +kernel
theorem d0_333 : decode (xbc 0) 333 = .ok (.iaload, 1) := by decide +kernel
theorem d0_334 : decode (xbc 0) 334 = .ok (.invokevirtual 48, 3) := by decide +kernel
theorem d0_337 : decode (xbc 0) 337 = .ok (.if_icmp .eq 557, 3) := by decide +kernel
theorem d0_340 : decode (xbc 0) 340 = .ok (.iconst 0, 1) := by decide +kernel
theorem d0_341 : decode (xbc 0) 341 = .ok (.ireturn, 1) := by decide +kernel
theorem d0_342 : decode (xbc 0) 342 = .ok (.aload_n 1, 1) := by decide +kernel
theorem d0_343 : decode (xbc 0) 343 = .ok (.aload_n 0, 1) := by decide +kernel
theorem d0_344 : decode (xbc 0) 344 = .ok (.iload_n 3, 1) := by decide +kernel
theorem d0_345 : decode (xbc 0) 345 = .ok (.iconst 1, 1) := by decide +kernel
theorem d0_346 : decode (xbc 0) 346 = .ok (.iadd, 1) := by decide +kernel
theorem d0_347 : decode (xbc 0) 347 = .ok (.iaload, 1) := by decide +kernel
theorem d0_348 : decode (xbc 0) 348 = .ok (.invokevirtual 49, 3) := by decide +kernel
theorem d0_351 : decode (xbc 0) 351 = .ok (.aload_n 2, 1) := by decide +kernel
theorem d0_352 : decode (xbc 0) 352 = .ok (.aload_n 0, 1) := by decide +kernel
theorem d0_353 : decode (xbc 0) 353 = .ok (.iload_n 3, 1) := by decide +kernel
theorem d0_354 : decode (xbc 0) 354 = .ok (.iconst 1, 1) := by decide +kernel
theorem d0_355 : decode (xbc 0) 355 = .ok (.iadd, 1) := by decide +kernel
theorem d0_356 : decode (xbc 0) 356 = .ok (.iaload, 1) := by decide +kernel
theorem d0_357 : decode (xbc 0) 357 = .ok (.invokevirtual 52, 3) := by decide +kernel
theorem d0_360 : decode (xbc 0) 360 = .ok (.if_icmp .eq 534, 3) := by decide +kernel
theorem d0_363 : decode (xbc 0) 363 = .ok (.iconst 0, 1) := by decide +kernel
theorem d0_364 : decode (xbc 0) 364 = .ok (.ireturn, 1) := by decide +kernel
theorem d0_365 : decode (xbc 0) 365 = .ok (.aload_n 1, 1) := by decide +kernel
theorem d0_366 : decode (xbc 0) 366 = .ok (.aload_n 0, 1) := by decide +kernel
theorem d0_367 : decode (xbc 0) 367 = .ok (.iload_n 3, 1) := by decide +kernel
theorem d0_368 : decode (xbc 0) 368 = .ok (.iconst 1, 1) := by decide +kernel
theorem d0_369 : decode (xbc 0) 369 = .ok (.iadd, 1) := by decide +kernel
theorem d0_370 : decode (xbc 0) 370 = .ok (.iaload, 1) := by decide +kernel
theorem d0_371 : decode (xbc 0) 371 = .ok (.aload_n 0, 1) := by decide +kernel
theorem d0_372 : decode (xbc 0) 372 = .ok (.iload_n 3, 1) := by decide +kernel
theorem d0_373 : decode (xbc 0) 373 = .ok (.iconst 2, 1) := by decide +kernel
theorem d0_374 : decode (xbc 0) 374 = .ok (.iadd, 1) := by decide +kernel
theorem d0_375 : decode (xbc 0) 375 = .ok (.iaload, 1) := by decide +kernel
theorem d0_376 : decode (xbc 0) 376 = .ok (.invokevirtual 53, 3) := by decide +kernel
theorem d0_379 : decode (xbc 0) 379 = .ok (.aload_n 2, 1) := by decide +kernel
theorem d0_380 : decode (xbc 0) 380 = .ok (.aload_n 0, 1) := by decide +kernel
theorem d0_381 : decode (xbc 0) 381 = .ok (.iload_n 3, 1) := by decide +kernel
theorem d0_382 : decode (xbc 0) 382 = .ok (.iconst 1, 1) := by decide +kernel
theorem d0_383 : decode (xbc 0) 383 = .ok (.iadd, 1) := by decide +kernel
theorem d0_384 : decode (xbc 0) 384 = .ok (.iaload, 1) := by decide +kernel
theorem d0_385 : decode (xbc 0) 385 = .ok (.aload_n 0, 1) := by decide +kernel
theorem d0_386 : decode (xbc 0) 386 = .ok (.iload_n 3, 1) := by decide +kernel
theorem d0_387 : decode (xbc 0) 387 = .ok (.iconst 2, 1) := by decide +kernel
theorem d0_388 : decode (xbc 0) 388 = .ok (.iadd, 1) := by decide +kernel
theorem d0_389 : decode (xbc 0) 389 = .ok (.iaload, 1) := by decide +kernel
theorem d0_390 : decode (xbc 0) 390 = .ok (.invokevirtual 56, 3) := by decide +kernel
theorem d0_393 : decode (xbc 0) 393 = .ok (.if_icmp .eq 501, 3) := by decide +kernel
theorem d0_396 : decode (xbc 0) 396 = .ok (.iconst 0, 1) := by decide +kernel
theorem d0_397 : decode (xbc 0) 397 = .ok (.ireturn, 1) := by decide +kernel
theorem d0_398 : decode (xbc 0) 398 = .ok (.aload_n 1, 1) := by decide +kernel
theorem d0_399 : decode (xbc 0) 399 = .ok (.aload_n 0, 1) := by decide +kernel
theorem d0_400 : decode (xbc 0) 400 = .ok (.iload_n 3, 1) := by decide +kernel
theorem d0_401 : decode (xbc 0) 401 = .ok (.iconst 1, 1) := by decide +kernel
theorem d0_402 : decode (xbc 0) 402 = .ok (.iadd, 1) := by decide +kernel
theorem d0_403 : decode (xbc 0) 403 = .ok (.iaload, 1) := by decide +kernel
theorem d0_404 : decode (xbc 0) 404 = .ok (.invokevirtual 57, 3) := by decide +kernel
theorem d0_407 : decode (xbc 0) 407 = .ok (.aload_n 2, 1) := by decide +kernel
theorem d0_408 : decode (xbc 0) 408 = .ok (.aload_n 0, 1) := by decide +kernel
theorem d0_409 : decode (xbc 0) 409 = .ok (.iload_n 3, 1) := by decide +kernel
theorem d0_410 : decode (xbc 0) 410 = .ok (.iconst 1, 1) := by decide +kernel
theorem d0_411 : decode (xbc 0) 411 = .ok (.iadd, 1) := by decide +kernel
theorem d0_412 : decode (xbc 0) 412 = .ok (.iaload, 1) := by decide +kernel
theorem d0_413 : decode (xbc 0) 413 = .ok (.invokevirtual 61, 3) := by decide +kernel
theorem d0_416 : decode (xbc 0) 416 = .ok (.lcmp, 1) := by decide +kernel
theorem d0_417 : decode (xbc 0) 417 = .ok (.ifCond .eq 477, 3) := by decide +kernel
theorem d0_420 : decode (xbc 0) 420 = .ok (.iconst 0, 1) := by decide +kernel
theorem d0_421 : decode (xbc 0) 421 = .ok (.ireturn, 1) := by decide +kernel
theorem d0_422 : decode (xbc 0) 422 = .ok (.aload_n 1, 1) := by decide +kernel
theorem d0_423 : decode (xbc 0) 423 = .ok (.invokevirtual 62, 3) := by decide +kernel
theorem d0_426 : decode (xbc 0) 426 = .ok (.aload_n 2, 1) := by decide +kernel
theorem d0_427 : decode (xbc 0) 427 = .ok (.invokevirtual 65, 3) := by decide +kernel
theorem d0_430 : decode (xbc 0) 430 = .ok (.if_icmp .eq 464, 3) := by decide +kernel
theorem d0_433 : decode (xbc 0) 433 = .ok (.iconst 0, 1) := by decide +kernel
theorem d0_434 : decode (xbc 0) 434 = .ok (.ireturn, 1) := by decide +kernel
theorem d0_435 : decode (xbc 0) 435 = .ok (.aload_n 1, 1) := by decide +kernel
theorem d0_436 : decode (xbc 0) 436 = .ok (.aload_n 0, 1) := by decide +kernel
theorem d0_437 : decode (xbc 0) 437 = .ok (.iload_n 3, 1) := by decide +kernel
theorem d0_438 : decode (xbc 0) 438 = .ok (.iconst 1, 1) := by decide +kernel
theorem d0_439 : decode (xbc 0) 439 = .ok (.iadd, 1) := by decide +kernel
theorem d0_440 : decode (xbc 0) 440 = .ok (.iaload, 1) := by decide +kernel
theorem d0_441 : decode (xbc 0) 441 = .ok (.aload_n 0, 1) := by decide +kernel
theorem d0_442 : decode (xbc 0) 442 = .ok (.iload_n 3, 1) := by decide +kernel
theorem d0_443 : decode (xbc 0) 443 = .ok (.iconst 2, 1) := by decide +kernel
theorem d0_444 : decode (xbc 0) 444 = .ok (.iadd, 1) := by decide +kernel
theorem d0_445 : decode (xbc 0) 445 = .ok (.iaload, 1) := by decide +kernel
theorem d0_446 : decode (xbc 0) 446 = .ok (.invokevirtual 66, 3) := by decide +kernel
theorem d0_449 : decode (xbc 0) 449 = .ok (.aload_n 2, 1) := by decide +kernel
theorem d0_450 : decode (xbc 0) 450 = .ok (.aload_n 0, 1) := by decide +kernel
theorem d0_451 : decode (xbc 0) 451 = .ok (.iload_n 3, 1) := by decide +kernel
theorem d0_452 : decode (xbc 0) 452 = .ok (.iconst 1, 1) := by decide +kernel
theorem d0_453 : decode (xbc 0) 453 = .ok (.iadd, 1) := by decide +kernel
theorem d0_454 : decode (xbc 0) 454 = .ok (.iaload, 1) := by decide +kernel
theorem d0_455 : decode (xbc 0) 455 = .ok (.aload_n 0, 1) := by decide +kernel
theorem d0_456 : decode (xbc 0) 456 = .ok (.iload_n 3, 1) := by decide +kernel
theorem d0_457 : decode (xbc 0) 457 = .ok (.iconst 2, 1) := by decide +kernel
theorem d0_458 : decode (xbc 0) 458 = .ok (.iadd, 1) := by decide +kernel
theorem d0_459 : decode (xbc 0) 459 = .ok (.iaload, 1) := by decide +kernel
theorem d0_460 : decode (xbc 0) 460 = .ok (.invokevirtual 69, 3) := by decide +kernel
theorem d0_463 : decode (xbc 0) 463 = .ok (.if_icmp .eq 431, 3) := by decide +kernel
theorem d0_466 : decode (xbc 0) 466 = .ok (.iconst 0, 1) := by decide +kernel
theorem d0_467 : decode (xbc 0) 467 = .ok (.ireturn, 1) := by decide +kernel
theorem d0_468 : decode (xbc 0) 468 = .ok (.aload_n 1, 1) := by decide +kernel
theorem d0_469 : decode (xbc 0) 469 = .ok (.aload_n 0, 1) := by decide +kernel
theorem d0_470 : decode (xbc 0) 470 = .ok (.iload_n 3, 1) := by decide +kernel
theorem d0_471 : decode (xbc 0) 471 = .ok (.iconst 1, 1) := by decide +kernel
theorem d0_472 : decode (xbc 0) 472 = .ok (.iadd, 1) := by decide +kernel
theorem d0_473 : decode (xbc 0) 473 = .ok (.iaload, 1) := by decide +kernel
theorem d0_474 : decode (xbc 0) 474 = .ok (.aload_n 0, 1) := by decide +kernel
theorem d0_475 : decode (xbc 0) 475 = .ok (.iload_n 3, 1) := by decide +kernel
theorem d0_476 : decode (xbc 0) 476 = .ok (.iconst 2, 1) := by decide +kernel
theorem d0_477 : decode (xbc 0) 477 = .ok (.iadd, 1) := by decide +kernel
theorem d0_478 : decode (xbc 0) 478 = .ok (.iaload, 1) := by decide +kernel
theorem d0_479 : decode (xbc 0) 479 = .ok (.aload_n 0, 1) := by decide +kernel
theorem d0_480 : decode (xbc 0) 480 = .ok (.iload_n 3, 1) := by decide +kernel
theorem d0_481 : decode (xbc 0) 481 = .ok (.iconst 3, 1) := by decide +kernel
theorem d0_482 : decode (xbc 0) 482 = .ok (.iadd, 1) := by decide +kernel
theorem d0_483 : decode (xbc 0) 483 = .ok (.iaload, 1) := by decide +kernel
theorem d0_484 : decode (xbc 0) 484 = .ok (.aload_n 0, 1) := by decide +kernel
theorem d0_485 : decode (xbc 0) 485 = .ok (.iload_n 3, 1) := by decide +kernel
theorem d0_486 : decode (xbc 0) 486 = .ok (.iconst 4, 1) := by decide +kernel
theorem d0_487 : decode (xbc 0) 487 = .ok (.iadd, 1) := by decide +kernel
theorem d0_488 : decode (xbc 0) 488 = .ok (.iaload, 1) := by decide +kernel
theorem d0_489 : decode (xbc 0) 489 = .ok (.invokevirtual 70, 3) := by decide +kernel
theorem d0_492 : decode (xbc 0) 492 = .ok (.aload_n 2, 1) := by decide +kernel
theorem d0_493 : decode (xbc 0) 493 = .ok (.aload_n 0, 1) := by decide +kernel
theorem d0_494 : decode (xbc 0) 494 = .ok (.iload_n 3, 1) := by decide +kernel
theorem d0_495 : decode (xbc 0) 495 = .ok (.iconst 1, 1) := by decide +kernel
theorem d0_496 : decode (xbc 0) 496 = .ok (.iadd, 1) := by decide +kernel
theorem d0_497 : decode (xbc 0) 497 = .ok (.iaload, 1) := by decide +kernel
theorem d0_498 : decode (xbc 0) 498 = .ok (.aload_n 0, 1) := by decide +kernel
theorem d0_499 : decode (xbc 0) 499 = .ok (.iload_n 3, 1) := by decide +kernel
theorem d0_500 : decode (xbc 0) 500 = .ok (.iconst 2, 1) := by decide +kernel
theorem d0_501 : decode (xbc 0) 501 = .ok (.iadd, 1) := by decide +kernel
theorem d0_502 : decode (xbc 0) 502 = .ok (.iaload, 1) := by decide +kernel
theorem d0_503 : decode (xbc 0) 503 = .ok (.aload_n 0, 1) := by decide +kernel
theorem d0_504 : decode (xbc 0) 504 = .ok (.iload_n 3, 1) := by decide +kernel
theorem d0_505 : decode (xbc 0) 505 = .ok (.iconst 3, 1) := by decide +kernel
theorem d0_506 : decode (xbc 0) 506 = .ok (.iadd, 1) := by decide +kernel
theorem d0_507 : decode (xbc 0) 507 = .ok (.iaload, 1) := by decide +kernel
theorem d0_508 : decode (xbc 0) 508 = .ok (.aload_n 0, 1) := by decide +kernel
theorem d0_509 : decode (xbc 0) 509 = .ok (.iload_n 3, 1) := by decide +kernel
theorem d0_510 : decode (xbc 0) 510 = .ok (.iconst 4, 1) := by decide +kernel
theorem d0_511 : decode (xbc 0) 511 = .ok (.iadd, 1) := by decide +kernel
theorem d0_512 : decode (xbc 0) 512 = .ok (.iaload, 1) := by decide +kernel
theorem d0_513 : decode (xbc 0) 513 = .ok (.invokevirtual 74, 3) := by decide +kernel
theorem d0_516 : decode (xbc 0) 516 = .ok (.lcmp, 1) := by decide +kernel
theorem d0_517 : decode (xbc 0) 517 = .ok (.ifCond .eq 377, 3) := by decide +kernel
theorem d0_520 : decode (xbc 0) 520 = .ok (.iconst 0, 1) := by decide +kernel
theorem d0_521 : decode (xbc 0) 521 = .ok (.ireturn, 1) := by decide +kernel
theorem d0_522 : decode (xbc 0) 522 = .ok (.aload_n 1, 1) := by decide +kernel
theorem d0_523 : decode (xbc 0) 523 = .ok (.aload_n 0, 1) := by decide +kernel
theorem d0_524 : decode (xbc 0) 524 = .ok (.iload_n 3, 1) := by decide +kernel
theorem d0_525 : decode (xbc 0) 525 = .ok (.iconst 1, 1) := by decide +kernel
theorem d0_526 : decode (xbc 0) 526 = .ok (.iadd, 1) := by decide +kernel
theorem d0_527 : decode (xbc 0) 527 = .ok (.iaload, 1) := by decide +kernel
theorem d0_528 : decode (xbc 0) 528 = .ok (.aload_n 0, 1) := by decide +kernel
theorem d0_529 : decode (xbc 0) 529 = .ok (.iload_n 3, 1) := by decide +kernel
theorem d0_530 : decode (xbc 0) 530 = .ok (.iconst 2, 1) := by decide +kernel
theorem d0_531 : decode (xbc 0) 531 = .ok (.iadd, 1) := by decide +kernel
theorem d0_532 : decode (xbc 0) 532 = .ok (.iaload, 1) := by decide +kernel
theorem d0_533 : decode (xbc 0) 533 = .ok (.aload_n 0, 1) := by decide +kernel
theorem d0_534 : decode (xbc 0) 534 = .ok (.iload_n 3, 1) := by decide +kernel
theorem d0_535 : decode (xbc 0) 535 = .ok (.iconst 3, 1) := by decide +kernel
theorem d0_536 : decode (xbc 0) 536 = .ok (.iadd, 1) := by decide +kernel
theorem d0_537 : decode (xbc 0) 537 = .ok (.iaload, 1) := by decide +kernel
theorem d0_538 : decode (xbc 0) 538 = .ok (.aload_n 0, 1) := by decide +kernel
theorem d0_539 : decode (xbc 0) 539 = .ok (.iload_n 3, 1) := by decide +kernel
theorem d0_540 : decode (xbc 0) 540 = .ok (.iconst 4, 1) := by decide +kernel
theorem d0_541 : decode (xbc 0) 541 = .ok (.iadd, 1) := by decide +kernel
theorem d0_542 : decode (xbc 0) 542 = .ok (.iaload, 1) := by decide +kernel
theorem d0_543 : decode (xbc 0) 543 = .ok (.invokevirtual 75, 3) := by decide +kernel
theorem d0_546 : decode (xbc 0) 546 = .ok (.aload_n 2, 1) := by decide +kernel
theorem d0_547 : decode (xbc 0) 547 = .ok (.aload_n 0, 1) := by decide +kernel
theorem d0_548 : decode (xbc 0) 548 = .ok (.iload_n 3, 1) := by decide +kernel
theorem d0_549 : decode (xbc 0) 549 = .ok (.iconst 1, 1) := by decide +kernel
theorem d0_550 : decode (xbc 0) 550 = .ok (.iadd, 1) := by decide +kernel
theorem d0_551 : decode (xbc 0) 551 = .ok (.iaload, 1) := by decide +kernel
theorem d0_552 : decode (xbc 0) 552 = .ok (.aload_n 0, 1) := by decide +kernel
theorem d0_553 : decode (xbc 0) 553 = .ok (.iload_n 3, 1) := by decide +kernel
theorem d0_554 : decode (xbc 0) 554 = .ok (.iconst 2, 1) := by decide +kernel
theorem d0_555 : decode (xbc 0) 555 = .ok (.iadd, 1) := by decide +kernel
theorem d0_556 : decode (xbc 0) 556 = .ok (.iaload, 1) := by decide +kernel
theorem d0_557 : decode (xbc 0) 557 = .ok (.aload_n 0, 1) := by decide +kernel
theorem d0_558 : decode (xbc 0) 558 = .ok (.iload_n 3, 1) := by decide +kernel
theorem d0_559 : decode (xbc 0) 559 = .ok (.iconst 3, 1) := by decide +kernel
theorem d0_560 : decode (xbc 0) 560 = .ok (.iadd, 1) := by decide +kernel
theorem d0_561 : decode (xbc 0) 561 = .ok (.iaload, 1) := by decide +kernel
theorem d0_562 : decode (xbc 0) 562 = .ok (.aload_n 0, 1) := by decide +kernel
theorem d0_563 : decode (xbc 0) 563 = .ok (.iload_n 3, 1) := by decide +kernel
theorem d0_564 : decode (xbc 0) 564 = .ok (.iconst 4, 1) := by decide +kernel
theorem d0_565 : decode (xbc 0) 565 = .ok (.iadd, 1) := by decide +kernel
theorem d0_566 : decode (xbc 0) 566 = .ok (.iaload, 1) := by decide +kernel
theorem d0_567 : decode (xbc 0) 567 = .ok (.invokevirtual 78, 3) := by decide +kernel
theorem d0_570 : decode (xbc 0) 570 = .ok (.lcmp, 1) := by decide +kernel
theorem d0_571 : decode (xbc 0) 571 = .ok (.ifCond .eq 323, 3) := by decide +kernel
theorem d0_574 : decode (xbc 0) 574 = .ok (.iconst 0, 1) := by decide +kernel
theorem d0_575 : decode (xbc 0) 575 = .ok (.ireturn, 1) := by decide +kernel
theorem d0_576 : decode (xbc 0) 576 = .ok (.aload_n 1, 1) := by decide +kernel
theorem d0_577 : decode (xbc 0) 577 = .ok (.aload_n 0, 1) := by decide +kernel
theorem d0_578 : decode (xbc 0) 578 = .ok (.iload_n 3, 1) := by decide +kernel
theorem d0_579 : decode (xbc 0) 579 = .ok (.iconst 1, 1) := by decide +kernel
theorem d0_580 : decode (xbc 0) 580 = .ok (.iadd, 1) := by decide +kernel
theorem d0_581 : decode (xbc 0) 581 = .ok (.iaload, 1) := by decide +kernel
theorem d0_582 : decode (xbc 0) 582 = .ok (.aload_n 0, 1) := by decide +kernel
theorem d0_583 : decode (xbc 0) 583 = .ok (.iload_n 3, 1) := by decide +kernel
theorem d0_584 : decode (xbc 0) 584 = .ok (.iconst 2, 1) := by decide +kernel
theorem d0_585 : decode (xbc 0) 585 = .ok (.iadd, 1) := by decide +kernel
theorem d0_586 : decode (xbc 0) 586 = .ok (.iaload, 1) := by decide +kernel
theorem d0_587 : decode (xbc 0) 587 = .ok (.aload_n 0, 1) := by decide +kernel
theorem d0_588 : decode (xbc 0) 588 = .ok (.iload_n 3, 1) := by decide +kernel
theorem d0_589 : decode (xbc 0) 589 = .ok (.iconst 3, 1) := by decide +kernel
theorem d0_590 : decode (xbc 0) 590 = .ok (.iadd, 1) := by decide +kernel
theorem d0_591 : decode (xbc 0) 591 = .ok (.iaload, 1) := by decide +kernel
theorem d0_592 : decode (xbc 0) 592 = .ok (.invokevirtual 79, 3) := by decide +kernel
theorem d0_595 : decode (xbc 0) 595 = .ok (.aload_n 2, 1) := by decide +kernel
theorem d0_596 : decode (xbc 0) 596 = .ok (.aload_n 0, 1) := by decide +kernel
theorem d0_597 : decode (xbc 0) 597 = .ok (.iload_n 3, 1) := by decide +kernel
theorem d0_598 : decode (xbc 0) 598 = .ok (.iconst 1, 1) := by decide +kernel
theorem d0_599 : decode (xbc 0) 599 = .ok (.iadd, 1) := by decide +kernel
theorem d0_600 : decode (xbc 0) 600 = .ok (.iaload, 1) := by decide +kernel
theorem d0_601 : decode (xbc 0) 601 = .ok (.aload_n 0, 1) := by decide +kernel
theorem d0_602 : decode (xbc 0) 602 = .ok (.iload_n 3, 1) := by decide +kernel
theorem d0_603 : decode (xbc 0) 603 = .ok (.iconst 2, 1) := by decide +kernel
theorem d0_604 : decode (xbc 0) 604 = .ok (.iadd, 1) := by decide +kernel
theorem d0_605 : decode (xbc 0) 605 = .ok (.iaload, 1) := by decide +kernel
theorem d0_606 : decode (xbc 0) 606 = .ok (.aload_n 0, 1) := by decide +kernel
theorem d0_607 : decode (xbc 0) 607 = .ok (.iload_n 3, 1) := by decide +kernel
theorem d0_608 : decode (xbc 0) 608 = .ok (.iconst 3, 1) := by decide +kernel
theorem d0_609 : decode (xbc 0) 609 = .ok (.iadd, 1) := by decide +kernel
theorem d0_610 : decode (xbc 0) 610 = .ok (.iaload, 1) := by decide +kernel
theorem d0_611 : decode (xbc 0) 611 = .ok (.invokevirtual 83, 3) := by decide +kernel
theorem d0_614 : decode (xbc 0) 614 = .ok (.lcmp, 1) := by decide +kernel
theorem d0_615 : decode (xbc 0) 615 = .ok (.ifCond .eq 279, 3) := by decide +kernel
theorem d0_618 : decode (xbc 0) 618 = .ok (.iconst 0, 1) := by decide +kernel
theorem d0_619 : decode (xbc 0) 619 = .ok (.ireturn, 1) := by decide +kernel
theorem d0_620 : decode (xbc 0) 620 = .ok (.aload_n 1, 1) := by decide +kernel
theorem d0_621 : decode (xbc 0) 621 = .ok (.aload_n 0, 1) := by decide +kernel
theorem d0_622 : decode (xbc 0) 622 = .ok (.iload_n 3, 1) := by decide +kernel
theorem d0_623 : decode (xbc 0) 623 = .ok (.iconst 1, 1) := by decide +kernel
theorem d0_624 : decode (xbc 0) 624 = .ok (.iadd, 1) := by decide +kernel
theorem d0_625 : decode (xbc 0) 625 = .ok (.iaload, 1) := by decide +kernel
theorem d0_626 : decode (xbc 0) 626 = .ok (.aload_n 0, 1) := by decide +kernel
theorem d0_627 : decode (xbc 0) 627 = .ok (.iload_n 3, 1) := by decide +kernel
theorem d0_628 : decode (xbc 0) 628 = .ok (.iconst 2, 1) := by decide +kernel
theorem d0_629 : decode (xbc 0) 629 = .ok (.iadd, 1) := by decide +kernel
theorem d0_630 : decode (xbc 0) 630 = .ok (.iaload, 1) := by decide +kernel
theorem d0_631 : decode (xbc 0) 631 = .ok (.aload_n 0, 1) := by decide +kernel
theorem d0_632 : decode (xbc 0) 632 = .ok (.iload_n 3, 1) := by decide +kernel
theorem d0_633 : decode (xbc 0) 633 = .ok (.iconst 3, 1) := by decide +kernel
theorem d0_634 : decode (xbc 0) 634 = .ok (.iadd, 1) := by decide +kernel
theorem d0_635 : decode (xbc 0) 635 = .ok (.iaload, 1) := by decide +kernel
theorem d0_636 : decode (xbc 0) 636 = .ok (.ifCond .eq 7, 3) := by decide +kernel
theorem d0_639 : decode (xbc 0) 639 = .ok (.iconst 1, 1) := by decide +kernel
theorem d0_640 : decode (xbc 0) 640 = .ok (.goto 4, 3) := by decide +kernel
theorem d0_643 : decode (xbc 0) 643 = .ok (.iconst 0, 1) := by decide +kernel
theorem d0_644 : decode (xbc 0) 644 = .ok (.invokevirtual 84, 3) := by decide +kernel
theorem d0_647 : decode (xbc 0) 647 = .ok (.aload_n 2, 1) := by decide +kernel
theorem d0_648 : decode (xbc 0) 648 = .ok (.aload_n 0, 1) := by decide +kernel
theorem d0_649 : decode (xbc 0) 649 = .ok (.iload_n 3, 1) := by decide +kernel
theorem d0_650 : decode (xbc 0) 650 = .ok (.iconst 1, 1) := by decide +kernel
theorem d0_651 : decode (xbc 0) 651 = .ok (.iadd, 1) := by decide +kernel
theorem d0_652 : decode (xbc 0) 652 = .ok (.iaload, 1) := by decide +kernel
theorem d0_653 : decode (xbc 0) 653 = .ok (.aload_n 0, 1) := by decide +kernel
theorem d0_654 : decode (xbc 0) 654 = .ok (.iload_n 3, 1) := by decide +kernel
theorem d0_655 : decode (xbc 0) 655 = .ok (.iconst 2, 1) := by decide +kernel
theorem d0_656 : decode (xbc 0) 656 = .ok (.iadd, 1) := by decide +kernel
theorem d0_657 : decode (xbc 0) 657 = .ok (.iaload, 1) := by decide +kernel
theorem d0_658 : decode (xbc 0) 658 = .ok (.aload_n 0, 1) := by decide +kernel
theorem d0_659 : decode (xbc 0) 659 = .ok (.iload_n 3, 1) := by decide +kernel
theorem d0_660 : decode (xbc 0) 660 = .ok (.iconst 3, 1) := by decide +kernel
theorem d0_661 : decode (xbc 0) 661 = .ok (.iadd, 1) := by decide +kernel
theorem d0_662 : decode (xbc 0) 662 = .ok (.iaload, 1) := by decide +kernel
theorem d0_663 : decode (xbc 0) 663 = .ok (.ifCond .eq 7, 3) := by decide +kernel
theorem d0_666 : decode (xbc 0) 666 = .ok (.iconst 1, 1) := by decide +kernel
theorem d0_667 : decode (xbc 0) 667 = .ok (.goto 4, 3) := by decide +kernel
theorem d0_670 : decode (xbc 0) 670 = .ok (.iconst 0, 1) := by decide +kernel
theorem d0_671 : decode (xbc 0) 671 = .ok (.invokevirtual 88, 3) := by decide +kernel
theorem d0_674 : decode (xbc 0) 674 = .ok (.if_icmp .eq 220, 3) := by decide +kernel
theorem d0_677 : decode (xbc 0) 677 = .ok (.iconst 0, 1) := by decide +kernel
theorem d0_678 : decode (xbc 0) 678 = .ok (.ireturn, 1) := by decide +kernel
theorem d0_679 : decode (xbc 0) 679 = .ok (.aload_n 1, 1) := by decide +kernel
theorem d0_680 : decode (xbc 0) 680 = .ok (.invokevirtual 89, 3) := by decide +kernel
theorem d0_683 : decode (xbc 0) 683 = .ok (.aload_n 2, 1) := by decide +kernel
theorem d0_684 : decode (xbc 0) 684 = .ok (.invokevirtual 92, 3) := by decide +kernel
theorem d0_687 : decode (xbc 0) 687 = .ok (.if_icmp .eq 207, 3) := by decide +kernel
theorem d0_690 : decode (xbc 0) 690 = .ok (.iconst 0, 1) := by decide +kernel
theorem d0_691 : decode (xbc 0) 691 = .ok (.ireturn, 1) := by decide +kernel
theorem d0_692 : decode (xbc 0) 692 = .ok (.aload_n 1, 1) := by decide +kernel
theorem d0_693 : decode (xbc 0) 693 = .ok (.aload_n 0, 1) := by decide +kernel
theorem d0_694 : decode (xbc 0) 694 = .ok (.iload_n 3, 1) := by decide +kernel
theorem d0_695 : decode (xbc 0) 695 = .ok (.iconst 1, 1) := by decide +kernel
theorem d0_696 : decode (xbc 0) 696 = .ok (.iadd, 1) := by decide +kernel
theorem d0_697 : decode (xbc 0) 697 = .ok (.iaload, 1) := by decide +kernel
theorem d0_698 : decode (xbc 0) 698 = .ok (.invokevirtual 93, 3) := by decide +kernel
theorem d0_701 : decode (xbc 0) 701 = .ok (.aload_n 2, 1) := by decide +kernel
theorem d0_702 : decode (xbc 0) 702 = .ok (.aload_n 0, 1) := by decide +kernel
theorem d0_703 : decode (xbc 0) 703 = .ok (.iload_n 3, 1) := by decide +kernel
theorem d0_704 : decode (xbc 0) 704 = .ok (.iconst 1, 1) := by decide +kernel
theorem d0_705 : decode (xbc 0) 705 = .ok (.iadd, 1) := by decide +kernel
theorem d0_706 : decode (xbc 0) 706 = .ok (.iaload, 1) := by decide +kernel
theorem d0_707 : decode (xbc 0) 707 = .ok (.invokevirtual 96, 3) := by decide +kernel
theorem d0_710 : decode (xbc 0) 710 = .ok (.if_icmp .eq 184, 3) := by decide +kernel
theorem d0_713 : decode (xbc 0) 713 = .ok (.iconst 0, 1) := by decide +kernel
theorem d0_714 : decode (xbc 0) 714 = .ok (.ireturn, 1) := by decide +kernel
theorem d0_715 : decode (xbc 0) 715 = .ok (.aload_n 1, 1) := by decide +kernel
theorem d0_716 : decode (xbc 0) 716 = .ok (.aload_n 0, 1) := by decide +kernel
theorem d0_717 : decode (xbc 0) 717 = .ok (.iload_n 3, 1) := by decide +kernel
theorem d0_718 : decode (xbc 0) 718 = .ok (.iconst 1, 1) := by decide +kernel
theorem d0_719 : decode (xbc 0) 719 = .ok (.iadd, 1) := by decide +kernel
theorem d0_720 : decode (xbc 0) 720 = .ok (.iaload, 1) := by decide +kernel
theorem d0_721 : decode (xbc 0) 721 = .ok (.invokevirtual 97, 3) := by decide +kernel
theorem d0_724 : decode (xbc 0) 724 = .ok (.aload_n 2, 1) := by decide +kernel
theorem d0_725 : decode (xbc 0) 725 = .ok (.aload_n 0, 1) := by decide +kernel
theorem d0_726 : decode (xbc 0) 726 = .ok (.iload_n 3, 1) := by decide +kernel
theorem d0_727 : decode (xbc 0) 727 = .ok (.iconst 1, 1) := by decide +kernel
theorem d0_728 : decode (xbc 0) 728 = .ok (.iadd, 1) := by decide +kernel
theorem d0_729 : decode (xbc 0) 729 = .ok (.iaload, 1) := by decide +kernel
theorem d0_730 : decode (xbc 0) 730 = .ok (.invokevirtual 100, 3) := by decide +kernel
theorem d0_733 : decode (xbc 0) 733 = .ok (.if_icmp .eq 161, 3) := by decide +kernel
theorem d0_736 : decode (xbc 0) 736 = .ok (.iconst 0, 1) := by decide +kernel
theorem d0_737 : decode (xbc 0) 737 = .ok (.ireturn, 1) := by decide +kernel
theorem d0_738 : decode (xbc 0) 738 = .ok (.aload_n 1, 1) := by decide +kernel
theorem d0_739 : decode (xbc 0) 739 = .ok (.aload_n 0, 1) := by decide +kernel
theorem d0_740 : decode (xbc 0) 740 = .ok (.iload_n 3, 1) := by decide +kernel
theorem d0_741 : decode (xbc 0) 741 = .ok (.iconst 1, 1) := by decide +kernel
theorem d0_742 : decode (xbc 0) 742 = .ok (.iadd, 1) := by decide +kernel
theorem d0_743 : decode (xbc 0) 743 = .ok (.iaload, 1) := by decide +kernel
theorem d0_744 : decode (xbc 0) 744 = .ok (.aload_n 0, 1) := by decide +kernel
theorem d0_745 : decode (xbc 0) 745 = .ok (.iload_n 3, 1) := by decide +kernel
theorem d0_746 : decode (xbc 0) 746 = .ok (.iconst 2, 1) := by decide +kernel
theorem d0_747 : decode (xbc 0) 747 = .ok (.iadd, 1) := by decide +kernel
theorem d0_748 : decode (xbc 0) 748 = .ok (.iaload, 1) := by decide +kernel
theorem d0_749 : decode (xbc 0) 749 = .ok (.aload_n 0, 1) := by decide +kernel
theorem d0_750 : decode (xbc 0) 750 = .ok (.iload_n 3, 1) := by decide +kernel
theorem d0_751 : decode (xbc 0) 751 = .ok (.iconst 3, 1) := by decide +kernel
theorem d0_752 : decode (xbc 0) 752 = .ok (.iadd, 1) := by decide +kernel
theorem d0_753 : decode (xbc 0) 753 = .ok (.iaload, 1) := by decide +kernel
theorem d0_754 : decode (xbc 0) 754 = .ok (.invokevirtual 101, 3) := by decide +kernel
theorem d0_757 : decode (xbc 0) 757 = .ok (.aload_n 2, 1) := by decide +kernel
theorem d0_758 : decode (xbc 0) 758 = .ok (.aload_n 0, 1) := by decide +kernel
theorem d0_759 : decode (xbc 0) 759 = .ok (.iload_n 3, 1) := by decide +kernel
theorem d0_760 : decode (xbc 0) 760 = .ok (.iconst 1, 1) := by decide +kernel
theorem d0_761 : decode (xbc 0) 761 = .ok (.iadd, 1) := by decide +kernel
theorem d0_762 : decode (xbc 0) 762 = .ok (.iaload, 1) := by decide +kernel
theorem d0_763 : decode (xbc 0) 763 = .ok (.aload_n 0, 1) := by decide +kernel
theorem d0_764 : decode (xbc 0) 764 = .ok (.iload_n 3, 1) := by decide +kernel
theorem d0_765 : decode (xbc 0) 765 = .ok (.iconst 2, 1) := by decide +kernel
theorem d0_766 : decode (xbc 0) 766 = .ok (.iadd, 1) := by decide +kernel
theorem d0_767 : decode (xbc 0) 767 = .ok (.iaload, 1) := by decide +kernel
theorem d0_768 : decode (xbc 0) 768 = .ok (.aload_n 0, 1) := by decide +kernel
theorem d0_769 : decode (xbc 0) 769 = .ok (.iload_n 3, 1) := by decide +kernel
theorem d0_770 : decode (xbc 0) 770 = .ok (.iconst 3, 1) := by decide +kernel
theorem d0_771 : decode (xbc 0) 771 = .ok (.iadd, 1) := by decide +kernel
theorem d0_772 : decode (xbc 0) 772 = .ok (.iaload, 1) := by decide +kernel
theorem d0_773 : decode (xbc 0) 773 = .ok (.invokevirtual 104, 3) := by decide +kernel
theorem d0_776 : decode (xbc 0) 776 = .ok (.lcmp, 1) := by decide +kernel
theorem d0_777 : decode (xbc 0) 777 = .ok (.ifCond .eq 117, 3) := by decide +kernel
theorem d0_780 : decode (xbc 0) 780 = .ok (.iconst 0, 1) := by decide +kernel
theorem d0_781 : decode (xbc 0) 781 = .ok (.ireturn, 1) := by decide +kernel
theorem d0_782 : decode (xbc 0) 782 = .ok (.aload_n 1, 1) := by decide +kernel
theorem d0_783 : decode (xbc 0) 783 = .ok (.aload_n 0, 1) := by decide +kernel
theorem d0_784 : decode (xbc 0) 784 = .ok (.iload_n 3, 1) := by decide +kernel
theorem d0_785 : decode (xbc 0) 785 = .ok (.iconst 1, 1) := by decide +kernel
theorem d0_786 : decode (xbc 0) 786 = .ok (.iadd, 1) := by decide +kernel
theorem d0_787 : decode (xbc 0) 787 = .ok (.iaload, 1) := by decide +kernel
theorem d0_788 : decode (xbc 0) 788 = .ok (.aload_n 0, 1) := by decide +kernel
theorem d0_789 : decode (xbc 0) 789 = .ok (.iload_n 3, 1) := by decide +kernel
theorem d0_790 : decode (xbc 0) 790 = .ok (.iconst 2, 1) := by decide +kernel
theorem d0_791 : decode (xbc 0) 791 = .ok (.iadd, 1) := by decide +kernel
theorem d0_792 : decode (xbc 0) 792 = .ok (.iaload, 1) := by decide +kernel
theorem d0_793 : decode (xbc 0) 793 = .ok (.aload_n 0, 1) := by decide +kernel
theorem d0_794 : decode (xbc 0) 794 = .ok (.iload_n 3, 1) := by decide +kernel
theorem d0_795 : decode (xbc 0) 795 = .ok (.iconst 3, 1) := by decide +kernel
theorem d0_796 : decode (xbc 0) 796 = .ok (.iadd, 1) := by decide +kernel
theorem d0_797 : decode (xbc 0) 797 = .ok (.iaload, 1) := by decide +kernel
theorem d0_798 : decode (xbc 0) 798 = .ok (.invokevirtual 105, 3) := by decide +kernel
theorem d0_801 : decode (xbc 0) 801 = .ok (.aload_n 2, 1) := by decide +kernel
theorem d0_802 : decode (xbc 0) 802 = .ok (.aload_n 0, 1) := by decide +kernel
theorem d0_803 : decode (xbc 0) 803 = .ok (.iload_n 3, 1) := by decide +kernel
theorem d0_804 : decode (xbc 0) 804 = .ok (.iconst 1, 1) := by decide +kernel
theorem d0_805 : decode (xbc 0) 805 = .ok (.iadd, 1) := by decide +kernel
theorem d0_806 : decode (xbc 0) 806 = .ok (.iaload, 1) := by decide +kernel
theorem d0_807 : decode (xbc 0) 807 = .ok (.aload_n 0, 1) := by decide +kernel
theorem d0_808 : decode (xbc 0) 808 = .ok (.iload_n 3, 1) := by decide +kernel
theorem d0_809 : decode (xbc 0) 809 = .ok (.iconst 2, 1) := by decide +kernel
theorem d0_810 : decode (xbc 0) 810 = .ok (.iadd, 1) := by decide +kernel
theorem d0_811 : decode (xbc 0) 811 = .ok (.iaload, 1) := by decide +kernel
theorem d0_812 : decode (xbc 0) 812 = .ok (.aload_n 0, 1) := by decide +kernel
theorem d0_813 : decode (xbc 0) 813 = .ok (.iload_n 3, 1) := by decide +kernel
theorem d0_814 : decode (xbc 0) 814 = .ok (.iconst 3, 1) := by decide +kernel
theorem d0_815 : decode (xbc 0) 815 = .ok (.iadd, 1) := by decide +kernel
theorem d0_816 : decode (xbc 0) 816 = .ok (.iaload, 1) := by decide +kernel
theorem d0_817 : decode (xbc 0) 817 = .ok (.invokevirtual 109, 3) := by decide +kernel
theorem d0_820 : decode (xbc 0) 820 = .ok (.if_icmp .eq 74, 3) := by decide +kernel
theorem d0_823 : decode (xbc 0) 823 = .ok (.iconst 0, 1) := by decide +kernel
theorem d0_824 : decode (xbc 0) 824 = .ok (.ireturn, 1) := by decide +kernel
theorem d0_825 : decode (xbc 0) 825 = .ok (.aload_n 1, 1) := by decide +kernel
theorem d0_826 : decode (xbc 0) 826 = .ok (.aload_n 0, 1) := by decide +kernel
theorem d0_827 : decode (xbc 0) 827 = .ok (.iload_n 3, 1) := by decide +kernel
theorem d0_828 : decode (xbc 0) 828 = .ok (.iconst 1, 1) := by decide +kernel
theorem d0_829 : decode (xbc 0) 829 = .ok (.iadd, 1) := by decide +kernel
theorem d0_830 : decode (xbc 0) 830 = .ok (.iaload, 1) := by decide +kernel
theorem d0_831 : decode (xbc 0) 831 = .ok (.invokevirtual 110, 3) := by decide +kernel
theorem d0_834 : decode (xbc 0) 834 = .ok (.aload_n 2, 1) := by decide +kernel
theorem d0_835 : decode (xbc 0) 835 = .ok (.aload_n 0, 1) := by decide +kernel
theorem d0_836 : decode (xbc 0) 836 = .ok (.iload_n 3, 1) := by decide +kernel
theorem d0_837 : decode (xbc 0) 837 = .ok (.iconst 1, 1) := by decide +kernel
theorem d0_838 : decode (xbc 0) 838 = .ok (.iadd, 1) := by decide +kernel
theorem d0_839 : decode (xbc 0) 839 = .ok (.iaload, 1) := by decide +kernel
theorem d0_840 : decode (xbc 0) 840 = .ok (.invokevirtual 113, 3) := by decide +kernel
theorem d0_843 : decode (xbc 0) 843 = .ok (.if_icmp .eq 51, 3) := by decide +kernel
theorem d0_846 : decode (xbc 0) 846 = .ok (.iconst 0, 1) := by decide +kernel
theorem d0_847 : decode (xbc 0) 847 = .ok (.ireturn, 1) := by decide +kernel
theorem d0_848 : decode (xbc 0) 848 = .ok (.aload_n 1, 1) := by decide +kernel
theorem d0_849 : decode (xbc 0) 849 = .ok (.aload_n 0, 1) := by decide +kernel
theorem d0_850 : decode (xbc 0) 850 = .ok (.iload_n 3, 1) := by decide +kernel
theorem d0_851 : decode (xbc 0) 851 = .ok (.iconst 1, 1) := by decide +kernel
theorem d0_852 : decode (xbc 0) 852 = .ok (.iadd, 1) := by decide +kernel
theorem d0_853 : decode (xbc 0) 853 = .ok (.iaload, 1) := by decide +kernel
theorem d0_854 : decode (xbc 0) 854 = .ok (.invokevirtual 114, 3) := by decide +kernel
theorem d0_857 : decode (xbc 0) 857 = .ok (.aload_n 2, 1) := by decide +kernel
theorem d0_858 : decode (xbc 0) 858 = .ok (.aload_n 0, 1) := by decide +kernel
theorem d0_859 : decode (xbc 0) 859 = .ok (.iload_n 3, 1) := by decide +kernel
theorem d0_860 : decode (xbc 0) 860 = .ok (.iconst 1, 1) := by decide +kernel
theorem d0_861 : decode (xbc 0) 861 = .ok (.iadd, 1) := by decide +kernel
theorem d0_862 : decode (xbc 0) 862 = .ok (.iaload, 1) := by decide +kernel
theorem d0_863 : decode (xbc 0) 863 = .ok (.invokevirtual 117, 3) := by decide +kernel
theorem d0_866 : decode (xbc 0) 866 = .ok (.if_icmp .eq 28, 3) := by decide +kernel
theorem d0_869 : decode (xbc 0) 869 = .ok (.iconst 0, 1) := by decide +kernel
theorem d0_870 : decode (xbc 0) 870 = .ok (.ireturn, 1) := by decide +kernel
theorem d0_871 : decode (xbc 0) 871 = .ok (.aload_n 1, 1) := by decide +kernel
theorem d0_872 : decode (xbc 0) 872 = .ok (.aload_n 0, 1) := by decide +kernel
theorem d0_873 : decode (xbc 0) 873 = .ok (.iload_n 3, 1) := by decide +kernel
theorem d0_874 : decode (xbc 0) 874 = .ok (.iconst 1, 1) := by decide +kernel
theorem d0_875 : decode (xbc 0) 875 = .ok (.iadd, 1) := by decide +kernel
theorem d0_876 : decode (xbc 0) 876 = .ok (.iaload, 1) := by decide +kernel
theorem d0_877 : decode (xbc 0) 877 = .ok (.invokevirtual 118, 3) := by decide +kernel
theorem d0_880 : decode (xbc 0) 880 = .ok (.aload_n 2, 1) := by decide +kernel
theorem d0_881 : decode (xbc 0) 881 = .ok (.aload_n 0, 1) := by decide +kernel
theorem d0_882 : decode (xbc 0) 882 = .ok (.iload_n 3, 1) := by decide +kernel
theorem d0_883 : decode (xbc 0) 883 = .ok (.iconst 1, 1) := by decide +kernel
theorem d0_884 : decode (xbc 0) 884 = .ok (.iadd, 1) := by decide +kernel
theorem d0_885 : decode (xbc 0) 885 = .ok (.iaload, 1) := by decide +kernel
theorem d0_886 : decode (xbc 0) 886 = .ok (.invokevirtual 121, 3) := by decide +kernel
theorem d0_889 : decode (xbc 0) 889 = .ok (.if_icmp .eq 5, 3) := by decide +kernel
theorem d0_892 : decode (xbc 0) 892 = .ok (.iconst 0, 1) := by decide +kernel
theorem d0_893 : decode (xbc 0) 893 = .ok (.ireturn, 1) := by decide +kernel
theorem d0_894 : decode (xbc 0) 894 = .ok (.iinc 3 5, 3) := by decide +kernel
theorem d0_897 : decode (xbc 0) 897 = .ok (.goto (-879), 3) := by decide +kernel
theorem d0_900 : decode (xbc 0) 900 = .ok (.iconst 1, 1) := by decide +kernel
theorem d0_901 : decode (xbc 0) 901 = .ok (.ireturn, 1) := by decide +kernel
end
section
def xdo (r : Except ClassFile.DecodeError (Instr × Nat)) (X : xX) (id pc : Nat) (ls st : List Value) (S : xS) : Option xR := match r with
  | .ok (i, n) => if n = xlen i n then xex X id i pc ls st S else none
  | .error _ => none
theorem xstep_d (X : xX) (id pc : Nat) (ls st : List Value) (S : xS) : xstep X id (pc, ls, st, S) = xdo (decode (xbc id) pc) X id pc ls st S := Eq.symm (Eq.symm rfl)
theorem xr_d (X : xX) (id : Nat) (stops : List Nat) (n pc : Nat) (ls st : List Value) (S : xS) : xr X id stops (n + 1) (pc, ls, st, S) = if stops.contains pc = true then xV X id (pc, ls, st, S) else xgo (xr X id stops n) (xC X id) (xdo (decode (xbc id) pc) X id pc ls st S) := Eq.symm (Eq.symm rfl)
theorem xr_0 (X : xX) (id : Nat) (stops : List Nat) (fr : xF) : xr X id stops 0 fr = xV X id fr := Eq.symm (Eq.symm rfl)
theorem xg_nx {k : xF → Option xO} {c : Nat → List Value → xS → Option xO} {pc : Nat} {ls st : List Value} {S : xS} : xgo k c (xnx pc ls st S) = k (pc, ls, st, S) := Eq.symm (Eq.symm rfl)
theorem xg_n {k : xF → Option xO} {c : Nat → List Value → xS → Option xO} : xgo k c none = none := Eq.symm (Eq.symm rfl)
theorem xg_o {k : xF → Option xO} {c : Nat → List Value → xS → Option xO} {o : xO} : xgo k c (some (.inr (.inl o))) = some o := Eq.symm (Eq.symm rfl)
def xth (k : xF → Option xO) (pc : Nat) (ls st : List Value) (r : Option xO) : Option xO := r.bind (fun o => k (pc, ls, o.1.toList ++ st, o.2))
theorem xth_s {k : xF → Option xO} {pc : Nat} {ls st : List Value} {v : Value} {S : xS} : xth k pc ls st (some (some v, S)) = k (pc, ls, v :: st, S) := Eq.symm (Eq.symm rfl)
theorem xth_v {k : xF → Option xO} {pc : Nat} {ls st : List Value} {S : xS} : xth k pc ls st (some (none, S)) = k (pc, ls, st, S) := Eq.symm (Eq.symm rfl)
theorem xth_ite {k : xF → Option xO} {pc : Nat} {ls st : List Value} {p : Prop} [Decidable p] {a b : Option xO} : xth k pc ls st (if p then a else b) = if p then xth k pc ls st a else xth k pc ls st b := apply_ite _ _ _ _
theorem xth_n {k : xF → Option xO} {pc : Nat} {ls st : List Value} : xth k pc ls st none = none := Eq.symm (Eq.symm rfl)
theorem xg_c {X : xX} {id : Nat} {k : xF → Option xO} {j : Nat} {as : List Value} {pc : Nat} {ls st : List Value} {S : xS} : xgo k (xC X id) (some (.inr (.inr (j, as, (pc, ls, st, S))))) = xth k pc ls st (xC X id j as S) := Eq.symm (Eq.symm rfl)

theorem xd_iconst {X : xX} {id pc : Nat} {ls : List Value} {st : List Value} {S : xS} {k : Int} : xdo (.ok (.iconst k, 1)) X id pc ls (st) S = xnx (pc + 1) ls (.int (Int32.ofInt k) :: st) S := Eq.symm (Eq.symm rfl)
theorem xd_bipush {X : xX} {id pc : Nat} {ls : List Value} {st : List Value} {S : xS} {k : Int} : xdo (.ok (.bipush k, 2)) X id pc ls (st) S = xnx (pc + 2) ls (.int (Int8.ofInt k).toInt32 :: st) S := Eq.symm (Eq.symm rfl)
theorem xd_sipush {X : xX} {id pc : Nat} {ls : List Value} {st : List Value} {S : xS} {k : Int} : xdo (.ok (.sipush k, 3)) X id pc ls (st) S = xnx (pc + 3) ls (.int (Int16.ofInt k).toInt32 :: st) S := Eq.symm (Eq.symm rfl)
theorem xd_lconst {X : xX} {id pc : Nat} {ls : List Value} {st : List Value} {S : xS} {k : Fin 2} : xdo (.ok (.lconst k, 1)) X id pc ls (st) S = xnx (pc + 1) ls (.long (Int64.ofNat k.val) :: st) S := Eq.symm (Eq.symm rfl)
theorem xd_iload {X : xX} {id pc : Nat} {ls : List Value} {st : List Value} {S : xS} {j : Nat} : xdo (.ok (.iload j, 2)) X id pc ls (st) S = xld ls j (pc + 2) st S xisI := Eq.symm (Eq.symm rfl)
theorem xd_iload_n {X : xX} {id pc : Nat} {ls : List Value} {st : List Value} {S : xS} {j : Fin 4} : xdo (.ok (.iload_n j, 1)) X id pc ls (st) S = xld ls j.val (pc + 1) st S xisI := Eq.symm (Eq.symm rfl)
theorem xd_lload {X : xX} {id pc : Nat} {ls : List Value} {st : List Value} {S : xS} {j : Nat} : xdo (.ok (.lload j, 2)) X id pc ls (st) S = xld ls j (pc + 2) st S xisL := Eq.symm (Eq.symm rfl)
theorem xd_lload_n {X : xX} {id pc : Nat} {ls : List Value} {st : List Value} {S : xS} {j : Fin 4} : xdo (.ok (.lload_n j, 1)) X id pc ls (st) S = xld ls j.val (pc + 1) st S xisL := Eq.symm (Eq.symm rfl)
theorem xd_aload {X : xX} {id pc : Nat} {ls : List Value} {st : List Value} {S : xS} {j : Nat} : xdo (.ok (.aload j, 2)) X id pc ls (st) S = xld ls j (pc + 2) st S xisA := Eq.symm (Eq.symm rfl)
theorem xd_aload_n {X : xX} {id pc : Nat} {ls : List Value} {st : List Value} {S : xS} {j : Fin 4} : xdo (.ok (.aload_n j, 1)) X id pc ls (st) S = xld ls j.val (pc + 1) st S xisA := Eq.symm (Eq.symm rfl)
theorem xd_istore {X : xX} {id pc : Nat} {ls : List Value} {st : List Value} {S : xS} {j : Nat} : xdo (.ok (.istore j, 2)) X id pc ls (st) S = xsto ls j (pc + 2) st S xisI := Eq.symm (Eq.symm rfl)
theorem xd_istore_n {X : xX} {id pc : Nat} {ls : List Value} {st : List Value} {S : xS} {j : Fin 4} : xdo (.ok (.istore_n j, 1)) X id pc ls (st) S = xsto ls j.val (pc + 1) st S xisI := Eq.symm (Eq.symm rfl)
theorem xd_astore {X : xX} {id pc : Nat} {ls : List Value} {st : List Value} {S : xS} {j : Nat} : xdo (.ok (.astore j, 2)) X id pc ls (st) S = xsto ls j (pc + 2) st S xisA := Eq.symm (Eq.symm rfl)
theorem xd_astore_n {X : xX} {id pc : Nat} {ls : List Value} {st : List Value} {S : xS} {j : Fin 4} : xdo (.ok (.astore_n j, 1)) X id pc ls (st) S = xsto ls j.val (pc + 1) st S xisA := Eq.symm (Eq.symm rfl)
theorem xd_lstore {X : xX} {id pc : Nat} {ls : List Value} {st : List Value} {S : xS} {j : Nat} : xdo (.ok (.lstore j, 2)) X id pc ls (st) S = xsto2 ls j (pc + 2) st S := Eq.symm (Eq.symm rfl)
theorem xd_lstore_n {X : xX} {id pc : Nat} {ls : List Value} {st : List Value} {S : xS} {j : Fin 4} : xdo (.ok (.lstore_n j, 1)) X id pc ls (st) S = xsto2 ls j.val (pc + 1) st S := Eq.symm (Eq.symm rfl)
theorem xd_iadd {X : xX} {id pc : Nat} {ls : List Value} {st : List Value} {S : xS} {x y : Int32} : xdo (.ok (.iadd, 1)) X id pc ls (.int y :: .int x :: st) S = xnx (pc + 1) ls (.int (x + y) :: st) S := Eq.symm (Eq.symm rfl)
theorem xd_isub {X : xX} {id pc : Nat} {ls : List Value} {st : List Value} {S : xS} {x y : Int32} : xdo (.ok (.isub, 1)) X id pc ls (.int y :: .int x :: st) S = xnx (pc + 1) ls (.int (x - y) :: st) S := Eq.symm (Eq.symm rfl)
theorem xd_imul {X : xX} {id pc : Nat} {ls : List Value} {st : List Value} {S : xS} {x y : Int32} : xdo (.ok (.imul, 1)) X id pc ls (.int y :: .int x :: st) S = xnx (pc + 1) ls (.int (x * y) :: st) S := Eq.symm (Eq.symm rfl)
theorem xd_iand {X : xX} {id pc : Nat} {ls : List Value} {st : List Value} {S : xS} {x y : Int32} : xdo (.ok (.iand, 1)) X id pc ls (.int y :: .int x :: st) S = xnx (pc + 1) ls (.int (x &&& y) :: st) S := Eq.symm (Eq.symm rfl)
theorem xd_ior {X : xX} {id pc : Nat} {ls : List Value} {st : List Value} {S : xS} {x y : Int32} : xdo (.ok (.ior, 1)) X id pc ls (.int y :: .int x :: st) S = xnx (pc + 1) ls (.int (x ||| y) :: st) S := Eq.symm (Eq.symm rfl)
theorem xd_ishl {X : xX} {id pc : Nat} {ls : List Value} {st : List Value} {S : xS} {x y : Int32} : xdo (.ok (.ishl, 1)) X id pc ls (.int y :: .int x :: st) S = xnx (pc + 1) ls (.int (x <<< (y &&& 31)) :: st) S := Eq.symm (Eq.symm rfl)
theorem xd_ishr {X : xX} {id pc : Nat} {ls : List Value} {st : List Value} {S : xS} {x y : Int32} : xdo (.ok (.ishr, 1)) X id pc ls (.int y :: .int x :: st) S = xnx (pc + 1) ls (.int (x >>> (y &&& 31)) :: st) S := Eq.symm (Eq.symm rfl)
theorem xd_ladd {X : xX} {id pc : Nat} {ls : List Value} {st : List Value} {S : xS} {x y : Int64} : xdo (.ok (.ladd, 1)) X id pc ls (.long y :: .long x :: st) S = xnx (pc + 1) ls (.long (x + y) :: st) S := Eq.symm (Eq.symm rfl)
theorem xd_lsub {X : xX} {id pc : Nat} {ls : List Value} {st : List Value} {S : xS} {x y : Int64} : xdo (.ok (.lsub, 1)) X id pc ls (.long y :: .long x :: st) S = xnx (pc + 1) ls (.long (x - y) :: st) S := Eq.symm (Eq.symm rfl)
theorem xd_lmul {X : xX} {id pc : Nat} {ls : List Value} {st : List Value} {S : xS} {x y : Int64} : xdo (.ok (.lmul, 1)) X id pc ls (.long y :: .long x :: st) S = xnx (pc + 1) ls (.long (x * y) :: st) S := Eq.symm (Eq.symm rfl)
theorem xd_land {X : xX} {id pc : Nat} {ls : List Value} {st : List Value} {S : xS} {x y : Int64} : xdo (.ok (.land, 1)) X id pc ls (.long y :: .long x :: st) S = xnx (pc + 1) ls (.long (x &&& y) :: st) S := Eq.symm (Eq.symm rfl)
theorem xd_lor {X : xX} {id pc : Nat} {ls : List Value} {st : List Value} {S : xS} {x y : Int64} : xdo (.ok (.lor, 1)) X id pc ls (.long y :: .long x :: st) S = xnx (pc + 1) ls (.long (x ||| y) :: st) S := Eq.symm (Eq.symm rfl)
theorem xd_idiv {X : xX} {id pc : Nat} {ls : List Value} {st : List Value} {S : xS} {x y : Int32} : xdo (.ok (.idiv, 1)) X id pc ls (.int y :: .int x :: st) S = if y = 0 then none else xnx (pc + 1) ls (.int (x / y) :: st) S := Eq.symm (Eq.symm rfl)
theorem xd_irem {X : xX} {id pc : Nat} {ls : List Value} {st : List Value} {S : xS} {x y : Int32} : xdo (.ok (.irem, 1)) X id pc ls (.int y :: .int x :: st) S = if y = 0 then none else xnx (pc + 1) ls (.int (x - x / y * y) :: st) S := Eq.symm (Eq.symm rfl)
theorem xd_ldiv {X : xX} {id pc : Nat} {ls : List Value} {st : List Value} {S : xS} {x y : Int64} : xdo (.ok (.ldiv, 1)) X id pc ls (.long y :: .long x :: st) S = if y = 0 then none else xnx (pc + 1) ls (.long (x / y) :: st) S := Eq.symm (Eq.symm rfl)
theorem xd_lrem {X : xX} {id pc : Nat} {ls : List Value} {st : List Value} {S : xS} {x y : Int64} : xdo (.ok (.lrem, 1)) X id pc ls (.long y :: .long x :: st) S = if y = 0 then none else xnx (pc + 1) ls (.long (x - x / y * y) :: st) S := Eq.symm (Eq.symm rfl)
theorem xd_ineg {X : xX} {id pc : Nat} {ls : List Value} {st : List Value} {S : xS} {x : Int32} : xdo (.ok (.ineg, 1)) X id pc ls (.int x :: st) S = xnx (pc + 1) ls (.int (-x) :: st) S := Eq.symm (Eq.symm rfl)
theorem xd_lneg {X : xX} {id pc : Nat} {ls : List Value} {st : List Value} {S : xS} {x : Int64} : xdo (.ok (.lneg, 1)) X id pc ls (.long x :: st) S = xnx (pc + 1) ls (.long (-x) :: st) S := Eq.symm (Eq.symm rfl)
theorem xd_lshl {X : xX} {id pc : Nat} {ls : List Value} {st : List Value} {S : xS} {x : Int64} {y : Int32} : xdo (.ok (.lshl, 1)) X id pc ls (.int y :: .long x :: st) S = xnx (pc + 1) ls (.long (x <<< (y.toInt64 &&& 63)) :: st) S := Eq.symm (Eq.symm rfl)
theorem xd_lshr {X : xX} {id pc : Nat} {ls : List Value} {st : List Value} {S : xS} {x : Int64} {y : Int32} : xdo (.ok (.lshr, 1)) X id pc ls (.int y :: .long x :: st) S = xnx (pc + 1) ls (.long (x >>> (y.toInt64 &&& 63)) :: st) S := Eq.symm (Eq.symm rfl)
theorem xd_lcmp {X : xX} {id pc : Nat} {ls : List Value} {st : List Value} {S : xS} {x y : Int64} : xdo (.ok (.lcmp, 1)) X id pc ls (.long y :: .long x :: st) S = xnx (pc + 1) ls (.int (lg_cmp x y) :: st) S := Eq.symm (Eq.symm rfl)
theorem xd_i2l {X : xX} {id pc : Nat} {ls : List Value} {st : List Value} {S : xS} {x : Int32} : xdo (.ok (.i2l, 1)) X id pc ls (.int x :: st) S = xnx (pc + 1) ls (.long x.toInt64 :: st) S := Eq.symm (Eq.symm rfl)
theorem xd_l2i {X : xX} {id pc : Nat} {ls : List Value} {st : List Value} {S : xS} {x : Int64} : xdo (.ok (.l2i, 1)) X id pc ls (.long x :: st) S = xnx (pc + 1) ls (.int x.toInt32 :: st) S := Eq.symm (Eq.symm rfl)
theorem xd_dup_int {X : xX} {id pc : Nat} {ls : List Value} {st : List Value} {S : xS} {x : Int32} : xdo (.ok (.dup, 1)) X id pc ls (.int x :: st) S = xnx (pc + 1) ls (.int x :: .int x :: st) S := Eq.symm (Eq.symm rfl)
theorem xd_dup_ref {X : xX} {id pc : Nat} {ls : List Value} {st : List Value} {S : xS} {a : Nat} : xdo (.ok (.dup, 1)) X id pc ls (.ref a :: st) S = xnx (pc + 1) ls (.ref a :: .ref a :: st) S := Eq.symm (Eq.symm rfl)
theorem xd_pop {X : xX} {id pc : Nat} {ls : List Value} {st : List Value} {S : xS} {x : Int32} : xdo (.ok (.pop, 1)) X id pc ls (.int x :: st) S = xnx (pc + 1) ls (st) S := Eq.symm (Eq.symm rfl)
theorem xd_dup2 {X : xX} {id pc : Nat} {ls : List Value} {st : List Value} {S : xS} {x : Int32} {a : Nat} : xdo (.ok (.dup2, 1)) X id pc ls (.int x :: .ref a :: st) S = xnx (pc + 1) ls (.int x :: .ref a :: .int x :: .ref a :: st) S := Eq.symm (Eq.symm rfl)
theorem xd_goto {X : xX} {id pc : Nat} {ls : List Value} {st : List Value} {S : xS} {off : Int} : xdo (.ok (.goto off, 3)) X id pc ls (st) S = xjp pc off ls st S := Eq.symm (Eq.symm rfl)
theorem xd_ifC {X : xX} {id pc : Nat} {ls : List Value} {st : List Value} {S : xS} {x : Int32} {off : Int} {cd : ClassFile.Cond} : xdo (.ok (.ifCond cd off, 3)) X id pc ls (.int x :: st) S = if 0 ≤ (pc : Int) + off then (if xcmp cd x 0 = true then xnx ((pc : Int) + off).toNat ls st S else xnx (pc + 3) ls st S) else none := Eq.symm (Eq.symm rfl)
theorem xd_ifI {X : xX} {id pc : Nat} {ls : List Value} {st : List Value} {S : xS} {x y : Int32} {off : Int} {cd : ClassFile.Cond} : xdo (.ok (.if_icmp cd off, 3)) X id pc ls (.int y :: .int x :: st) S = if 0 ≤ (pc : Int) + off then (if xcmp cd x y = true then xnx ((pc : Int) + off).toNat ls st S else xnx (pc + 3) ls st S) else none := Eq.symm (Eq.symm rfl)
theorem xd_getf {X : xX} {id pc : Nat} {ls : List Value} {st : List Value} {S : xS} {j k : Nat} : xdo (.ok (.getfield j, 3)) X id pc ls (.ref k :: st) S = (xfld (xown id) j).bind fun f => (xgf S k f.1 f.2.1).bind fun v => xnx (pc + 3) ls (v :: st) S := Eq.symm (Eq.symm rfl)
theorem xd_putI {X : xX} {id pc : Nat} {ls : List Value} {st : List Value} {S : xS} {j k : Nat} {x : Int32} : xdo (.ok (.putfield j, 3)) X id pc ls (.int x :: .ref k :: st) S = (xfld (xown id) j).bind fun f => if f.2.2.1 = true ∨ f.2.2.2.1 = false then none else (xpf S k f.1 f.2.1 x).bind fun S' => xnx (pc + 3) ls st S' := Eq.symm (Eq.symm rfl)
theorem xd_putR {X : xX} {id pc : Nat} {ls : List Value} {st : List Value} {S : xS} {j k a : Nat} : xdo (.ok (.putfield j, 3)) X id pc ls (.ref a :: .ref k :: st) S = (xfld (xown id) j).bind fun f => if f.2.2.1 = true ∨ f.2.2.2.1 = true ∨ ¬ (xy id).name = "<init>" ∨ ¬ f.1 = xown id then none else (xpr S k f.1 f.2.1 a).bind fun S' => xnx (pc + 3) ls st S' := Eq.symm (Eq.symm rfl)
theorem xd_iald {X : xX} {id pc : Nat} {ls : List Value} {st : List Value} {S : xS} {i : Int32} {k : Nat} : xdo (.ok (.iaload, 1)) X id pc ls (.int i :: .ref k :: st) S = (xal S k 0 i).bind fun v => xnx (pc + 1) ls (.int v :: st) S := Eq.symm (Eq.symm rfl)
theorem xd_ialdX {X : xX} {id pc : Nat} {ls : List Value} {st : List Value} {S : xS} {i : Int32} : xdo (.ok (.iaload, 1)) X id pc ls (.int i :: .retAddr 0 :: st) S = if xin i X.1 = true then xnx (pc + 1) ls (.int (X.2 i.toNatClampNeg) :: st) S else none := Eq.symm (Eq.symm rfl)
theorem xd_bald {X : xX} {id pc : Nat} {ls : List Value} {st : List Value} {S : xS} {i : Int32} {k : Nat} : xdo (.ok (.baload, 1)) X id pc ls (.int i :: .ref k :: st) S = (xal S k 1 i).bind fun v => xnx (pc + 1) ls (.int v :: st) S := Eq.symm (Eq.symm rfl)
theorem xd_iast {X : xX} {id pc : Nat} {ls : List Value} {st : List Value} {S : xS} {i x : Int32} {k : Nat} : xdo (.ok (.iastore, 1)) X id pc ls (.int x :: .int i :: .ref k :: st) S = (xas S k 0 i x).bind fun S' => xnx (pc + 1) ls st S' := Eq.symm (Eq.symm rfl)
theorem xd_bast {X : xX} {id pc : Nat} {ls : List Value} {st : List Value} {S : xS} {i x : Int32} {k : Nat} : xdo (.ok (.bastore, 1)) X id pc ls (.int x :: .int i :: .ref k :: st) S = if x = 0 ∨ x = 1 then (xas S k 1 i x).bind fun S' => xnx (pc + 1) ls st S' else none := Eq.symm (Eq.symm rfl)
theorem xd_aald {X : xX} {id pc : Nat} {ls : List Value} {st : List Value} {S : xS} {i : Int32} {k : Nat} : xdo (.ok (.aaload, 1)) X id pc ls (.int i :: .ref k :: st) S = (xaq S k i).bind fun v => xnx (pc + 1) ls (v :: st) S := Eq.symm (Eq.symm rfl)
theorem xd_aast {X : xX} {id pc : Nat} {ls : List Value} {st : List Value} {S : xS} {i : Int32} {k a : Nat} : xdo (.ok (.aastore, 1)) X id pc ls (.ref a :: .int i :: .ref k :: st) S = (xaw S k i a).bind fun S' => xnx (pc + 1) ls st S' := Eq.symm (Eq.symm rfl)
theorem xd_alen {X : xX} {id pc : Nat} {ls : List Value} {st : List Value} {S : xS} {k : Nat} : xdo (.ok (.arraylength, 1)) X id pc ls (.ref k :: st) S = (xle S k).bind fun v => xnx (pc + 1) ls (.int v :: st) S := Eq.symm (Eq.symm rfl)
theorem xd_alenX {X : xX} {id pc : Nat} {ls : List Value} {st : List Value} {S : xS} : xdo (.ok (.arraylength, 1)) X id pc ls (.retAddr 0 :: st) S = xnx (pc + 1) ls (.int (Int32.ofNat X.1) :: st) S := Eq.symm (Eq.symm rfl)
theorem xd_newI {X : xX} {id pc : Nat} {ls : List Value} {st : List Value} {S : xS} {n : Int32} : xdo (.ok (.newarray .int, 2)) X id pc ls (.int n :: st) S = (xnwa S 0 n).bind fun S' => xnx (pc + 2) ls (.ref S.1.length :: st) S' := Eq.symm (Eq.symm rfl)
theorem xd_newZ {X : xX} {id pc : Nat} {ls : List Value} {st : List Value} {S : xS} {n : Int32} : xdo (.ok (.newarray .boolean, 2)) X id pc ls (.int n :: st) S = (xnwa S 1 n).bind fun S' => xnx (pc + 2) ls (.ref S.1.length :: st) S' := Eq.symm (Eq.symm rfl)
theorem xd_newQ {X : xX} {id pc : Nat} {ls : List Value} {st : List Value} {S : xS} {n : Int32} {j : Nat} : xdo (.ok (.anewarray j, 3)) X id pc ls (.int n :: st) S = (xnew (xown id) j).bind fun w => if w.1 = 1 then (xnwq S n).bind fun S' => xnx (pc + 3) ls (.ref S.1.length :: st) S' else none := Eq.symm (Eq.symm rfl)
theorem xd_newO {X : xX} {id pc : Nat} {ls : List Value} {st : List Value} {S : xS} {j : Nat} : xdo (.ok (.new j, 3)) X id pc ls (st) S = (xnew (xown id) j).bind fun w => (xnwo S w.1).bind fun S' => xnx (pc + 3) ls (.ref S.1.length :: st) S' := Eq.symm (Eq.symm rfl)
theorem xd_invS {X : xX} {id pc : Nat} {ls : List Value} {st : List Value} {S : xS} {j : Nat} : xdo (.ok (.invokestatic j, 3)) X id pc ls (st) S = xinv id pc ls st S j [0, 3, 7, 9, 10, 11, 12] := Eq.symm (Eq.symm rfl)
theorem xd_invV {X : xX} {id pc : Nat} {ls : List Value} {st : List Value} {S : xS} {j : Nat} : xdo (.ok (.invokevirtual j, 3)) X id pc ls (st) S = xinv id pc ls st S j [1, 8] := Eq.symm (Eq.symm rfl)
theorem xd_invI {X : xX} {id pc : Nat} {ls : List Value} {st : List Value} {S : xS} {j : Nat} : xdo (.ok (.invokespecial j, 3)) X id pc ls (st) S = xinv id pc ls st S j [2, 5, 6] := Eq.symm (Eq.symm rfl)
theorem xd_iret {X : xX} {id pc : Nat} {ls : List Value} {st : List Value} {S : xS} : xdo (.ok (.ireturn, 1)) X id pc ls (st) S = xrt id st S := Eq.symm (Eq.symm rfl)
theorem xd_lret {X : xX} {id pc : Nat} {ls : List Value} {S : xS} {x : Int64} : xdo (.ok (.lreturn, 1)) X id pc ls ([.long x]) S = if xret id = some .long then some (.inr (.inl (some (.long x), S))) else none := Eq.symm (Eq.symm rfl)
theorem xd_vret {X : xX} {id pc : Nat} {ls : List Value} {S : xS} : xdo (.ok (.return_, 1)) X id pc ls ([]) S = if xret id = none then some (.inr (.inl (none, S))) else none := Eq.symm (Eq.symm rfl)
theorem xd_ldc {X : xX} {id pc : Nat} {ls : List Value} {st : List Value} {S : xS} {j : Nat} : xdo (.ok (.ldc j, 2)) X id pc ls (st) S = (xcst (xown id) j).bind fun w => match w.1 with
    | .int v => xnx (pc + 2) ls (.int v :: st) S
    | .retAddr 1 => xnx (pc + 2) ls (.retAddr 1 :: st) S
    | _ => none := Eq.symm (Eq.symm rfl)
theorem xd_ldc2 {X : xX} {id pc : Nat} {ls : List Value} {st : List Value} {S : xS} {j : Nat} : xdo (.ok (.ldc2_w j, 3)) X id pc ls (st) S = (xcst (xown id) j).bind fun w => match w.1 with
    | .long v => xnx (pc + 3) ls (.long v :: st) S
    | _ => none := Eq.symm (Eq.symm rfl)
theorem xd_iinc {X : xX} {id pc : Nat} {ls st : List Value} {S : xS} {j : Nat} {k : Int} : xdo (.ok (.iinc j k, 3)) X id pc ls st S = match ls[j]? with
    | some (.int x) => xnx (pc + 3) (xst1 ls j (.int (x + Int32.ofInt k))) st S
    | _ => none := Eq.symm (Eq.symm rfl)
theorem xd_aret {X : xX} {id pc : Nat} {ls : List Value} {S : xS} {a : Nat} : xdo (.ok (.areturn, 1)) X id pc ls [.ref a] S = match xret id with
      | some (.object _) => some (.inr (.inl (some (.ref a), S)))
      | _ => none := Eq.symm (Eq.symm rfl)
theorem xd_tsw {X : xX} {id pc n : Nat} {ls st : List Value} {S : xS} {x : Int32} {d lo hi : Int} {offs : Array Int} : xdo (.ok (.tableswitch d lo hi offs, n)) X id pc ls (.int x :: st) S = if n = n then (if hi - lo + 1 = (offs.toList.length : Int) then xtt pc x ls st S d (xnum lo offs.toList) else none) else none := Eq.symm (Eq.symm rfl)
theorem xd_lsw {X : xX} {id pc n : Nat} {ls st : List Value} {S : xS} {x : Int32} {d : Int} {ps : Array (Int × Int)} : xdo (.ok (.lookupswitch d ps, n)) X id pc ls (.int x :: st) S = if n = n then (if (ps.toList.zip (ps.toList.drop 1)).all (fun (a, next) => a.1 < next.1) = true then xtt pc x ls st S d ps.toList else none) else none := Eq.symm (Eq.symm rfl)
theorem xK_d (X : xX) (j : Nat) (as : List Value) (S : xS) (stops : List Nat) (n : Nat) : xK X j as S = xr X j stops n (0, xent (xml j) as, [], S) := (xr_eq X j stops n _).symm
theorem xC_d (X : xX) (id j : Nat) (as : List Value) (S : xS) : xC X id j as S = if xrm id j = true ∧ (xsl as).length ≤ xml j then xK X j as S else none := Eq.symm (Eq.symm rfl)
end
section
theorem b8_m99 : Int8.toInt32 (-99) = -99 := by decide +kernel
theorem b8_m50 : Int8.toInt32 (-50) = -50 := by decide +kernel
theorem b8_m9 : Int8.toInt32 (-9) = -9 := by decide +kernel
theorem b8_m6 : Int8.toInt32 (-6) = -6 := by decide +kernel
theorem b8_m5 : Int8.toInt32 (-5) = -5 := by decide +kernel
theorem b8_m4 : Int8.toInt32 (-4) = -4 := by decide +kernel
theorem b8_m3 : Int8.toInt32 (-3) = -3 := by decide +kernel
theorem b8_m2 : Int8.toInt32 (-2) = -2 := by decide +kernel
theorem b8_6 : Int8.toInt32 6 = 6 := by decide +kernel
theorem b8_7 : Int8.toInt32 7 = 7 := by decide +kernel
theorem b8_8 : Int8.toInt32 8 = 8 := by decide +kernel
theorem b8_9 : Int8.toInt32 9 = 9 := by decide +kernel
theorem b8_10 : Int8.toInt32 10 = 10 := by decide +kernel
theorem b8_16 : Int8.toInt32 16 = 16 := by decide +kernel
theorem b8_23 : Int8.toInt32 23 = 23 := by decide +kernel
theorem b8_24 : Int8.toInt32 24 = 24 := by decide +kernel
theorem b8_30 : Int8.toInt32 30 = 30 := by decide +kernel
theorem b8_31 : Int8.toInt32 31 = 31 := by decide +kernel
theorem b8_32 : Int8.toInt32 32 = 32 := by decide +kernel
theorem b8_33 : Int8.toInt32 33 = 33 := by decide +kernel
theorem b8_35 : Int8.toInt32 35 = 35 := by decide +kernel
theorem b8_37 : Int8.toInt32 37 = 37 := by decide +kernel
theorem b8_40 : Int8.toInt32 40 = 40 := by decide +kernel
theorem b8_41 : Int8.toInt32 41 = 41 := by decide +kernel
theorem b8_42 : Int8.toInt32 42 = 42 := by decide +kernel
theorem b8_43 : Int8.toInt32 43 = 43 := by decide +kernel
theorem b8_45 : Int8.toInt32 45 = 45 := by decide +kernel
theorem b8_46 : Int8.toInt32 46 = 46 := by decide +kernel
theorem b8_49 : Int8.toInt32 49 = 49 := by decide +kernel
theorem b8_50 : Int8.toInt32 50 = 50 := by decide +kernel
theorem b8_51 : Int8.toInt32 51 = 51 := by decide +kernel
theorem b8_52 : Int8.toInt32 52 = 52 := by decide +kernel
theorem b8_53 : Int8.toInt32 53 = 53 := by decide +kernel
theorem b8_57 : Int8.toInt32 57 = 57 := by decide +kernel
theorem b8_59 : Int8.toInt32 59 = 59 := by decide +kernel
theorem b8_60 : Int8.toInt32 60 = 60 := by decide +kernel
theorem b8_62 : Int8.toInt32 62 = 62 := by decide +kernel
theorem b8_64 : Int8.toInt32 64 = 64 := by decide +kernel
theorem b8_65 : Int8.toInt32 65 = 65 := by decide +kernel
theorem b8_73 : Int8.toInt32 73 = 73 := by decide +kernel
theorem b8_74 : Int8.toInt32 74 = 74 := by decide +kernel
theorem b8_75 : Int8.toInt32 75 = 75 := by decide +kernel
theorem b8_76 : Int8.toInt32 76 = 76 := by decide +kernel
theorem b8_97 : Int8.toInt32 97 = 97 := by decide +kernel
theorem b8_99 : Int8.toInt32 99 = 99 := by decide +kernel
theorem b8_100 : Int8.toInt32 100 = 100 := by decide +kernel
theorem b8_104 : Int8.toInt32 104 = 104 := by decide +kernel
theorem b8_126 : Int8.toInt32 126 = 126 := by decide +kernel
theorem b8_127 : Int8.toInt32 127 = 127 := by decide +kernel
theorem b16_m1000 : Int16.toInt32 (-1000) = -1000 := by decide +kernel
theorem b16_139 : Int16.toInt32 139 = 139 := by decide +kernel
theorem b16_140 : Int16.toInt32 140 = 140 := by decide +kernel
theorem b16_199 : Int16.toInt32 199 = 199 := by decide +kernel
theorem b16_203 : Int16.toInt32 203 = 203 := by decide +kernel
theorem b16_204 : Int16.toInt32 204 = 204 := by decide +kernel
theorem b16_267 : Int16.toInt32 267 = 267 := by decide +kernel
theorem b16_268 : Int16.toInt32 268 = 268 := by decide +kernel
theorem b16_331 : Int16.toInt32 331 = 331 := by decide +kernel
theorem b16_358 : Int16.toInt32 358 = 358 := by decide +kernel
theorem b16_360 : Int16.toInt32 360 = 360 := by decide +kernel
theorem b16_500 : Int16.toInt32 500 = 500 := by decide +kernel
theorem b16_589 : Int16.toInt32 589 = 589 := by decide +kernel
theorem b16_720 : Int16.toInt32 720 = 720 := by decide +kernel
theorem b16_1000 : Int16.toInt32 1000 = 1000 := by decide +kernel
theorem b16_1023 : Int16.toInt32 1023 = 1023 := by decide +kernel
theorem b16_3100 : Int16.toInt32 3100 = 3100 := by decide +kernel
theorem b16_9999 : Int16.toInt32 9999 = 9999 := by decide +kernel
end
section
def xi (b : Bool) : Int32 := if b = true then 1 else 0
theorem xi0 (b : Bool) : (xi b = 0) = (b = false) := by cases b <;> simp [xi]
theorem xi1 (b : Bool) : (xi b = 1) = (b = true) := by cases b <;> simp [xi]
theorem xi01 (b : Bool) : xi b = 0 ∨ xi b = 1 := by cases b <;> simp [xi]
theorem xbite {α β : Type} {p : Prop} [Decidable p] {v : α} {f : α → Option β} : (if p then some v else none).bind f = if p then f v else none := by by_cases h : p <;> simp [h]
theorem xbite2 {α β : Type} {p : Prop} [Decidable p] {a b : Option α} {f : α → Option β} : (if p then a else b).bind f = if p then a.bind f else b.bind f := by by_cases h : p <;> simp [h]
theorem xin_nI {n m : Nat} (h : n < 2147483648) : xin (nI n) m = decide (n < m) := by
  have e := nI_toInt (n := n) (by omega)
  simp only [xin, e]
  by_cases h1 : n < m
  · simp [h1]
  · simp [h1]
theorem nI_cl {n : Nat} (h : n < 2147483648) : (nI n).toNatClampNeg = n := nI_clamp (by omega)
theorem xin_of {x : Int32} {n : Nat} (h : xin x n = true) (hn : n < 2147483648) : ∃ k : Nat, k < n ∧ x = nI k := vp_in_of (xin_iff.mp h) (by omega)
theorem nI_L (n : Nat) : (OfNat.ofNat n : Int32) = nI n := rfl
def xget (σ : Nat → Nat → Int32) (c : Nat) : Nat → Nat → Int32 := fun a b => σ (c + a) b
def xput (w : Nat) (σ : Nat → Nat → Int32) (c : Nat) (A : Nat → Nat → Int32) : Nat → Nat → Int32 := fun a b => if c ≤ a ∧ a < c + w then A (a - c) b else σ a b
theorem xput_get (w : Nat) (σ : Nat → Nat → Int32) (c : Nat) : xput w σ c (xget σ c) = σ := by
  funext a b
  unfold xput xget
  by_cases h : c ≤ a ∧ a < c + w
  · rw [if_pos h, show c + (a - c) = a by omega]
  · rw [if_neg h]
theorem xput_at {w : Nat} {σ : Nat → Nat → Int32} {c : Nat} {A : Nat → Nat → Int32} {k b : Nat} (h : k < w) : xput w σ c A (c + k) b = A k b := by
  unfold xput
  rw [if_pos (by omega), show c + k - c = k by omega]
theorem xput_at0 {w : Nat} {σ : Nat → Nat → Int32} {c : Nat} {A : Nat → Nat → Int32} {b : Nat} (h : 0 < w) : xput w σ c A c b = A 0 b := xput_at (k := 0) h
theorem xput_row {w : Nat} {σ : Nat → Nat → Int32} {c : Nat} {A : Nat → Nat → Int32} {k : Nat} (h : k < w) : xput w σ c A (c + k) = A k := funext fun _ => xput_at h
theorem xput_up {w : Nat} {σ : Nat → Nat → Int32} {c : Nat} {A : Nat → Nat → Int32} {k j : Nat} {v : Int32} (h : k < w) : xup (xput w σ c A) (c + k) j v = xput w σ c (xup A k j v) := by
  funext a b
  unfold xup xput
  by_cases h1 : c ≤ a ∧ a < c + w
  · rw [if_pos h1, if_pos h1]
    dsimp only
    by_cases h2 : a = c + k ∧ b = j
    · rw [if_pos h2, if_pos (by omega)]
    · rw [if_neg h2, if_neg (by omega)]
  · rw [if_neg h1, if_neg (by omega), if_neg h1]
theorem xput_up0 {w : Nat} {σ : Nat → Nat → Int32} {c : Nat} {A : Nat → Nat → Int32} {j : Nat} {v : Int32} (h : 0 < w) : xup (xput w σ c A) c j v = xput w σ c (xup A 0 j v) := xput_up (k := 0) h
theorem xget_put {w : Nat} {σ : Nat → Nat → Int32} {c : Nat} {A : Nat → Nat → Int32} {k : Nat} (h : k < w) : xget (xput w σ c A) c k = A k := funext fun _ => xput_at h
theorem xput_put {w : Nat} {σ : Nat → Nat → Int32} {c : Nat} {A B : Nat → Nat → Int32} : xput w (xput w σ c A) c B = xput w σ c B := by
  funext a b
  unfold xput
  by_cases h : c ≤ a ∧ a < c + w
  · rw [if_pos h, if_pos h]
  · rw [if_neg h, if_neg h, if_neg h]
theorem xup_same {σ : Nat → Nat → Int32} {k j : Nat} {v : Int32} : xup σ k j v k j = v := by simp [xup]
theorem xup_row {σ : Nat → Nat → Int32} {k j a b : Nat} {v : Int32} (h : ¬ a = k) : xup σ k j v a b = σ a b := by simp [xup, h]
theorem xup_ne {σ : Nat → Nat → Int32} {k j b : Nat} {v : Int32} (h : ¬ b = j) : xup σ k j v k b = σ k b := by simp [xup, h]
def xcup (sh : List (Nat × Nat × List Value)) (c : Nat) : Prop := sh[c]? = some (3, 9, [.ref (c + 1), .ref (c + 2), .ref (c + 3), .ref (c + 4), .ref (c + 5), .ref (c + 6), .ref (c + 7), .ref (c + 13), .int 0]) ∧ sh[c + 1]? = some (0, 8, []) ∧ sh[c + 2]? = some (0, 8, []) ∧ sh[c + 3]? = some (0, 8, []) ∧ sh[c + 4]? = some (0, 8, []) ∧ sh[c + 5]? = some (1, 8, []) ∧ sh[c + 6]? = some (0, 8, []) ∧ sh[c + 7]? = some (6, 7, [.ref (c + 8), .ref (c + 9), .ref (c + 10), .ref (c + 11), .ref (c + 12), .int 0, .int 0]) ∧ sh[c + 8]? = some (0, 32, []) ∧ sh[c + 9]? = some (0, 32, []) ∧ sh[c + 10]? = some (0, 32, []) ∧ sh[c + 11]? = some (0, 32, []) ∧ sh[c + 12]? = some (0, 8, []) ∧ sh[c + 13]? = some (10, 5, [.int 0, .int 0, .int 0, .int 0, .int 0])
theorem xbi_s {f : Int32 → Int32 → Int32} {pc : Nat} {ls r : List Value} {x y : Int32} {S : xS} : xbi f pc ls (.int y :: .int x :: r) S = xnx (pc + 1) ls (.int (f x y) :: r) S := rfl
theorem xbl_s {f : Int64 → Int64 → Int64} {pc : Nat} {ls r : List Value} {x y : Int64} {S : xS} : xbl f pc ls (.long y :: .long x :: r) S = xnx (pc + 1) ls (.long (f x y) :: r) S := rfl
theorem v3 : ((3 : Fin 4) : Nat) = 3 := rfl
end
section
set_option maxRecDepth 100000 in
set_option maxHeartbeats 4000000 in
theorem k88 (X : xX) (x : Int32) (S : xS) : xK X 88 [.int x] S = some (some (.int (xi (xin x 8))), S) := by
  rw [xK_d X 88 _ S [] 60]
  simp [xent, xsl, Value.category, xr_d, xr_0, xg_nx, xg_n, xg_o, xg_c, xth_s, xth_v, xth_ite, xth_n, xd_iconst, xd_bipush, xd_sipush, xd_lconst, xd_iload, xd_iload_n, xd_lload, xd_lload_n, xd_aload, xd_aload_n, xd_istore, xd_istore_n, xd_astore, xd_astore_n, xd_lstore, xd_lstore_n, xd_iadd, xd_isub, xd_imul, xd_iand, xd_ior, xd_ishl, xd_ishr, xd_ladd, xd_lsub, xd_lmul, xd_land, xd_lor, xd_idiv, xd_irem, xd_ldiv, xd_lrem, xd_ineg, xd_lneg, xd_lshl, xd_lshr, xd_lcmp, xd_i2l, xd_l2i, xd_dup_int, xd_dup_ref, xd_pop, xd_dup2, xd_goto, xd_ifC, xd_ifI, xd_getf, xd_putI, xd_putR, xd_iald, xd_ialdX, xd_bald, xd_iast, xd_bast, xd_aald, xd_aast, xd_alen, xd_alenX, xd_newI, xd_newZ, xd_newQ, xd_newO, xd_invS, xd_invV, xd_invI, xd_iret, xd_lret, xd_vret, xd_ldc, xd_ldc2, xd_iinc, xd_aret, xd_tsw, xd_lsw, xC_d, xld, xisI, xisL, xisA, xgo_ite, xjp, xcmp, xrt, xinv, xcall, xpop, xcat, xgf, xal, xas, xpf, xle, xaq, xbite, xbite2, xsto, xsto2, xst1, xst2, xkl, xtt, xnum, xi0, xzf, v3, List.getElem?_cons_zero, List.getElem?_cons_succ, List.set_cons_zero, List.set_cons_succ, d88_0, d88_1, d88_4, d88_5, d88_7, d88_10, d88_11, d88_14, d88_15, wo88, wm88, wr88, b8_8]
  have h8 : (8 : Int32).toInt = 8 := by decide
  simp only [xin, xi, Int32.lt_iff_toInt_lt, Int32.le_iff_toInt_le, h8, Int32.toInt_zero]
  repeat' split
  all_goals simp_all
  all_goals omega
set_option maxRecDepth 100000 in
set_option maxHeartbeats 4000000 in
theorem k87 (X : xX) (x : Int32) (S : xS) : xK X 87 [.int x] S = some (some (.int (xi (decide (1 ≤ x) && decide (x ≤ 7)))), S) := by
  rw [xK_d X 87 _ S [] 60]
  simp [xent, xsl, Value.category, xr_d, xr_0, xg_nx, xg_n, xg_o, xg_c, xth_s, xth_v, xth_ite, xth_n, xd_iconst, xd_bipush, xd_sipush, xd_lconst, xd_iload, xd_iload_n, xd_lload, xd_lload_n, xd_aload, xd_aload_n, xd_istore, xd_istore_n, xd_astore, xd_astore_n, xd_lstore, xd_lstore_n, xd_iadd, xd_isub, xd_imul, xd_iand, xd_ior, xd_ishl, xd_ishr, xd_ladd, xd_lsub, xd_lmul, xd_land, xd_lor, xd_idiv, xd_irem, xd_ldiv, xd_lrem, xd_ineg, xd_lneg, xd_lshl, xd_lshr, xd_lcmp, xd_i2l, xd_l2i, xd_dup_int, xd_dup_ref, xd_pop, xd_dup2, xd_goto, xd_ifC, xd_ifI, xd_getf, xd_putI, xd_putR, xd_iald, xd_ialdX, xd_bald, xd_iast, xd_bast, xd_aald, xd_aast, xd_alen, xd_alenX, xd_newI, xd_newZ, xd_newQ, xd_newO, xd_invS, xd_invV, xd_invI, xd_iret, xd_lret, xd_vret, xd_ldc, xd_ldc2, xd_iinc, xd_aret, xd_tsw, xd_lsw, xC_d, xld, xisI, xisL, xisA, xgo_ite, xjp, xcmp, xrt, xinv, xcall, xpop, xcat, xgf, xal, xas, xpf, xle, xaq, xbite, xbite2, xsto, xsto2, xst1, xst2, xkl, xtt, xnum, xi0, xzf, v3, List.getElem?_cons_zero, List.getElem?_cons_succ, List.set_cons_zero, List.set_cons_succ, d87_0, d87_1, d87_2, d87_5, d87_6, d87_8, d87_11, d87_12, d87_15, d87_16, wo87, wm87, wr87, b8_7]
  simp only [← Int32.not_lt, xi]
  repeat' split
  all_goals simp_all
set_option maxRecDepth 100000 in
set_option maxHeartbeats 4000000 in
theorem k90 (X : xX) (x y : Int32) (S : xS) : xK X 90 [.int x, .int y] S = some (some (.int (xi (decide (-y ≤ x) && decide (x ≤ y)))), S) := by
  rw [xK_d X 90 _ S [] 60]
  simp [xent, xsl, Value.category, xr_d, xr_0, xg_nx, xg_n, xg_o, xg_c, xth_s, xth_v, xth_ite, xth_n, xd_iconst, xd_bipush, xd_sipush, xd_lconst, xd_iload, xd_iload_n, xd_lload, xd_lload_n, xd_aload, xd_aload_n, xd_istore, xd_istore_n, xd_astore, xd_astore_n, xd_lstore, xd_lstore_n, xd_iadd, xd_isub, xd_imul, xd_iand, xd_ior, xd_ishl, xd_ishr, xd_ladd, xd_lsub, xd_lmul, xd_land, xd_lor, xd_idiv, xd_irem, xd_ldiv, xd_lrem, xd_ineg, xd_lneg, xd_lshl, xd_lshr, xd_lcmp, xd_i2l, xd_l2i, xd_dup_int, xd_dup_ref, xd_pop, xd_dup2, xd_goto, xd_ifC, xd_ifI, xd_getf, xd_putI, xd_putR, xd_iald, xd_ialdX, xd_bald, xd_iast, xd_bast, xd_aald, xd_aast, xd_alen, xd_alenX, xd_newI, xd_newZ, xd_newQ, xd_newO, xd_invS, xd_invV, xd_invI, xd_iret, xd_lret, xd_vret, xd_ldc, xd_ldc2, xd_iinc, xd_aret, xd_tsw, xd_lsw, xC_d, xld, xisI, xisL, xisA, xgo_ite, xjp, xcmp, xrt, xinv, xcall, xpop, xcat, xgf, xal, xas, xpf, xle, xaq, xbite, xbite2, xsto, xsto2, xst1, xst2, xkl, xtt, xnum, xi0, xzf, v3, List.getElem?_cons_zero, List.getElem?_cons_succ, List.set_cons_zero, List.set_cons_succ, d90_0, d90_1, d90_2, d90_3, d90_6, d90_7, d90_8, d90_11, d90_12, d90_15, d90_16, wo90, wm90, wr90]
  simp only [← Int32.not_lt, xi]
  repeat' split
  all_goals simp_all
set_option maxRecDepth 100000 in
set_option maxHeartbeats 4000000 in
theorem k100 (X : xX) (x y : Int32) (S : xS) : xK X 100 [.int x, .int y] S = some (some (.int (xi (decide (0 ≤ x) && decide (x ≤ 9999) && (decide (1 ≤ y) && decide (y ≤ 100))))), S) := by
  rw [xK_d X 100 _ S [] 60]
  simp [xent, xsl, Value.category, xr_d, xr_0, xg_nx, xg_n, xg_o, xg_c, xth_s, xth_v, xth_ite, xth_n, xd_iconst, xd_bipush, xd_sipush, xd_lconst, xd_iload, xd_iload_n, xd_lload, xd_lload_n, xd_aload, xd_aload_n, xd_istore, xd_istore_n, xd_astore, xd_astore_n, xd_lstore, xd_lstore_n, xd_iadd, xd_isub, xd_imul, xd_iand, xd_ior, xd_ishl, xd_ishr, xd_ladd, xd_lsub, xd_lmul, xd_land, xd_lor, xd_idiv, xd_irem, xd_ldiv, xd_lrem, xd_ineg, xd_lneg, xd_lshl, xd_lshr, xd_lcmp, xd_i2l, xd_l2i, xd_dup_int, xd_dup_ref, xd_pop, xd_dup2, xd_goto, xd_ifC, xd_ifI, xd_getf, xd_putI, xd_putR, xd_iald, xd_ialdX, xd_bald, xd_iast, xd_bast, xd_aald, xd_aast, xd_alen, xd_alenX, xd_newI, xd_newZ, xd_newQ, xd_newO, xd_invS, xd_invV, xd_invI, xd_iret, xd_lret, xd_vret, xd_ldc, xd_ldc2, xd_iinc, xd_aret, xd_tsw, xd_lsw, xC_d, xld, xisI, xisL, xisA, xgo_ite, xjp, xcmp, xrt, xinv, xcall, xpop, xcat, xgf, xal, xas, xpf, xle, xaq, xbite, xbite2, xsto, xsto2, xst1, xst2, xkl, xtt, xnum, xi0, xzf, v3, List.getElem?_cons_zero, List.getElem?_cons_succ, List.set_cons_zero, List.set_cons_succ, d100_0, d100_1, d100_4, d100_5, d100_8, d100_11, d100_12, d100_13, d100_16, d100_17, d100_19, d100_22, d100_23, d100_26, d100_27, wo100, wm100, wr100, b16_9999, b8_100]
  simp only [← Int32.not_lt, xi]
  repeat' split
  all_goals simp_all
set_option maxRecDepth 100000 in
set_option maxHeartbeats 4000000 in
theorem k102 (X : xX) (x : Int32) (S : xS) : xK X 102 [.int x] S = some (some (.int (xi (decide (x = 0) || decide (x = 1)))), S) := by
  rw [xK_d X 102 _ S [] 60]
  simp [xent, xsl, Value.category, xr_d, xr_0, xg_nx, xg_n, xg_o, xg_c, xth_s, xth_v, xth_ite, xth_n, xd_iconst, xd_bipush, xd_sipush, xd_lconst, xd_iload, xd_iload_n, xd_lload, xd_lload_n, xd_aload, xd_aload_n, xd_istore, xd_istore_n, xd_astore, xd_astore_n, xd_lstore, xd_lstore_n, xd_iadd, xd_isub, xd_imul, xd_iand, xd_ior, xd_ishl, xd_ishr, xd_ladd, xd_lsub, xd_lmul, xd_land, xd_lor, xd_idiv, xd_irem, xd_ldiv, xd_lrem, xd_ineg, xd_lneg, xd_lshl, xd_lshr, xd_lcmp, xd_i2l, xd_l2i, xd_dup_int, xd_dup_ref, xd_pop, xd_dup2, xd_goto, xd_ifC, xd_ifI, xd_getf, xd_putI, xd_putR, xd_iald, xd_ialdX, xd_bald, xd_iast, xd_bast, xd_aald, xd_aast, xd_alen, xd_alenX, xd_newI, xd_newZ, xd_newQ, xd_newO, xd_invS, xd_invV, xd_invI, xd_iret, xd_lret, xd_vret, xd_ldc, xd_ldc2, xd_iinc, xd_aret, xd_tsw, xd_lsw, xC_d, xld, xisI, xisL, xisA, xgo_ite, xjp, xcmp, xrt, xinv, xcall, xpop, xcat, xgf, xal, xas, xpf, xle, xaq, xbite, xbite2, xsto, xsto2, xst1, xst2, xkl, xtt, xnum, xi0, xzf, v3, List.getElem?_cons_zero, List.getElem?_cons_succ, List.set_cons_zero, List.set_cons_succ, d102_0, d102_1, d102_4, d102_5, d102_6, d102_9, d102_10, d102_13, d102_14, wo102, wm102, wr102]
  simp only [← Int32.not_lt, xi]
  repeat' split
  all_goals simp_all
set_option maxRecDepth 100000 in
set_option maxHeartbeats 4000000 in
theorem k130 (X : xX) (x y z : Int32) (S : xS) : xK X 130 [.int x, .int y, .int z] S = some (some (.int (xi (decide (y ≤ x) && decide (x ≤ z)))), S) := by
  rw [xK_d X 130 _ S [] 60]
  simp [xent, xsl, Value.category, xr_d, xr_0, xg_nx, xg_n, xg_o, xg_c, xth_s, xth_v, xth_ite, xth_n, xd_iconst, xd_bipush, xd_sipush, xd_lconst, xd_iload, xd_iload_n, xd_lload, xd_lload_n, xd_aload, xd_aload_n, xd_istore, xd_istore_n, xd_astore, xd_astore_n, xd_lstore, xd_lstore_n, xd_iadd, xd_isub, xd_imul, xd_iand, xd_ior, xd_ishl, xd_ishr, xd_ladd, xd_lsub, xd_lmul, xd_land, xd_lor, xd_idiv, xd_irem, xd_ldiv, xd_lrem, xd_ineg, xd_lneg, xd_lshl, xd_lshr, xd_lcmp, xd_i2l, xd_l2i, xd_dup_int, xd_dup_ref, xd_pop, xd_dup2, xd_goto, xd_ifC, xd_ifI, xd_getf, xd_putI, xd_putR, xd_iald, xd_ialdX, xd_bald, xd_iast, xd_bast, xd_aald, xd_aast, xd_alen, xd_alenX, xd_newI, xd_newZ, xd_newQ, xd_newO, xd_invS, xd_invV, xd_invI, xd_iret, xd_lret, xd_vret, xd_ldc, xd_ldc2, xd_iinc, xd_aret, xd_tsw, xd_lsw, xC_d, xld, xisI, xisL, xisA, xgo_ite, xjp, xcmp, xrt, xinv, xcall, xpop, xcat, xgf, xal, xas, xpf, xle, xaq, xbite, xbite2, xsto, xsto2, xst1, xst2, xkl, xtt, xnum, xi0, xzf, v3, List.getElem?_cons_zero, List.getElem?_cons_succ, List.set_cons_zero, List.set_cons_succ, d130_0, d130_1, d130_2, d130_5, d130_6, d130_7, d130_10, d130_11, d130_14, d130_15, wo130, wm130, wr130]
  simp only [← Int32.not_lt, xi]
  repeat' split
  all_goals simp_all
end
section
def uKind (A : Nat → Nat → Int32) (r : Int32) : Int32 := if xin r 8 = true then A 1 r.toNatClampNeg else -6
def uPlace (A : Nat → Nat → Int32) (r : Int32) : Int32 := if xin r 8 = true then A 2 r.toNatClampNeg else -6
def uBase (A : Nat → Nat → Int32) (r : Int32) : Int32 := if xin r 8 = true then A 3 r.toNatClampNeg else 0
def uSlope (A : Nat → Nat → Int32) (r : Int32) : Int32 := if xin r 8 = true then A 4 r.toNatClampNeg else 0
def uIn (A : Nat → Nat → Int32) (r : Int32) : Int32 := if xin r 8 = true then (if A 5 r.toNatClampNeg = 0 then 0 else 1) else 0
def uM (m : Int32) : Bool := decide (1 ≤ m) && decide (m ≤ 7)
def uBest (A : Nat → Nat → Int32) (m : Int32) : Int32 := if uM m = true then A 6 m.toNatClampNeg else -6
theorem uM_in {m : Int32} (h : uM m = true) : xin m 8 = true := by
  have h1 : (1 : Int32).toInt = 1 := by decide
  have h7 : (7 : Int32).toInt = 7 := by decide
  simp only [uM, Bool.and_eq_true, decide_eq_true_eq, Int32.le_iff_toInt_le, h1, h7] at h
  simp only [xin, Bool.and_eq_true, decide_eq_true_eq]
  omega
set_option maxRecDepth 100000 in
set_option maxHeartbeats 4000000 in
theorem k9 (X : xX) (sh : List (Nat × Nat × List Value)) (σ A : Nat → Nat → Int32) (c : Nat) (hc : xcup sh c) (r : Int32) : xK X 9 [.ref (c), .int r] (sh, xput 14 σ c A) = some (some (.int (uPlace A r)), (sh, xput 14 σ c A)) := by
  obtain ⟨h0, h1, h2, h3, h4, h5, h6, h7, h8, h9, h10, h11, h12, h13⟩ := hc
  rw [xK_d X 9 _ _ [] 90]
  simp [xent, xsl, Value.category, xr_d, xr_0, xg_nx, xg_n, xg_o, xg_c, xth_s, xth_v, xth_ite, xth_n, xd_iconst, xd_bipush, xd_sipush, xd_lconst, xd_iload, xd_iload_n, xd_lload, xd_lload_n, xd_aload, xd_aload_n, xd_istore, xd_istore_n, xd_astore, xd_astore_n, xd_lstore, xd_lstore_n, xd_iadd, xd_isub, xd_imul, xd_iand, xd_ior, xd_ishl, xd_ishr, xd_ladd, xd_lsub, xd_lmul, xd_land, xd_lor, xd_idiv, xd_irem, xd_ldiv, xd_lrem, xd_ineg, xd_lneg, xd_lshl, xd_lshr, xd_lcmp, xd_i2l, xd_l2i, xd_dup_int, xd_dup_ref, xd_pop, xd_dup2, xd_goto, xd_ifC, xd_ifI, xd_getf, xd_putI, xd_putR, xd_iald, xd_ialdX, xd_bald, xd_iast, xd_bast, xd_aald, xd_aast, xd_alen, xd_alenX, xd_newI, xd_newZ, xd_newQ, xd_newO, xd_invS, xd_invV, xd_invI, xd_iret, xd_lret, xd_vret, xd_ldc, xd_ldc2, xd_iinc, xd_aret, xd_tsw, xd_lsw, xC_d, xld, xisI, xisL, xisA, xgo_ite, xjp, xcmp, xrt, xinv, xcall, xpop, xcat, xgf, xal, xas, xpf, xle, xaq, xbite, xbite2, xsto, xsto2, xst1, xst2, xkl, xtt, xnum, xi0, xzf, v3, List.getElem?_cons_zero, List.getElem?_cons_succ, List.set_cons_zero, List.set_cons_succ, d9_0, d9_1, d9_4, d9_7, d9_8, d9_11, d9_12, d9_13, d9_16, d9_18, wo9, wm9, wr9, f0_15, m0_62, r9_88, wm88, b8_m6, h0, h1, h2, h3, h4, h5, h6, h7, h8, h9, h10, h11, h12, h13, xput_at, xput_at0, xput_up, xput_up0, k88]
  by_cases hr : xin r 8 = true
  · simp [hr, uPlace]
  · simp only [Bool.not_eq_true] at hr
    simp [hr, uPlace]
set_option maxRecDepth 100000 in
set_option maxHeartbeats 4000000 in
theorem k11 (X : xX) (sh : List (Nat × Nat × List Value)) (σ A : Nat → Nat → Int32) (c : Nat) (hc : xcup sh c) (r : Int32) : xK X 11 [.ref (c), .int r] (sh, xput 14 σ c A) = some (some (.int (uKind A r)), (sh, xput 14 σ c A)) := by
  obtain ⟨h0, h1, h2, h3, h4, h5, h6, h7, h8, h9, h10, h11, h12, h13⟩ := hc
  rw [xK_d X 11 _ _ [] 90]
  simp [xent, xsl, Value.category, xr_d, xr_0, xg_nx, xg_n, xg_o, xg_c, xth_s, xth_v, xth_ite, xth_n, xd_iconst, xd_bipush, xd_sipush, xd_lconst, xd_iload, xd_iload_n, xd_lload, xd_lload_n, xd_aload, xd_aload_n, xd_istore, xd_istore_n, xd_astore, xd_astore_n, xd_lstore, xd_lstore_n, xd_iadd, xd_isub, xd_imul, xd_iand, xd_ior, xd_ishl, xd_ishr, xd_ladd, xd_lsub, xd_lmul, xd_land, xd_lor, xd_idiv, xd_irem, xd_ldiv, xd_lrem, xd_ineg, xd_lneg, xd_lshl, xd_lshr, xd_lcmp, xd_i2l, xd_l2i, xd_dup_int, xd_dup_ref, xd_pop, xd_dup2, xd_goto, xd_ifC, xd_ifI, xd_getf, xd_putI, xd_putR, xd_iald, xd_ialdX, xd_bald, xd_iast, xd_bast, xd_aald, xd_aast, xd_alen, xd_alenX, xd_newI, xd_newZ, xd_newQ, xd_newO, xd_invS, xd_invV, xd_invI, xd_iret, xd_lret, xd_vret, xd_ldc, xd_ldc2, xd_iinc, xd_aret, xd_tsw, xd_lsw, xC_d, xld, xisI, xisL, xisA, xgo_ite, xjp, xcmp, xrt, xinv, xcall, xpop, xcat, xgf, xal, xas, xpf, xle, xaq, xbite, xbite2, xsto, xsto2, xst1, xst2, xkl, xtt, xnum, xi0, xzf, v3, List.getElem?_cons_zero, List.getElem?_cons_succ, List.set_cons_zero, List.set_cons_succ, d11_0, d11_1, d11_4, d11_7, d11_8, d11_11, d11_12, d11_13, d11_16, d11_18, wo11, wm11, wr11, f0_9, m0_62, r11_88, wm88, b8_m6, h0, h1, h2, h3, h4, h5, h6, h7, h8, h9, h10, h11, h12, h13, xput_at, xput_at0, xput_up, xput_up0, k88]
  by_cases hr : xin r 8 = true
  · simp [hr, uKind]
  · simp only [Bool.not_eq_true] at hr
    simp [hr, uKind]
set_option maxRecDepth 100000 in
set_option maxHeartbeats 4000000 in
theorem k25 (X : xX) (sh : List (Nat × Nat × List Value)) (σ A : Nat → Nat → Int32) (c : Nat) (hc : xcup sh c) (r : Int32) : xK X 25 [.ref (c), .int r] (sh, xput 14 σ c A) = some (some (.int (uBase A r)), (sh, xput 14 σ c A)) := by
  obtain ⟨h0, h1, h2, h3, h4, h5, h6, h7, h8, h9, h10, h11, h12, h13⟩ := hc
  rw [xK_d X 25 _ _ [] 90]
  simp [xent, xsl, Value.category, xr_d, xr_0, xg_nx, xg_n, xg_o, xg_c, xth_s, xth_v, xth_ite, xth_n, xd_iconst, xd_bipush, xd_sipush, xd_lconst, xd_iload, xd_iload_n, xd_lload, xd_lload_n, xd_aload, xd_aload_n, xd_istore, xd_istore_n, xd_astore, xd_astore_n, xd_lstore, xd_lstore_n, xd_iadd, xd_isub, xd_imul, xd_iand, xd_ior, xd_ishl, xd_ishr, xd_ladd, xd_lsub, xd_lmul, xd_land, xd_lor, xd_idiv, xd_irem, xd_ldiv, xd_lrem, xd_ineg, xd_lneg, xd_lshl, xd_lshr, xd_lcmp, xd_i2l, xd_l2i, xd_dup_int, xd_dup_ref, xd_pop, xd_dup2, xd_goto, xd_ifC, xd_ifI, xd_getf, xd_putI, xd_putR, xd_iald, xd_ialdX, xd_bald, xd_iast, xd_bast, xd_aald, xd_aast, xd_alen, xd_alenX, xd_newI, xd_newZ, xd_newQ, xd_newO, xd_invS, xd_invV, xd_invI, xd_iret, xd_lret, xd_vret, xd_ldc, xd_ldc2, xd_iinc, xd_aret, xd_tsw, xd_lsw, xC_d, xld, xisI, xisL, xisA, xgo_ite, xjp, xcmp, xrt, xinv, xcall, xpop, xcat, xgf, xal, xas, xpf, xle, xaq, xbite, xbite2, xsto, xsto2, xst1, xst2, xkl, xtt, xnum, xi0, xzf, v3, List.getElem?_cons_zero, List.getElem?_cons_succ, List.set_cons_zero, List.set_cons_succ, d25_0, d25_1, d25_4, d25_7, d25_8, d25_11, d25_12, d25_13, d25_16, d25_17, wo25, wm25, wr25, f0_18, m0_62, r25_88, wm88, h0, h1, h2, h3, h4, h5, h6, h7, h8, h9, h10, h11, h12, h13, xput_at, xput_at0, xput_up, xput_up0, k88]
  by_cases hr : xin r 8 = true
  · simp [hr, uBase]
  · simp only [Bool.not_eq_true] at hr
    simp [hr, uBase]
set_option maxRecDepth 100000 in
set_option maxHeartbeats 4000000 in
theorem k19 (X : xX) (sh : List (Nat × Nat × List Value)) (σ A : Nat → Nat → Int32) (c : Nat) (hc : xcup sh c) (r : Int32) : xK X 19 [.ref (c), .int r] (sh, xput 14 σ c A) = some (some (.int (uSlope A r)), (sh, xput 14 σ c A)) := by
  obtain ⟨h0, h1, h2, h3, h4, h5, h6, h7, h8, h9, h10, h11, h12, h13⟩ := hc
  rw [xK_d X 19 _ _ [] 90]
  simp [xent, xsl, Value.category, xr_d, xr_0, xg_nx, xg_n, xg_o, xg_c, xth_s, xth_v, xth_ite, xth_n, xd_iconst, xd_bipush, xd_sipush, xd_lconst, xd_iload, xd_iload_n, xd_lload, xd_lload_n, xd_aload, xd_aload_n, xd_istore, xd_istore_n, xd_astore, xd_astore_n, xd_lstore, xd_lstore_n, xd_iadd, xd_isub, xd_imul, xd_iand, xd_ior, xd_ishl, xd_ishr, xd_ladd, xd_lsub, xd_lmul, xd_land, xd_lor, xd_idiv, xd_irem, xd_ldiv, xd_lrem, xd_ineg, xd_lneg, xd_lshl, xd_lshr, xd_lcmp, xd_i2l, xd_l2i, xd_dup_int, xd_dup_ref, xd_pop, xd_dup2, xd_goto, xd_ifC, xd_ifI, xd_getf, xd_putI, xd_putR, xd_iald, xd_ialdX, xd_bald, xd_iast, xd_bast, xd_aald, xd_aast, xd_alen, xd_alenX, xd_newI, xd_newZ, xd_newQ, xd_newO, xd_invS, xd_invV, xd_invI, xd_iret, xd_lret, xd_vret, xd_ldc, xd_ldc2, xd_iinc, xd_aret, xd_tsw, xd_lsw, xC_d, xld, xisI, xisL, xisA, xgo_ite, xjp, xcmp, xrt, xinv, xcall, xpop, xcat, xgf, xal, xas, xpf, xle, xaq, xbite, xbite2, xsto, xsto2, xst1, xst2, xkl, xtt, xnum, xi0, xzf, v3, List.getElem?_cons_zero, List.getElem?_cons_succ, List.set_cons_zero, List.set_cons_succ, d19_0, d19_1, d19_4, d19_7, d19_8, d19_11, d19_12, d19_13, d19_16, d19_17, wo19, wm19, wr19, f0_21, m0_62, r19_88, wm88, h0, h1, h2, h3, h4, h5, h6, h7, h8, h9, h10, h11, h12, h13, xput_at, xput_at0, xput_up, xput_up0, k88]
  by_cases hr : xin r 8 = true
  · simp [hr, uSlope]
  · simp only [Bool.not_eq_true] at hr
    simp [hr, uSlope]
set_option maxRecDepth 100000 in
set_option maxHeartbeats 4000000 in
theorem k12 (X : xX) (sh : List (Nat × Nat × List Value)) (σ A : Nat → Nat → Int32) (c : Nat) (hc : xcup sh c) (r : Int32) : xK X 12 [.ref (c), .int r] (sh, xput 14 σ c A) = some (some (.int (uIn A r)), (sh, xput 14 σ c A)) := by
  obtain ⟨h0, h1, h2, h3, h4, h5, h6, h7, h8, h9, h10, h11, h12, h13⟩ := hc
  rw [xK_d X 12 _ _ [] 90]
  simp [xent, xsl, Value.category, xr_d, xr_0, xg_nx, xg_n, xg_o, xg_c, xth_s, xth_v, xth_ite, xth_n, xd_iconst, xd_bipush, xd_sipush, xd_lconst, xd_iload, xd_iload_n, xd_lload, xd_lload_n, xd_aload, xd_aload_n, xd_istore, xd_istore_n, xd_astore, xd_astore_n, xd_lstore, xd_lstore_n, xd_iadd, xd_isub, xd_imul, xd_iand, xd_ior, xd_ishl, xd_ishr, xd_ladd, xd_lsub, xd_lmul, xd_land, xd_lor, xd_idiv, xd_irem, xd_ldiv, xd_lrem, xd_ineg, xd_lneg, xd_lshl, xd_lshr, xd_lcmp, xd_i2l, xd_l2i, xd_dup_int, xd_dup_ref, xd_pop, xd_dup2, xd_goto, xd_ifC, xd_ifI, xd_getf, xd_putI, xd_putR, xd_iald, xd_ialdX, xd_bald, xd_iast, xd_bast, xd_aald, xd_aast, xd_alen, xd_alenX, xd_newI, xd_newZ, xd_newQ, xd_newO, xd_invS, xd_invV, xd_invI, xd_iret, xd_lret, xd_vret, xd_ldc, xd_ldc2, xd_iinc, xd_aret, xd_tsw, xd_lsw, xC_d, xld, xisI, xisL, xisA, xgo_ite, xjp, xcmp, xrt, xinv, xcall, xpop, xcat, xgf, xal, xas, xpf, xle, xaq, xbite, xbite2, xsto, xsto2, xst1, xst2, xkl, xtt, xnum, xi0, xzf, v3, List.getElem?_cons_zero, List.getElem?_cons_succ, List.set_cons_zero, List.set_cons_succ, d12_0, d12_1, d12_4, d12_7, d12_8, d12_11, d12_12, d12_13, d12_16, d12_17, d12_20, d12_21, wo12, wm12, wr12, f0_24, m0_62, r12_88, wm88, h0, h1, h2, h3, h4, h5, h6, h7, h8, h9, h10, h11, h12, h13, xput_at, xput_at0, xput_up, xput_up0, k88]
  by_cases hr : xin r 8 = true
  · by_cases hi : A 5 r.toNatClampNeg = 0 <;> simp [hr, uIn, hi]
  · simp only [Bool.not_eq_true] at hr
    simp [hr, uIn]
theorem uM_m6 : uM (-6) = false := by decide
theorem k87' (X : xX) (x : Int32) (S : xS) : xK X 87 [.int x] S = some (some (.int (xi (uM x))), S) := k87 X x S
set_option maxRecDepth 100000 in
set_option maxHeartbeats 4000000 in
theorem k5 (X : xX) (sh : List (Nat × Nat × List Value)) (σ A : Nat → Nat → Int32) (c : Nat) (hc : xcup sh c) (m : Int32) : xK X 5 [.ref (c), .int m] (sh, xput 14 σ c A) = some (some (.int (uBest A m)), (sh, xput 14 σ c A)) := by
  obtain ⟨h0, h1, h2, h3, h4, h5, h6, h7, h8, h9, h10, h11, h12, h13⟩ := hc
  rw [xK_d X 5 _ _ [] 90]
  simp [xent, xsl, Value.category, xr_d, xr_0, xg_nx, xg_n, xg_o, xg_c, xth_s, xth_v, xth_ite, xth_n, xd_iconst, xd_bipush, xd_sipush, xd_lconst, xd_iload, xd_iload_n, xd_lload, xd_lload_n, xd_aload, xd_aload_n, xd_istore, xd_istore_n, xd_astore, xd_astore_n, xd_lstore, xd_lstore_n, xd_iadd, xd_isub, xd_imul, xd_iand, xd_ior, xd_ishl, xd_ishr, xd_ladd, xd_lsub, xd_lmul, xd_land, xd_lor, xd_idiv, xd_irem, xd_ldiv, xd_lrem, xd_ineg, xd_lneg, xd_lshl, xd_lshr, xd_lcmp, xd_i2l, xd_l2i, xd_dup_int, xd_dup_ref, xd_pop, xd_dup2, xd_goto, xd_ifC, xd_ifI, xd_getf, xd_putI, xd_putR, xd_iald, xd_ialdX, xd_bald, xd_iast, xd_bast, xd_aald, xd_aast, xd_alen, xd_alenX, xd_newI, xd_newZ, xd_newQ, xd_newO, xd_invS, xd_invV, xd_invI, xd_iret, xd_lret, xd_vret, xd_ldc, xd_ldc2, xd_iinc, xd_aret, xd_tsw, xd_lsw, xC_d, xld, xisI, xisL, xisA, xgo_ite, xjp, xcmp, xrt, xinv, xcall, xpop, xcat, xgf, xal, xas, xpf, xle, xaq, xbite, xbite2, xsto, xsto2, xst1, xst2, xkl, xtt, xnum, xi0, xzf, v3, List.getElem?_cons_zero, List.getElem?_cons_succ, List.set_cons_zero, List.set_cons_succ, d5_0, d5_1, d5_4, d5_7, d5_8, d5_11, d5_12, d5_13, d5_16, d5_18, wo5, wm5, wr5, f0_28, m0_66, r5_87, wm87, b8_m6, h0, h1, h2, h3, h4, h5, h6, h7, h8, h9, h10, h11, h12, h13, xput_at, xput_at0, xput_up, xput_up0, k87']
  by_cases hr : uM m = true
  · have h8 := uM_in hr
    simp [uBest, hr, h8]
  · simp only [Bool.not_eq_true] at hr
    simp [uBest, hr]
set_option maxRecDepth 100000 in
set_option maxHeartbeats 4000000 in
theorem k26 (X : xX) (sh : List (Nat × Nat × List Value)) (σ A : Nat → Nat → Int32) (c : Nat) (hc : xcup sh c)  : xK X 26 [.ref (c)] (sh, xput 14 σ c A) = some (some (.int (A 0 8)), (sh, xput 14 σ c A)) := by
  obtain ⟨h0, h1, h2, h3, h4, h5, h6, h7, h8, h9, h10, h11, h12, h13⟩ := hc
  rw [xK_d X 26 _ _ [] 90]
  simp [xent, xsl, Value.category, xr_d, xr_0, xg_nx, xg_n, xg_o, xg_c, xth_s, xth_v, xth_ite, xth_n, xd_iconst, xd_bipush, xd_sipush, xd_lconst, xd_iload, xd_iload_n, xd_lload, xd_lload_n, xd_aload, xd_aload_n, xd_istore, xd_istore_n, xd_astore, xd_astore_n, xd_lstore, xd_lstore_n, xd_iadd, xd_isub, xd_imul, xd_iand, xd_ior, xd_ishl, xd_ishr, xd_ladd, xd_lsub, xd_lmul, xd_land, xd_lor, xd_idiv, xd_irem, xd_ldiv, xd_lrem, xd_ineg, xd_lneg, xd_lshl, xd_lshr, xd_lcmp, xd_i2l, xd_l2i, xd_dup_int, xd_dup_ref, xd_pop, xd_dup2, xd_goto, xd_ifC, xd_ifI, xd_getf, xd_putI, xd_putR, xd_iald, xd_ialdX, xd_bald, xd_iast, xd_bast, xd_aald, xd_aast, xd_alen, xd_alenX, xd_newI, xd_newZ, xd_newQ, xd_newO, xd_invS, xd_invV, xd_invI, xd_iret, xd_lret, xd_vret, xd_ldc, xd_ldc2, xd_iinc, xd_aret, xd_tsw, xd_lsw, xC_d, xld, xisI, xisL, xisA, xgo_ite, xjp, xcmp, xrt, xinv, xcall, xpop, xcat, xgf, xal, xas, xpf, xle, xaq, xbite, xbite2, xsto, xsto2, xst1, xst2, xkl, xtt, xnum, xi0, xzf, v3, List.getElem?_cons_zero, List.getElem?_cons_succ, List.set_cons_zero, List.set_cons_succ, d26_0, d26_1, d26_4, wo26, wm26, wr26, f0_45, h0, h1, h2, h3, h4, h5, h6, h7, h8, h9, h10, h11, h12, h13, xput_at, xput_at0, xput_up, xput_up0]

set_option maxRecDepth 100000 in
set_option maxHeartbeats 4000000 in
theorem k28 (X : xX) (sh : List (Nat × Nat × List Value)) (σ A : Nat → Nat → Int32) (c : Nat) (hc : xcup sh c)  : xK X 28 [.ref (c)] (sh, xput 14 σ c A) = some (some (.ref (c + 7)), (sh, xput 14 σ c A)) := by
  obtain ⟨h0, h1, h2, h3, h4, h5, h6, h7, h8, h9, h10, h11, h12, h13⟩ := hc
  rw [xK_d X 28 _ _ [] 90]
  simp [xent, xsl, Value.category, xr_d, xr_0, xg_nx, xg_n, xg_o, xg_c, xth_s, xth_v, xth_ite, xth_n, xd_iconst, xd_bipush, xd_sipush, xd_lconst, xd_iload, xd_iload_n, xd_lload, xd_lload_n, xd_aload, xd_aload_n, xd_istore, xd_istore_n, xd_astore, xd_astore_n, xd_lstore, xd_lstore_n, xd_iadd, xd_isub, xd_imul, xd_iand, xd_ior, xd_ishl, xd_ishr, xd_ladd, xd_lsub, xd_lmul, xd_land, xd_lor, xd_idiv, xd_irem, xd_ldiv, xd_lrem, xd_ineg, xd_lneg, xd_lshl, xd_lshr, xd_lcmp, xd_i2l, xd_l2i, xd_dup_int, xd_dup_ref, xd_pop, xd_dup2, xd_goto, xd_ifC, xd_ifI, xd_getf, xd_putI, xd_putR, xd_iald, xd_ialdX, xd_bald, xd_iast, xd_bast, xd_aald, xd_aast, xd_alen, xd_alenX, xd_newI, xd_newZ, xd_newQ, xd_newO, xd_invS, xd_invV, xd_invI, xd_iret, xd_lret, xd_vret, xd_ldc, xd_ldc2, xd_iinc, xd_aret, xd_tsw, xd_lsw, xC_d, xld, xisI, xisL, xisA, xgo_ite, xjp, xcmp, xrt, xinv, xcall, xpop, xcat, xgf, xal, xas, xpf, xle, xaq, xbite, xbite2, xsto, xsto2, xst1, xst2, xkl, xtt, xnum, xi0, xzf, v3, List.getElem?_cons_zero, List.getElem?_cons_succ, List.set_cons_zero, List.set_cons_succ, d28_0, d28_1, d28_4, wo28, wm28, wr28, f0_34, h0, h1, h2, h3, h4, h5, h6, h7, h8, h9, h10, h11, h12, h13, xput_at, xput_at0, xput_up, xput_up0]

set_option maxRecDepth 100000 in
set_option maxHeartbeats 4000000 in
theorem k15 (X : xX) (sh : List (Nat × Nat × List Value)) (σ A : Nat → Nat → Int32) (c : Nat) (hc : xcup sh c)  : xK X 15 [.ref (c)] (sh, xput 14 σ c A) = some (some (.ref (c + 13)), (sh, xput 14 σ c A)) := by
  obtain ⟨h0, h1, h2, h3, h4, h5, h6, h7, h8, h9, h10, h11, h12, h13⟩ := hc
  rw [xK_d X 15 _ _ [] 90]
  simp [xent, xsl, Value.category, xr_d, xr_0, xg_nx, xg_n, xg_o, xg_c, xth_s, xth_v, xth_ite, xth_n, xd_iconst, xd_bipush, xd_sipush, xd_lconst, xd_iload, xd_iload_n, xd_lload, xd_lload_n, xd_aload, xd_aload_n, xd_istore, xd_istore_n, xd_astore, xd_astore_n, xd_lstore, xd_lstore_n, xd_iadd, xd_isub, xd_imul, xd_iand, xd_ior, xd_ishl, xd_ishr, xd_ladd, xd_lsub, xd_lmul, xd_land, xd_lor, xd_idiv, xd_irem, xd_ldiv, xd_lrem, xd_ineg, xd_lneg, xd_lshl, xd_lshr, xd_lcmp, xd_i2l, xd_l2i, xd_dup_int, xd_dup_ref, xd_pop, xd_dup2, xd_goto, xd_ifC, xd_ifI, xd_getf, xd_putI, xd_putR, xd_iald, xd_ialdX, xd_bald, xd_iast, xd_bast, xd_aald, xd_aast, xd_alen, xd_alenX, xd_newI, xd_newZ, xd_newQ, xd_newO, xd_invS, xd_invV, xd_invI, xd_iret, xd_lret, xd_vret, xd_ldc, xd_ldc2, xd_iinc, xd_aret, xd_tsw, xd_lsw, xC_d, xld, xisI, xisL, xisA, xgo_ite, xjp, xcmp, xrt, xinv, xcall, xpop, xcat, xgf, xal, xas, xpf, xle, xaq, xbite, xbite2, xsto, xsto2, xst1, xst2, xkl, xtt, xnum, xi0, xzf, v3, List.getElem?_cons_zero, List.getElem?_cons_succ, List.set_cons_zero, List.set_cons_succ, d15_0, d15_1, d15_4, wo15, wm15, wr15, f0_41, h0, h1, h2, h3, h4, h5, h6, h7, h8, h9, h10, h11, h12, h13, xput_at, xput_at0, xput_up, xput_up0]

set_option maxRecDepth 100000 in
set_option maxHeartbeats 4000000 in
theorem k10 (X : xX) (p k : Int32) (S : xS) : xK X 10 [.int p, .int k] S = some (some (.int (xi (decide (4 ≤ p) || decide (k = 0)))), S) := by
  rw [xK_d X 10 _ S [] 60]
  simp [xent, xsl, Value.category, xr_d, xr_0, xg_nx, xg_n, xg_o, xg_c, xth_s, xth_v, xth_ite, xth_n, xd_iconst, xd_bipush, xd_sipush, xd_lconst, xd_iload, xd_iload_n, xd_lload, xd_lload_n, xd_aload, xd_aload_n, xd_istore, xd_istore_n, xd_astore, xd_astore_n, xd_lstore, xd_lstore_n, xd_iadd, xd_isub, xd_imul, xd_iand, xd_ior, xd_ishl, xd_ishr, xd_ladd, xd_lsub, xd_lmul, xd_land, xd_lor, xd_idiv, xd_irem, xd_ldiv, xd_lrem, xd_ineg, xd_lneg, xd_lshl, xd_lshr, xd_lcmp, xd_i2l, xd_l2i, xd_dup_int, xd_dup_ref, xd_pop, xd_dup2, xd_goto, xd_ifC, xd_ifI, xd_getf, xd_putI, xd_putR, xd_iald, xd_ialdX, xd_bald, xd_iast, xd_bast, xd_aald, xd_aast, xd_alen, xd_alenX, xd_newI, xd_newZ, xd_newQ, xd_newO, xd_invS, xd_invV, xd_invI, xd_iret, xd_lret, xd_vret, xd_ldc, xd_ldc2, xd_iinc, xd_aret, xd_tsw, xd_lsw, xC_d, xld, xisI, xisL, xisA, xgo_ite, xjp, xcmp, xrt, xinv, xcall, xpop, xcat, xgf, xal, xas, xpf, xle, xaq, xbite, xbite2, xsto, xsto2, xst1, xst2, xkl, xtt, xnum, xi0, xzf, v3, List.getElem?_cons_zero, List.getElem?_cons_succ, List.set_cons_zero, List.set_cons_succ, d10_0, d10_1, d10_2, d10_5, d10_6, d10_9, d10_10, d10_13, d10_14, wo10, wm10, wr10]
  simp only [← Int32.not_lt, xi]
  repeat' split
  all_goals simp_all
set_option maxRecDepth 100000 in
set_option maxHeartbeats 4000000 in
theorem k31 (X : xX) (sh : List (Nat × Nat × List Value)) (σ A : Nat → Nat → Int32) (c : Nat) (hc : xcup sh c) (r p q : Int32) : xK X 31 [.ref (c), .int r, .int p, .int q] (sh, xput 14 σ c A) = some (some (.int (uBase A r * q + uSlope A r * p)), (sh, xput 14 σ c A)) := by
  obtain ⟨h0, h1, h2, h3, h4, h5, h6, h7, h8, h9, h10, h11, h12, h13⟩ := hc
  rw [xK_d X 31 _ _ [] 90]
  simp [xent, xsl, Value.category, xr_d, xr_0, xg_nx, xg_n, xg_o, xg_c, xth_s, xth_v, xth_ite, xth_n, xd_iconst, xd_bipush, xd_sipush, xd_lconst, xd_iload, xd_iload_n, xd_lload, xd_lload_n, xd_aload, xd_aload_n, xd_istore, xd_istore_n, xd_astore, xd_astore_n, xd_lstore, xd_lstore_n, xd_iadd, xd_isub, xd_imul, xd_iand, xd_ior, xd_ishl, xd_ishr, xd_ladd, xd_lsub, xd_lmul, xd_land, xd_lor, xd_idiv, xd_irem, xd_ldiv, xd_lrem, xd_ineg, xd_lneg, xd_lshl, xd_lshr, xd_lcmp, xd_i2l, xd_l2i, xd_dup_int, xd_dup_ref, xd_pop, xd_dup2, xd_goto, xd_ifC, xd_ifI, xd_getf, xd_putI, xd_putR, xd_iald, xd_ialdX, xd_bald, xd_iast, xd_bast, xd_aald, xd_aast, xd_alen, xd_alenX, xd_newI, xd_newZ, xd_newQ, xd_newO, xd_invS, xd_invV, xd_invI, xd_iret, xd_lret, xd_vret, xd_ldc, xd_ldc2, xd_iinc, xd_aret, xd_tsw, xd_lsw, xC_d, xld, xisI, xisL, xisA, xgo_ite, xjp, xcmp, xrt, xinv, xcall, xpop, xcat, xgf, xal, xas, xpf, xle, xaq, xbite, xbite2, xsto, xsto2, xst1, xst2, xkl, xtt, xnum, xi0, xzf, v3, List.getElem?_cons_zero, List.getElem?_cons_succ, List.set_cons_zero, List.set_cons_succ, d31_0, d31_1, d31_2, d31_5, d31_6, d31_7, d31_8, d31_9, d31_12, d31_13, d31_14, d31_15, wo31, wm31, wr31, m0_157, m0_87, r31_19, r31_25, wm19, wm25, wo19, wo25, h0, h1, h2, h3, h4, h5, h6, h7, h8, h9, h10, h11, h12, h13, xput_at, xput_at0, xput_up, xput_up0, k25 X sh σ A c ⟨h0, h1, h2, h3, h4, h5, h6, h7, h8, h9, h10, h11, h12, h13⟩, k19 X sh σ A c ⟨h0, h1, h2, h3, h4, h5, h6, h7, h8, h9, h10, h11, h12, h13⟩]
end
section
def uAhead (A : Nat → Nat → Int32) (a b p q : Int32) : Int32 :=
  if xin a 8 = true then
    if xin b 8 = true then
      if (A 3 a.toNatClampNeg - A 3 b.toNatClampNeg) * q + (A 4 a.toNatClampNeg - A 4 b.toNatClampNeg) * p = 0 then
        if A 4 a.toNatClampNeg - A 4 b.toNatClampNeg = 0 then (if b - a ≤ 0 then b else a) else if A 4 a.toNatClampNeg - A 4 b.toNatClampNeg ≤ 0 then b else a
      else if (A 3 a.toNatClampNeg - A 3 b.toNatClampNeg) * q + (A 4 a.toNatClampNeg - A 4 b.toNatClampNeg) * p ≤ 0 then b else a
    else a
  else if xin b 8 = true then b else -6
def uHere (A : Nat → Nat → Int32) (i : Int32) : Bool := decide (0 ≤ i) && decide (i < A 7 5) && decide (i < 32)
theorem uHere_in {A : Nat → Nat → Int32} {i : Int32} (h : uHere A i = true) : xin i 32 = true := by
  have h1 : (32 : Int32).toInt = 32 := by decide
  simp only [uHere, Bool.and_eq_true, decide_eq_true_eq, Int32.le_iff_toInt_le, Int32.lt_iff_toInt_lt, h1, Int32.toInt_zero] at h
  simp only [xin, Bool.and_eq_true, decide_eq_true_eq]
  omega
def uMat (A : Nat → Nat → Int32) (i : Int32) : Int32 := if uHere A i = true then A 8 i.toNatClampNeg else -6
def uUpp (A : Nat → Nat → Int32) (i : Int32) : Int32 := if uHere A i = true then A 9 i.toNatClampNeg else 0
def uLow (A : Nat → Nat → Int32) (i : Int32) : Int32 := if uHere A i = true then A 10 i.toNatClampNeg else 1
def uOwn (A : Nat → Nat → Int32) (i : Int32) : Bool := uHere A i && (uM (A 8 i.toNatClampNeg) && decide (A 11 i.toNatClampNeg = A 12 (A 8 i.toNatClampNeg).toNatClampNeg))
def uSoon (A : Nat → Nat → Int32) (i j : Int32) : Bool := if uUpp A i * uLow A j = uUpp A j * uLow A i then decide (uMat A j < uMat A i) else decide (uUpp A i * uLow A j < uUpp A j * uLow A i)

set_option maxRecDepth 100000 in
set_option maxHeartbeats 4000000 in
theorem k7 (X : xX) (sh : List (Nat × Nat × List Value)) (σ A : Nat → Nat → Int32) (c : Nat) (hc : xcup sh c) (a b p q : Int32) : xK X 7 [.ref (c), .int a, .int b, .int p, .int q] (sh, xput 14 σ c A) = some (some (.int (uAhead A a b p q)), (sh, xput 14 σ c A)) := by
  have hC := hc
  obtain ⟨h0, h1, h2, h3, h4, h5, h6, h7, h8, h9, h10, h11, h12, h13⟩ := hc
  rw [xK_d X 7 _ _ [] 90]
  simp [xent, xsl, Value.category, xr_d, xr_0, xg_nx, xg_n, xg_o, xg_c, xth_s, xth_v, xth_ite, xth_n, xd_iconst, xd_bipush, xd_sipush, xd_lconst, xd_iload, xd_iload_n, xd_lload, xd_lload_n, xd_aload, xd_aload_n, xd_istore, xd_istore_n, xd_astore, xd_astore_n, xd_lstore, xd_lstore_n, xd_iadd, xd_isub, xd_imul, xd_iand, xd_ior, xd_ishl, xd_ishr, xd_ladd, xd_lsub, xd_lmul, xd_land, xd_lor, xd_idiv, xd_irem, xd_ldiv, xd_lrem, xd_ineg, xd_lneg, xd_lshl, xd_lshr, xd_lcmp, xd_i2l, xd_l2i, xd_dup_int, xd_dup_ref, xd_pop, xd_dup2, xd_goto, xd_ifC, xd_ifI, xd_getf, xd_putI, xd_putR, xd_iald, xd_ialdX, xd_bald, xd_iast, xd_bast, xd_aald, xd_aast, xd_alen, xd_alenX, xd_newI, xd_newZ, xd_newQ, xd_newO, xd_invS, xd_invV, xd_invI, xd_iret, xd_lret, xd_vret, xd_ldc, xd_ldc2, xd_iinc, xd_aret, xd_tsw, xd_lsw, xC_d, xld, xisI, xisL, xisA, xgo_ite, xjp, xcmp, xrt, xinv, xcall, xpop, xcat, xgf, xal, xas, xpf, xle, xaq, xbite, xbite2, xsto, xsto2, xst1, xst2, xkl, xtt, xnum, xi0, xzf, v3, List.getElem?_cons_zero, List.getElem?_cons_succ, List.set_cons_zero, List.set_cons_succ, d7_0, d7_1, d7_4, d7_7, d7_8, d7_11, d7_14, d7_15, d7_18, d7_20, d7_21, d7_22, d7_25, d7_28, d7_29, d7_30, d7_31, d7_34, d7_35, d7_36, d7_37, d7_40, d7_41, d7_42, d7_43, d7_45, d7_46, d7_47, d7_50, d7_51, d7_52, d7_53, d7_56, d7_57, d7_58, d7_59, d7_60, d7_61, d7_62, d7_64, d7_66, d7_69, d7_70, d7_73, d7_74, d7_75, d7_76, d7_79, d7_80, d7_81, d7_82, d7_84, d7_86, d7_89, d7_90, d7_91, d7_92, d7_94, d7_96, d7_99, d7_100, d7_103, d7_104, wo7, wm7, wr7, f0_18, f0_21, m0_62, r7_88, wm88, b8_m6, hC, h0, h1, h2, h3, h4, h5, h6, h7, h8, h9, h10, h11, h12, h13, xput_at, xput_at0, xput_up, xput_up0, k88]
  by_cases ha : xin a 8 = true
  · by_cases hb : xin b 8 = true
    · simp only [ha, hb, uAhead]
      simp only [if_true, Bool.true_eq_false, if_false]
      repeat' split
      all_goals simp_all
    · simp only [Bool.not_eq_true] at hb
      simp [ha, hb, uAhead]
  · simp only [Bool.not_eq_true] at ha
    by_cases hb : xin b 8 = true
    · simp [ha, hb, uAhead]
    · simp only [Bool.not_eq_true] at hb
      simp [ha, hb, uAhead]
set_option maxRecDepth 100000 in
set_option maxHeartbeats 4000000 in
theorem k55 (X : xX) (sh : List (Nat × Nat × List Value)) (σ A : Nat → Nat → Int32) (c : Nat) (hc : xcup sh c) (i : Int32) : xK X 55 [.ref (c + 7), .int i] (sh, xput 14 σ c A) = some (some (.int (xi (uHere A i))), (sh, xput 14 σ c A)) := by
  have hC := hc
  obtain ⟨h0, h1, h2, h3, h4, h5, h6, h7, h8, h9, h10, h11, h12, h13⟩ := hc
  rw [xK_d X 55 _ _ [] 90]
  simp [xent, xsl, Value.category, xr_d, xr_0, xg_nx, xg_n, xg_o, xg_c, xth_s, xth_v, xth_ite, xth_n, xd_iconst, xd_bipush, xd_sipush, xd_lconst, xd_iload, xd_iload_n, xd_lload, xd_lload_n, xd_aload, xd_aload_n, xd_istore, xd_istore_n, xd_astore, xd_astore_n, xd_lstore, xd_lstore_n, xd_iadd, xd_isub, xd_imul, xd_iand, xd_ior, xd_ishl, xd_ishr, xd_ladd, xd_lsub, xd_lmul, xd_land, xd_lor, xd_idiv, xd_irem, xd_ldiv, xd_lrem, xd_ineg, xd_lneg, xd_lshl, xd_lshr, xd_lcmp, xd_i2l, xd_l2i, xd_dup_int, xd_dup_ref, xd_pop, xd_dup2, xd_goto, xd_ifC, xd_ifI, xd_getf, xd_putI, xd_putR, xd_iald, xd_ialdX, xd_bald, xd_iast, xd_bast, xd_aald, xd_aast, xd_alen, xd_alenX, xd_newI, xd_newZ, xd_newQ, xd_newO, xd_invS, xd_invV, xd_invI, xd_iret, xd_lret, xd_vret, xd_ldc, xd_ldc2, xd_iinc, xd_aret, xd_tsw, xd_lsw, xC_d, xld, xisI, xisL, xisA, xgo_ite, xjp, xcmp, xrt, xinv, xcall, xpop, xcat, xgf, xal, xas, xpf, xle, xaq, xbite, xbite2, xsto, xsto2, xst1, xst2, xkl, xtt, xnum, xi0, xzf, v3, List.getElem?_cons_zero, List.getElem?_cons_succ, List.set_cons_zero, List.set_cons_succ, d55_0, d55_1, d55_4, d55_5, d55_6, d55_9, d55_12, d55_13, d55_15, d55_18, d55_19, d55_22, d55_23, wo55, wm55, wr55, f3_27, b8_32, hC, h0, h1, h2, h3, h4, h5, h6, h7, h8, h9, h10, h11, h12, h13, xput_at, xput_at0, xput_up, xput_up0]
  simp only [uHere, ← Int32.not_lt, xi]
  clear hC h0 h1 h2 h3 h4 h5 h6 h7 h8 h9 h10 h11 h12 h13
  repeat' split
  all_goals simp_all
  all_goals (simp only [Int32.lt_iff_toInt_lt, Int32.le_iff_toInt_le] at *; omega)
set_option maxRecDepth 100000 in
set_option maxHeartbeats 4000000 in
theorem k60 (X : xX) (sh : List (Nat × Nat × List Value)) (σ A : Nat → Nat → Int32) (c : Nat) (hc : xcup sh c)  : xK X 60 [.ref (c + 7)] (sh, xput 14 σ c A) = some (some (.int (A 7 5)), (sh, xput 14 σ c A)) := by
  have hC := hc
  obtain ⟨h0, h1, h2, h3, h4, h5, h6, h7, h8, h9, h10, h11, h12, h13⟩ := hc
  rw [xK_d X 60 _ _ [] 90]
  simp [xent, xsl, Value.category, xr_d, xr_0, xg_nx, xg_n, xg_o, xg_c, xth_s, xth_v, xth_ite, xth_n, xd_iconst, xd_bipush, xd_sipush, xd_lconst, xd_iload, xd_iload_n, xd_lload, xd_lload_n, xd_aload, xd_aload_n, xd_istore, xd_istore_n, xd_astore, xd_astore_n, xd_lstore, xd_lstore_n, xd_iadd, xd_isub, xd_imul, xd_iand, xd_ior, xd_ishl, xd_ishr, xd_ladd, xd_lsub, xd_lmul, xd_land, xd_lor, xd_idiv, xd_irem, xd_ldiv, xd_lrem, xd_ineg, xd_lneg, xd_lshl, xd_lshr, xd_lcmp, xd_i2l, xd_l2i, xd_dup_int, xd_dup_ref, xd_pop, xd_dup2, xd_goto, xd_ifC, xd_ifI, xd_getf, xd_putI, xd_putR, xd_iald, xd_ialdX, xd_bald, xd_iast, xd_bast, xd_aald, xd_aast, xd_alen, xd_alenX, xd_newI, xd_newZ, xd_newQ, xd_newO, xd_invS, xd_invV, xd_invI, xd_iret, xd_lret, xd_vret, xd_ldc, xd_ldc2, xd_iinc, xd_aret, xd_tsw, xd_lsw, xC_d, xld, xisI, xisL, xisA, xgo_ite, xjp, xcmp, xrt, xinv, xcall, xpop, xcat, xgf, xal, xas, xpf, xle, xaq, xbite, xbite2, xsto, xsto2, xst1, xst2, xkl, xtt, xnum, xi0, xzf, v3, List.getElem?_cons_zero, List.getElem?_cons_succ, List.set_cons_zero, List.set_cons_succ, d60_0, d60_1, d60_4, wo60, wm60, wr60, f3_27, hC, h0, h1, h2, h3, h4, h5, h6, h7, h8, h9, h10, h11, h12, h13, xput_at, xput_at0, xput_up, xput_up0]

set_option maxRecDepth 100000 in
set_option maxHeartbeats 4000000 in
theorem k54 (X : xX) (sh : List (Nat × Nat × List Value)) (σ A : Nat → Nat → Int32) (c : Nat) (hc : xcup sh c) (i : Int32) : xK X 54 [.ref (c + 7), .int i] (sh, xput 14 σ c A) = some (some (.int (uMat A i)), (sh, xput 14 σ c A)) := by
  have hC := hc
  obtain ⟨h0, h1, h2, h3, h4, h5, h6, h7, h8, h9, h10, h11, h12, h13⟩ := hc
  rw [xK_d X 54 _ _ [] 90]
  simp [xent, xsl, Value.category, xr_d, xr_0, xg_nx, xg_n, xg_o, xg_c, xth_s, xth_v, xth_ite, xth_n, xd_iconst, xd_bipush, xd_sipush, xd_lconst, xd_iload, xd_iload_n, xd_lload, xd_lload_n, xd_aload, xd_aload_n, xd_istore, xd_istore_n, xd_astore, xd_astore_n, xd_lstore, xd_lstore_n, xd_iadd, xd_isub, xd_imul, xd_iand, xd_ior, xd_ishl, xd_ishr, xd_ladd, xd_lsub, xd_lmul, xd_land, xd_lor, xd_idiv, xd_irem, xd_ldiv, xd_lrem, xd_ineg, xd_lneg, xd_lshl, xd_lshr, xd_lcmp, xd_i2l, xd_l2i, xd_dup_int, xd_dup_ref, xd_pop, xd_dup2, xd_goto, xd_ifC, xd_ifI, xd_getf, xd_putI, xd_putR, xd_iald, xd_ialdX, xd_bald, xd_iast, xd_bast, xd_aald, xd_aast, xd_alen, xd_alenX, xd_newI, xd_newZ, xd_newQ, xd_newO, xd_invS, xd_invV, xd_invI, xd_iret, xd_lret, xd_vret, xd_ldc, xd_ldc2, xd_iinc, xd_aret, xd_tsw, xd_lsw, xC_d, xld, xisI, xisL, xisA, xgo_ite, xjp, xcmp, xrt, xinv, xcall, xpop, xcat, xgf, xal, xas, xpf, xle, xaq, xbite, xbite2, xsto, xsto2, xst1, xst2, xkl, xtt, xnum, xi0, xzf, v3, List.getElem?_cons_zero, List.getElem?_cons_succ, List.set_cons_zero, List.set_cons_succ, d54_0, d54_1, d54_2, d54_5, d54_8, d54_9, d54_12, d54_13, d54_14, d54_17, d54_19, wo54, wm54, wr54, f3_11, m3_50, r54_55, wm55, wo55, b8_m6, hC, h0, h1, h2, h3, h4, h5, h6, h7, h8, h9, h10, h11, h12, h13, xput_at, xput_at0, xput_up, xput_up0, k55]
  by_cases hr : uHere A i = true
  · have hi := uHere_in hr
    simp [hr, hi, uMat]
  · simp only [Bool.not_eq_true] at hr
    simp [hr, uMat]
set_option maxRecDepth 100000 in
set_option maxHeartbeats 4000000 in
theorem k57 (X : xX) (sh : List (Nat × Nat × List Value)) (σ A : Nat → Nat → Int32) (c : Nat) (hc : xcup sh c) (i : Int32) : xK X 57 [.ref (c + 7), .int i] (sh, xput 14 σ c A) = some (some (.int (uUpp A i)), (sh, xput 14 σ c A)) := by
  have hC := hc
  obtain ⟨h0, h1, h2, h3, h4, h5, h6, h7, h8, h9, h10, h11, h12, h13⟩ := hc
  rw [xK_d X 57 _ _ [] 90]
  simp [xent, xsl, Value.category, xr_d, xr_0, xg_nx, xg_n, xg_o, xg_c, xth_s, xth_v, xth_ite, xth_n, xd_iconst, xd_bipush, xd_sipush, xd_lconst, xd_iload, xd_iload_n, xd_lload, xd_lload_n, xd_aload, xd_aload_n, xd_istore, xd_istore_n, xd_astore, xd_astore_n, xd_lstore, xd_lstore_n, xd_iadd, xd_isub, xd_imul, xd_iand, xd_ior, xd_ishl, xd_ishr, xd_ladd, xd_lsub, xd_lmul, xd_land, xd_lor, xd_idiv, xd_irem, xd_ldiv, xd_lrem, xd_ineg, xd_lneg, xd_lshl, xd_lshr, xd_lcmp, xd_i2l, xd_l2i, xd_dup_int, xd_dup_ref, xd_pop, xd_dup2, xd_goto, xd_ifC, xd_ifI, xd_getf, xd_putI, xd_putR, xd_iald, xd_ialdX, xd_bald, xd_iast, xd_bast, xd_aald, xd_aast, xd_alen, xd_alenX, xd_newI, xd_newZ, xd_newQ, xd_newO, xd_invS, xd_invV, xd_invI, xd_iret, xd_lret, xd_vret, xd_ldc, xd_ldc2, xd_iinc, xd_aret, xd_tsw, xd_lsw, xC_d, xld, xisI, xisL, xisA, xgo_ite, xjp, xcmp, xrt, xinv, xcall, xpop, xcat, xgf, xal, xas, xpf, xle, xaq, xbite, xbite2, xsto, xsto2, xst1, xst2, xkl, xtt, xnum, xi0, xzf, v3, List.getElem?_cons_zero, List.getElem?_cons_succ, List.set_cons_zero, List.set_cons_succ, d57_0, d57_1, d57_2, d57_5, d57_8, d57_9, d57_12, d57_13, d57_14, d57_17, d57_18, wo57, wm57, wr57, f3_15, m3_50, r57_55, wm55, wo55, hC, h0, h1, h2, h3, h4, h5, h6, h7, h8, h9, h10, h11, h12, h13, xput_at, xput_at0, xput_up, xput_up0, k55]
  by_cases hr : uHere A i = true
  · have hi := uHere_in hr
    simp [hr, hi, uUpp]
  · simp only [Bool.not_eq_true] at hr
    simp [hr, uUpp]
set_option maxRecDepth 100000 in
set_option maxHeartbeats 4000000 in
theorem k58 (X : xX) (sh : List (Nat × Nat × List Value)) (σ A : Nat → Nat → Int32) (c : Nat) (hc : xcup sh c) (i : Int32) : xK X 58 [.ref (c + 7), .int i] (sh, xput 14 σ c A) = some (some (.int (uLow A i)), (sh, xput 14 σ c A)) := by
  have hC := hc
  obtain ⟨h0, h1, h2, h3, h4, h5, h6, h7, h8, h9, h10, h11, h12, h13⟩ := hc
  rw [xK_d X 58 _ _ [] 90]
  simp [xent, xsl, Value.category, xr_d, xr_0, xg_nx, xg_n, xg_o, xg_c, xth_s, xth_v, xth_ite, xth_n, xd_iconst, xd_bipush, xd_sipush, xd_lconst, xd_iload, xd_iload_n, xd_lload, xd_lload_n, xd_aload, xd_aload_n, xd_istore, xd_istore_n, xd_astore, xd_astore_n, xd_lstore, xd_lstore_n, xd_iadd, xd_isub, xd_imul, xd_iand, xd_ior, xd_ishl, xd_ishr, xd_ladd, xd_lsub, xd_lmul, xd_land, xd_lor, xd_idiv, xd_irem, xd_ldiv, xd_lrem, xd_ineg, xd_lneg, xd_lshl, xd_lshr, xd_lcmp, xd_i2l, xd_l2i, xd_dup_int, xd_dup_ref, xd_pop, xd_dup2, xd_goto, xd_ifC, xd_ifI, xd_getf, xd_putI, xd_putR, xd_iald, xd_ialdX, xd_bald, xd_iast, xd_bast, xd_aald, xd_aast, xd_alen, xd_alenX, xd_newI, xd_newZ, xd_newQ, xd_newO, xd_invS, xd_invV, xd_invI, xd_iret, xd_lret, xd_vret, xd_ldc, xd_ldc2, xd_iinc, xd_aret, xd_tsw, xd_lsw, xC_d, xld, xisI, xisL, xisA, xgo_ite, xjp, xcmp, xrt, xinv, xcall, xpop, xcat, xgf, xal, xas, xpf, xle, xaq, xbite, xbite2, xsto, xsto2, xst1, xst2, xkl, xtt, xnum, xi0, xzf, v3, List.getElem?_cons_zero, List.getElem?_cons_succ, List.set_cons_zero, List.set_cons_succ, d58_0, d58_1, d58_2, d58_5, d58_8, d58_9, d58_12, d58_13, d58_14, d58_17, d58_18, wo58, wm58, wr58, f3_18, m3_50, r58_55, wm55, wo55, hC, h0, h1, h2, h3, h4, h5, h6, h7, h8, h9, h10, h11, h12, h13, xput_at, xput_at0, xput_up, xput_up0, k55]
  by_cases hr : uHere A i = true
  · have hi := uHere_in hr
    simp [hr, hi, uLow]
  · simp only [Bool.not_eq_true] at hr
    simp [hr, uLow]
set_option maxRecDepth 100000 in
set_option maxHeartbeats 4000000 in
theorem k53 (X : xX) (sh : List (Nat × Nat × List Value)) (σ A : Nat → Nat → Int32) (c : Nat) (hc : xcup sh c) (i : Int32) : xK X 53 [.ref (c + 7), .int i] (sh, xput 14 σ c A) = some (some (.int (xi (uOwn A i))), (sh, xput 14 σ c A)) := by
  have hC := hc
  obtain ⟨h0, h1, h2, h3, h4, h5, h6, h7, h8, h9, h10, h11, h12, h13⟩ := hc
  obtain ⟨m, hmd⟩ : ∃ m, m = uMat A i := ⟨_, rfl⟩
  have e54 : xK X 54 [.ref (c + 7), .int i] (sh, xput 14 σ c A) = some (some (.int m), (sh, xput 14 σ c A)) := by rw [hmd]; exact k54 X sh σ A c hC i
  have key : uM m = true → xin i 32 = true := by
    intro h
    by_cases hr : uHere A i = true
    · exact uHere_in hr
    · rw [hmd, uMat, if_neg hr, uM_m6] at h
      cases h
  have e : uOwn A i = (uM m && decide (A 11 i.toNatClampNeg = A 12 m.toNatClampNeg)) := by
    rw [hmd]
    unfold uOwn uMat
    by_cases hr : uHere A i = true
    · rw [hr, if_pos rfl]; rfl
    · rw [if_neg hr, uM_m6]
      simp only [Bool.not_eq_true] at hr
      rw [hr]; rfl
  rw [e]
  clear e hmd
  by_cases hm : uM m = true
  · have hm8 := uM_in hm
    have hi := key hm
    clear key
    by_cases he : A 11 i.toNatClampNeg = A 12 m.toNatClampNeg
    · rw [xK_d X 53 _ _ [] 90]; simp [xent, xsl, Value.category, xr_d, xr_0, xg_nx, xg_n, xg_o, xg_c, xth_s, xth_v, xth_ite, xth_n, xd_iconst, xd_bipush, xd_sipush, xd_lconst, xd_iload, xd_iload_n, xd_lload, xd_lload_n, xd_aload, xd_aload_n, xd_istore, xd_istore_n, xd_astore, xd_astore_n, xd_lstore, xd_lstore_n, xd_iadd, xd_isub, xd_imul, xd_iand, xd_ior, xd_ishl, xd_ishr, xd_ladd, xd_lsub, xd_lmul, xd_land, xd_lor, xd_idiv, xd_irem, xd_ldiv, xd_lrem, xd_ineg, xd_lneg, xd_lshl, xd_lshr, xd_lcmp, xd_i2l, xd_l2i, xd_dup_int, xd_dup_ref, xd_pop, xd_dup2, xd_goto, xd_ifC, xd_ifI, xd_getf, xd_putI, xd_putR, xd_iald, xd_ialdX, xd_bald, xd_iast, xd_bast, xd_aald, xd_aast, xd_alen, xd_alenX, xd_newI, xd_newZ, xd_newQ, xd_newO, xd_invS, xd_invV, xd_invI, xd_iret, xd_lret, xd_vret, xd_ldc, xd_ldc2, xd_iinc, xd_aret, xd_tsw, xd_lsw, xC_d, xld, xisI, xisL, xisA, xgo_ite, xjp, xcmp, xrt, xinv, xcall, xpop, xcat, xgf, xal, xas, xpf, xle, xaq, xbite, xbite2, xsto, xsto2, xst1, xst2, xkl, xtt, xnum, xi0, xzf, v3, List.getElem?_cons_zero, List.getElem?_cons_succ, List.set_cons_zero, List.set_cons_succ, d53_0, d53_1, d53_2, d53_5, d53_6, d53_7, d53_10, d53_13, d53_14, d53_17, d53_18, d53_19, d53_20, d53_23, d53_24, d53_25, d53_28, d53_29, d53_32, d53_33, wo53, wm53, wr53, f3_21, f3_24, m3_46, m3_53, r53_54, r53_87, wm54, wm87, wo54, hC, h0, h1, h2, h3, h4, h5, h6, h7, h8, h9, h10, h11, h12, h13, xput_at, xput_at0, xput_up, xput_up0, k87', e54, hm, hi, hm8, he, xi]
    · rw [xK_d X 53 _ _ [] 90]; simp [xent, xsl, Value.category, xr_d, xr_0, xg_nx, xg_n, xg_o, xg_c, xth_s, xth_v, xth_ite, xth_n, xd_iconst, xd_bipush, xd_sipush, xd_lconst, xd_iload, xd_iload_n, xd_lload, xd_lload_n, xd_aload, xd_aload_n, xd_istore, xd_istore_n, xd_astore, xd_astore_n, xd_lstore, xd_lstore_n, xd_iadd, xd_isub, xd_imul, xd_iand, xd_ior, xd_ishl, xd_ishr, xd_ladd, xd_lsub, xd_lmul, xd_land, xd_lor, xd_idiv, xd_irem, xd_ldiv, xd_lrem, xd_ineg, xd_lneg, xd_lshl, xd_lshr, xd_lcmp, xd_i2l, xd_l2i, xd_dup_int, xd_dup_ref, xd_pop, xd_dup2, xd_goto, xd_ifC, xd_ifI, xd_getf, xd_putI, xd_putR, xd_iald, xd_ialdX, xd_bald, xd_iast, xd_bast, xd_aald, xd_aast, xd_alen, xd_alenX, xd_newI, xd_newZ, xd_newQ, xd_newO, xd_invS, xd_invV, xd_invI, xd_iret, xd_lret, xd_vret, xd_ldc, xd_ldc2, xd_iinc, xd_aret, xd_tsw, xd_lsw, xC_d, xld, xisI, xisL, xisA, xgo_ite, xjp, xcmp, xrt, xinv, xcall, xpop, xcat, xgf, xal, xas, xpf, xle, xaq, xbite, xbite2, xsto, xsto2, xst1, xst2, xkl, xtt, xnum, xi0, xzf, v3, List.getElem?_cons_zero, List.getElem?_cons_succ, List.set_cons_zero, List.set_cons_succ, d53_0, d53_1, d53_2, d53_5, d53_6, d53_7, d53_10, d53_13, d53_14, d53_17, d53_18, d53_19, d53_20, d53_23, d53_24, d53_25, d53_28, d53_29, d53_32, d53_33, wo53, wm53, wr53, f3_21, f3_24, m3_46, m3_53, r53_54, r53_87, wm54, wm87, wo54, hC, h0, h1, h2, h3, h4, h5, h6, h7, h8, h9, h10, h11, h12, h13, xput_at, xput_at0, xput_up, xput_up0, k87', e54, hm, hi, hm8, he, xi]
  · clear key
    simp only [Bool.not_eq_true] at hm
    rw [xK_d X 53 _ _ [] 90]; simp [xent, xsl, Value.category, xr_d, xr_0, xg_nx, xg_n, xg_o, xg_c, xth_s, xth_v, xth_ite, xth_n, xd_iconst, xd_bipush, xd_sipush, xd_lconst, xd_iload, xd_iload_n, xd_lload, xd_lload_n, xd_aload, xd_aload_n, xd_istore, xd_istore_n, xd_astore, xd_astore_n, xd_lstore, xd_lstore_n, xd_iadd, xd_isub, xd_imul, xd_iand, xd_ior, xd_ishl, xd_ishr, xd_ladd, xd_lsub, xd_lmul, xd_land, xd_lor, xd_idiv, xd_irem, xd_ldiv, xd_lrem, xd_ineg, xd_lneg, xd_lshl, xd_lshr, xd_lcmp, xd_i2l, xd_l2i, xd_dup_int, xd_dup_ref, xd_pop, xd_dup2, xd_goto, xd_ifC, xd_ifI, xd_getf, xd_putI, xd_putR, xd_iald, xd_ialdX, xd_bald, xd_iast, xd_bast, xd_aald, xd_aast, xd_alen, xd_alenX, xd_newI, xd_newZ, xd_newQ, xd_newO, xd_invS, xd_invV, xd_invI, xd_iret, xd_lret, xd_vret, xd_ldc, xd_ldc2, xd_iinc, xd_aret, xd_tsw, xd_lsw, xC_d, xld, xisI, xisL, xisA, xgo_ite, xjp, xcmp, xrt, xinv, xcall, xpop, xcat, xgf, xal, xas, xpf, xle, xaq, xbite, xbite2, xsto, xsto2, xst1, xst2, xkl, xtt, xnum, xi0, xzf, v3, List.getElem?_cons_zero, List.getElem?_cons_succ, List.set_cons_zero, List.set_cons_succ, d53_0, d53_1, d53_2, d53_5, d53_6, d53_7, d53_10, d53_13, d53_14, d53_17, d53_18, d53_19, d53_20, d53_23, d53_24, d53_25, d53_28, d53_29, d53_32, d53_33, wo53, wm53, wr53, f3_21, f3_24, m3_46, m3_53, r53_54, r53_87, wm54, wm87, wo54, hC, h0, h1, h2, h3, h4, h5, h6, h7, h8, h9, h10, h11, h12, h13, xput_at, xput_at0, xput_up, xput_up0, k87', e54, hm, xi]
set_option maxRecDepth 100000 in
set_option maxHeartbeats 4000000 in
theorem k56 (X : xX) (sh : List (Nat × Nat × List Value)) (σ A : Nat → Nat → Int32) (c : Nat) (hc : xcup sh c) (i j : Int32) : xK X 56 [.ref (c + 7), .int i, .int j] (sh, xput 14 σ c A) = some (some (.int (xi (uSoon A i j))), (sh, xput 14 σ c A)) := by
  have hC := hc
  obtain ⟨h0, h1, h2, h3, h4, h5, h6, h7, h8, h9, h10, h11, h12, h13⟩ := hc
  rw [xK_d X 56 _ _ [] 90]
  simp [xent, xsl, Value.category, xr_d, xr_0, xg_nx, xg_n, xg_o, xg_c, xth_s, xth_v, xth_ite, xth_n, xd_iconst, xd_bipush, xd_sipush, xd_lconst, xd_iload, xd_iload_n, xd_lload, xd_lload_n, xd_aload, xd_aload_n, xd_istore, xd_istore_n, xd_astore, xd_astore_n, xd_lstore, xd_lstore_n, xd_iadd, xd_isub, xd_imul, xd_iand, xd_ior, xd_ishl, xd_ishr, xd_ladd, xd_lsub, xd_lmul, xd_land, xd_lor, xd_idiv, xd_irem, xd_ldiv, xd_lrem, xd_ineg, xd_lneg, xd_lshl, xd_lshr, xd_lcmp, xd_i2l, xd_l2i, xd_dup_int, xd_dup_ref, xd_pop, xd_dup2, xd_goto, xd_ifC, xd_ifI, xd_getf, xd_putI, xd_putR, xd_iald, xd_ialdX, xd_bald, xd_iast, xd_bast, xd_aald, xd_aast, xd_alen, xd_alenX, xd_newI, xd_newZ, xd_newQ, xd_newO, xd_invS, xd_invV, xd_invI, xd_iret, xd_lret, xd_vret, xd_ldc, xd_ldc2, xd_iinc, xd_aret, xd_tsw, xd_lsw, xC_d, xld, xisI, xisL, xisA, xgo_ite, xjp, xcmp, xrt, xinv, xcall, xpop, xcat, xgf, xal, xas, xpf, xle, xaq, xbite, xbite2, xsto, xsto2, xst1, xst2, xkl, xtt, xnum, xi0, xzf, v3, List.getElem?_cons_zero, List.getElem?_cons_succ, List.set_cons_zero, List.set_cons_succ, d56_0, d56_1, d56_2, d56_5, d56_6, d56_7, d56_10, d56_11, d56_12, d56_13, d56_14, d56_17, d56_18, d56_19, d56_22, d56_23, d56_25, d56_26, d56_28, d56_31, d56_32, d56_33, d56_36, d56_37, d56_38, d56_41, d56_44, d56_45, d56_48, d56_49, d56_52, d56_53, d56_55, d56_58, d56_59, d56_62, d56_63, wo56, wm56, wr56, m3_53, m3_64, m3_67, r56_54, r56_57, r56_58, wm54, wm57, wm58, wo54, wo57, wo58, hC, h0, h1, h2, h3, h4, h5, h6, h7, h8, h9, h10, h11, h12, h13, xput_at, xput_at0, xput_up, xput_up0, k54, k57, k58]
  simp only [uSoon, ← Int32.not_lt, xi]
  clear hC h0 h1 h2 h3 h4 h5 h6 h7 h8 h9 h10 h11 h12 h13
  repeat' split
  all_goals simp_all
  all_goals (simp only [Int32.lt_iff_toInt_lt, Int32.le_iff_toInt_le] at *; omega)
def uDis (A : Nat → Nat → Int32) (m : Int32) : Nat → Nat → Int32 := if uM m = true then xup A 12 m.toNatClampNeg 0 else A
def uRoom (A : Nat → Nat → Int32) (m : Int32) : Bool := decide (0 ≤ A 7 5) && decide (A 7 5 < 32) && uM m
def uPut (A : Nat → Nat → Int32) (m u l : Int32) : Nat → Nat → Int32 := if uRoom A m = true then xup (xup (xup (xup (xup (xup (xup A 7 6 (A 7 6 + 1)) 8 (A 7 5).toNatClampNeg m) 9 (A 7 5).toNatClampNeg u) 10 (A 7 5).toNatClampNeg l) 11 (A 7 5).toNatClampNeg (A 7 6 + 1)) 12 m.toNatClampNeg (A 7 6 + 1)) 7 5 (A 7 5 + 1) else A
theorem uRoom_in {A : Nat → Nat → Int32} {m : Int32} (h : uRoom A m = true) : xin (A 7 5) 32 = true ∧ uM m = true := by
  have h1 : (32 : Int32).toInt = 32 := by decide
  simp only [uRoom, Bool.and_eq_true, decide_eq_true_eq, Int32.le_iff_toInt_le, Int32.lt_iff_toInt_lt, h1, Int32.toInt_zero] at h
  simp only [xin, Bool.and_eq_true, decide_eq_true_eq]
  exact ⟨by omega, h.2⟩
set_option maxRecDepth 100000 in
set_option maxHeartbeats 4000000 in
theorem k49 (X : xX) (sh : List (Nat × Nat × List Value)) (σ A : Nat → Nat → Int32) (c : Nat) (hc : xcup sh c) (m : Int32) : xK X 49 [.ref (c + 7), .int m] (sh, xput 14 σ c A) = some (none, (sh, xput 14 σ c (uDis A m))) := by
  have hC := hc
  obtain ⟨h0, h1, h2, h3, h4, h5, h6, h7, h8, h9, h10, h11, h12, h13⟩ := hc
  rw [xK_d X 49 _ _ [] 90]
  simp [xent, xsl, Value.category, xr_d, xr_0, xg_nx, xg_n, xg_o, xg_c, xth_s, xth_v, xth_ite, xth_n, xd_iconst, xd_bipush, xd_sipush, xd_lconst, xd_iload, xd_iload_n, xd_lload, xd_lload_n, xd_aload, xd_aload_n, xd_istore, xd_istore_n, xd_astore, xd_astore_n, xd_lstore, xd_lstore_n, xd_iadd, xd_isub, xd_imul, xd_iand, xd_ior, xd_ishl, xd_ishr, xd_ladd, xd_lsub, xd_lmul, xd_land, xd_lor, xd_idiv, xd_irem, xd_ldiv, xd_lrem, xd_ineg, xd_lneg, xd_lshl, xd_lshr, xd_lcmp, xd_i2l, xd_l2i, xd_dup_int, xd_dup_ref, xd_pop, xd_dup2, xd_goto, xd_ifC, xd_ifI, xd_getf, xd_putI, xd_putR, xd_iald, xd_ialdX, xd_bald, xd_iast, xd_bast, xd_aald, xd_aast, xd_alen, xd_alenX, xd_newI, xd_newZ, xd_newQ, xd_newO, xd_invS, xd_invV, xd_invI, xd_iret, xd_lret, xd_vret, xd_ldc, xd_ldc2, xd_iinc, xd_aret, xd_tsw, xd_lsw, xC_d, xld, xisI, xisL, xisA, xgo_ite, xjp, xcmp, xrt, xinv, xcall, xpop, xcat, xgf, xal, xas, xpf, xle, xaq, xbite, xbite2, xsto, xsto2, xst1, xst2, xkl, xtt, xnum, xi0, xzf, v3, List.getElem?_cons_zero, List.getElem?_cons_succ, List.set_cons_zero, List.set_cons_succ, d49_0, d49_1, d49_4, d49_7, d49_8, d49_11, d49_12, d49_13, d49_14, wo49, wm49, wr49, f3_24, m3_46, r49_87, wm87, hC, h0, h1, h2, h3, h4, h5, h6, h7, h8, h9, h10, h11, h12, h13, xput_at, xput_at0, xput_up, xput_up0, k87']
  by_cases hr : uM m = true
  · have hi := uM_in hr
    simp [hr, hi, uDis]
  · simp only [Bool.not_eq_true] at hr
    simp [hr, uDis]
set_option maxRecDepth 100000 in
set_option maxHeartbeats 4000000 in
theorem k50 (X : xX) (sh : List (Nat × Nat × List Value)) (σ A : Nat → Nat → Int32) (c : Nat) (hc : xcup sh c) (m u l : Int32) : xK X 50 [.ref (c + 7), .int m, .int u, .int l] (sh, xput 14 σ c A) = some (none, (sh, xput 14 σ c (uPut A m u l))) := by
  have hC := hc
  obtain ⟨h0, h1, h2, h3, h4, h5, h6, h7, h8, h9, h10, h11, h12, h13⟩ := hc
  rw [xK_d X 50 _ _ [] 90]
  simp [xent, xsl, Value.category, xr_d, xr_0, xg_nx, xg_n, xg_o, xg_c, xth_s, xth_v, xth_ite, xth_n, xd_iconst, xd_bipush, xd_sipush, xd_lconst, xd_iload, xd_iload_n, xd_lload, xd_lload_n, xd_aload, xd_aload_n, xd_istore, xd_istore_n, xd_astore, xd_astore_n, xd_lstore, xd_lstore_n, xd_iadd, xd_isub, xd_imul, xd_iand, xd_ior, xd_ishl, xd_ishr, xd_ladd, xd_lsub, xd_lmul, xd_land, xd_lor, xd_idiv, xd_irem, xd_ldiv, xd_lrem, xd_ineg, xd_lneg, xd_lshl, xd_lshr, xd_lcmp, xd_i2l, xd_l2i, xd_dup_int, xd_dup_ref, xd_pop, xd_dup2, xd_goto, xd_ifC, xd_ifI, xd_getf, xd_putI, xd_putR, xd_iald, xd_ialdX, xd_bald, xd_iast, xd_bast, xd_aald, xd_aast, xd_alen, xd_alenX, xd_newI, xd_newZ, xd_newQ, xd_newO, xd_invS, xd_invV, xd_invI, xd_iret, xd_lret, xd_vret, xd_ldc, xd_ldc2, xd_iinc, xd_aret, xd_tsw, xd_lsw, xC_d, xld, xisI, xisL, xisA, xgo_ite, xjp, xcmp, xrt, xinv, xcall, xpop, xcat, xgf, xal, xas, xpf, xle, xaq, xbite, xbite2, xsto, xsto2, xst1, xst2, xkl, xtt, xnum, xi0, xzf, v3, List.getElem?_cons_zero, List.getElem?_cons_succ, List.set_cons_zero, List.set_cons_succ, d50_0, d50_1, d50_4, d50_7, d50_8, d50_11, d50_13, d50_16, d50_17, d50_20, d50_23, d50_24, d50_25, d50_26, d50_29, d50_30, d50_31, d50_34, d50_35, d50_38, d50_39, d50_42, d50_43, d50_44, d50_45, d50_48, d50_49, d50_52, d50_53, d50_54, d50_55, d50_58, d50_59, d50_62, d50_63, d50_64, d50_65, d50_68, d50_69, d50_72, d50_73, d50_76, d50_77, d50_78, d50_81, d50_82, d50_83, d50_86, d50_87, d50_88, d50_89, d50_92, d50_93, d50_94, d50_97, wo50, wm50, wr50, f3_11, f3_15, f3_18, f3_21, f3_24, f3_27, f3_31, m3_46, r50_87, wm87, b8_32, hC, h0, h1, h2, h3, h4, h5, h6, h7, h8, h9, h10, h11, h12, h13, xput_at, xput_at0, xput_up, xput_up0, k87']
  by_cases hr : uRoom A m = true
  · obtain ⟨hi, hm⟩ := uRoom_in hr
    have hm8 := uM_in hm
    have hr2 := hr
    simp only [uRoom, Bool.and_eq_true, decide_eq_true_eq] at hr2
    have hr3 : ¬ A 7 5 < 0 := Int32.not_lt.mpr hr2.1.1
    have hr4 : ¬ 32 ≤ A 7 5 := Int32.not_le.mpr hr2.1.2
    simp [hr3, hr4, hi, hm, hm8, uPut, hr, xup]
  · have hr2 := hr
    simp only [uRoom, Bool.and_eq_true, decide_eq_true_eq] at hr2
    simp only [uPut, hr]
    simp only [← Int32.not_lt] at hr2 ⊢
    clear hC h0 h1 h2 h3 h4 h5 h6 h7 h8 h9 h10 h11 h12 h13
    repeat' split
    all_goals simp_all
    all_goals (simp only [Int32.lt_iff_toInt_lt, Int32.le_iff_toInt_le] at *; omega)
end
section
theorem xV_d (X : xX) (id : Nat) (stops : List Nat) (n pc : Nat) (ls st : List Value) (S : xS) : xV X id (pc, ls, st, S) = xgo (xr X id stops n) (xC X id) (xdo (decode (xbc id) pc) X id pc ls st S) := by
  rw [xV_eq, show xr X id stops n = xV X id from funext (xr_eq X id stops n), xstep_d]
theorem nI_d (n : Nat) : Int32.ofNat n = nI n := Eq.symm (Eq.symm rfl)
theorem nI_lt' {a b : Nat} (h : a < b) (hb : b < 2147483648) : ¬ nI b ≤ nI a := nI_ge h (by omega)
theorem nI_le' {a b : Nat} (h : a ≤ b) (hb : b < 2147483648) : nI a ≤ nI b := nI_le h (by omega)
def xfil (σ : Nat → Nat → Int32) (k n : Nat) (v : Int32) : Nat → Nat → Int32 := fun a b => if a = k ∧ b < n then v else σ a b
theorem xfil_0 (σ : Nat → Nat → Int32) (k : Nat) (v : Int32) : xfil σ k 0 v = σ := by funext a b; simp [xfil]
theorem xfil_s (σ : Nat → Nat → Int32) (k n : Nat) (v : Int32) : xup (xfil σ k n v) k n v = xfil σ k (n + 1) v := by
  funext a b
  unfold xup xfil
  by_cases h : a = k
  · subst h
    by_cases h2 : b = n
    · subst h2; simp
    · by_cases h3 : b < n
      · simp [h2, h3, Nat.lt_succ_of_lt h3]
      · have h4 : ¬ b < n + 1 := by omega
        simp [h2, h3, h4]
  · simp [h]
set_option maxRecDepth 100000 in
set_option maxHeartbeats 4000000 in
theorem l187 (X : xX) (sh : List (Nat × Nat × List Value)) (σ : Nat → Nat → Int32) (k n : Nat) (vs : List Value) (v : Int32) (hk : sh[k]? = some (0, n, vs)) (hn : n < 4000) : ∀ d i, i + d = n → xV X 187 (5, [.ref k, .int v, .int (nI i), .int (nI n)], [], (sh, xfil σ k i v)) = some (none, (sh, xfil σ k n v))
  | 0, i, h => by
    have e : i = n := by omega
    subst e
    have h1 : nI i ≤ nI i := nI_le' (by omega) (by omega)
    rw [xV_d X 187 [5] 20]
    simp [xent, xsl, Value.category, xr_d, xr_0, xg_nx, xg_n, xg_o, xg_c, xth_s, xth_v, xth_ite, xth_n, xd_iconst, xd_bipush, xd_sipush, xd_lconst, xd_iload, xd_iload_n, xd_lload, xd_lload_n, xd_aload, xd_aload_n, xd_istore, xd_istore_n, xd_astore, xd_astore_n, xd_lstore, xd_lstore_n, xd_iadd, xd_isub, xd_imul, xd_iand, xd_ior, xd_ishl, xd_ishr, xd_ladd, xd_lsub, xd_lmul, xd_land, xd_lor, xd_idiv, xd_irem, xd_ldiv, xd_lrem, xd_ineg, xd_lneg, xd_lshl, xd_lshr, xd_lcmp, xd_i2l, xd_l2i, xd_dup_int, xd_dup_ref, xd_pop, xd_dup2, xd_goto, xd_ifC, xd_ifI, xd_getf, xd_putI, xd_putR, xd_iald, xd_ialdX, xd_bald, xd_iast, xd_bast, xd_aald, xd_aast, xd_alen, xd_alenX, xd_newI, xd_newZ, xd_newQ, xd_newO, xd_invS, xd_invV, xd_invI, xd_iret, xd_lret, xd_vret, xd_ldc, xd_ldc2, xd_iinc, xd_aret, xd_tsw, xd_lsw, xC_d, xld, xisI, xisL, xisA, xgo_ite, xjp, xcmp, xrt, xinv, xcall, xpop, xcat, xgf, xal, xas, xpf, xle, xaq, xbite, xbite2, xsto, xsto2, xst1, xst2, xkl, xtt, xnum, xi0, xzf, v3, List.getElem?_cons_zero, List.getElem?_cons_succ, List.set_cons_zero, List.set_cons_succ, d187_0, d187_1, d187_2, d187_3, d187_4, d187_5, d187_6, d187_7, d187_10, d187_11, d187_12, d187_13, d187_14, d187_17, d187_20, wo187, wm187, wr187, h1]
  | d + 1, i, h => by
    have h1 : ¬ nI n ≤ nI i := nI_lt' (by omega) (by omega)
    have h2 : xin (nI i) n = true := by rw [xin_nI (by omega)]; simp; omega
    have h3 := nI_cl (n := i) (by omega)
    have ih := l187 X sh σ k n vs v hk hn d (i + 1) (by omega)
    rw [xV_d X 187 [5] 20]
    simp [xent, xsl, Value.category, xr_d, xr_0, xg_nx, xg_n, xg_o, xg_c, xth_s, xth_v, xth_ite, xth_n, xd_iconst, xd_bipush, xd_sipush, xd_lconst, xd_iload, xd_iload_n, xd_lload, xd_lload_n, xd_aload, xd_aload_n, xd_istore, xd_istore_n, xd_astore, xd_astore_n, xd_lstore, xd_lstore_n, xd_iadd, xd_isub, xd_imul, xd_iand, xd_ior, xd_ishl, xd_ishr, xd_ladd, xd_lsub, xd_lmul, xd_land, xd_lor, xd_idiv, xd_irem, xd_ldiv, xd_lrem, xd_ineg, xd_lneg, xd_lshl, xd_lshr, xd_lcmp, xd_i2l, xd_l2i, xd_dup_int, xd_dup_ref, xd_pop, xd_dup2, xd_goto, xd_ifC, xd_ifI, xd_getf, xd_putI, xd_putR, xd_iald, xd_ialdX, xd_bald, xd_iast, xd_bast, xd_aald, xd_aast, xd_alen, xd_alenX, xd_newI, xd_newZ, xd_newQ, xd_newO, xd_invS, xd_invV, xd_invI, xd_iret, xd_lret, xd_vret, xd_ldc, xd_ldc2, xd_iinc, xd_aret, xd_tsw, xd_lsw, xC_d, xld, xisI, xisL, xisA, xgo_ite, xjp, xcmp, xrt, xinv, xcall, xpop, xcat, xgf, xal, xas, xpf, xle, xaq, xbite, xbite2, xsto, xsto2, xst1, xst2, xkl, xtt, xnum, xi0, xzf, v3, List.getElem?_cons_zero, List.getElem?_cons_succ, List.set_cons_zero, List.set_cons_succ, d187_0, d187_1, d187_2, d187_3, d187_4, d187_5, d187_6, d187_7, d187_10, d187_11, d187_12, d187_13, d187_14, d187_17, d187_20, wo187, wm187, wr187, h1, h2, h3, hk, nI_1, xfil_s]
    exact ih

set_option maxRecDepth 100000 in
set_option maxHeartbeats 4000000 in
theorem k187 (X : xX) (sh : List (Nat × Nat × List Value)) (σ : Nat → Nat → Int32) (k n : Nat) (vs : List Value) (v : Int32) (hk : sh[k]? = some (0, n, vs)) (hn : n < 4000) : xK X 187 [.ref k, .int v] (sh, σ) = some (none, (sh, xfil σ k n v)) := by
  have h := l187 X sh σ k n vs v hk hn n 0 (by omega)
  rw [nI_0, xfil_0] at h
  rw [xK_d X 187 _ _ [5] 20]
  simp [xent, xsl, Value.category, xr_d, xr_0, xg_nx, xg_n, xg_o, xg_c, xth_s, xth_v, xth_ite, xth_n, xd_iconst, xd_bipush, xd_sipush, xd_lconst, xd_iload, xd_iload_n, xd_lload, xd_lload_n, xd_aload, xd_aload_n, xd_istore, xd_istore_n, xd_astore, xd_astore_n, xd_lstore, xd_lstore_n, xd_iadd, xd_isub, xd_imul, xd_iand, xd_ior, xd_ishl, xd_ishr, xd_ladd, xd_lsub, xd_lmul, xd_land, xd_lor, xd_idiv, xd_irem, xd_ldiv, xd_lrem, xd_ineg, xd_lneg, xd_lshl, xd_lshr, xd_lcmp, xd_i2l, xd_l2i, xd_dup_int, xd_dup_ref, xd_pop, xd_dup2, xd_goto, xd_ifC, xd_ifI, xd_getf, xd_putI, xd_putR, xd_iald, xd_ialdX, xd_bald, xd_iast, xd_bast, xd_aald, xd_aast, xd_alen, xd_alenX, xd_newI, xd_newZ, xd_newQ, xd_newO, xd_invS, xd_invV, xd_invI, xd_iret, xd_lret, xd_vret, xd_ldc, xd_ldc2, xd_iinc, xd_aret, xd_tsw, xd_lsw, xC_d, xld, xisI, xisL, xisA, xgo_ite, xjp, xcmp, xrt, xinv, xcall, xpop, xcat, xgf, xal, xas, xpf, xle, xaq, xbite, xbite2, xsto, xsto2, xst1, xst2, xkl, xtt, xnum, xi0, xzf, v3, List.getElem?_cons_zero, List.getElem?_cons_succ, List.set_cons_zero, List.set_cons_succ, d187_0, d187_1, d187_2, d187_3, d187_4, d187_5, d187_6, d187_7, d187_10, d187_11, d187_12, d187_13, d187_14, d187_17, d187_20, wo187, wm187, wr187, hk, nI_d]
  exact h

def uClr (A : Nat → Nat → Int32) : Nat → Nat → Int32 := xup (xup (xfil A 12 8 0) 7 5 0) 7 6 0
theorem xput_fil {w : Nat} {σ : Nat → Nat → Int32} {c : Nat} {A : Nat → Nat → Int32} {k n : Nat} {v : Int32} (h : k < w) : xfil (xput w σ c A) (c + k) n v = xput w σ c (xfil A k n v) := by
  funext a b
  unfold xfil xput
  by_cases h1 : c ≤ a ∧ a < c + w
  · rw [if_pos h1, if_pos h1]
    dsimp only
    by_cases h2 : a = c + k ∧ b < n
    · rw [if_pos h2, if_pos (by omega)]
    · rw [if_neg h2, if_neg (by omega)]
  · rw [if_neg h1, if_neg (by omega), if_neg h1]
set_option maxRecDepth 100000 in
set_option maxHeartbeats 4000000 in
theorem k48 (X : xX) (sh : List (Nat × Nat × List Value)) (σ A : Nat → Nat → Int32) (c : Nat) (hc : xcup sh c)  : xK X 48 [.ref (c + 7)] (sh, xput 14 σ c A) = some (none, (sh, xput 14 σ c (uClr A))) := by
  have hC := hc
  obtain ⟨h0, h1, h2, h3, h4, h5, h6, h7, h8, h9, h10, h11, h12, h13⟩ := hc
  have e187 := k187 X sh (xput 14 σ c A) (c + 12) 8 [] 0 h12 (by omega)
  rw [xput_fil (by omega)] at e187
  rw [xK_d X 48 _ _ [] 90]; simp [xent, xsl, Value.category, xr_d, xr_0, xg_nx, xg_n, xg_o, xg_c, xth_s, xth_v, xth_ite, xth_n, xd_iconst, xd_bipush, xd_sipush, xd_lconst, xd_iload, xd_iload_n, xd_lload, xd_lload_n, xd_aload, xd_aload_n, xd_istore, xd_istore_n, xd_astore, xd_astore_n, xd_lstore, xd_lstore_n, xd_iadd, xd_isub, xd_imul, xd_iand, xd_ior, xd_ishl, xd_ishr, xd_ladd, xd_lsub, xd_lmul, xd_land, xd_lor, xd_idiv, xd_irem, xd_ldiv, xd_lrem, xd_ineg, xd_lneg, xd_lshl, xd_lshr, xd_lcmp, xd_i2l, xd_l2i, xd_dup_int, xd_dup_ref, xd_pop, xd_dup2, xd_goto, xd_ifC, xd_ifI, xd_getf, xd_putI, xd_putR, xd_iald, xd_ialdX, xd_bald, xd_iast, xd_bast, xd_aald, xd_aast, xd_alen, xd_alenX, xd_newI, xd_newZ, xd_newQ, xd_newO, xd_invS, xd_invV, xd_invI, xd_iret, xd_lret, xd_vret, xd_ldc, xd_ldc2, xd_iinc, xd_aret, xd_tsw, xd_lsw, xC_d, xld, xisI, xisL, xisA, xgo_ite, xjp, xcmp, xrt, xinv, xcall, xpop, xcat, xgf, xal, xas, xpf, xle, xaq, xbite, xbite2, xsto, xsto2, xst1, xst2, xkl, xtt, xnum, xi0, xzf, v3, List.getElem?_cons_zero, List.getElem?_cons_succ, List.set_cons_zero, List.set_cons_succ, d48_0, d48_1, d48_4, d48_5, d48_8, d48_9, d48_10, d48_13, d48_14, d48_15, d48_18, wo48, wm48, wr48, f3_24, f3_27, f3_31, m3_40, r48_187, wm187, hC, h0, h1, h2, h3, h4, h5, h6, h7, h8, h9, h10, h11, h12, h13, xput_at, xput_at0, xput_up, xput_up0, e187, uClr]
def uE1 (A : Nat → Nat → Int32) (own x f : Int32) : Int32 := if (own = 0 ∨ uOwn A x = true) ∧ (f = -6 ∨ uSoon A x f = true) then x else f
def uE (A : Nat → Nat → Int32) (own : Int32) : Nat → Int32
  | 0 => -6
  | k + 1 => uE1 A own (nI k) (uE A own k)
set_option maxRecDepth 100000 in
set_option maxHeartbeats 4000000 in
theorem i52 (X : xX) (sh : List (Nat × Nat × List Value)) (σ A : Nat → Nat → Int32) (c : Nat) (hc : xcup sh c) (own f : Int32) (i n : Nat) (hn : A 7 5 = nI n) (hn32 : n ≤ 32) (hi : i < n) : xV X 52 (5, [.ref (c + 7), .int own, .int f, .int (nI i)], [], (sh, xput 14 σ c A)) = xV X 52 (5, [.ref (c + 7), .int own, .int (uE1 A own (nI i) f), .int (nI (i + 1))], [], (sh, xput 14 σ c A)) := by
  have hC := hc
  obtain ⟨h0, h1, h2, h3, h4, h5, h6, h7, h8, h9, h10, h11, h12, h13⟩ := hc
  have g1 : ¬ nI n ≤ nI i := nI_lt' hi (by omega)
  rw [xV_d X 52 [5] 40]
  simp [xent, xsl, Value.category, xr_d, xr_0, xg_nx, xg_n, xg_o, xg_c, xth_s, xth_v, xth_ite, xth_n, xd_iconst, xd_bipush, xd_sipush, xd_lconst, xd_iload, xd_iload_n, xd_lload, xd_lload_n, xd_aload, xd_aload_n, xd_istore, xd_istore_n, xd_astore, xd_astore_n, xd_lstore, xd_lstore_n, xd_iadd, xd_isub, xd_imul, xd_iand, xd_ior, xd_ishl, xd_ishr, xd_ladd, xd_lsub, xd_lmul, xd_land, xd_lor, xd_idiv, xd_irem, xd_ldiv, xd_lrem, xd_ineg, xd_lneg, xd_lshl, xd_lshr, xd_lcmp, xd_i2l, xd_l2i, xd_dup_int, xd_dup_ref, xd_pop, xd_dup2, xd_goto, xd_ifC, xd_ifI, xd_getf, xd_putI, xd_putR, xd_iald, xd_ialdX, xd_bald, xd_iast, xd_bast, xd_aald, xd_aast, xd_alen, xd_alenX, xd_newI, xd_newZ, xd_newQ, xd_newO, xd_invS, xd_invV, xd_invI, xd_iret, xd_lret, xd_vret, xd_ldc, xd_ldc2, xd_iinc, xd_aret, xd_tsw, xd_lsw, xC_d, xld, xisI, xisL, xisA, xgo_ite, xjp, xcmp, xrt, xinv, xcall, xpop, xcat, xgf, xal, xas, xpf, xle, xaq, xbite, xbite2, xsto, xsto2, xst1, xst2, xkl, xtt, xnum, xi0, xzf, v3, List.getElem?_cons_zero, List.getElem?_cons_succ, List.set_cons_zero, List.set_cons_succ, d52_0, d52_2, d52_3, d52_4, d52_5, d52_6, d52_7, d52_10, d52_13, d52_14, d52_17, d52_18, d52_19, d52_22, d52_25, d52_26, d52_28, d52_31, d52_32, d52_33, d52_34, d52_37, d52_40, d52_41, d52_42, d52_45, d52_48, d52_49, wo52, wm52, wr52, f3_27, m3_57, m3_60, r52_53, r52_56, wm53, wm56, wo53, wo56, b8_m6, hC, h0, h1, h2, h3, h4, h5, h6, h7, h8, h9, h10, h11, h12, h13, xput_at, xput_at0, xput_up, xput_up0, g1, hn, k53, k56, nI_1, uE1]
  clear hC h0 h1 h2 h3 h4 h5 h6 h7 h8 h9 h10 h11 h12 h13
  repeat' split
  all_goals simp_all
set_option maxRecDepth 100000 in
set_option maxHeartbeats 4000000 in
theorem x52 (X : xX) (sh : List (Nat × Nat × List Value)) (σ A : Nat → Nat → Int32) (c : Nat) (hc : xcup sh c) (own f : Int32) (n : Nat) (hn : A 7 5 = nI n) (hn32 : n ≤ 32) : xV X 52 (5, [.ref (c + 7), .int own, .int f, .int (nI n)], [], (sh, xput 14 σ c A)) = some (some (.int f), (sh, xput 14 σ c A)) := by
  have hC := hc
  obtain ⟨h0, h1, h2, h3, h4, h5, h6, h7, h8, h9, h10, h11, h12, h13⟩ := hc
  have g1 : nI n ≤ nI n := nI_le' (by omega) (by omega)
  rw [xV_d X 52 [5] 40]
  simp [xent, xsl, Value.category, xr_d, xr_0, xg_nx, xg_n, xg_o, xg_c, xth_s, xth_v, xth_ite, xth_n, xd_iconst, xd_bipush, xd_sipush, xd_lconst, xd_iload, xd_iload_n, xd_lload, xd_lload_n, xd_aload, xd_aload_n, xd_istore, xd_istore_n, xd_astore, xd_astore_n, xd_lstore, xd_lstore_n, xd_iadd, xd_isub, xd_imul, xd_iand, xd_ior, xd_ishl, xd_ishr, xd_ladd, xd_lsub, xd_lmul, xd_land, xd_lor, xd_idiv, xd_irem, xd_ldiv, xd_lrem, xd_ineg, xd_lneg, xd_lshl, xd_lshr, xd_lcmp, xd_i2l, xd_l2i, xd_dup_int, xd_dup_ref, xd_pop, xd_dup2, xd_goto, xd_ifC, xd_ifI, xd_getf, xd_putI, xd_putR, xd_iald, xd_ialdX, xd_bald, xd_iast, xd_bast, xd_aald, xd_aast, xd_alen, xd_alenX, xd_newI, xd_newZ, xd_newQ, xd_newO, xd_invS, xd_invV, xd_invI, xd_iret, xd_lret, xd_vret, xd_ldc, xd_ldc2, xd_iinc, xd_aret, xd_tsw, xd_lsw, xC_d, xld, xisI, xisL, xisA, xgo_ite, xjp, xcmp, xrt, xinv, xcall, xpop, xcat, xgf, xal, xas, xpf, xle, xaq, xbite, xbite2, xsto, xsto2, xst1, xst2, xkl, xtt, xnum, xi0, xzf, v3, List.getElem?_cons_zero, List.getElem?_cons_succ, List.set_cons_zero, List.set_cons_succ, d52_0, d52_2, d52_3, d52_4, d52_5, d52_6, d52_7, d52_10, d52_13, d52_14, d52_17, d52_18, d52_19, d52_22, d52_25, d52_26, d52_28, d52_31, d52_32, d52_33, d52_34, d52_37, d52_40, d52_41, d52_42, d52_45, d52_48, d52_49, wo52, wm52, wr52, f3_27, m3_57, m3_60, r52_53, r52_56, wm53, wm56, wo53, wo56, b8_m6, hC, h0, h1, h2, h3, h4, h5, h6, h7, h8, h9, h10, h11, h12, h13, xput_at, xput_at0, xput_up, xput_up0, g1, hn]

theorem l52 (X : xX) (sh : List (Nat × Nat × List Value)) (σ A : Nat → Nat → Int32) (c : Nat) (hc : xcup sh c) (own : Int32) (n : Nat) (hn : A 7 5 = nI n) (hn32 : n ≤ 32) : ∀ d i, i + d = n → xV X 52 (5, [.ref (c + 7), .int own, .int (uE A own i), .int (nI i)], [], (sh, xput 14 σ c A)) = some (some (.int (uE A own n)), (sh, xput 14 σ c A))
  | 0, i, h => by
    have e : i = n := by omega
    subst e
    exact x52 X sh σ A c hc own _ i hn hn32
  | d + 1, i, h => by
    rw [i52 X sh σ A c hc own _ i n hn hn32 (by omega)]
    exact l52 X sh σ A c hc own n hn hn32 d (i + 1) (by omega)
set_option maxRecDepth 100000 in
set_option maxHeartbeats 4000000 in
theorem k52 (X : xX) (sh : List (Nat × Nat × List Value)) (σ A : Nat → Nat → Int32) (c : Nat) (hc : xcup sh c) (own : Int32) (n : Nat) (hn : A 7 5 = nI n) (hn32 : n ≤ 32) : xK X 52 [.ref (c + 7), .int own] (sh, xput 14 σ c A) = some (some (.int (uE A own n)), (sh, xput 14 σ c A)) := by
  have hC := hc
  obtain ⟨h0, h1, h2, h3, h4, h5, h6, h7, h8, h9, h10, h11, h12, h13⟩ := hc
  rw [xK_d X 52 _ _ [5] 20]
  simp [xent, xsl, Value.category, xr_d, xr_0, xg_nx, xg_n, xg_o, xg_c, xth_s, xth_v, xth_ite, xth_n, xd_iconst, xd_bipush, xd_sipush, xd_lconst, xd_iload, xd_iload_n, xd_lload, xd_lload_n, xd_aload, xd_aload_n, xd_istore, xd_istore_n, xd_astore, xd_astore_n, xd_lstore, xd_lstore_n, xd_iadd, xd_isub, xd_imul, xd_iand, xd_ior, xd_ishl, xd_ishr, xd_ladd, xd_lsub, xd_lmul, xd_land, xd_lor, xd_idiv, xd_irem, xd_ldiv, xd_lrem, xd_ineg, xd_lneg, xd_lshl, xd_lshr, xd_lcmp, xd_i2l, xd_l2i, xd_dup_int, xd_dup_ref, xd_pop, xd_dup2, xd_goto, xd_ifC, xd_ifI, xd_getf, xd_putI, xd_putR, xd_iald, xd_ialdX, xd_bald, xd_iast, xd_bast, xd_aald, xd_aast, xd_alen, xd_alenX, xd_newI, xd_newZ, xd_newQ, xd_newO, xd_invS, xd_invV, xd_invI, xd_iret, xd_lret, xd_vret, xd_ldc, xd_ldc2, xd_iinc, xd_aret, xd_tsw, xd_lsw, xC_d, xld, xisI, xisL, xisA, xgo_ite, xjp, xcmp, xrt, xinv, xcall, xpop, xcat, xgf, xal, xas, xpf, xle, xaq, xbite, xbite2, xsto, xsto2, xst1, xst2, xkl, xtt, xnum, xi0, xzf, v3, List.getElem?_cons_zero, List.getElem?_cons_succ, List.set_cons_zero, List.set_cons_succ, d52_0, d52_2, d52_3, d52_4, d52_5, d52_6, d52_7, d52_10, d52_13, d52_14, d52_17, d52_18, d52_19, d52_22, d52_25, d52_26, d52_28, d52_31, d52_32, d52_33, d52_34, d52_37, d52_40, d52_41, d52_42, d52_45, d52_48, d52_49, wo52, wm52, wr52, f3_27, m3_57, m3_60, r52_53, r52_56, wm53, wm56, wo53, wo56, b8_m6, hC, h0, h1, h2, h3, h4, h5, h6, h7, h8, h9, h10, h11, h12, h13, xput_at, xput_at0, xput_up, xput_up0]
  have h := l52 X sh σ A c hC own n hn hn32 n 0 (by omega)
  rw [nI_0] at h
  exact h
def uSh (A : Nat → Nat → Int32) (k : Nat) : Nat → Nat → Int32 := xup (xup (xup (xup A 8 k (A 8 (k + 1))) 9 k (A 9 (k + 1))) 10 k (A 10 (k + 1))) 11 k (A 11 (k + 1))
def uShs (A : Nat → Nat → Int32) (k : Nat) : Nat → Nat → Nat → Int32
  | 0 => A
  | d + 1 => uShs (uSh A k) (k + 1) d
theorem uSh_7 (A : Nat → Nat → Int32) (k b : Nat) : uSh A k 7 b = A 7 b := by simp [uSh, xup]
theorem uShs_7 : ∀ (d k : Nat) (A : Nat → Nat → Int32) (b : Nat), uShs A k d 7 b = A 7 b
  | 0, _, _, _ => rfl
  | d + 1, k, A, b => by rw [uShs, uShs_7 d, uSh_7]
def uRem (A : Nat → Nat → Int32) (k n : Nat) : Nat → Nat → Int32 := xup (uShs A k (n - 1 - k)) 7 5 (A 7 5 - 1)
set_option maxRecDepth 100000 in
set_option maxHeartbeats 4000000 in
theorem i59 (X : xX) (sh : List (Nat × Nat × List Value)) (σ A : Nat → Nat → Int32) (c : Nat) (hc : xcup sh c) (i0 : Int32) (k n : Nat) (hn : A 7 5 = nI n) (hn32 : n ≤ 32) (hk : k + 1 < n) : xV X 59 (11, [.ref (c + 7), .int i0, .int (nI k)], [], (sh, xput 14 σ c A)) = xV X 59 (11, [.ref (c + 7), .int i0, .int (nI (k + 1))], [], (sh, xput 14 σ c (uSh A k))) := by
  have hC := hc
  obtain ⟨h0, h1, h2, h3, h4, h5, h6, h7, h8, h9, h10, h11, h12, h13⟩ := hc
  have g1 : ¬ nI n ≤ nI (k + 1) := nI_lt' hk (by omega)
  have g2 : xin (nI k) 32 = true := by rw [xin_nI (by omega)]; simp; omega
  have g3 : xin (nI (k + 1)) 32 = true := by rw [xin_nI (by omega)]; simp; omega
  have g4 := nI_cl (n := k) (by omega)
  have g5 := nI_cl (n := k + 1) (by omega)
  rw [xV_d X 59 [11] 80]
  simp [xent, xsl, Value.category, xr_d, xr_0, xg_nx, xg_n, xg_o, xg_c, xth_s, xth_v, xth_ite, xth_n, xd_iconst, xd_bipush, xd_sipush, xd_lconst, xd_iload, xd_iload_n, xd_lload, xd_lload_n, xd_aload, xd_aload_n, xd_istore, xd_istore_n, xd_astore, xd_astore_n, xd_lstore, xd_lstore_n, xd_iadd, xd_isub, xd_imul, xd_iand, xd_ior, xd_ishl, xd_ishr, xd_ladd, xd_lsub, xd_lmul, xd_land, xd_lor, xd_idiv, xd_irem, xd_ldiv, xd_lrem, xd_ineg, xd_lneg, xd_lshl, xd_lshr, xd_lcmp, xd_i2l, xd_l2i, xd_dup_int, xd_dup_ref, xd_pop, xd_dup2, xd_goto, xd_ifC, xd_ifI, xd_getf, xd_putI, xd_putR, xd_iald, xd_ialdX, xd_bald, xd_iast, xd_bast, xd_aald, xd_aast, xd_alen, xd_alenX, xd_newI, xd_newZ, xd_newQ, xd_newO, xd_invS, xd_invV, xd_invI, xd_iret, xd_lret, xd_vret, xd_ldc, xd_ldc2, xd_iinc, xd_aret, xd_tsw, xd_lsw, xC_d, xld, xisI, xisL, xisA, xgo_ite, xjp, xcmp, xrt, xinv, xcall, xpop, xcat, xgf, xal, xas, xpf, xle, xaq, xbite, xbite2, xsto, xsto2, xst1, xst2, xkl, xtt, xnum, xi0, xzf, v3, List.getElem?_cons_zero, List.getElem?_cons_succ, List.set_cons_zero, List.set_cons_succ, d59_0, d59_1, d59_2, d59_5, d59_8, d59_9, d59_10, d59_11, d59_12, d59_13, d59_14, d59_15, d59_18, d59_21, d59_22, d59_25, d59_26, d59_27, d59_30, d59_31, d59_32, d59_33, d59_34, d59_35, d59_36, d59_39, d59_40, d59_41, d59_44, d59_45, d59_46, d59_47, d59_48, d59_49, d59_50, d59_53, d59_54, d59_55, d59_58, d59_59, d59_60, d59_61, d59_62, d59_63, d59_64, d59_67, d59_68, d59_69, d59_72, d59_73, d59_74, d59_75, d59_76, d59_77, d59_80, d59_83, d59_84, d59_85, d59_88, d59_89, d59_90, d59_93, wo59, wm59, wr59, f3_11, f3_15, f3_18, f3_21, f3_27, m3_50, r59_55, wm55, wo55, hC, h0, h1, h2, h3, h4, h5, h6, h7, h8, h9, h10, h11, h12, h13, xput_at, xput_at0, xput_up, xput_up0, g1, g2, g3, g4, g5, hn, nI_1, uSh, xup]

set_option maxRecDepth 100000 in
set_option maxHeartbeats 4000000 in
theorem x59 (X : xX) (sh : List (Nat × Nat × List Value)) (σ A : Nat → Nat → Int32) (c : Nat) (hc : xcup sh c) (i0 : Int32) (k n : Nat) (hn : A 7 5 = nI n) (hn32 : n ≤ 32) (hk : ¬ k + 1 < n) (hk2 : k < 32) : xV X 59 (11, [.ref (c + 7), .int i0, .int (nI k)], [], (sh, xput 14 σ c A)) = some (none, (sh, xput 14 σ c (xup A 7 5 (A 7 5 - 1)))) := by
  have hC := hc
  obtain ⟨h0, h1, h2, h3, h4, h5, h6, h7, h8, h9, h10, h11, h12, h13⟩ := hc
  have g1 : nI n ≤ nI (k + 1) := nI_le' (by omega) (by omega)
  rw [xV_d X 59 [11] 80]
  simp [xent, xsl, Value.category, xr_d, xr_0, xg_nx, xg_n, xg_o, xg_c, xth_s, xth_v, xth_ite, xth_n, xd_iconst, xd_bipush, xd_sipush, xd_lconst, xd_iload, xd_iload_n, xd_lload, xd_lload_n, xd_aload, xd_aload_n, xd_istore, xd_istore_n, xd_astore, xd_astore_n, xd_lstore, xd_lstore_n, xd_iadd, xd_isub, xd_imul, xd_iand, xd_ior, xd_ishl, xd_ishr, xd_ladd, xd_lsub, xd_lmul, xd_land, xd_lor, xd_idiv, xd_irem, xd_ldiv, xd_lrem, xd_ineg, xd_lneg, xd_lshl, xd_lshr, xd_lcmp, xd_i2l, xd_l2i, xd_dup_int, xd_dup_ref, xd_pop, xd_dup2, xd_goto, xd_ifC, xd_ifI, xd_getf, xd_putI, xd_putR, xd_iald, xd_ialdX, xd_bald, xd_iast, xd_bast, xd_aald, xd_aast, xd_alen, xd_alenX, xd_newI, xd_newZ, xd_newQ, xd_newO, xd_invS, xd_invV, xd_invI, xd_iret, xd_lret, xd_vret, xd_ldc, xd_ldc2, xd_iinc, xd_aret, xd_tsw, xd_lsw, xC_d, xld, xisI, xisL, xisA, xgo_ite, xjp, xcmp, xrt, xinv, xcall, xpop, xcat, xgf, xal, xas, xpf, xle, xaq, xbite, xbite2, xsto, xsto2, xst1, xst2, xkl, xtt, xnum, xi0, xzf, v3, List.getElem?_cons_zero, List.getElem?_cons_succ, List.set_cons_zero, List.set_cons_succ, d59_0, d59_1, d59_2, d59_5, d59_8, d59_9, d59_10, d59_11, d59_12, d59_13, d59_14, d59_15, d59_18, d59_21, d59_22, d59_25, d59_26, d59_27, d59_30, d59_31, d59_32, d59_33, d59_34, d59_35, d59_36, d59_39, d59_40, d59_41, d59_44, d59_45, d59_46, d59_47, d59_48, d59_49, d59_50, d59_53, d59_54, d59_55, d59_58, d59_59, d59_60, d59_61, d59_62, d59_63, d59_64, d59_67, d59_68, d59_69, d59_72, d59_73, d59_74, d59_75, d59_76, d59_77, d59_80, d59_83, d59_84, d59_85, d59_88, d59_89, d59_90, d59_93, wo59, wm59, wr59, f3_11, f3_15, f3_18, f3_21, f3_27, m3_50, r59_55, wm55, wo55, hC, h0, h1, h2, h3, h4, h5, h6, h7, h8, h9, h10, h11, h12, h13, xput_at, xput_at0, xput_up, xput_up0, g1, hn, nI_1]

theorem l59 (X : xX) (sh : List (Nat × Nat × List Value)) (σ : Nat → Nat → Int32) (c : Nat) (hc : xcup sh c) (i0 : Int32) (n : Nat) (hn32 : n ≤ 32) : ∀ (d k : Nat) (A : Nat → Nat → Int32), A 7 5 = nI n → k + 1 + d = n → xV X 59 (11, [.ref (c + 7), .int i0, .int (nI k)], [], (sh, xput 14 σ c A)) = some (none, (sh, xput 14 σ c (xup (uShs A k d) 7 5 (A 7 5 - 1))))
  | 0, k, A, hn, h => x59 X sh σ A c hc i0 k n hn hn32 (by omega) (by omega)
  | d + 1, k, A, hn, h => by
    rw [i59 X sh σ A c hc i0 k n hn hn32 (by omega), l59 X sh σ c hc i0 n hn32 d (k + 1) (uSh A k) (by rw [uSh_7]; exact hn) (by omega), uSh_7]
    rfl
set_option maxRecDepth 100000 in
set_option maxHeartbeats 4000000 in
theorem k59 (X : xX) (sh : List (Nat × Nat × List Value)) (σ A : Nat → Nat → Int32) (c : Nat) (hc : xcup sh c) (k n : Nat) (hn : A 7 5 = nI n) (hn32 : n ≤ 32) (hk : k < n) : xK X 59 [.ref (c + 7), .int (nI k)] (sh, xput 14 σ c A) = some (none, (sh, xput 14 σ c (uRem A k n))) := by
  have hC := hc
  obtain ⟨h0, h1, h2, h3, h4, h5, h6, h7, h8, h9, h10, h11, h12, h13⟩ := hc
  have g0 : uHere A (nI k) = true := by
    simp only [uHere, hn, Bool.and_eq_true, decide_eq_true_eq]
    exact ⟨⟨nI_pos' (by omega), nI_lt hk (by omega)⟩, nI_lt (a := k) (b := 32) (by omega) (by omega)⟩
  have h := l59 X sh σ c hC (nI k) n hn32 (n - 1 - k) k A hn (by omega)
  rw [xK_d X 59 _ _ [11] 30]; simp [xent, xsl, Value.category, xr_d, xr_0, xg_nx, xg_n, xg_o, xg_c, xth_s, xth_v, xth_ite, xth_n, xd_iconst, xd_bipush, xd_sipush, xd_lconst, xd_iload, xd_iload_n, xd_lload, xd_lload_n, xd_aload, xd_aload_n, xd_istore, xd_istore_n, xd_astore, xd_astore_n, xd_lstore, xd_lstore_n, xd_iadd, xd_isub, xd_imul, xd_iand, xd_ior, xd_ishl, xd_ishr, xd_ladd, xd_lsub, xd_lmul, xd_land, xd_lor, xd_idiv, xd_irem, xd_ldiv, xd_lrem, xd_ineg, xd_lneg, xd_lshl, xd_lshr, xd_lcmp, xd_i2l, xd_l2i, xd_dup_int, xd_dup_ref, xd_pop, xd_dup2, xd_goto, xd_ifC, xd_ifI, xd_getf, xd_putI, xd_putR, xd_iald, xd_ialdX, xd_bald, xd_iast, xd_bast, xd_aald, xd_aast, xd_alen, xd_alenX, xd_newI, xd_newZ, xd_newQ, xd_newO, xd_invS, xd_invV, xd_invI, xd_iret, xd_lret, xd_vret, xd_ldc, xd_ldc2, xd_iinc, xd_aret, xd_tsw, xd_lsw, xC_d, xld, xisI, xisL, xisA, xgo_ite, xjp, xcmp, xrt, xinv, xcall, xpop, xcat, xgf, xal, xas, xpf, xle, xaq, xbite, xbite2, xsto, xsto2, xst1, xst2, xkl, xtt, xnum, xi0, xzf, v3, List.getElem?_cons_zero, List.getElem?_cons_succ, List.set_cons_zero, List.set_cons_succ, d59_0, d59_1, d59_2, d59_5, d59_8, d59_9, d59_10, d59_11, d59_12, d59_13, d59_14, d59_15, d59_18, d59_21, d59_22, d59_25, d59_26, d59_27, d59_30, d59_31, d59_32, d59_33, d59_34, d59_35, d59_36, d59_39, d59_40, d59_41, d59_44, d59_45, d59_46, d59_47, d59_48, d59_49, d59_50, d59_53, d59_54, d59_55, d59_58, d59_59, d59_60, d59_61, d59_62, d59_63, d59_64, d59_67, d59_68, d59_69, d59_72, d59_73, d59_74, d59_75, d59_76, d59_77, d59_80, d59_83, d59_84, d59_85, d59_88, d59_89, d59_90, d59_93, wo59, wm59, wr59, f3_11, f3_15, f3_18, f3_21, f3_27, m3_50, r59_55, wm55, wo55, hC, h0, h1, h2, h3, h4, h5, h6, h7, h8, h9, h10, h11, h12, h13, xput_at, xput_at0, xput_up, xput_up0, k55, g0]
  exact h
end
section
def uW (A : Nat → Nat → Int32) (r : Nat) : Int32 := if A 5 r = 0 then -6 else nI r
def uWhoF (A : Nat → Nat → Int32) (p : Int32) : Nat → Nat → Int32
  | _, 0 => -6
  | r, d + 1 => if A 2 r = p then uW A r else uWhoF A p (r + 1) d
def uWho (A : Nat → Nat → Int32) (p : Int32) : Int32 := uWhoF A p 0 8
set_option maxRecDepth 100000 in
set_option maxHeartbeats 4000000 in
theorem i6 (X : xX) (sh : List (Nat × Nat × List Value)) (σ A : Nat → Nat → Int32) (c : Nat) (hc : xcup sh c) (p : Int32) (r : Nat) (hr : r < 8) : xV X 6 (2, [.ref c, .int p, .int (nI r)], [], (sh, xput 14 σ c A)) = if A 2 r = p then some (some (.int (uW A r)), (sh, xput 14 σ c A)) else xV X 6 (2, [.ref c, .int p, .int (nI (r + 1))], [], (sh, xput 14 σ c A)) := by
  have hC := hc
  obtain ⟨h0, h1, h2, h3, h4, h5, h6, h7, h8, h9, h10, h11, h12, h13⟩ := hc
  have g1 : ¬ 8 ≤ nI r := nI_lt' (a := r) (b := 8) hr (by omega)
  have g2 : xin (nI r) 8 = true := by rw [xin_nI (by omega)]; simp; omega
  have g4 := nI_cl (n := r) (by omega)
  rw [xV_d X 6 [2] 40]
  simp [xent, xsl, Value.category, xr_d, xr_0, xg_nx, xg_n, xg_o, xg_c, xth_s, xth_v, xth_ite, xth_n, xd_iconst, xd_bipush, xd_sipush, xd_lconst, xd_iload, xd_iload_n, xd_lload, xd_lload_n, xd_aload, xd_aload_n, xd_istore, xd_istore_n, xd_astore, xd_astore_n, xd_lstore, xd_lstore_n, xd_iadd, xd_isub, xd_imul, xd_iand, xd_ior, xd_ishl, xd_ishr, xd_ladd, xd_lsub, xd_lmul, xd_land, xd_lor, xd_idiv, xd_irem, xd_ldiv, xd_lrem, xd_ineg, xd_lneg, xd_lshl, xd_lshr, xd_lcmp, xd_i2l, xd_l2i, xd_dup_int, xd_dup_ref, xd_pop, xd_dup2, xd_goto, xd_ifC, xd_ifI, xd_getf, xd_putI, xd_putR, xd_iald, xd_ialdX, xd_bald, xd_iast, xd_bast, xd_aald, xd_aast, xd_alen, xd_alenX, xd_newI, xd_newZ, xd_newQ, xd_newO, xd_invS, xd_invV, xd_invI, xd_iret, xd_lret, xd_vret, xd_ldc, xd_ldc2, xd_iinc, xd_aret, xd_tsw, xd_lsw, xC_d, xld, xisI, xisL, xisA, xgo_ite, xjp, xcmp, xrt, xinv, xcall, xpop, xcat, xgf, xal, xas, xpf, xle, xaq, xbite, xbite2, xsto, xsto2, xst1, xst2, xkl, xtt, xnum, xi0, xzf, v3, List.getElem?_cons_zero, List.getElem?_cons_succ, List.set_cons_zero, List.set_cons_succ, d6_0, d6_1, d6_2, d6_3, d6_5, d6_8, d6_9, d6_12, d6_13, d6_14, d6_15, d6_18, d6_19, d6_22, d6_23, d6_24, d6_27, d6_28, d6_31, d6_33, d6_34, d6_37, d6_40, d6_42, wo6, wm6, wr6, f0_15, f0_24, b8_8, b8_m6, hC, h0, h1, h2, h3, h4, h5, h6, h7, h8, h9, h10, h11, h12, h13, xput_at, xput_at0, xput_up, xput_up0, g1, g2, g4, nI_1, uW]
  clear hC h0 h1 h2 h3 h4 h5 h6 h7 h8 h9 h10 h11 h12 h13
  repeat' split
  all_goals simp_all
set_option maxRecDepth 100000 in
set_option maxHeartbeats 4000000 in
theorem x6 (X : xX) (sh : List (Nat × Nat × List Value)) (σ A : Nat → Nat → Int32) (c : Nat) (hc : xcup sh c) (p : Int32) : xV X 6 (2, [.ref c, .int p, .int (nI 8)], [], (sh, xput 14 σ c A)) = some (some (.int (-6)), (sh, xput 14 σ c A)) := by
  have hC := hc
  obtain ⟨h0, h1, h2, h3, h4, h5, h6, h7, h8, h9, h10, h11, h12, h13⟩ := hc
  have g1 : 8 ≤ nI 8 := nI_le' (a := 8) (b := 8) (by omega) (by omega)
  rw [xV_d X 6 [2] 40]
  simp [xent, xsl, Value.category, xr_d, xr_0, xg_nx, xg_n, xg_o, xg_c, xth_s, xth_v, xth_ite, xth_n, xd_iconst, xd_bipush, xd_sipush, xd_lconst, xd_iload, xd_iload_n, xd_lload, xd_lload_n, xd_aload, xd_aload_n, xd_istore, xd_istore_n, xd_astore, xd_astore_n, xd_lstore, xd_lstore_n, xd_iadd, xd_isub, xd_imul, xd_iand, xd_ior, xd_ishl, xd_ishr, xd_ladd, xd_lsub, xd_lmul, xd_land, xd_lor, xd_idiv, xd_irem, xd_ldiv, xd_lrem, xd_ineg, xd_lneg, xd_lshl, xd_lshr, xd_lcmp, xd_i2l, xd_l2i, xd_dup_int, xd_dup_ref, xd_pop, xd_dup2, xd_goto, xd_ifC, xd_ifI, xd_getf, xd_putI, xd_putR, xd_iald, xd_ialdX, xd_bald, xd_iast, xd_bast, xd_aald, xd_aast, xd_alen, xd_alenX, xd_newI, xd_newZ, xd_newQ, xd_newO, xd_invS, xd_invV, xd_invI, xd_iret, xd_lret, xd_vret, xd_ldc, xd_ldc2, xd_iinc, xd_aret, xd_tsw, xd_lsw, xC_d, xld, xisI, xisL, xisA, xgo_ite, xjp, xcmp, xrt, xinv, xcall, xpop, xcat, xgf, xal, xas, xpf, xle, xaq, xbite, xbite2, xsto, xsto2, xst1, xst2, xkl, xtt, xnum, xi0, xzf, v3, List.getElem?_cons_zero, List.getElem?_cons_succ, List.set_cons_zero, List.set_cons_succ, d6_0, d6_1, d6_2, d6_3, d6_5, d6_8, d6_9, d6_12, d6_13, d6_14, d6_15, d6_18, d6_19, d6_22, d6_23, d6_24, d6_27, d6_28, d6_31, d6_33, d6_34, d6_37, d6_40, d6_42, wo6, wm6, wr6, f0_15, f0_24, b8_8, b8_m6, hC, h0, h1, h2, h3, h4, h5, h6, h7, h8, h9, h10, h11, h12, h13, xput_at, xput_at0, xput_up, xput_up0, g1]

theorem l6 (X : xX) (sh : List (Nat × Nat × List Value)) (σ A : Nat → Nat → Int32) (c : Nat) (hc : xcup sh c) (p : Int32) : ∀ d r, r + d = 8 → xV X 6 (2, [.ref c, .int p, .int (nI r)], [], (sh, xput 14 σ c A)) = some (some (.int (uWhoF A p r d)), (sh, xput 14 σ c A))
  | 0, r, h => by
    have e : r = 8 := by omega
    subst e
    exact x6 X sh σ A c hc p
  | d + 1, r, h => by
    rw [i6 X sh σ A c hc p r (by omega), l6 X sh σ A c hc p d (r + 1) (by omega), uWhoF]
    by_cases h2 : A 2 r = p <;> simp [h2]
set_option maxRecDepth 100000 in
set_option maxHeartbeats 4000000 in
theorem k6 (X : xX) (sh : List (Nat × Nat × List Value)) (σ A : Nat → Nat → Int32) (c : Nat) (hc : xcup sh c) (p : Int32) : xK X 6 [.ref (c), .int p] (sh, xput 14 σ c A) = some (some (.int (uWho A p)), (sh, xput 14 σ c A)) := by
  have hC := hc
  obtain ⟨h0, h1, h2, h3, h4, h5, h6, h7, h8, h9, h10, h11, h12, h13⟩ := hc
  rw [xK_d X 6 _ _ [2] 10]
  simp [xent, xsl, Value.category, xr_d, xr_0, xg_nx, xg_n, xg_o, xg_c, xth_s, xth_v, xth_ite, xth_n, xd_iconst, xd_bipush, xd_sipush, xd_lconst, xd_iload, xd_iload_n, xd_lload, xd_lload_n, xd_aload, xd_aload_n, xd_istore, xd_istore_n, xd_astore, xd_astore_n, xd_lstore, xd_lstore_n, xd_iadd, xd_isub, xd_imul, xd_iand, xd_ior, xd_ishl, xd_ishr, xd_ladd, xd_lsub, xd_lmul, xd_land, xd_lor, xd_idiv, xd_irem, xd_ldiv, xd_lrem, xd_ineg, xd_lneg, xd_lshl, xd_lshr, xd_lcmp, xd_i2l, xd_l2i, xd_dup_int, xd_dup_ref, xd_pop, xd_dup2, xd_goto, xd_ifC, xd_ifI, xd_getf, xd_putI, xd_putR, xd_iald, xd_ialdX, xd_bald, xd_iast, xd_bast, xd_aald, xd_aast, xd_alen, xd_alenX, xd_newI, xd_newZ, xd_newQ, xd_newO, xd_invS, xd_invV, xd_invI, xd_iret, xd_lret, xd_vret, xd_ldc, xd_ldc2, xd_iinc, xd_aret, xd_tsw, xd_lsw, xC_d, xld, xisI, xisL, xisA, xgo_ite, xjp, xcmp, xrt, xinv, xcall, xpop, xcat, xgf, xal, xas, xpf, xle, xaq, xbite, xbite2, xsto, xsto2, xst1, xst2, xkl, xtt, xnum, xi0, xzf, v3, List.getElem?_cons_zero, List.getElem?_cons_succ, List.set_cons_zero, List.set_cons_succ, d6_0, d6_1, d6_2, d6_3, d6_5, d6_8, d6_9, d6_12, d6_13, d6_14, d6_15, d6_18, d6_19, d6_22, d6_23, d6_24, d6_27, d6_28, d6_31, d6_33, d6_34, d6_37, d6_40, d6_42, wo6, wm6, wr6, f0_15, f0_24, b8_8, b8_m6, hC, h0, h1, h2, h3, h4, h5, h6, h7, h8, h9, h10, h11, h12, h13, xput_at, xput_at0, xput_up, xput_up0]
  have h := l6 X sh σ A c hC p 8 0 (by omega)
  rw [nI_0] at h
  exact h
def uCom (A : Nat → Nat → Int32) (f : Int32) : Int32 := if 7 < f then uWho A (f - 7 - 1) else uBest A f
set_option maxRecDepth 100000 in
set_option maxHeartbeats 4000000 in
theorem k4 (X : xX) (sh : List (Nat × Nat × List Value)) (σ A : Nat → Nat → Int32) (c : Nat) (hc : xcup sh c) (f : Int32) : xK X 4 [.ref (c), .int f] (sh, xput 14 σ c A) = some (some (.int (uCom A f)), (sh, xput 14 σ c A)) := by
  have hC := hc
  obtain ⟨h0, h1, h2, h3, h4, h5, h6, h7, h8, h9, h10, h11, h12, h13⟩ := hc
  rw [xK_d X 4 _ _ [] 90]
  simp [xent, xsl, Value.category, xr_d, xr_0, xg_nx, xg_n, xg_o, xg_c, xth_s, xth_v, xth_ite, xth_n, xd_iconst, xd_bipush, xd_sipush, xd_lconst, xd_iload, xd_iload_n, xd_lload, xd_lload_n, xd_aload, xd_aload_n, xd_istore, xd_istore_n, xd_astore, xd_astore_n, xd_lstore, xd_lstore_n, xd_iadd, xd_isub, xd_imul, xd_iand, xd_ior, xd_ishl, xd_ishr, xd_ladd, xd_lsub, xd_lmul, xd_land, xd_lor, xd_idiv, xd_irem, xd_ldiv, xd_lrem, xd_ineg, xd_lneg, xd_lshl, xd_lshr, xd_lcmp, xd_i2l, xd_l2i, xd_dup_int, xd_dup_ref, xd_pop, xd_dup2, xd_goto, xd_ifC, xd_ifI, xd_getf, xd_putI, xd_putR, xd_iald, xd_ialdX, xd_bald, xd_iast, xd_bast, xd_aald, xd_aast, xd_alen, xd_alenX, xd_newI, xd_newZ, xd_newQ, xd_newO, xd_invS, xd_invV, xd_invI, xd_iret, xd_lret, xd_vret, xd_ldc, xd_ldc2, xd_iinc, xd_aret, xd_tsw, xd_lsw, xC_d, xld, xisI, xisL, xisA, xgo_ite, xjp, xcmp, xrt, xinv, xcall, xpop, xcat, xgf, xal, xas, xpf, xle, xaq, xbite, xbite2, xsto, xsto2, xst1, xst2, xkl, xtt, xnum, xi0, xzf, v3, List.getElem?_cons_zero, List.getElem?_cons_succ, List.set_cons_zero, List.set_cons_succ, d4_0, d4_1, d4_3, d4_6, d4_7, d4_8, d4_11, d4_14, d4_15, d4_16, d4_18, d4_19, d4_20, d4_21, d4_24, wo4, wm4, wr4, m0_145, m0_148, r4_5, r4_6, wm5, wm6, wo5, wo6, b8_7, hC, h0, h1, h2, h3, h4, h5, h6, h7, h8, h9, h10, h11, h12, h13, xput_at, xput_at0, xput_up, xput_up0, k5, k6]
  by_cases hf : 7 < f <;> simp [uCom, hf]
theorem uDis_3 (A : Nat → Nat → Int32) (m : Int32) (b : Nat) : uDis A m 3 b = A 3 b := by unfold uDis; split <;> simp [xup]
theorem uDis_4 (A : Nat → Nat → Int32) (m : Int32) (b : Nat) : uDis A m 4 b = A 4 b := by unfold uDis; split <;> simp [xup]
def uCert (A : Nat → Nat → Int32) (m w l : Int32) : Nat → Nat → Int32 := if xin w 8 = true ∧ xin l 8 = true ∧ A 4 w.toNatClampNeg < A 4 l.toNatClampNeg then uPut (uDis A m) m (A 3 w.toNatClampNeg - A 3 l.toNatClampNeg) (A 4 l.toNatClampNeg - A 4 w.toNatClampNeg) else uDis A m
set_option maxRecDepth 100000 in
set_option maxHeartbeats 4000000 in
theorem k8 (X : xX) (sh : List (Nat × Nat × List Value)) (σ A : Nat → Nat → Int32) (c : Nat) (hc : xcup sh c) (m w l : Int32) : xK X 8 [.ref (c), .int m, .int w, .int l] (sh, xput 14 σ c A) = some (none, (sh, xput 14 σ c (uCert A m w l))) := by
  have hC := hc
  obtain ⟨h0, h1, h2, h3, h4, h5, h6, h7, h8, h9, h10, h11, h12, h13⟩ := hc
  by_cases hw : xin w 8 = true
  · by_cases hl : xin l 8 = true
    · by_cases hs : A 4 w.toNatClampNeg < A 4 l.toNatClampNeg
      · have hs2 : ¬ A 4 l.toNatClampNeg ≤ A 4 w.toNatClampNeg := Int32.not_le.mpr hs
        have e : uCert A m w l = uPut (uDis A m) m (A 3 w.toNatClampNeg - A 3 l.toNatClampNeg) (A 4 l.toNatClampNeg - A 4 w.toNatClampNeg) := if_pos ⟨hw, hl, hs⟩
        rw [e]
        rw [xK_d X 8 _ _ [] 90]; simp [xent, xsl, Value.category, xr_d, xr_0, xg_nx, xg_n, xg_o, xg_c, xth_s, xth_v, xth_ite, xth_n, xd_iconst, xd_bipush, xd_sipush, xd_lconst, xd_iload, xd_iload_n, xd_lload, xd_lload_n, xd_aload, xd_aload_n, xd_istore, xd_istore_n, xd_astore, xd_astore_n, xd_lstore, xd_lstore_n, xd_iadd, xd_isub, xd_imul, xd_iand, xd_ior, xd_ishl, xd_ishr, xd_ladd, xd_lsub, xd_lmul, xd_land, xd_lor, xd_idiv, xd_irem, xd_ldiv, xd_lrem, xd_ineg, xd_lneg, xd_lshl, xd_lshr, xd_lcmp, xd_i2l, xd_l2i, xd_dup_int, xd_dup_ref, xd_pop, xd_dup2, xd_goto, xd_ifC, xd_ifI, xd_getf, xd_putI, xd_putR, xd_iald, xd_ialdX, xd_bald, xd_iast, xd_bast, xd_aald, xd_aast, xd_alen, xd_alenX, xd_newI, xd_newZ, xd_newQ, xd_newO, xd_invS, xd_invV, xd_invI, xd_iret, xd_lret, xd_vret, xd_ldc, xd_ldc2, xd_iinc, xd_aret, xd_tsw, xd_lsw, xC_d, xld, xisI, xisL, xisA, xgo_ite, xjp, xcmp, xrt, xinv, xcall, xpop, xcat, xgf, xal, xas, xpf, xle, xaq, xbite, xbite2, xsto, xsto2, xst1, xst2, xkl, xtt, xnum, xi0, xzf, v3, List.getElem?_cons_zero, List.getElem?_cons_succ, List.set_cons_zero, List.set_cons_succ, d8_0, d8_1, d8_4, d8_5, d8_8, d8_9, d8_12, d8_15, d8_16, d8_19, d8_22, d8_23, d8_26, d8_27, d8_28, d8_29, d8_32, d8_33, d8_34, d8_37, d8_38, d8_41, d8_42, d8_43, d8_46, d8_47, d8_48, d8_49, d8_52, d8_53, d8_54, d8_55, d8_56, d8_59, d8_60, d8_61, d8_62, d8_65, d8_66, d8_67, d8_68, d8_71, wo8, wm8, wr8, f0_18, f0_21, f0_34, m0_151, m0_154, m0_62, r8_49, r8_50, r8_88, wm49, wm50, wm88, wo49, wo50, hC, h0, h1, h2, h3, h4, h5, h6, h7, h8, h9, h10, h11, h12, h13, xput_at, xput_at0, xput_up, xput_up0, k49, k50, k88, uDis_3, uDis_4, hw, hl, hs2]
      · have hs2 : A 4 l.toNatClampNeg ≤ A 4 w.toNatClampNeg := Int32.not_lt.mp hs
        have e : uCert A m w l = uDis A m := if_neg (fun q => hs q.2.2)
        rw [e]
        rw [xK_d X 8 _ _ [] 90]; simp [xent, xsl, Value.category, xr_d, xr_0, xg_nx, xg_n, xg_o, xg_c, xth_s, xth_v, xth_ite, xth_n, xd_iconst, xd_bipush, xd_sipush, xd_lconst, xd_iload, xd_iload_n, xd_lload, xd_lload_n, xd_aload, xd_aload_n, xd_istore, xd_istore_n, xd_astore, xd_astore_n, xd_lstore, xd_lstore_n, xd_iadd, xd_isub, xd_imul, xd_iand, xd_ior, xd_ishl, xd_ishr, xd_ladd, xd_lsub, xd_lmul, xd_land, xd_lor, xd_idiv, xd_irem, xd_ldiv, xd_lrem, xd_ineg, xd_lneg, xd_lshl, xd_lshr, xd_lcmp, xd_i2l, xd_l2i, xd_dup_int, xd_dup_ref, xd_pop, xd_dup2, xd_goto, xd_ifC, xd_ifI, xd_getf, xd_putI, xd_putR, xd_iald, xd_ialdX, xd_bald, xd_iast, xd_bast, xd_aald, xd_aast, xd_alen, xd_alenX, xd_newI, xd_newZ, xd_newQ, xd_newO, xd_invS, xd_invV, xd_invI, xd_iret, xd_lret, xd_vret, xd_ldc, xd_ldc2, xd_iinc, xd_aret, xd_tsw, xd_lsw, xC_d, xld, xisI, xisL, xisA, xgo_ite, xjp, xcmp, xrt, xinv, xcall, xpop, xcat, xgf, xal, xas, xpf, xle, xaq, xbite, xbite2, xsto, xsto2, xst1, xst2, xkl, xtt, xnum, xi0, xzf, v3, List.getElem?_cons_zero, List.getElem?_cons_succ, List.set_cons_zero, List.set_cons_succ, d8_0, d8_1, d8_4, d8_5, d8_8, d8_9, d8_12, d8_15, d8_16, d8_19, d8_22, d8_23, d8_26, d8_27, d8_28, d8_29, d8_32, d8_33, d8_34, d8_37, d8_38, d8_41, d8_42, d8_43, d8_46, d8_47, d8_48, d8_49, d8_52, d8_53, d8_54, d8_55, d8_56, d8_59, d8_60, d8_61, d8_62, d8_65, d8_66, d8_67, d8_68, d8_71, wo8, wm8, wr8, f0_18, f0_21, f0_34, m0_151, m0_154, m0_62, r8_49, r8_50, r8_88, wm49, wm50, wm88, wo49, wo50, hC, h0, h1, h2, h3, h4, h5, h6, h7, h8, h9, h10, h11, h12, h13, xput_at, xput_at0, xput_up, xput_up0, k49, k50, k88, uDis_3, uDis_4, hw, hl, hs2]
    · have e : uCert A m w l = uDis A m := if_neg (fun q => hl q.2.1)
      rw [e]
      simp only [Bool.not_eq_true] at hl
      rw [xK_d X 8 _ _ [] 90]; simp [xent, xsl, Value.category, xr_d, xr_0, xg_nx, xg_n, xg_o, xg_c, xth_s, xth_v, xth_ite, xth_n, xd_iconst, xd_bipush, xd_sipush, xd_lconst, xd_iload, xd_iload_n, xd_lload, xd_lload_n, xd_aload, xd_aload_n, xd_istore, xd_istore_n, xd_astore, xd_astore_n, xd_lstore, xd_lstore_n, xd_iadd, xd_isub, xd_imul, xd_iand, xd_ior, xd_ishl, xd_ishr, xd_ladd, xd_lsub, xd_lmul, xd_land, xd_lor, xd_idiv, xd_irem, xd_ldiv, xd_lrem, xd_ineg, xd_lneg, xd_lshl, xd_lshr, xd_lcmp, xd_i2l, xd_l2i, xd_dup_int, xd_dup_ref, xd_pop, xd_dup2, xd_goto, xd_ifC, xd_ifI, xd_getf, xd_putI, xd_putR, xd_iald, xd_ialdX, xd_bald, xd_iast, xd_bast, xd_aald, xd_aast, xd_alen, xd_alenX, xd_newI, xd_newZ, xd_newQ, xd_newO, xd_invS, xd_invV, xd_invI, xd_iret, xd_lret, xd_vret, xd_ldc, xd_ldc2, xd_iinc, xd_aret, xd_tsw, xd_lsw, xC_d, xld, xisI, xisL, xisA, xgo_ite, xjp, xcmp, xrt, xinv, xcall, xpop, xcat, xgf, xal, xas, xpf, xle, xaq, xbite, xbite2, xsto, xsto2, xst1, xst2, xkl, xtt, xnum, xi0, xzf, v3, List.getElem?_cons_zero, List.getElem?_cons_succ, List.set_cons_zero, List.set_cons_succ, d8_0, d8_1, d8_4, d8_5, d8_8, d8_9, d8_12, d8_15, d8_16, d8_19, d8_22, d8_23, d8_26, d8_27, d8_28, d8_29, d8_32, d8_33, d8_34, d8_37, d8_38, d8_41, d8_42, d8_43, d8_46, d8_47, d8_48, d8_49, d8_52, d8_53, d8_54, d8_55, d8_56, d8_59, d8_60, d8_61, d8_62, d8_65, d8_66, d8_67, d8_68, d8_71, wo8, wm8, wr8, f0_18, f0_21, f0_34, m0_151, m0_154, m0_62, r8_49, r8_50, r8_88, wm49, wm50, wm88, wo49, wo50, hC, h0, h1, h2, h3, h4, h5, h6, h7, h8, h9, h10, h11, h12, h13, xput_at, xput_at0, xput_up, xput_up0, k49, k50, k88, uDis_3, uDis_4, hw, hl]
  · have e : uCert A m w l = uDis A m := if_neg (fun q => hw q.1)
    rw [e]
    simp only [Bool.not_eq_true] at hw
    rw [xK_d X 8 _ _ [] 90]; simp [xent, xsl, Value.category, xr_d, xr_0, xg_nx, xg_n, xg_o, xg_c, xth_s, xth_v, xth_ite, xth_n, xd_iconst, xd_bipush, xd_sipush, xd_lconst, xd_iload, xd_iload_n, xd_lload, xd_lload_n, xd_aload, xd_aload_n, xd_istore, xd_istore_n, xd_astore, xd_astore_n, xd_lstore, xd_lstore_n, xd_iadd, xd_isub, xd_imul, xd_iand, xd_ior, xd_ishl, xd_ishr, xd_ladd, xd_lsub, xd_lmul, xd_land, xd_lor, xd_idiv, xd_irem, xd_ldiv, xd_lrem, xd_ineg, xd_lneg, xd_lshl, xd_lshr, xd_lcmp, xd_i2l, xd_l2i, xd_dup_int, xd_dup_ref, xd_pop, xd_dup2, xd_goto, xd_ifC, xd_ifI, xd_getf, xd_putI, xd_putR, xd_iald, xd_ialdX, xd_bald, xd_iast, xd_bast, xd_aald, xd_aast, xd_alen, xd_alenX, xd_newI, xd_newZ, xd_newQ, xd_newO, xd_invS, xd_invV, xd_invI, xd_iret, xd_lret, xd_vret, xd_ldc, xd_ldc2, xd_iinc, xd_aret, xd_tsw, xd_lsw, xC_d, xld, xisI, xisL, xisA, xgo_ite, xjp, xcmp, xrt, xinv, xcall, xpop, xcat, xgf, xal, xas, xpf, xle, xaq, xbite, xbite2, xsto, xsto2, xst1, xst2, xkl, xtt, xnum, xi0, xzf, v3, List.getElem?_cons_zero, List.getElem?_cons_succ, List.set_cons_zero, List.set_cons_succ, d8_0, d8_1, d8_4, d8_5, d8_8, d8_9, d8_12, d8_15, d8_16, d8_19, d8_22, d8_23, d8_26, d8_27, d8_28, d8_29, d8_32, d8_33, d8_34, d8_37, d8_38, d8_41, d8_42, d8_43, d8_46, d8_47, d8_48, d8_49, d8_52, d8_53, d8_54, d8_55, d8_56, d8_59, d8_60, d8_61, d8_62, d8_65, d8_66, d8_67, d8_68, d8_71, wo8, wm8, wr8, f0_18, f0_21, f0_34, m0_151, m0_154, m0_62, r8_49, r8_50, r8_88, wm49, wm50, wm88, wo49, wo50, hC, h0, h1, h2, h3, h4, h5, h6, h7, h8, h9, h10, h11, h12, h13, xput_at, xput_at0, xput_up, xput_up0, k49, k50, k88, uDis_3, uDis_4, hw]
def uWon (A : Nat → Nat → Int32) (m p q : Int32) : Int32 := uAhead A (uCom A (2 * m)) (uCom A (2 * m + 1)) p q
def uLost (A : Nat → Nat → Int32) (m p q : Int32) : Int32 := if uWon A m p q = uCom A (2 * m) then uCom A (2 * m + 1) else uCom A (2 * m)
def uDecA (A : Nat → Nat → Int32) (m p q : Int32) : Nat → Nat → Int32 := if uM m = true then uCert (xup A 6 m.toNatClampNeg (uWon A m p q)) m (uWon A m p q) (uLost A m p q) else A
def uDecR (A : Nat → Nat → Int32) (m p q : Int32) : Bool := uM m && decide (¬ uWon A m p q = A 6 m.toNatClampNeg)
set_option maxRecDepth 100000 in
set_option maxHeartbeats 4000000 in
theorem g3 (X : xX) (sh : List (Nat × Nat × List Value)) (σ A : Nat → Nat → Int32) (c : Nat) (hc : xcup sh c) (m p q a b w : Int32) (hm : uM m = true) (hm8 : xin m 8 = true) (ea : xK X 4 [.ref c, .int (2 * m)] (sh, xput 14 σ c A) = some (some (.int a), (sh, xput 14 σ c A))) (eb : xK X 4 [.ref c, .int (2 * m + 1)] (sh, xput 14 σ c A) = some (some (.int b), (sh, xput 14 σ c A))) (e7 : xK X 7 [.ref c, .int a, .int b, .int p, .int q] (sh, xput 14 σ c A) = some (some (.int w), (sh, xput 14 σ c A))) : xK X 3 [.ref c, .int m, .int p, .int q] (sh, xput 14 σ c A) = some (some (.int (xi (decide (¬ w = A 6 m.toNatClampNeg)))), (sh, xput 14 σ c (uCert (xup A 6 m.toNatClampNeg w) m w (if w = a then b else a)))) := by
  have hC := hc
  obtain ⟨h0, h1, h2, h3, h4, h5, h6, h7, h8, h9, h10, h11, h12, h13⟩ := hc
  rw [xK_d X 3 _ _ [] 90]
  simp [xent, xsl, Value.category, xr_d, xr_0, xg_nx, xg_n, xg_o, xg_c, xth_s, xth_v, xth_ite, xth_n, xd_iconst, xd_bipush, xd_sipush, xd_lconst, xd_iload, xd_iload_n, xd_lload, xd_lload_n, xd_aload, xd_aload_n, xd_istore, xd_istore_n, xd_astore, xd_astore_n, xd_lstore, xd_lstore_n, xd_iadd, xd_isub, xd_imul, xd_iand, xd_ior, xd_ishl, xd_ishr, xd_ladd, xd_lsub, xd_lmul, xd_land, xd_lor, xd_idiv, xd_irem, xd_ldiv, xd_lrem, xd_ineg, xd_lneg, xd_lshl, xd_lshr, xd_lcmp, xd_i2l, xd_l2i, xd_dup_int, xd_dup_ref, xd_pop, xd_dup2, xd_goto, xd_ifC, xd_ifI, xd_getf, xd_putI, xd_putR, xd_iald, xd_ialdX, xd_bald, xd_iast, xd_bast, xd_aald, xd_aast, xd_alen, xd_alenX, xd_newI, xd_newZ, xd_newQ, xd_newO, xd_invS, xd_invV, xd_invI, xd_iret, xd_lret, xd_vret, xd_ldc, xd_ldc2, xd_iinc, xd_aret, xd_tsw, xd_lsw, xC_d, xld, xisI, xisL, xisA, xgo_ite, xjp, xcmp, xrt, xinv, xcall, xpop, xcat, xgf, xal, xas, xpf, xle, xaq, xbite, xbite2, xsto, xsto2, xst1, xst2, xkl, xtt, xnum, xi0, xzf, v3, List.getElem?_cons_zero, List.getElem?_cons_succ, List.set_cons_zero, List.set_cons_succ, d3_0, d3_1, d3_4, d3_7, d3_8, d3_9, d3_10, d3_11, d3_12, d3_13, d3_16, d3_18, d3_19, d3_20, d3_21, d3_22, d3_23, d3_24, d3_27, d3_29, d3_30, d3_33, d3_34, d3_35, d3_37, d3_38, d3_40, d3_42, d3_43, d3_44, d3_47, d3_49, d3_50, d3_53, d3_54, d3_56, d3_57, d3_58, d3_59, d3_61, d3_63, d3_65, d3_68, d3_70, d3_73, d3_75, d3_78, d3_80, d3_82, d3_85, d3_86, d3_89, d3_90, wo3, wm3, wr3, f0_28, m0_135, m0_138, m0_142, m0_66, r3_4, r3_7, r3_8, r3_87, wm4, wm7, wm8, wm87, wo4, wo7, wo8, hC, h0, h1, h2, h3, h4, h5, h6, h7, h8, h9, h10, h11, h12, h13, xput_at, xput_at0, xput_up, xput_up0, hm, hm8, ea, eb, e7, k87', k8, xi]
  clear hC h0 h1 h2 h3 h4 h5 h6 h7 h8 h9 h10 h11 h12 h13
  repeat' split
  all_goals simp_all
set_option maxRecDepth 100000 in
set_option maxHeartbeats 4000000 in
theorem k3 (X : xX) (sh : List (Nat × Nat × List Value)) (σ A : Nat → Nat → Int32) (c : Nat) (hc : xcup sh c) (m p q : Int32) : xK X 3 [.ref (c), .int m, .int p, .int q] (sh, xput 14 σ c A) = some (some (.int (xi (uDecR A m p q))), (sh, xput 14 σ c (uDecA A m p q))) := by
  have hC := hc
  obtain ⟨h0, h1, h2, h3, h4, h5, h6, h7, h8, h9, h10, h11, h12, h13⟩ := hc
  by_cases hm : uM m = true
  · have hm8 := uM_in hm
    have e := g3 X sh σ A c hC m p q _ _ _ hm hm8 (k4 X sh σ A c hC (2 * m)) (k4 X sh σ A c hC (2 * m + 1)) (k7 X sh σ A c hC _ _ p q)
    rw [e, uDecA, if_pos hm, uDecR, hm]
    rfl
  · have e1 : uDecA A m p q = A := by rw [uDecA, if_neg hm]
    simp only [Bool.not_eq_true] at hm
    have e2 : uDecR A m p q = false := by rw [uDecR, hm]; rfl
    rw [e1, e2]
    rw [xK_d X 3 _ _ [] 90]; simp [xent, xsl, Value.category, xr_d, xr_0, xg_nx, xg_n, xg_o, xg_c, xth_s, xth_v, xth_ite, xth_n, xd_iconst, xd_bipush, xd_sipush, xd_lconst, xd_iload, xd_iload_n, xd_lload, xd_lload_n, xd_aload, xd_aload_n, xd_istore, xd_istore_n, xd_astore, xd_astore_n, xd_lstore, xd_lstore_n, xd_iadd, xd_isub, xd_imul, xd_iand, xd_ior, xd_ishl, xd_ishr, xd_ladd, xd_lsub, xd_lmul, xd_land, xd_lor, xd_idiv, xd_irem, xd_ldiv, xd_lrem, xd_ineg, xd_lneg, xd_lshl, xd_lshr, xd_lcmp, xd_i2l, xd_l2i, xd_dup_int, xd_dup_ref, xd_pop, xd_dup2, xd_goto, xd_ifC, xd_ifI, xd_getf, xd_putI, xd_putR, xd_iald, xd_ialdX, xd_bald, xd_iast, xd_bast, xd_aald, xd_aast, xd_alen, xd_alenX, xd_newI, xd_newZ, xd_newQ, xd_newO, xd_invS, xd_invV, xd_invI, xd_iret, xd_lret, xd_vret, xd_ldc, xd_ldc2, xd_iinc, xd_aret, xd_tsw, xd_lsw, xC_d, xld, xisI, xisL, xisA, xgo_ite, xjp, xcmp, xrt, xinv, xcall, xpop, xcat, xgf, xal, xas, xpf, xle, xaq, xbite, xbite2, xsto, xsto2, xst1, xst2, xkl, xtt, xnum, xi0, xzf, v3, List.getElem?_cons_zero, List.getElem?_cons_succ, List.set_cons_zero, List.set_cons_succ, d3_0, d3_1, d3_4, d3_7, d3_8, d3_9, d3_10, d3_11, d3_12, d3_13, d3_16, d3_18, d3_19, d3_20, d3_21, d3_22, d3_23, d3_24, d3_27, d3_29, d3_30, d3_33, d3_34, d3_35, d3_37, d3_38, d3_40, d3_42, d3_43, d3_44, d3_47, d3_49, d3_50, d3_53, d3_54, d3_56, d3_57, d3_58, d3_59, d3_61, d3_63, d3_65, d3_68, d3_70, d3_73, d3_75, d3_78, d3_80, d3_82, d3_85, d3_86, d3_89, d3_90, wo3, wm3, wr3, f0_28, m0_135, m0_138, m0_142, m0_66, r3_4, r3_7, r3_8, r3_87, wm4, wm7, wm8, wm87, wo4, wo7, wo8, hC, h0, h1, h2, h3, h4, h5, h6, h7, h8, h9, h10, h11, h12, h13, xput_at, xput_at0, xput_up, xput_up0, k87', hm, xi]
end
