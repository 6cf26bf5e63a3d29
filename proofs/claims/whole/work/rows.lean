section
-- ===== PART A: goes FIRST, ahead of the names: the tables' words, and 'selects' of the private methods out of them =====
/-- a private method of a class that the tables say can be made, by its rows of tables_1 -/
def lw_okq (q : MethodName × Nat) : Prop := (q.1.cls ≠ "java/lang/invoke/MethodHandle" ∧ q.1.cls ≠ "java/lang/invoke/VarHandle") ∧ Cond.instantiable q.1.cls q.2 ∈ tables_1 ∧ Cond.privateMethod q.1 ∈ tables_1 ∧ Cond.instanceMethod q.1 ∈ tables_1
theorem lw_p0 : lw_okq (⟨"KineticCup$Cup", "beginAnew", "()V"⟩, 9) := ⟨⟨by decide +kernel, by decide +kernel⟩, List.mem_of_getElem? (i := 28) (by decide +kernel), List.mem_of_getElem? (i := 91) (by decide +kernel), List.mem_of_getElem? (i := 92) (by decide +kernel)⟩
theorem lw_p1 : lw_okq (⟨"KineticCup$Cup", "decide", "(III)Z"⟩, 9) := ⟨⟨by decide +kernel, by decide +kernel⟩, List.mem_of_getElem? (i := 28) (by decide +kernel), List.mem_of_getElem? (i := 102) (by decide +kernel), List.mem_of_getElem? (i := 103) (by decide +kernel)⟩
theorem lw_p2 : lw_okq (⟨"KineticCup$Cup", "comer", "(I)I"⟩, 9) := ⟨⟨by decide +kernel, by decide +kernel⟩, List.mem_of_getElem? (i := 28) (by decide +kernel), List.mem_of_getElem? (i := 109) (by decide +kernel), List.mem_of_getElem? (i := 110) (by decide +kernel)⟩
theorem lw_p3 : lw_okq (⟨"KineticCup$Cup", "whoIsInOn", "(I)I"⟩, 9) := ⟨⟨by decide +kernel, by decide +kernel⟩, List.mem_of_getElem? (i := 28) (by decide +kernel), List.mem_of_getElem? (i := 117) (by decide +kernel), List.mem_of_getElem? (i := 118) (by decide +kernel)⟩
theorem lw_p4 : lw_okq (⟨"KineticCup$Cup", "ahead", "(IIII)I"⟩, 9) := ⟨⟨by decide +kernel, by decide +kernel⟩, List.mem_of_getElem? (i := 28) (by decide +kernel), List.mem_of_getElem? (i := 121) (by decide +kernel), List.mem_of_getElem? (i := 122) (by decide +kernel)⟩
theorem lw_p5 : lw_okq (⟨"KineticCup$Cup", "certify", "(III)V"⟩, 9) := ⟨⟨by decide +kernel, by decide +kernel⟩, List.mem_of_getElem? (i := 28) (by decide +kernel), List.mem_of_getElem? (i := 128) (by decide +kernel), List.mem_of_getElem? (i := 129) (by decide +kernel)⟩
theorem lw_p6 : lw_okq (⟨"KineticCup$Pad", "faultOfActAt", "(I)I"⟩, 2) := ⟨⟨by decide +kernel, by decide +kernel⟩, List.mem_of_getElem? (i := 169) (by decide +kernel), List.mem_of_getElem? (i := 339) (by decide +kernel), List.mem_of_getElem? (i := 340) (by decide +kernel)⟩
theorem lw_p7 : lw_okq (⟨"KineticCup$Pad", "signAt", "(I)I"⟩, 2) := ⟨⟨by decide +kernel, by decide +kernel⟩, List.mem_of_getElem? (i := 169) (by decide +kernel), List.mem_of_getElem? (i := 343) (by decide +kernel), List.mem_of_getElem? (i := 344) (by decide +kernel)⟩
theorem lw_p8 : lw_okq (⟨"KineticCup$Pad", "isLetterAt", "(I)Z"⟩, 2) := ⟨⟨by decide +kernel, by decide +kernel⟩, List.mem_of_getElem? (i := 169) (by decide +kernel), List.mem_of_getElem? (i := 347) (by decide +kernel), List.mem_of_getElem? (i := 348) (by decide +kernel)⟩
theorem lw_p9 : lw_okq (⟨"KineticCup$Rehearsal", "begin", "(LKineticCup$Cup;)V"⟩, 4) := ⟨⟨by decide +kernel, by decide +kernel⟩, List.mem_of_getElem? (i := 201) (by decide +kernel), List.mem_of_getElem? (i := 368) (by decide +kernel), List.mem_of_getElem? (i := 369) (by decide +kernel)⟩
theorem lw_p10 : lw_okq (⟨"KineticCup$Cup", "swapHindrance", "(II)I"⟩, 9) := ⟨⟨by decide +kernel, by decide +kernel⟩, List.mem_of_getElem? (i := 28) (by decide +kernel), List.mem_of_getElem? (i := 407) (by decide +kernel), List.mem_of_getElem? (i := 408) (by decide +kernel)⟩
theorem lw_p11 : lw_okq (⟨"KineticCup$Cup", "pushHindrance", "(II)I"⟩, 9) := ⟨⟨by decide +kernel, by decide +kernel⟩, List.mem_of_getElem? (i := 28) (by decide +kernel), List.mem_of_getElem? (i := 414) (by decide +kernel), List.mem_of_getElem? (i := 415) (by decide +kernel)⟩
theorem lw_p12 : lw_okq (⟨"KineticCup$Cup", "change", "(III)V"⟩, 9) := ⟨⟨by decide +kernel, by decide +kernel⟩, List.mem_of_getElem? (i := 28) (by decide +kernel), List.mem_of_getElem? (i := 426) (by decide +kernel), List.mem_of_getElem? (i := 427) (by decide +kernel)⟩
theorem lw_p13 : lw_okq (⟨"KineticCup$Cup", "push", "(II)V"⟩, 9) := ⟨⟨by decide +kernel, by decide +kernel⟩, List.mem_of_getElem? (i := 28) (by decide +kernel), List.mem_of_getElem? (i := 430) (by decide +kernel), List.mem_of_getElem? (i := 431) (by decide +kernel)⟩
theorem lw_p14 : lw_okq (⟨"KineticCup$Cup", "swap", "(II)V"⟩, 9) := ⟨⟨by decide +kernel, by decide +kernel⟩, List.mem_of_getElem? (i := 28) (by decide +kernel), List.mem_of_getElem? (i := 434) (by decide +kernel), List.mem_of_getElem? (i := 435) (by decide +kernel)⟩
theorem lw_p15 : lw_okq (⟨"KineticCup$Cup", "takeDue", "(II)Z"⟩, 9) := ⟨⟨by decide +kernel, by decide +kernel⟩, List.mem_of_getElem? (i := 28) (by decide +kernel), List.mem_of_getElem? (i := 438) (by decide +kernel), List.mem_of_getElem? (i := 439) (by decide +kernel)⟩
def lw_privs_1 : List (MethodName × Nat) := [(⟨"KineticCup$Cup", "beginAnew", "()V"⟩, 9), (⟨"KineticCup$Cup", "decide", "(III)Z"⟩, 9), (⟨"KineticCup$Cup", "comer", "(I)I"⟩, 9), (⟨"KineticCup$Cup", "whoIsInOn", "(I)I"⟩, 9), (⟨"KineticCup$Cup", "ahead", "(IIII)I"⟩, 9), (⟨"KineticCup$Cup", "certify", "(III)V"⟩, 9), (⟨"KineticCup$Pad", "faultOfActAt", "(I)I"⟩, 2), (⟨"KineticCup$Pad", "signAt", "(I)I"⟩, 2), (⟨"KineticCup$Pad", "isLetterAt", "(I)Z"⟩, 2), (⟨"KineticCup$Rehearsal", "begin", "(LKineticCup$Cup;)V"⟩, 4), (⟨"KineticCup$Cup", "swapHindrance", "(II)I"⟩, 9), (⟨"KineticCup$Cup", "pushHindrance", "(II)I"⟩, 9), (⟨"KineticCup$Cup", "change", "(III)V"⟩, 9), (⟨"KineticCup$Cup", "push", "(II)V"⟩, 9), (⟨"KineticCup$Cup", "swap", "(II)V"⟩, 9), (⟨"KineticCup$Cup", "takeDue", "(II)Z"⟩, 9)]
theorem lw_r1 : ∀ q ∈ lw_privs_1, lw_okq q := List.forall_mem_cons.mpr ⟨lw_p0, List.forall_mem_cons.mpr ⟨lw_p1, List.forall_mem_cons.mpr ⟨lw_p2, List.forall_mem_cons.mpr ⟨lw_p3, List.forall_mem_cons.mpr ⟨lw_p4, List.forall_mem_cons.mpr ⟨lw_p5, List.forall_mem_cons.mpr ⟨lw_p6, List.forall_mem_cons.mpr ⟨lw_p7, List.forall_mem_cons.mpr ⟨lw_p8, List.forall_mem_cons.mpr ⟨lw_p9, List.forall_mem_cons.mpr ⟨lw_p10, List.forall_mem_cons.mpr ⟨lw_p11, List.forall_mem_cons.mpr ⟨lw_p12, List.forall_mem_cons.mpr ⟨lw_p13, List.forall_mem_cons.mpr ⟨lw_p14, List.forall_mem_cons.mpr ⟨lw_p15, fun _ h => absurd h List.not_mem_nil⟩⟩⟩⟩⟩⟩⟩⟩⟩⟩⟩⟩⟩⟩⟩⟩
theorem lw_p16 : lw_okq (⟨"KineticCup$Queue", "isHere", "(I)Z"⟩, 7) := ⟨⟨by decide +kernel, by decide +kernel⟩, List.mem_of_getElem? (i := 34) (by decide +kernel), List.mem_of_getElem? (i := 454) (by decide +kernel), List.mem_of_getElem? (i := 455) (by decide +kernel)⟩
theorem lw_p17 : lw_okq (⟨"KineticCup$Queue", "isSooner", "(II)Z"⟩, 7) := ⟨⟨by decide +kernel, by decide +kernel⟩, List.mem_of_getElem? (i := 34) (by decide +kernel), List.mem_of_getElem? (i := 458) (by decide +kernel), List.mem_of_getElem? (i := 459) (by decide +kernel)⟩
theorem lw_p18 : lw_okq (⟨"KineticCup$Cup", "successor", "(III)I"⟩, 9) := ⟨⟨by decide +kernel, by decide +kernel⟩, List.mem_of_getElem? (i := 28) (by decide +kernel), List.mem_of_getElem? (i := 575) (by decide +kernel), List.mem_of_getElem? (i := 576) (by decide +kernel)⟩
theorem lw_p19 : lw_okq (⟨"KineticCup$Search", "countAt", "(I)V"⟩, 5) := ⟨⟨by decide +kernel, by decide +kernel⟩, List.mem_of_getElem? (i := 222) (by decide +kernel), List.mem_of_getElem? (i := 670) (by decide +kernel), List.mem_of_getElem? (i := 671) (by decide +kernel)⟩
theorem lw_p20 : lw_okq (⟨"KineticCup", "toldOfAll", "(I)I"⟩, 6) := ⟨⟨by decide +kernel, by decide +kernel⟩, List.mem_of_getElem? (i := 20) (by decide +kernel), List.mem_of_getElem? (i := 770) (by decide +kernel), List.mem_of_getElem? (i := 771) (by decide +kernel)⟩
theorem lw_p21 : lw_okq (⟨"KineticCup", "toldOfOne", "(II)I"⟩, 6) := ⟨⟨by decide +kernel, by decide +kernel⟩, List.mem_of_getElem? (i := 20) (by decide +kernel), List.mem_of_getElem? (i := 778) (by decide +kernel), List.mem_of_getElem? (i := 779) (by decide +kernel)⟩
theorem lw_p22 : lw_okq (⟨"KineticCupModel", "anew", "()V"⟩, 20) := ⟨⟨by decide +kernel, by decide +kernel⟩, List.mem_of_getElem? (i := 782) (by decide +kernel), List.mem_of_getElem? (i := 788) (by decide +kernel), List.mem_of_getElem? (i := 789) (by decide +kernel)⟩
theorem lw_p23 : lw_okq (⟨"KineticCupModel", "comer", "(II)I"⟩, 20) := ⟨⟨by decide +kernel, by decide +kernel⟩, List.mem_of_getElem? (i := 782) (by decide +kernel), List.mem_of_getElem? (i := 792) (by decide +kernel), List.mem_of_getElem? (i := 793) (by decide +kernel)⟩
theorem lw_p24 : lw_okq (⟨"KineticCupModel", "onPlace", "(I)I"⟩, 20) := ⟨⟨by decide +kernel, by decide +kernel⟩, List.mem_of_getElem? (i := 782) (by decide +kernel), List.mem_of_getElem? (i := 796) (by decide +kernel), List.mem_of_getElem? (i := 797) (by decide +kernel)⟩
theorem lw_p25 : lw_okq (⟨"KineticCupModel", "better", "(IIII)I"⟩, 20) := ⟨⟨by decide +kernel, by decide +kernel⟩, List.mem_of_getElem? (i := 782) (by decide +kernel), List.mem_of_getElem? (i := 800) (by decide +kernel), List.mem_of_getElem? (i := 801) (by decide +kernel)⟩
theorem lw_p26 : lw_okq (⟨"KineticCupModel", "isAhead", "(IIII)Z"⟩, 20) := ⟨⟨by decide +kernel, by decide +kernel⟩, List.mem_of_getElem? (i := 782) (by decide +kernel), List.mem_of_getElem? (i := 804) (by decide +kernel), List.mem_of_getElem? (i := 805) (by decide +kernel)⟩
theorem lw_p27 : lw_okq (⟨"KineticCupModel", "certify", "(I)V"⟩, 20) := ⟨⟨by decide +kernel, by decide +kernel⟩, List.mem_of_getElem? (i := 782) (by decide +kernel), List.mem_of_getElem? (i := 808) (by decide +kernel), List.mem_of_getElem? (i := 809) (by decide +kernel)⟩
theorem lw_p28 : lw_okq (⟨"KineticCupModel", "keep", "()V"⟩, 20) := ⟨⟨by decide +kernel, by decide +kernel⟩, List.mem_of_getElem? (i := 782) (by decide +kernel), List.mem_of_getElem? (i := 812) (by decide +kernel), List.mem_of_getElem? (i := 813) (by decide +kernel)⟩
theorem lw_p29 : lw_okq (⟨"KineticCupModel", "asNow", "()V"⟩, 20) := ⟨⟨by decide +kernel, by decide +kernel⟩, List.mem_of_getElem? (i := 782) (by decide +kernel), List.mem_of_getElem? (i := 887) (by decide +kernel), List.mem_of_getElem? (i := 888) (by decide +kernel)⟩
theorem lw_p30 : lw_okq (⟨"KineticCupModel", "faultOf", "()I"⟩, 20) := ⟨⟨by decide +kernel, by decide +kernel⟩, List.mem_of_getElem? (i := 782) (by decide +kernel), List.mem_of_getElem? (i := 903) (by decide +kernel), List.mem_of_getElem? (i := 904) (by decide +kernel)⟩
theorem lw_p31 : lw_okq (⟨"KineticCupModel", "goDays", "()I"⟩, 20) := ⟨⟨by decide +kernel, by decide +kernel⟩, List.mem_of_getElem? (i := 782) (by decide +kernel), List.mem_of_getElem? (i := 914) (by decide +kernel), List.mem_of_getElem? (i := 915) (by decide +kernel)⟩
def lw_privs_2 : List (MethodName × Nat) := [(⟨"KineticCup$Queue", "isHere", "(I)Z"⟩, 7), (⟨"KineticCup$Queue", "isSooner", "(II)Z"⟩, 7), (⟨"KineticCup$Cup", "successor", "(III)I"⟩, 9), (⟨"KineticCup$Search", "countAt", "(I)V"⟩, 5), (⟨"KineticCup", "toldOfAll", "(I)I"⟩, 6), (⟨"KineticCup", "toldOfOne", "(II)I"⟩, 6), (⟨"KineticCupModel", "anew", "()V"⟩, 20), (⟨"KineticCupModel", "comer", "(II)I"⟩, 20), (⟨"KineticCupModel", "onPlace", "(I)I"⟩, 20), (⟨"KineticCupModel", "better", "(IIII)I"⟩, 20), (⟨"KineticCupModel", "isAhead", "(IIII)Z"⟩, 20), (⟨"KineticCupModel", "certify", "(I)V"⟩, 20), (⟨"KineticCupModel", "keep", "()V"⟩, 20), (⟨"KineticCupModel", "asNow", "()V"⟩, 20), (⟨"KineticCupModel", "faultOf", "()I"⟩, 20), (⟨"KineticCupModel", "goDays", "()I"⟩, 20)]
theorem lw_r2 : ∀ q ∈ lw_privs_2, lw_okq q := List.forall_mem_cons.mpr ⟨lw_p16, List.forall_mem_cons.mpr ⟨lw_p17, List.forall_mem_cons.mpr ⟨lw_p18, List.forall_mem_cons.mpr ⟨lw_p19, List.forall_mem_cons.mpr ⟨lw_p20, List.forall_mem_cons.mpr ⟨lw_p21, List.forall_mem_cons.mpr ⟨lw_p22, List.forall_mem_cons.mpr ⟨lw_p23, List.forall_mem_cons.mpr ⟨lw_p24, List.forall_mem_cons.mpr ⟨lw_p25, List.forall_mem_cons.mpr ⟨lw_p26, List.forall_mem_cons.mpr ⟨lw_p27, List.forall_mem_cons.mpr ⟨lw_p28, List.forall_mem_cons.mpr ⟨lw_p29, List.forall_mem_cons.mpr ⟨lw_p30, List.forall_mem_cons.mpr ⟨lw_p31, fun _ h => absurd h List.not_mem_nil⟩⟩⟩⟩⟩⟩⟩⟩⟩⟩⟩⟩⟩⟩⟩⟩
theorem lw_p32 : lw_okq (⟨"KineticCupModel", "oneAct", "(I)I"⟩, 20) := ⟨⟨by decide +kernel, by decide +kernel⟩, List.mem_of_getElem? (i := 782) (by decide +kernel), List.mem_of_getElem? (i := 918) (by decide +kernel), List.mem_of_getElem? (i := 919) (by decide +kernel)⟩
theorem lw_p33 : lw_okq (⟨"KineticCupModel", "endSecond", "(I)I"⟩, 20) := ⟨⟨by decide +kernel, by decide +kernel⟩, List.mem_of_getElem? (i := 782) (by decide +kernel), List.mem_of_getElem? (i := 922) (by decide +kernel), List.mem_of_getElem? (i := 923) (by decide +kernel)⟩
theorem lw_p34 : lw_okq (⟨"KineticCupModel", "dueBy", "(I)I"⟩, 20) := ⟨⟨by decide +kernel, by decide +kernel⟩, List.mem_of_getElem? (i := 782) (by decide +kernel), List.mem_of_getElem? (i := 926) (by decide +kernel), List.mem_of_getElem? (i := 927) (by decide +kernel)⟩
theorem lw_p35 : lw_okq (⟨"KineticCupModel", "take", "(II)V"⟩, 20) := ⟨⟨by decide +kernel, by decide +kernel⟩, List.mem_of_getElem? (i := 782) (by decide +kernel), List.mem_of_getElem? (i := 930) (by decide +kernel), List.mem_of_getElem? (i := 931) (by decide +kernel)⟩
theorem lw_p36 : lw_okq (⟨"KineticCupModel", "bend", "(II)I"⟩, 20) := ⟨⟨by decide +kernel, by decide +kernel⟩, List.mem_of_getElem? (i := 782) (by decide +kernel), List.mem_of_getElem? (i := 934) (by decide +kernel), List.mem_of_getElem? (i := 935) (by decide +kernel)⟩
theorem lw_p37 : lw_okq (⟨"KineticCupModel", "goOut", "(IZ)I"⟩, 20) := ⟨⟨by decide +kernel, by decide +kernel⟩, List.mem_of_getElem? (i := 782) (by decide +kernel), List.mem_of_getElem? (i := 938) (by decide +kernel), List.mem_of_getElem? (i := 939) (by decide +kernel)⟩
theorem lw_p38 : lw_okq (⟨"KineticCupModel", "exchange", "(II)I"⟩, 20) := ⟨⟨by decide +kernel, by decide +kernel⟩, List.mem_of_getElem? (i := 782) (by decide +kernel), List.mem_of_getElem? (i := 942) (by decide +kernel), List.mem_of_getElem? (i := 943) (by decide +kernel)⟩
theorem lw_p39 : lw_okq (⟨"KineticCupModel", "barOfDays", "()I"⟩, 20) := ⟨⟨by decide +kernel, by decide +kernel⟩, List.mem_of_getElem? (i := 782) (by decide +kernel), List.mem_of_getElem? (i := 950) (by decide +kernel), List.mem_of_getElem? (i := 951) (by decide +kernel)⟩
theorem lw_p40 : lw_okq (⟨"KineticCupModel", "best", "(III)I"⟩, 20) := ⟨⟨by decide +kernel, by decide +kernel⟩, List.mem_of_getElem? (i := 782) (by decide +kernel), List.mem_of_getElem? (i := 973) (by decide +kernel), List.mem_of_getElem? (i := 974) (by decide +kernel)⟩
theorem lw_p41 : lw_okq (⟨"KineticCupModel", "isOf", "(II)Z"⟩, 20) := ⟨⟨by decide +kernel, by decide +kernel⟩, List.mem_of_getElem? (i := 782) (by decide +kernel), List.mem_of_getElem? (i := 977) (by decide +kernel), List.mem_of_getElem? (i := 978) (by decide +kernel)⟩
theorem lw_p42 : lw_okq (⟨"KineticCupModel", "nextMatch", "()I"⟩, 20) := ⟨⟨by decide +kernel, by decide +kernel⟩, List.mem_of_getElem? (i := 782) (by decide +kernel), List.mem_of_getElem? (i := 986) (by decide +kernel), List.mem_of_getElem? (i := 987) (by decide +kernel)⟩
theorem lw_p43 : lw_okq (⟨"KineticCupModel", "layNext", "(II)Z"⟩, 20) := ⟨⟨by decide +kernel, by decide +kernel⟩, List.mem_of_getElem? (i := 782) (by decide +kernel), List.mem_of_getElem? (i := 990) (by decide +kernel), List.mem_of_getElem? (i := 991) (by decide +kernel)⟩
theorem lw_p44 : lw_okq (⟨"KineticCupModel", "isFit", "(I)Z"⟩, 20) := ⟨⟨by decide +kernel, by decide +kernel⟩, List.mem_of_getElem? (i := 782) (by decide +kernel), List.mem_of_getElem? (i := 1055) (by decide +kernel), List.mem_of_getElem? (i := 1056) (by decide +kernel)⟩
def lw_privs_3 : List (MethodName × Nat) := [(⟨"KineticCupModel", "oneAct", "(I)I"⟩, 20), (⟨"KineticCupModel", "endSecond", "(I)I"⟩, 20), (⟨"KineticCupModel", "dueBy", "(I)I"⟩, 20), (⟨"KineticCupModel", "take", "(II)V"⟩, 20), (⟨"KineticCupModel", "bend", "(II)I"⟩, 20), (⟨"KineticCupModel", "goOut", "(IZ)I"⟩, 20), (⟨"KineticCupModel", "exchange", "(II)I"⟩, 20), (⟨"KineticCupModel", "barOfDays", "()I"⟩, 20), (⟨"KineticCupModel", "best", "(III)I"⟩, 20), (⟨"KineticCupModel", "isOf", "(II)Z"⟩, 20), (⟨"KineticCupModel", "nextMatch", "()I"⟩, 20), (⟨"KineticCupModel", "layNext", "(II)Z"⟩, 20), (⟨"KineticCupModel", "isFit", "(I)Z"⟩, 20)]
theorem lw_r3 : ∀ q ∈ lw_privs_3, lw_okq q := List.forall_mem_cons.mpr ⟨lw_p32, List.forall_mem_cons.mpr ⟨lw_p33, List.forall_mem_cons.mpr ⟨lw_p34, List.forall_mem_cons.mpr ⟨lw_p35, List.forall_mem_cons.mpr ⟨lw_p36, List.forall_mem_cons.mpr ⟨lw_p37, List.forall_mem_cons.mpr ⟨lw_p38, List.forall_mem_cons.mpr ⟨lw_p39, List.forall_mem_cons.mpr ⟨lw_p40, List.forall_mem_cons.mpr ⟨lw_p41, List.forall_mem_cons.mpr ⟨lw_p42, List.forall_mem_cons.mpr ⟨lw_p43, List.forall_mem_cons.mpr ⟨lw_p44, fun _ h => absurd h List.not_mem_nil⟩⟩⟩⟩⟩⟩⟩⟩⟩⟩⟩⟩⟩
def lw_privs : List (MethodName × Nat) := lw_privs_1 ++ (lw_privs_2 ++ (lw_privs_3))
def lw_tbl : List Cond := k2_sels lw_privs ++ tables_1
theorem lw_privs_ok : ∀ q ∈ lw_privs, lw_okq q := by
  show ∀ q ∈ lw_privs_1 ++ (lw_privs_2 ++ (lw_privs_3)), lw_okq q
  exact List.forall_mem_append.mpr ⟨lw_r1, List.forall_mem_append.mpr ⟨lw_r2, lw_r3⟩⟩
end
section
def RX0 : String := "KineticCup$Cup"
def TX0 : u_T := fun k => match k with
  | 0 => ("KineticCup$Cup", "kind", "[I", true)
  | 1 => ("KineticCup$Cup", "place", "[I", true)
  | 2 => ("KineticCup$Cup", "base", "[I", true)
  | 3 => ("KineticCup$Cup", "slope", "[I", true)
  | 4 => ("KineticCup$Cup", "in", "[Z", true)
  | 5 => ("KineticCup$Cup", "best", "[I", true)
  | 6 => ("KineticCup$Cup", "queue", "LKineticCup$Queue;", true)
  | 7 => ("KineticCup$Cup", "tally", "LKineticCup$Tally;", true)
  | _ => ("KineticCup$Cup", "second", "I", false)
def tyX0 : Nat → FieldType := fun k => match k with
  | 0 => .array .int
  | 1 => .array .int
  | 2 => .array .int
  | 3 => .array .int
  | 4 => .array .boolean
  | 5 => .array .int
  | 6 => .object "KineticCup$Queue"
  | 7 => .object "KineticCup$Tally"
  | _ => .int
theorem nmX0 : ∀ a, a < 9 → ∀ b, b < 9 → a ≠ b → (TX0 a).2.1 ≠ (TX0 b).2.1 := by decide +kernel
theorem tyX0_ok : ∀ k, k < 9 → parseFieldDescriptor (TX0 k).2.2.1 = some (tyX0 k) := by decide +kernel
def RX1 : String := "KineticCup$Image"
def TX1 : u_T := fun k => match k with
  | 0 => ("KineticCup$Image", "cup", "LKineticCup$Cup;", true)
  | 1 => ("KineticCup$Image", "sights", "LKineticCup$Sights;", true)
  | _ => ("KineticCup$Image", "kept", "Z", false)
def tyX1 : Nat → FieldType := fun k => match k with
  | 0 => .object "KineticCup$Cup"
  | 1 => .object "KineticCup$Sights"
  | _ => .boolean
theorem nmX1 : ∀ a, a < 3 → ∀ b, b < 3 → a ≠ b → (TX1 a).2.1 ≠ (TX1 b).2.1 := by decide +kernel
theorem tyX1_ok : ∀ k, k < 3 → parseFieldDescriptor (TX1 k).2.2.1 = some (tyX1 k) := by decide +kernel
def RX2 : String := "KineticCup$Nearest"
def TX2 : u_T := fun k => match k with
  | _ => ("", "", "", false)
def tyX2 : Nat → FieldType := fun k => match k with
  | _ => .int
theorem nmX2 : ∀ a, a < 0 → ∀ b, b < 0 → a ≠ b → (TX2 a).2.1 ≠ (TX2 b).2.1 := by decide +kernel
theorem tyX2_ok : ∀ k, k < 0 → parseFieldDescriptor (TX2 k).2.2.1 = some (tyX2 k) := by decide +kernel
def RX3 : String := "KineticCup$Pad"
def TX3 : u_T := fun k => match k with
  | 0 => ("KineticCup$Pad", "signs", "[I", true)
  | _ => ("KineticCup$Pad", "length", "I", false)
def tyX3 : Nat → FieldType := fun k => match k with
  | 0 => .array .int
  | _ => .int
theorem nmX3 : ∀ a, a < 2 → ∀ b, b < 2 → a ≠ b → (TX3 a).2.1 ≠ (TX3 b).2.1 := by decide +kernel
theorem tyX3_ok : ∀ k, k < 2 → parseFieldDescriptor (TX3 k).2.2.1 = some (tyX3 k) := by decide +kernel
def RX4 : String := "KineticCup$Queue"
def TX4 : u_T := fun k => match k with
  | 0 => ("KineticCup$Queue", "match", "[I", true)
  | 1 => ("KineticCup$Queue", "upper", "[I", true)
  | 2 => ("KineticCup$Queue", "lower", "[I", true)
  | 3 => ("KineticCup$Queue", "serial", "[I", true)
  | 4 => ("KineticCup$Queue", "lastSerial", "[I", true)
  | 5 => ("KineticCup$Queue", "size", "I", false)
  | _ => ("KineticCup$Queue", "made", "I", false)
def tyX4 : Nat → FieldType := fun k => match k with
  | 0 => .array .int
  | 1 => .array .int
  | 2 => .array .int
  | 3 => .array .int
  | 4 => .array .int
  | 5 => .int
  | _ => .int
theorem nmX4 : ∀ a, a < 7 → ∀ b, b < 7 → a ≠ b → (TX4 a).2.1 ≠ (TX4 b).2.1 := by decide +kernel
theorem tyX4_ok : ∀ k, k < 7 → parseFieldDescriptor (TX4 k).2.2.1 = some (tyX4 k) := by decide +kernel
def RX5 : String := "KineticCup$Rehearsal"
def TX5 : u_T := fun k => match k with
  | 0 => ("KineticCup$Rehearsal", "cup", "LKineticCup$Cup;", true)
  | 1 => ("KineticCup$Rehearsal", "acts", "I", false)
  | 2 => ("KineticCup$Rehearsal", "stoppedAct", "I", false)
  | _ => ("KineticCup$Rehearsal", "stoppedWhy", "I", false)
def tyX5 : Nat → FieldType := fun k => match k with
  | 0 => .object "KineticCup$Cup"
  | 1 => .int
  | 2 => .int
  | _ => .int
theorem nmX5 : ∀ a, a < 4 → ∀ b, b < 4 → a ≠ b → (TX5 a).2.1 ≠ (TX5 b).2.1 := by decide +kernel
theorem tyX5_ok : ∀ k, k < 4 → parseFieldDescriptor (TX5 k).2.2.1 = some (tyX5 k) := by decide +kernel
def RX6 : String := "KineticCup$Search"
def TX6 : u_T := fun k => match k with
  | 0 => ("KineticCup$Search", "codes", "[I", true)
  | 1 => ("KineticCup$Search", "linesAtKey", "[I", true)
  | 2 => ("KineticCup$Search", "size", "I", false)
  | 3 => ("KineticCup$Search", "look", "I", false)
  | _ => ("KineticCup$Search", "left", "I", false)
def tyX6 : Nat → FieldType := fun k => match k with
  | 0 => .array .int
  | 1 => .array .int
  | 2 => .int
  | 3 => .int
  | _ => .int
theorem nmX6 : ∀ a, a < 5 → ∀ b, b < 5 → a ≠ b → (TX6 a).2.1 ≠ (TX6 b).2.1 := by decide +kernel
theorem tyX6_ok : ∀ k, k < 5 → parseFieldDescriptor (TX6 k).2.2.1 = some (tyX6 k) := by decide +kernel
def RX7 : String := "KineticCup$Sights"
def TX7 : u_T := fun k => match k with
  | 0 => ("KineticCup$Sights", "time", "[I", true)
  | 1 => ("KineticCup$Sights", "key", "[I", true)
  | 2 => ("KineticCup$Sights", "atLeast", "[Z", true)
  | _ => ("KineticCup$Sights", "size", "I", false)
def tyX7 : Nat → FieldType := fun k => match k with
  | 0 => .array .int
  | 1 => .array .int
  | 2 => .array .boolean
  | _ => .int
theorem nmX7 : ∀ a, a < 4 → ∀ b, b < 4 → a ≠ b → (TX7 a).2.1 ≠ (TX7 b).2.1 := by decide +kernel
theorem tyX7_ok : ∀ k, k < 4 → parseFieldDescriptor (TX7 k).2.2.1 = some (tyX7 k) := by decide +kernel
def RX8 : String := "KineticCup$Tally"
def TX8 : u_T := fun k => match k with
  | 0 => ("KineticCup$Tally", "taken", "I", false)
  | 1 => ("KineticCup$Tally", "stale", "I", false)
  | 2 => ("KineticCup$Tally", "events", "I", false)
  | 3 => ("KineticCup$Tally", "eventAct", "I", false)
  | _ => ("KineticCup$Tally", "eventMatch", "I", false)
def tyX8 : Nat → FieldType := fun k => match k with
  | 0 => .int
  | 1 => .int
  | 2 => .int
  | 3 => .int
  | _ => .int
theorem nmX8 : ∀ a, a < 5 → ∀ b, b < 5 → a ≠ b → (TX8 a).2.1 ≠ (TX8 b).2.1 := by decide +kernel
theorem tyX8_ok : ∀ k, k < 5 → parseFieldDescriptor (TX8 k).2.2.1 = some (tyX8 k) := by decide +kernel
def RX9 : String := "KineticCup"
def TX9 : u_T := fun k => match k with
  | 0 => ("KineticCup", "cup", "LKineticCup$Cup;", true)
  | 1 => ("KineticCup", "pad", "LKineticCup$Pad;", true)
  | 2 => ("KineticCup", "sights", "LKineticCup$Sights;", true)
  | 3 => ("KineticCup", "rehearsal", "LKineticCup$Rehearsal;", true)
  | 4 => ("KineticCup", "search", "LKineticCup$Search;", true)
  | _ => ("KineticCup", "images", "[LKineticCup$Image;", true)
def tyX9 : Nat → FieldType := fun k => match k with
  | 0 => .object "KineticCup$Cup"
  | 1 => .object "KineticCup$Pad"
  | 2 => .object "KineticCup$Sights"
  | 3 => .object "KineticCup$Rehearsal"
  | 4 => .object "KineticCup$Search"
  | _ => .array (.object "KineticCup$Image")
theorem nmX9 : ∀ a, a < 6 → ∀ b, b < 6 → a ≠ b → (TX9 a).2.1 ≠ (TX9 b).2.1 := by decide +kernel
theorem tyX9_ok : ∀ k, k < 6 → parseFieldDescriptor (TX9 k).2.2.1 = some (tyX9 k) := by decide +kernel
def RX10 : String := "KineticCupModel"
def TX10 : u_T := fun k => match k with
  | 0 => ("KineticCupModel", "book", "[I", true)
  | 1 => ("KineticCupModel", "now", "[I", true)
  | 2 => ("KineticCupModel", "sights", "I", false)
  | 3 => ("KineticCupModel", "sight", "[I", true)
  | 4 => ("KineticCupModel", "signs", "I", false)
  | 5 => ("KineticCupModel", "pad", "[I", true)
  | 6 => ("KineticCupModel", "taken", "I", false)
  | 7 => ("KineticCupModel", "stale", "I", false)
  | 8 => ("KineticCupModel", "events", "I", false)
  | 9 => ("KineticCupModel", "eventAt", "I", false)
  | 10 => ("KineticCupModel", "eventMatch", "I", false)
  | 11 => ("KineticCupModel", "reason", "I", false)
  | 12 => ("KineticCupModel", "acts", "I", false)
  | 13 => ("KineticCupModel", "nextUp", "I", false)
  | 14 => ("KineticCupModel", "nextLow", "I", false)
  | 15 => ("KineticCupModel", "foundUp", "I", false)
  | 16 => ("KineticCupModel", "foundLow", "I", false)
  | 17 => ("KineticCupModel", "fitting", "[I", true)
  | 18 => ("KineticCupModel", "image", "[I", true)
  | _ => ("KineticCupModel", "isKept", "[Z", true)
def tyX10 : Nat → FieldType := fun k => match k with
  | 0 => .array .int
  | 1 => .array .int
  | 2 => .int
  | 3 => .array .int
  | 4 => .int
  | 5 => .array .int
  | 6 => .int
  | 7 => .int
  | 8 => .int
  | 9 => .int
  | 10 => .int
  | 11 => .int
  | 12 => .int
  | 13 => .int
  | 14 => .int
  | 15 => .int
  | 16 => .int
  | 17 => .array .int
  | 18 => .array .int
  | _ => .array .boolean
theorem nmX10 : ∀ a, a < 20 → ∀ b, b < 20 → a ≠ b → (TX10 a).2.1 ≠ (TX10 b).2.1 := by decide +kernel
theorem tyX10_ok : ∀ k, k < 20 → parseFieldDescriptor (TX10 k).2.2.1 = some (tyX10 k) := by decide +kernel
def xcn : List String := ["KineticCup$Cup", "KineticCup$Image", "KineticCup$Pad", "KineticCup$Queue", "KineticCup$Rehearsal", "KineticCup$Search", "KineticCup$Sights", "KineticCup$Tally", "KineticCup", "KineticCupModel", "KineticCup$Nearest", "KineticCupLaw", "java/lang/Math", "java/util/Arrays"]
def xnm (c : Nat) : String := xcn.getD c ""
def xcl : List vw_C := [(RX0, TX0, 9), (RX1, TX1, 3), (RX3, TX3, 2), (RX4, TX4, 7), (RX5, TX5, 4), (RX6, TX6, 5), (RX7, TX7, 4), (RX8, TX8, 5), (RX9, TX9, 6), (RX10, TX10, 20)]
abbrev xM : Type := MethodName × ByteArray × Nat × Option FieldType × Nat × Nat × Nat
def xtab_0 : List xM := [
  (⟨"KineticCupLaw", "law", "([I)Z"⟩, code, 4, (some .boolean), 11, 10, 402),
  (⟨"KineticCup$Cup", "<init>", "()V"⟩, prog_2_method_1_code, 2, none, 0, 5, 114),
  (⟨"KineticCup$Cup", "beginAnew", "()V"⟩, prog_2_method_21_code, 2, none, 0, 4, 93),
  (⟨"KineticCup$Cup", "decide", "(III)Z"⟩, prog_2_method_23_code, 8, (some .boolean), 0, 3, 66),
  (⟨"KineticCup$Cup", "comer", "(I)I"⟩, prog_2_method_24_code, 2, (some .int), 0, 2, 41),
  (⟨"KineticCup$Cup", "bestOf", "(I)I"⟩, prog_2_method_8_code, 2, (some .int), 0, 1, 20),
  (⟨"KineticCup$Cup", "whoIsInOn", "(I)I"⟩, prog_2_method_25_code, 3, (some .int), 0, 0, 0),
  (⟨"KineticCup$Cup", "ahead", "(IIII)I"⟩, prog_2_method_26_code, 6, (some .int), 0, 1, 20),
  (⟨"KineticCup$Cup", "certify", "(III)V"⟩, prog_2_method_27_code, 4, none, 0, 2, 43),
  (⟨"KineticCup$Cup", "placeOf", "(I)I"⟩, prog_2_method_4_code, 2, (some .int), 0, 1, 20),
  (⟨"KineticCup$Cup", "laneTakes", "(II)Z"⟩, prog_2_method_12_code, 2, (some .boolean), 0, 0, 0),
  (⟨"KineticCup$Cup", "kindOf", "(I)I"⟩, prog_2_method_3_code, 2, (some .int), 0, 1, 20),
  (⟨"KineticCup$Cup", "inOf", "(I)I"⟩, prog_2_method_7_code, 2, (some .int), 0, 1, 20),
  (⟨"KineticCup$Cup", "enroll", "(IIII)V"⟩, prog_2_method_13_code, 5, none, 0, 5, 114),
  (⟨"KineticCup$Cup", "copy", "(LKineticCup$Cup;)V"⟩, prog_2_method_2_code, 2, none, 0, 2, 49),
  (⟨"KineticCup$Cup", "tally", "()LKineticCup$Tally;"⟩, prog_2_method_11_code, 1, (some (.object "KineticCup$Tally")), 0, 0, 0),
  (⟨"KineticCup$Cup", "hindrance", "(III)I"⟩, prog_2_method_14_code, 4, (some .int), 0, 3, 64),
  (⟨"KineticCup$Cup", "swapHindrance", "(II)I"⟩, prog_2_method_15_code, 4, (some .int), 0, 2, 41),
  (⟨"KineticCup$Cup", "pushHindrance", "(II)I"⟩, prog_2_method_16_code, 4, (some .int), 0, 2, 41),
  (⟨"KineticCup$Cup", "slopeOf", "(I)I"⟩, prog_2_method_6_code, 2, (some .int), 0, 1, 20),
  (⟨"KineticCup$Cup", "perform", "(IIII)V"⟩, prog_2_method_17_code, 8, none, 0, 5, 121),
  (⟨"KineticCup$Cup", "change", "(III)V"⟩, prog_2_method_18_code, 4, none, 0, 2, 43),
  (⟨"KineticCup$Cup", "push", "(II)V"⟩, prog_2_method_19_code, 3, none, 0, 1, 20),
  (⟨"KineticCup$Cup", "swap", "(II)V"⟩, prog_2_method_20_code, 4, none, 0, 1, 20),
  (⟨"KineticCup$Cup", "takeDue", "(II)Z"⟩, prog_2_method_22_code, 9, (some .boolean), 0, 4, 93),
  (⟨"KineticCup$Cup", "baseOf", "(I)I"⟩, prog_2_method_5_code, 2, (some .int), 0, 1, 20),
  (⟨"KineticCup$Cup", "second", "()I"⟩, prog_2_method_9_code, 1, (some .int), 0, 0, 0),
  (⟨"KineticCup$Cup", "leaderAt", "(II)I"⟩, prog_2_method_29_code, 5, (some .int), 0, 2, 45),
  (⟨"KineticCup$Cup", "queue", "()LKineticCup$Queue;"⟩, prog_2_method_10_code, 1, (some (.object "KineticCup$Queue")), 0, 0, 0),
  (⟨"KineticCup$Cup", "leadersUpTo", "(II)I"⟩, prog_2_method_30_code, 6, (some .int), 0, 4, 98),
  (⟨"KineticCup$Cup", "successor", "(III)I"⟩, prog_2_method_31_code, 10, (some .int), 0, 3, 69),
  (⟨"KineticCup$Cup", "keyOf", "(III)I"⟩, prog_2_method_28_code, 4, (some .int), 0, 2, 41),
  (⟨"KineticCup$Image", "<init>", "()V"⟩, prog_3_method_1_code, 1, none, 1, 6, 135),
  (⟨"KineticCup$Image", "keep", "(LKineticCup$Cup;LKineticCup$Sights;)V"⟩, prog_3_method_2_code, 3, none, 1, 3, 70),
  (⟨"KineticCup$Image", "giveBack", "(LKineticCup$Cup;LKineticCup$Sights;)Z"⟩, prog_3_method_3_code, 3, (some .boolean), 1, 3, 70),
  (⟨"KineticCup$Pad", "<init>", "()V"⟩, prog_5_method_1_code, 1, none, 2, 1, 20),
  (⟨"KineticCup$Pad", "add", "(I)Z"⟩, prog_5_method_4_code, 2, (some .boolean), 2, 0, 0),
  (⟨"KineticCup$Pad", "length", "()I"⟩, prog_5_method_2_code, 1, (some .int), 2, 0, 0),
  (⟨"KineticCup$Pad", "clear", "()V"⟩, prog_5_method_3_code, 1, none, 2, 0, 0),
  (⟨"KineticCup$Pad", "firstFault", "()I"⟩, prog_5_method_7_code, 4, (some .int), 2, 3, 63),
  (⟨"KineticCup$Pad", "faultOfActAt", "(I)I"⟩, prog_5_method_8_code, 2, (some .int), 2, 2, 42),
  (⟨"KineticCup$Pad", "signAt", "(I)I"⟩, prog_5_method_5_code, 2, (some .int), 2, 0, 0),
  (⟨"KineticCup$Pad", "isLetterAt", "(I)Z"⟩, prog_5_method_6_code, 2, (some .boolean), 2, 1, 21),
  (⟨"KineticCup$Pad", "lengthAt", "(I)I"⟩, prog_5_method_9_code, 2, (some .int), 2, 2, 42),
  (⟨"KineticCup$Pad", "deedAt", "(I)I"⟩, prog_5_method_10_code, 2, (some .int), 2, 1, 21),
  (⟨"KineticCup$Pad", "runnerAt", "(I)I"⟩, prog_5_method_11_code, 2, (some .int), 2, 1, 21),
  (⟨"KineticCup$Pad", "otherAt", "(I)I"⟩, prog_5_method_12_code, 2, (some .int), 2, 1, 21),
  (⟨"KineticCup$Queue", "<init>", "()V"⟩, prog_6_method_1_code, 1, none, 3, 1, 20)]
def xtab_1 : List xM := [
  (⟨"KineticCup$Queue", "clear", "()V"⟩, prog_6_method_3_code, 1, none, 3, 1, 23),
  (⟨"KineticCup$Queue", "disown", "(I)V"⟩, prog_6_method_5_code, 2, none, 3, 1, 20),
  (⟨"KineticCup$Queue", "put", "(III)V"⟩, prog_6_method_6_code, 4, none, 3, 1, 20),
  (⟨"KineticCup$Queue", "copy", "(LKineticCup$Queue;)V"⟩, prog_6_method_2_code, 2, none, 3, 1, 28),
  (⟨"KineticCup$Queue", "earliest", "(Z)I"⟩, prog_6_method_13_code, 4, (some .int), 3, 3, 66),
  (⟨"KineticCup$Queue", "isOwn", "(I)Z"⟩, prog_6_method_12_code, 3, (some .boolean), 3, 2, 42),
  (⟨"KineticCup$Queue", "matchOf", "(I)I"⟩, prog_6_method_9_code, 2, (some .int), 3, 1, 21),
  (⟨"KineticCup$Queue", "isHere", "(I)Z"⟩, prog_6_method_8_code, 2, (some .boolean), 3, 0, 0),
  (⟨"KineticCup$Queue", "isSooner", "(II)Z"⟩, prog_6_method_14_code, 5, (some .boolean), 3, 2, 42),
  (⟨"KineticCup$Queue", "upperOf", "(I)I"⟩, prog_6_method_10_code, 2, (some .int), 3, 1, 21),
  (⟨"KineticCup$Queue", "lowerOf", "(I)I"⟩, prog_6_method_11_code, 2, (some .int), 3, 1, 21),
  (⟨"KineticCup$Queue", "remove", "(I)V"⟩, prog_6_method_7_code, 3, none, 3, 1, 21),
  (⟨"KineticCup$Queue", "size", "()I"⟩, prog_6_method_4_code, 1, (some .int), 3, 0, 0),
  (⟨"KineticCup$Rehearsal", "<init>", "()V"⟩, prog_7_method_1_code, 1, none, 4, 6, 135),
  (⟨"KineticCup$Rehearsal", "play", "(LKineticCup$Cup;LKineticCup$Pad;)Z"⟩, prog_7_method_7_code, 7, (some .boolean), 4, 6, 148),
  (⟨"KineticCup$Rehearsal", "begin", "(LKineticCup$Cup;)V"⟩, prog_7_method_6_code, 2, none, 4, 3, 70),
  (⟨"KineticCup$Rehearsal", "stoppedAct", "()I"⟩, prog_7_method_4_code, 1, (some .int), 4, 0, 0),
  (⟨"KineticCup$Rehearsal", "stoppedWhy", "()I"⟩, prog_7_method_5_code, 1, (some .int), 4, 0, 0),
  (⟨"KineticCup$Rehearsal", "cup", "()LKineticCup$Cup;"⟩, prog_7_method_2_code, 1, (some (.object "KineticCup$Cup")), 4, 0, 0),
  (⟨"KineticCup$Rehearsal", "acts", "()I"⟩, prog_7_method_3_code, 1, (some .int), 4, 0, 0),
  (⟨"KineticCup$Rehearsal", "draw", "(LKineticCup$Cup;II)V"⟩, prog_7_method_8_code, 9, none, 4, 6, 148),
  (⟨"KineticCup$Search", "<init>", "()V"⟩, prog_8_method_1_code, 1, none, 5, 1, 20),
  (⟨"KineticCup$Search", "gather", "(LKineticCup$Sights;)V"⟩, prog_8_method_6_code, 4, none, 5, 1, 23),
  (⟨"KineticCup$Search", "size", "()I"⟩, prog_8_method_2_code, 1, (some .int), 5, 0, 0),
  (⟨"KineticCup$Search", "codeOf", "(I)I"⟩, prog_8_method_3_code, 2, (some .int), 5, 0, 0),
  (⟨"KineticCup$Search", "weigh", "()V"⟩, prog_8_method_7_code, 5, none, 5, 2, 49),
  (⟨"KineticCup$Search", "countAt", "(I)V"⟩, prog_8_method_8_code, 7, none, 5, 1, 23),
  (⟨"KineticCup$Search", "look", "()I"⟩, prog_8_method_4_code, 1, (some .int), 5, 0, 0),
  (⟨"KineticCup$Search", "left", "()I"⟩, prog_8_method_5_code, 1, (some .int), 5, 0, 0),
  (⟨"KineticCup$Sights", "<init>", "()V"⟩, prog_9_method_1_code, 1, none, 6, 1, 20),
  (⟨"KineticCup$Sights", "add", "(IIZ)Z"⟩, prog_9_method_5_code, 4, (some .boolean), 6, 0, 0),
  (⟨"KineticCup$Sights", "size", "()I"⟩, prog_9_method_3_code, 1, (some .int), 6, 0, 0),
  (⟨"KineticCup$Sights", "clear", "()V"⟩, prog_9_method_4_code, 1, none, 6, 0, 0),
  (⟨"KineticCup$Sights", "allow", "(II)Z"⟩, prog_9_method_6_code, 4, (some .boolean), 6, 0, 0),
  (⟨"KineticCup$Sights", "copy", "(LKineticCup$Sights;)V"⟩, prog_9_method_2_code, 2, none, 6, 1, 28),
  (⟨"KineticCup$Tally", "<init>", "()V"⟩, prog_10_method_1_code, 1, none, 7, 1, 20),
  (⟨"KineticCup$Tally", "clear", "()V"⟩, prog_10_method_2_code, 1, none, 7, 0, 0),
  (⟨"KineticCup$Tally", "count", "(ZII)V"⟩, prog_10_method_3_code, 4, none, 7, 0, 0),
  (⟨"KineticCup", "<init>", "()V"⟩, prog_1_method_1_code, 2, none, 8, 7, 155),
  (⟨"KineticCup", "isMatch", "(I)Z"⟩, prog_1_method_30_code, 1, (some .boolean), 8, 0, 0),
  (⟨"KineticCup", "isRunner", "(I)Z"⟩, prog_1_method_29_code, 1, (some .boolean), 8, 0, 0),
  (⟨"KineticCup", "runner", "(IIII)I"⟩, prog_1_method_2_code, 6, (some .int), 8, 6, 138),
  (⟨"KineticCup", "isWithin", "(II)Z"⟩, prog_1_method_31_code, 2, (some .boolean), 8, 0, 0),
  (⟨"KineticCup", "say", "(I)I"⟩, prog_1_method_3_code, 2, (some .int), 8, 1, 21),
  (⟨"KineticCup", "wipe", "()I"⟩, prog_1_method_4_code, 2, (some .int), 8, 1, 20),
  (⟨"KineticCup", "fault", "()I"⟩, prog_1_method_5_code, 1, (some .int), 8, 4, 86),
  (⟨"KineticCup", "judge", "(I)I"⟩, prog_1_method_6_code, 2, (some .int), 8, 7, 174),
  (⟨"KineticCup", "done", "()I"⟩, prog_1_method_7_code, 1, (some .int), 8, 7, 174)]
def xtab_2 : List xM := [
  (⟨"KineticCup", "behind", "(II)I"⟩, prog_1_method_8_code, 4, (some .int), 8, 7, 174),
  (⟨"KineticCup", "winner", "(I)I"⟩, prog_1_method_9_code, 2, (some .int), 8, 7, 174),
  (⟨"KineticCup", "then", "(I)I"⟩, prog_1_method_10_code, 4, (some .int), 8, 7, 174),
  (⟨"KineticCup", "leads", "(II)I"⟩, prog_1_method_11_code, 3, (some .int), 8, 3, 69),
  (⟨"KineticCup", "isTime", "(II)Z"⟩, prog_1_method_32_code, 2, (some .boolean), 8, 0, 0),
  (⟨"KineticCup", "next", "(I)J"⟩, prog_1_method_12_code, 4, (some .long), 8, 4, 89),
  (⟨"KineticCup", "isPart", "(I)Z"⟩, prog_1_method_33_code, 1, (some .boolean), 8, 0, 0),
  (⟨"KineticCup", "lowestTerms", "(III)J"⟩, prog_1_method_34_code, 7, (some .long), 8, 1, 20),
  (⟨"KineticCup", "where", "()I"⟩, prog_1_method_13_code, 2, (some .int), 8, 4, 89),
  (⟨"KineticCup", "ever", "(II)I"⟩, prog_1_method_14_code, 3, (some .int), 8, 5, 123),
  (⟨"KineticCup", "value", "(IIII)J"⟩, prog_1_method_15_code, 5, (some .long), 8, 3, 64),
  (⟨"KineticCup", "number", "(IIII)J"⟩, prog_1_method_16_code, 6, (some .long), 8, 3, 85),
  (⟨"KineticCup", "heap", "(III)J"⟩, prog_1_method_17_code, 9, (some .long), 8, 3, 84),
  (⟨"KineticCup", "seen", "(IIZ)I"⟩, prog_1_method_18_code, 4, (some .int), 8, 1, 23),
  (⟨"KineticCup", "forget", "()I"⟩, prog_1_method_19_code, 2, (some .int), 8, 1, 20),
  (⟨"KineticCup", "lines", "(I)I"⟩, prog_1_method_20_code, 2, (some .int), 8, 2, 46),
  (⟨"KineticCup", "ask", "(I)I"⟩, prog_1_method_21_code, 2, (some .int), 8, 3, 73),
  (⟨"KineticCup", "cross", "(III)J"⟩, prog_1_method_22_code, 6, (some .long), 8, 2, 46),
  (⟨"KineticCup", "run", "(III)I"⟩, prog_1_method_23_code, 5, (some .int), 8, 7, 176),
  (⟨"KineticCup", "image", "(I)I"⟩, prog_1_method_24_code, 2, (some .int), 8, 4, 92),
  (⟨"KineticCup", "restore", "(I)I"⟩, prog_1_method_25_code, 2, (some .int), 8, 4, 92),
  (⟨"KineticCup", "told", "(I)I"⟩, prog_1_method_26_code, 2, (some .int), 8, 3, 63),
  (⟨"KineticCup", "toldOfAll", "(I)I"⟩, prog_1_method_27_code, 2, (some .int), 8, 2, 41),
  (⟨"KineticCup", "toldOfOne", "(II)I"⟩, prog_1_method_28_code, 3, (some .int), 8, 2, 41),
  (⟨"KineticCupModel", "<init>", "()V"⟩, prog_12_method_1_code, 2, none, 9, 3, 70),
  (⟨"KineticCupModel", "anew", "()V"⟩, prog_12_method_11_code, 2, none, 9, 2, 49),
  (⟨"KineticCupModel", "comer", "(II)I"⟩, prog_12_method_9_code, 3, (some .int), 9, 1, 22),
  (⟨"KineticCupModel", "onPlace", "(I)I"⟩, prog_12_method_8_code, 3, (some .int), 9, 0, 0),
  (⟨"KineticCupModel", "better", "(IIII)I"⟩, prog_12_method_7_code, 5, (some .int), 9, 1, 25),
  (⟨"KineticCupModel", "isAhead", "(IIII)Z"⟩, prog_12_method_6_code, 6, (some .boolean), 9, 0, 0),
  (⟨"KineticCupModel", "certify", "(I)V"⟩, prog_12_method_10_code, 8, none, 9, 0, 0),
  (⟨"KineticCupModel", "keep", "()V"⟩, prog_12_method_5_code, 2, none, 9, 0, 0),
  (⟨"KineticCupModel", "runner", "(IIII)I"⟩, prog_12_method_14_code, 6, (some .int), 9, 3, 70),
  (⟨"KineticCupModel", "isRunner", "(I)Z"⟩, prog_12_method_3_code, 1, (some .boolean), 9, 1, 22),
  (⟨"KineticCupModel", "in", "(III)Z"⟩, prog_12_method_2_code, 3, (some .boolean), 9, 0, 0),
  (⟨"KineticCupModel", "asNow", "()V"⟩, prog_12_method_4_code, 2, none, 9, 0, 0),
  (⟨"KineticCupModel", "say", "(I)I"⟩, prog_12_method_15_code, 2, (some .int), 9, 1, 22),
  (⟨"KineticCupModel", "wipe", "()I"⟩, prog_12_method_16_code, 2, (some .int), 9, 0, 0),
  (⟨"KineticCupModel", "fault", "()I"⟩, prog_12_method_19_code, 1, (some .int), 9, 3, 66),
  (⟨"KineticCupModel", "faultOf", "()I"⟩, prog_12_method_18_code, 3, (some .int), 9, 2, 44),
  (⟨"KineticCupModel", "step", "(II)I"⟩, prog_12_method_17_code, 3, (some .int), 9, 1, 22),
  (⟨"KineticCupModel", "judge", "(I)I"⟩, prog_12_method_26_code, 3, (some .int), 9, 6, 147),
  (⟨"KineticCupModel", "goDays", "()I"⟩, prog_12_method_25_code, 2, (some .int), 9, 5, 126),
  (⟨"KineticCupModel", "oneAct", "(I)I"⟩, prog_12_method_24_code, 3, (some .int), 9, 4, 104),
  (⟨"KineticCupModel", "endSecond", "(I)I"⟩, prog_12_method_23_code, 3, (some .int), 9, 3, 82),
  (⟨"KineticCupModel", "dueBy", "(I)I"⟩, prog_12_method_12_code, 6, (some .int), 9, 0, 0),
  (⟨"KineticCupModel", "take", "(II)V"⟩, prog_12_method_13_code, 14, none, 9, 2, 49),
  (⟨"KineticCupModel", "bend", "(II)I"⟩, prog_12_method_20_code, 3, (some .int), 9, 3, 70)]
def xtab_3 : List xM := [
  (⟨"KineticCupModel", "goOut", "(IZ)I"⟩, prog_12_method_21_code, 3, (some .int), 9, 3, 70),
  (⟨"KineticCupModel", "exchange", "(II)I"⟩, prog_12_method_22_code, 5, (some .int), 9, 3, 70),
  (⟨"KineticCupModel", "done", "()I"⟩, prog_12_method_28_code, 1, (some .int), 9, 7, 167),
  (⟨"KineticCupModel", "barOfDays", "()I"⟩, prog_12_method_27_code, 1, (some .int), 9, 6, 147),
  (⟨"KineticCupModel", "behind", "(II)I"⟩, prog_12_method_29_code, 3, (some .int), 9, 7, 167),
  (⟨"KineticCupModel", "winner", "(I)I"⟩, prog_12_method_30_code, 2, (some .int), 9, 7, 167),
  (⟨"KineticCupModel", "then", "(I)I"⟩, prog_12_method_31_code, 2, (some .int), 9, 7, 167),
  (⟨"KineticCupModel", "leads", "(II)I"⟩, prog_12_method_35_code, 3, (some .int), 9, 3, 74),
  (⟨"KineticCupModel", "isTime", "(II)Z"⟩, prog_12_method_32_code, 2, (some .boolean), 9, 1, 22),
  (⟨"KineticCupModel", "best", "(III)I"⟩, prog_12_method_34_code, 6, (some .int), 9, 2, 49),
  (⟨"KineticCupModel", "isOf", "(II)Z"⟩, prog_12_method_33_code, 4, (some .boolean), 9, 0, 0),
  (⟨"KineticCupModel", "next", "(I)J"⟩, prog_12_method_39_code, 2, (some .long), 9, 4, 96),
  (⟨"KineticCupModel", "nextMatch", "()I"⟩, prog_12_method_37_code, 3, (some .int), 9, 3, 74),
  (⟨"KineticCupModel", "layNext", "(II)Z"⟩, prog_12_method_36_code, 8, (some .boolean), 9, 1, 23),
  (⟨"KineticCupModel", "lowest", "(JJI)J"⟩, prog_12_method_38_code, 11, (some .long), 9, 0, 0),
  (⟨"KineticCupModel", "where", "()I"⟩, prog_12_method_40_code, 1, (some .int), 9, 4, 96),
  (⟨"KineticCupModel", "ever", "(II)I"⟩, prog_12_method_41_code, 6, (some .int), 9, 3, 74),
  (⟨"KineticCupModel", "value", "(IIII)J"⟩, prog_12_method_42_code, 5, (some .long), 9, 2, 43),
  (⟨"KineticCupModel", "number", "(IIII)J"⟩, prog_12_method_49_code, 9, (some .long), 9, 3, 85),
  (⟨"KineticCupModel", "bitsOfDouble", "(JJ)J"⟩, prog_12_method_48_code, 13, (some .long), 9, 0, 0),
  (⟨"KineticCupModel", "single", "(JJ)J"⟩, prog_12_method_45_code, 12, (some .long), 9, 2, 54),
  (⟨"KineticCupModel", "round", "(JZZZ)J"⟩, prog_12_method_44_code, 13, (some .long), 9, 1, 22),
  (⟨"KineticCupModel", "length", "(J)I"⟩, prog_12_method_43_code, 3, (some .int), 9, 0, 0),
  (⟨"KineticCupModel", "bitsOfSingle", "(J)J"⟩, prog_12_method_46_code, 9, (some .long), 9, 1, 22),
  (⟨"KineticCupModel", "whole", "(J)J"⟩, prog_12_method_47_code, 2, (some .long), 9, 0, 0),
  (⟨"KineticCupModel", "heap", "(III)J"⟩, prog_12_method_50_code, 9, (some .long), 9, 3, 85),
  (⟨"KineticCupModel", "seen", "(IIZ)I"⟩, prog_12_method_51_code, 4, (some .int), 9, 1, 22),
  (⟨"KineticCupModel", "forget", "()I"⟩, prog_12_method_52_code, 2, (some .int), 9, 0, 0),
  (⟨"KineticCupModel", "lines", "(I)I"⟩, prog_12_method_55_code, 4, (some .int), 9, 2, 45),
  (⟨"KineticCupModel", "isFit", "(I)Z"⟩, prog_12_method_54_code, 4, (some .boolean), 9, 1, 22),
  (⟨"KineticCupModel", "isLeast", "(III)Z"⟩, prog_12_method_53_code, 3, (some .boolean), 9, 0, 0),
  (⟨"KineticCupModel", "ask", "(I)I"⟩, prog_12_method_56_code, 9, (some .int), 9, 2, 45),
  (⟨"KineticCupModel", "cross", "(III)J"⟩, prog_12_method_57_code, 6, (some .long), 9, 2, 42),
  (⟨"KineticCupModel", "run", "(III)I"⟩, prog_12_method_58_code, 7, (some .int), 9, 4, 104),
  (⟨"KineticCupModel", "image", "(I)I"⟩, prog_12_method_59_code, 4, (some .int), 9, 1, 22),
  (⟨"KineticCupModel", "restore", "(I)I"⟩, prog_12_method_60_code, 4, (some .int), 9, 1, 22),
  (⟨"KineticCupModel", "told", "(I)I"⟩, prog_12_method_61_code, 4, (some .int), 9, 2, 42),
  (⟨"KineticCup$Nearest", "singleBits", "(JJ)J"⟩, prog_4_method_3_code, 5, (some .long), 10, 2, 60),
  (⟨"KineticCup$Nearest", "sizeBits", "(JJII)J"⟩, prog_4_method_5_code, 13, (some .long), 10, 1, 28),
  (⟨"KineticCup$Nearest", "shiftFor", "(JJI)I"⟩, prog_4_method_6_code, 6, (some .int), 10, 0, 0),
  (⟨"KineticCup$Nearest", "nearestWhole", "(JJ)J"⟩, prog_4_method_7_code, 9, (some .long), 10, 0, 0),
  (⟨"KineticCup$Nearest", "doubleBits", "(JJ)J"⟩, prog_4_method_4_code, 6, (some .long), 10, 2, 60),
  (⟨"KineticCup$Nearest", "single", "(JJ)J"⟩, prog_4_method_2_code, 11, (some .long), 10, 1, 28),
  (⟨"java/lang/Math", "abs", "(I)I"⟩, prog_13_method_59_code, 1, (some .int), 12, 0, 0),
  (⟨"java/lang/Math", "abs", "(J)J"⟩, prog_13_method_61_code, 2, (some .long), 12, 0, 0),
  (⟨"java/lang/Math", "max", "(II)I"⟩, prog_13_method_65_code, 2, (some .int), 12, 0, 0),
  (⟨"java/lang/Math", "min", "(II)I"⟩, prog_13_method_69_code, 2, (some .int), 12, 0, 0),
  (⟨"java/util/Arrays", "fill", "([II)V"⟩, prog_18_method_103_code, 4, none, 13, 0, 0)]
def xtab : List xM := xtab_0 ++ (xtab_1 ++ (xtab_2 ++ (xtab_3)))
def xm (id : Nat) : xM := xtab.getD id (⟨"", "", ""⟩, .empty, 0, none, 0, 0, 0)
def xy (id : Nat) : MethodName := (xm id).1
def xbc (id : Nat) : ByteArray := (xm id).2.1
def xml (id : Nat) : Nat := (xm id).2.2.1
def xret (id : Nat) : Option FieldType := (xm id).2.2.2.1
def xown (id : Nat) : Nat := (xm id).2.2.2.2.1
def xrf (id : Nat) : Nat := (xm id).2.2.2.2.2.1
def xrl (id : Nat) : Nat := (xm id).2.2.2.2.2.2
def xfl : List ((Nat × Nat) × Nat × Nat × Bool × Nat) := [
  ((0, 9), 0, 0, false, 185),
  ((0, 15), 0, 1, false, 186),
  ((0, 18), 0, 2, false, 187),
  ((0, 21), 0, 3, false, 188),
  ((0, 24), 0, 4, false, 189),
  ((0, 28), 0, 5, false, 190),
  ((0, 34), 0, 6, false, 191),
  ((0, 41), 0, 7, false, 192),
  ((0, 45), 0, 8, false, 193),
  ((1, 10), 1, 0, false, 299),
  ((1, 19), 1, 1, false, 300),
  ((1, 23), 1, 2, false, 301),
  ((2, 11), 2, 0, false, 219),
  ((2, 15), 2, 1, false, 220),
  ((3, 11), 3, 0, false, 84),
  ((3, 15), 3, 1, false, 85),
  ((3, 18), 3, 2, false, 86),
  ((3, 21), 3, 3, false, 87),
  ((3, 24), 3, 4, false, 88),
  ((3, 27), 3, 5, false, 89),
  ((3, 31), 3, 6, false, 90),
  ((4, 12), 4, 0, false, 253),
  ((4, 18), 4, 1, false, 254),
  ((4, 22), 4, 2, false, 255),
  ((4, 25), 4, 3, false, 256),
  ((5, 11), 5, 0, false, 272),
  ((5, 17), 5, 1, false, 273),
  ((5, 20), 5, 2, false, 274),
  ((5, 24), 5, 3, false, 275),
  ((5, 27), 5, 4, false, 276),
  ((6, 9), 6, 0, false, 232),
  ((6, 13), 6, 1, false, 233),
  ((6, 16), 6, 2, false, 234),
  ((6, 20), 6, 3, false, 235),
  ((7, 9), 7, 0, false, 114),
  ((7, 15), 7, 1, false, 116),
  ((7, 18), 7, 2, false, 118),
  ((7, 21), 7, 3, false, 120),
  ((7, 24), 7, 4, false, 122),
  ((8, 10), 8, 0, false, 309),
  ((8, 19), 8, 1, false, 310),
  ((8, 26), 8, 2, false, 311),
  ((8, 33), 8, 3, false, 312),
  ((8, 40), 8, 4, false, 313),
  ((8, 46), 8, 5, false, 314),
  ((8, 128), 7, 0, true, 115),
  ((8, 134), 7, 1, true, 117),
  ((8, 137), 7, 2, true, 119),
  ((8, 140), 7, 3, true, 121),
  ((8, 143), 7, 4, true, 123),
  ((9, 7), 9, 0, false, 860),
  ((9, 13), 9, 1, false, 861),
  ((9, 16), 9, 3, false, 863),
  ((9, 19), 9, 5, false, 865),
  ((9, 22), 9, 17, false, 877),
  ((9, 25), 9, 18, false, 878),
  ((9, 28), 9, 19, false, 879),
  ((9, 42), 9, 6, false, 866),
  ((9, 46), 9, 7, false, 867),
  ((9, 49), 9, 8, false, 868),
  ((9, 52), 9, 9, false, 869),
  ((9, 55), 9, 10, false, 870),
  ((9, 85), 9, 4, false, 864),
  ((9, 102), 9, 12, false, 872),
  ((9, 121), 9, 11, false, 871),
  ((9, 141), 9, 14, false, 874),
  ((9, 144), 9, 13, false, 873),
  ((9, 150), 9, 16, false, 876),
  ((9, 153), 9, 15, false, 875),
  ((9, 203), 9, 2, false, 862)]
def xfld (own idx : Nat) : Option (Nat × Nat × Bool × Nat) := xfl.lookup (own, idx)
def xcs : List ((Nat × Nat) × Value × Nat) := [
  ((4, 74), .int (65537 : Int32), 745),
  ((4, 75), .retAddr 1, 0),
  ((8, 156), .long (-1000000000000000002 : Int64), 590),
  ((8, 168), .long (-1000000000000000003 : Int64), 596),
  ((8, 186), .long (-1000000000000000001 : Int64), 628),
  ((8, 204), .long (1073741824 : Int64), 661),
  ((9, 156), .long (-1000000000000000002 : Int64), 1029),
  ((9, 161), .long (-1000000000000000003 : Int64), 1038),
  ((9, 167), .long (-1000000000000000001 : Int64), 1054),
  ((9, 173), .long (2 : Int64), 1063),
  ((9, 179), .long (8388608 : Int64), 1078),
  ((9, 181), .long (2147483648 : Int64), 1079),
  ((9, 183), .long (4503599627370496 : Int64), 1062),
  ((9, 185), .long (9007199254740992 : Int64), 1064),
  ((9, 187), .long (-9223372036854775808 : Int64), 1065),
  ((9, 212), .int (1000000 : Int32), 1110),
  ((9, 213), .int (65537 : Int32), 1119),
  ((10, 29), .int (-2147483648 : Int32), 653),
  ((10, 32), .long (-9223372036854775808 : Int64), 657),
  ((10, 34), .long (2 : Int64), 652)]
def xcst (own idx : Nat) : Option (Value × Nat) := xcs.lookup (own, idx)
def xmt : List ((Nat × Nat) × Nat × Nat × Nat × Nat) := [
  ((0, 3), 6, 0, 0, 77),
  ((0, 33), 5, 47, 0, 80),
  ((0, 40), 5, 83, 0, 110),
  ((0, 49), 1, 2, 0, 135),
  ((0, 52), 7, 0, 5, 420),
  ((0, 58), 1, 51, 1, 423),
  ((0, 62), 3, 88, 1, 169),
  ((0, 66), 3, 87, 1, 150),
  ((0, 69), 1, 17, 2, 451),
  ((0, 73), 1, 18, 2, 458),
  ((0, 76), 1, 9, 1, 455),
  ((0, 80), 1, 11, 1, 456),
  ((0, 83), 0, 10, 2, 457),
  ((0, 87), 1, 19, 1, 462),
  ((0, 90), 1, 21, 3, 470),
  ((0, 94), 1, 24, 2, 482),
  ((0, 97), 1, 22, 2, 474),
  ((0, 101), 1, 23, 2, 478),
  ((0, 104), 1, 48, 0, 139),
  ((0, 107), 1, 3, 3, 146),
  ((0, 111), 1, 52, 1, 486),
  ((0, 115), 1, 54, 1, 514),
  ((0, 118), 1, 57, 1, 515),
  ((0, 121), 1, 58, 1, 516),
  ((0, 124), 1, 53, 1, 517),
  ((0, 127), 1, 59, 1, 518),
  ((0, 131), 1, 85, 3, 522),
  ((0, 135), 1, 4, 1, 153),
  ((0, 138), 1, 7, 4, 165),
  ((0, 142), 1, 8, 3, 172),
  ((0, 145), 1, 5, 1, 157),
  ((0, 148), 1, 6, 1, 161),
  ((0, 151), 1, 49, 1, 176),
  ((0, 154), 1, 50, 3, 181),
  ((0, 157), 1, 25, 1, 623),
  ((0, 160), 1, 27, 2, 618),
  ((0, 163), 1, 30, 3, 619),
  ((1, 1), 6, 0, 0, 294),
  ((1, 9), 2, 1, 0, 296),
  ((1, 18), 5, 77, 0, 298),
  ((1, 27), 1, 14, 1, 796),
  ((1, 31), 1, 82, 1, 797),
  ((2, 3), 6, 0, 0, 218),
  ((2, 19), 1, 41, 1, 387),
  ((2, 23), 3, 88, 1, 395),
  ((2, 27), 1, 40, 1, 383),
  ((2, 30), 1, 43, 1, 396),
  ((2, 33), 1, 42, 1, 391),
  ((2, 36), 1, 44, 1, 400),
  ((3, 3), 6, 0, 0, 83),
  ((3, 34), 7, 0, 5, 427),
  ((3, 40), 0, 191, 2, 143),
  ((3, 46), 3, 87, 1, 180),
  ((3, 50), 1, 55, 1, 498),
  ((3, 53), 1, 54, 1, 494),
  ((3, 57), 1, 53, 1, 490),
  ((3, 60), 1, 56, 2, 502),
  ((3, 64), 1, 57, 1, 506),
  ((3, 67), 1, 58, 1, 510),
  ((4, 3), 6, 0, 0, 250),
  ((4, 11), 2, 1, 0, 252),
  ((4, 28), 1, 14, 1, 416),
  ((4, 32), 1, 15, 0, 428),
  ((4, 36), 1, 84, 0, 432),
  ((4, 41), 1, 63, 1, 412),
  ((4, 44), 1, 39, 0, 436),
  ((4, 50), 1, 37, 0, 437),
  ((4, 53), 1, 44, 1, 438),
  ((4, 57), 1, 45, 1, 439),
  ((4, 60), 1, 46, 1, 443),
  ((4, 63), 1, 16, 3, 447),
  ((4, 67), 1, 20, 4, 466),
  ((4, 71), 1, 43, 1, 526),
  ((4, 77), 8, 0, 1, 747),
  ((5, 5), 6, 0, 0, 271),
  ((5, 30), 1, 81, 2, 694),
  ((5, 34), 1, 74, 1, 714),
  ((5, 38), 0, 189, 2, 722),
  ((5, 44), 0, 191, 2, 718),
  ((5, 50), 0, 190, 2, 719),
  ((6, 1), 6, 0, 0, 231),
  ((6, 24), 7, 0, 5, 801),
  ((7, 3), 6, 0, 0, 113),
  ((8, 1), 6, 0, 0, 69),
  ((8, 9), 2, 1, 0, 74),
  ((8, 18), 5, 35, 0, 215),
  ((8, 25), 5, 77, 0, 228),
  ((8, 32), 5, 61, 0, 247),
  ((8, 39), 5, 69, 0, 268),
  ((8, 50), 5, 32, 0, 291),
  ((8, 51), 0, 88, 1, 332),
  ((8, 55), 0, 90, 2, 333),
  ((8, 59), 1, 9, 1, 336),
  ((8, 63), 0, 10, 2, 340),
  ((8, 66), 1, 11, 1, 343),
  ((8, 69), 1, 12, 1, 347),
  ((8, 72), 1, 13, 4, 351),
  ((8, 76), 1, 36, 1, 359),
  ((8, 79), 1, 37, 0, 363),
  ((8, 83), 1, 38, 0, 371),
  ((8, 86), 1, 39, 0, 379),
  ((8, 89), 1, 62, 2, 408),
  ((8, 93), 1, 64, 0, 527),
  ((8, 96), 1, 65, 0, 531),
  ((8, 99), 1, 66, 0, 539),
  ((8, 102), 1, 14, 1, 543),
  ((8, 106), 1, 67, 0, 544),
  ((8, 109), 1, 25, 1, 552),
  ((8, 112), 1, 19, 1, 556),
  ((8, 115), 0, 87, 1, 561),
  ((8, 118), 1, 5, 1, 562),
  ((8, 121), 1, 15, 0, 567),
  ((8, 125), 1, 26, 0, 568),
  ((8, 146), 0, 100, 2, 576),
  ((8, 149), 1, 27, 2, 579),
  ((8, 153), 0, 102, 1, 587),
  ((8, 158), 1, 28, 0, 591),
  ((8, 162), 1, 52, 1, 595),
  ((8, 170), 1, 57, 1, 597),
  ((8, 173), 1, 58, 1, 598),
  ((8, 176), 0, 103, 3, 599),
  ((8, 180), 1, 54, 1, 609),
  ((8, 183), 1, 29, 2, 614),
  ((8, 188), 1, 31, 3, 629),
  ((8, 192), 0, 181, 2, 637),
  ((8, 198), 0, 185, 2, 654),
  ((8, 201), 0, 186, 2, 658),
  ((8, 206), 1, 78, 3, 670),
  ((8, 209), 1, 79, 0, 674),
  ((8, 212), 1, 80, 0, 682),
  ((8, 213), 1, 70, 1, 690),
  ((8, 217), 1, 71, 0, 698),
  ((8, 218), 1, 72, 1, 702),
  ((8, 221), 1, 73, 0, 710),
  ((8, 224), 1, 75, 0, 725),
  ((8, 227), 1, 76, 0, 729),
  ((8, 230), 1, 68, 3, 741),
  ((8, 234), 1, 33, 2, 792),
  ((8, 238), 1, 34, 2, 806),
  ((8, 242), 1, 118, 1, 814),
  ((8, 245), 1, 119, 2, 822),
  ((8, 248), 1, 60, 0, 818),
  ((8, 249), 0, 187, 1, 602),
  ((9, 1), 6, 0, 0, 831),
  ((9, 32), 1, 121, 0, 832),
  ((9, 35), 1, 127, 0, 856),
  ((9, 38), 0, 130, 3, 928),
  ((9, 58), 1, 125, 4, 848),
  ((9, 62), 1, 123, 1, 840),
  ((9, 66), 1, 122, 2, 836),
  ((9, 70), 1, 124, 4, 844),
  ((9, 74), 1, 126, 1, 852),
  ((9, 78), 0, 129, 1, 925),
  ((9, 82), 1, 131, 0, 931),
  ((9, 88), 0, 136, 2, 951),
  ((9, 91), 1, 135, 0, 947),
  ((9, 95), 1, 141, 1, 970),
  ((9, 98), 1, 142, 2, 974),
  ((9, 105), 1, 140, 1, 966),
  ((9, 108), 1, 143, 2, 978),
  ((9, 111), 1, 144, 2, 982),
  ((9, 115), 1, 145, 2, 986),
  ((9, 118), 1, 139, 1, 962),
  ((9, 124), 1, 138, 0, 958),
  ((9, 127), 1, 147, 0, 994),
  ((9, 130), 1, 154, 2, 1021),
  ((9, 134), 0, 152, 2, 1014),
  ((9, 137), 1, 153, 3, 1017),
  ((9, 147), 1, 157, 2, 1034),
  ((9, 158), 1, 156, 0, 1030),
  ((9, 163), 0, 158, 3, 1039),
  ((9, 169), 0, 166, 1, 1072),
  ((9, 175), 0, 165, 4, 1069),
  ((9, 189), 0, 163, 2, 1059),
  ((9, 193), 0, 164, 2, 1066),
  ((9, 196), 0, 167, 1, 1075),
  ((9, 200), 0, 168, 1, 1080),
  ((9, 206), 0, 174, 3, 1103),
  ((9, 209), 1, 173, 1, 1099),
  ((10, 9), 0, 188, 1, 643),
  ((10, 15), 0, 183, 3, 646),
  ((10, 19), 0, 184, 2, 649),
  ((10, 23), 0, 182, 4, 640),
  ((11, 9), 2, 86, 0, 66),
  ((11, 12), 2, 120, 0, 828),
  ((11, 13), 1, 89, 4, 328),
  ((11, 17), 1, 128, 4, 921),
  ((11, 18), 1, 91, 1, 355),
  ((11, 22), 1, 132, 1, 935),
  ((11, 23), 1, 92, 0, 367),
  ((11, 27), 1, 133, 0, 939),
  ((11, 28), 1, 93, 0, 375),
  ((11, 31), 1, 134, 0, 943),
  ((11, 32), 1, 94, 1, 404),
  ((11, 35), 1, 137, 1, 954),
  ((11, 36), 1, 95, 0, 535),
  ((11, 39), 1, 146, 0, 990),
  ((11, 40), 1, 96, 2, 548),
  ((11, 44), 1, 148, 2, 998),
  ((11, 45), 1, 97, 1, 557),
  ((11, 48), 1, 149, 1, 1002),
  ((11, 49), 1, 98, 1, 563),
  ((11, 52), 1, 150, 1, 1006),
  ((11, 53), 1, 99, 2, 572),
  ((11, 56), 1, 151, 2, 1010),
  ((11, 57), 1, 101, 1, 583),
  ((11, 61), 1, 155, 1, 1025),
  ((11, 62), 1, 104, 0, 605),
  ((11, 65), 1, 159, 0, 1042),
  ((11, 66), 1, 105, 2, 610),
  ((11, 69), 1, 160, 2, 1046),
  ((11, 70), 1, 106, 4, 624),
  ((11, 74), 1, 161, 4, 1050),
  ((11, 75), 1, 107, 4, 633),
  ((11, 78), 1, 162, 4, 1055),
  ((11, 79), 1, 108, 3, 662),
  ((11, 83), 1, 169, 3, 1083),
  ((11, 84), 1, 109, 3, 666),
  ((11, 88), 1, 170, 3, 1087),
  ((11, 89), 1, 110, 0, 678),
  ((11, 92), 1, 171, 0, 1091),
  ((11, 93), 1, 111, 1, 686),
  ((11, 96), 1, 172, 1, 1095),
  ((11, 97), 1, 112, 1, 706),
  ((11, 100), 1, 175, 1, 1106),
  ((11, 101), 1, 113, 3, 733),
  ((11, 104), 1, 176, 3, 1111),
  ((11, 105), 1, 114, 3, 737),
  ((11, 109), 1, 177, 3, 1115),
  ((11, 110), 1, 115, 1, 788),
  ((11, 113), 1, 178, 1, 1120),
  ((11, 114), 1, 116, 1, 802),
  ((11, 117), 1, 179, 1, 1124),
  ((11, 118), 1, 117, 1, 810),
  ((11, 121), 1, 180, 1, 1128)]
def xmth (own idx : Nat) : Option (Nat × Nat × Nat × Nat) := xmt.lookup (own, idx)
def xnw : List ((Nat × Nat) × Nat × Nat) := [((0, 31), 3, 78), ((0, 38), 7, 108), ((1, 7), 0, 295), ((1, 16), 6, 297), ((4, 9), 0, 251), ((8, 7), 0, 72), ((8, 16), 2, 213), ((8, 23), 6, 226), ((8, 30), 4, 245), ((8, 37), 5, 266), ((8, 44), 1, 288), ((11, 7), 8, 64), ((11, 10), 9, 826)]
def xnew (own idx : Nat) : Option (Nat × Nat) := xnw.lookup (own, idx)
end
section
abbrev xS : Type := List (Nat × Nat × List Value) × (Nat → Nat → Int32)
abbrev xF : Type := Nat × List Value × List Value × xS
abbrev xO : Type := Option Value × xS
abbrev xR : Type := xF ⊕ (xO ⊕ (Nat × List Value × xF))
abbrev xX : Type := Nat × (Nat → Int32)
def xin (i : Int32) (n : Nat) : Bool := decide (0 ≤ i.toInt) && decide (i.toInt < (n : Int))
def xup (σ : Nat → Nat → Int32) (k j : Nat) (v : Int32) : Nat → Nat → Int32 := fun a b => if a = k ∧ b = j then v else σ a b
def xzr (σ : Nat → Nat → Int32) (k : Nat) : Nat → Nat → Int32 := fun a b => if a = k then 0 else σ a b
def xcp (σ : Nat → Nat → Int32) (k0 k1 sp dp n : Nat) : Nat → Nat → Int32 := fun a b => if a = k1 ∧ dp ≤ b ∧ b < dp + n then σ k0 (sp + (b - dp)) else σ a b
def xcat : List Value → Nat
  | [] => 0
  | v :: r => v.category + xcat r
def xkl (ls : List Value) (i : Nat) : List Value := match i with
  | 0 => ls
  | j + 1 => match ls[j]? with
    | some (.long _) => ls.set j (.float 0)
    | _ => ls
def xst1 (ls : List Value) (i : Nat) (v : Value) : List Value := (xkl ls i).set i v
def xst2 (ls : List Value) (i : Nat) (v : Value) : List Value := ((xkl ls i).set i v).set (i + 1) (.float 0)
def xcmp (c : Jvm.ClassFile.Cond) (x y : Int32) : Bool := match c with
  | .eq => decide (x = y)
  | .ne => decide (¬ x = y)
  | .lt => decide (x < y)
  | .ge => decide (y ≤ x)
  | .gt => decide (y < x)
  | .le => decide (x ≤ y)
def xnx (pc : Nat) (ls st : List Value) (S : xS) : Option xR := some (.inl (pc, ls, st, S))
def xjp (pc : Nat) (off : Int) (ls st : List Value) (S : xS) : Option xR := if 0 ≤ (pc : Int) + off then xnx ((pc : Int) + off).toNat ls st S else none
def xtt (pc : Nat) (x : Int32) (ls st : List Value) (S : xS) (d : Int) : List (Int × Int) → Option xR
  | [] => xjp pc d ls st S
  | (a, o) :: r => if x.toInt = a then xjp pc o ls st S else xtt pc x ls st S d r
def xnum : Int → List Int → List (Int × Int)
  | _, [] => []
  | a, o :: r => (a, o) :: xnum (a + 1) r
def xbi (f : Int32 → Int32 → Int32) (pc : Nat) (ls st : List Value) (S : xS) : Option xR := match st with
  | .int y :: .int x :: r => xnx (pc + 1) ls (.int (f x y) :: r) S
  | _ => none
def xbl (f : Int64 → Int64 → Int64) (pc : Nat) (ls st : List Value) (S : xS) : Option xR := match st with
  | .long y :: .long x :: r => xnx (pc + 1) ls (.long (f x y) :: r) S
  | _ => none
def xld (ls : List Value) (i pc : Nat) (st : List Value) (S : xS) (ok : Value → Bool) : Option xR := match ls[i]? with
  | some v => if ok v then xnx pc ls (v :: st) S else none
  | none => none
def xisI : Value → Bool
  | .int _ => true
  | _ => false
def xisL : Value → Bool
  | .long _ => true
  | _ => false
def xisA : Value → Bool
  | .ref _ => true
  | .retAddr _ => true
  | _ => false
def xsto (ls : List Value) (i pc : Nat) (st : List Value) (S : xS) (ok : Value → Bool) : Option xR := match st with
  | v :: r => if ok v = true ∧ i < ls.length then xnx pc (xst1 ls i v) r S else none
  | _ => none
def xsto2 (ls : List Value) (i pc : Nat) (st : List Value) (S : xS) : Option xR := match st with
  | .long x :: r => if i + 1 < ls.length then xnx pc (xst2 ls i (.long x)) r S else none
  | _ => none
def xgf (S : xS) (k ci j : Nat) : Option Value := match S.1[k]? with
  | some (t, _, vs) => if t = ci + 3 then (match vs[j]? with
    | some (.int _) => some (.int (S.2 k j))
    | some (.ref a) => some (.ref a)
    | _ => none) else none
  | none => none
def xzf (ci j : Nat) : Bool := ci == 1 && j == 2
def xpf (S : xS) (k ci j : Nat) (x : Int32) : Option xS := match S.1[k]? with
  | some (t, _, vs) => if t = ci + 3 then (match vs[j]? with
    | some (.int _) => if xzf ci j = true ∧ ¬ (x = 0 ∨ x = 1) then none else some (S.1, xup S.2 k j x)
    | _ => none) else none
  | none => none
def xpr (S : xS) (k ci j a : Nat) : Option xS := match S.1[k]? with
  | some (t, n, vs) => if t = ci + 3 then (match vs[j]? with
    | some .null => some (S.1.set k (t, n, vs.set j (.ref a)), S.2)
    | _ => none) else none
  | none => none
def xal (S : xS) (k t : Nat) (i : Int32) : Option Int32 := match S.1[k]? with
  | some (t', n, _) => if t' = t ∧ xin i n = true then some (S.2 k i.toNatClampNeg) else none
  | none => none
def xas (S : xS) (k t : Nat) (i x : Int32) : Option xS := match S.1[k]? with
  | some (t', n, _) => if t' = t ∧ xin i n = true then some (S.1, xup S.2 k i.toNatClampNeg x) else none
  | none => none
def xaq (S : xS) (k : Nat) (i : Int32) : Option Value := match S.1[k]? with
  | some (t, n, vs) => if t = 2 ∧ xin i n = true then (match vs[i.toNatClampNeg]? with
    | some (.ref a) => some (.ref a)
    | _ => none) else none
  | none => none
def xaw (S : xS) (k : Nat) (i : Int32) (a : Nat) : Option xS := match S.1[k]? with
  | some (t, n, vs) => if t = 2 ∧ xin i n = true ∧ vs.length = n then (match S.1[a]? with
    | some (t', _, _) => if t' = 4 then some (S.1.set k (t, n, vs.set i.toNatClampNeg (.ref a)), S.2) else none
    | none => none) else none
  | none => none
def xle (S : xS) (k : Nat) : Option Int32 := match S.1[k]? with
  | some (t, n, _) => if t < 3 then some (Int32.ofNat n) else none
  | none => none
def xblank : List (List Value) := [
  [.null, .null, .null, .null, .null, .null, .null, .null, .int 0],
  [.null, .null, .int 0],
  [.null, .int 0],
  [.null, .null, .null, .null, .null, .int 0, .int 0],
  [.null, .int 0, .int 0, .int 0],
  [.null, .null, .int 0, .int 0, .int 0],
  [.null, .null, .null, .int 0],
  [.int 0, .int 0, .int 0, .int 0, .int 0],
  [.null, .null, .null, .null, .null, .null],
  [.null, .null, .int 0, .null, .int 0, .null, .int 0, .int 0, .int 0, .int 0, .int 0, .int 0, .int 0, .int 0, .int 0, .int 0, .int 0, .null, .null, .null]]
def xnwo (S : xS) (ci : Nat) : Option xS := match xblank[ci]? with
  | some vs => some (S.1 ++ [(ci + 3, vs.length, vs)], xzr S.2 S.1.length)
  | none => none
def xnwa (S : xS) (t : Nat) (n : Int32) : Option xS := if 0 ≤ n ∧ n ≤ 4000 then some (S.1 ++ [(t, n.toNatClampNeg, [])], xzr S.2 S.1.length) else none
def xnwq (S : xS) (n : Int32) : Option xS := if 0 ≤ n ∧ n ≤ 4000 then some (S.1 ++ [(2, n.toNatClampNeg, List.replicate n.toNatClampNeg .null)], xzr S.2 S.1.length) else none
def xpop : Nat → List Value → List Value → Option (List Value × List Value)
  | 0, as, st => some (as, st)
  | n + 1, as, v :: st => xpop n (v :: as) st
  | _ + 1, _, [] => none
def xchr (i : Int32) : Option Int32 := if xin i 8 = true then some (([43, 45, 33, 35, 37, 46, 46, 46] : List Int32).getD i.toNatClampNeg 0) else none
def xacp (S : xS) (k0 k1 : Nat) (sp dp n : Int32) : Option xS := match S.1[k0]?, S.1[k1]? with
  | some (t0, n0, _), some (t1, n1, _) => if t0 = t1 ∧ t0 < 2 ∧ 0 ≤ sp ∧ 0 ≤ dp ∧ 0 ≤ n ∧ sp.toNatClampNeg + n.toNatClampNeg ≤ n0 ∧ dp.toNatClampNeg + n.toNatClampNeg ≤ n1 then some (S.1, xcp S.2 k0 k1 sp.toNatClampNeg dp.toNatClampNeg n.toNatClampNeg) else none
  | _, _ => none
/-- a call: kind, number, parameters -/
def xcall (id pc : Nat) (ls st : List Value) (S : xS) (kind j n : Nat) : Option xR := match kind with
  | 0 => match xpop n [] st with
    | some (as, r) => if xcat r ≤ 8 then some (.inr (.inr (j, as, (pc + 3, ls, r, S)))) else none
    | none => none
  | 3 => match xpop n [] st with
    | some (as, r) => if xcat r ≤ 8 then some (.inr (.inr (j, as, (pc + 3, ls, r, S)))) else none
    | none => none
  | 1 => match xpop (n + 1) [] st with
    | some (.ref k :: as, r) => if xcat r ≤ 8 ∧ (S.1[k]?).map (fun c => c.1) = some (xown j + 3) then some (.inr (.inr (j, .ref k :: as, (pc + 3, ls, r, S)))) else none
    | _ => none
  | 2 => match xpop (n + 1) [] st with
    | some (.ref k :: as, r) => if xcat r ≤ 8 then some (.inr (.inr (j, .ref k :: as, (pc + 3, ls, r, S)))) else none
    | _ => none
  | 5 => match xpop (n + 1) [] st with
    | some (.ref k :: as, r) => if xcat r ≤ 8 then some (.inr (.inr (j, .ref k :: as, (pc + 3, ls, r, S)))) else none
    | _ => none
  | 6 => match st with
    | .ref _ :: r => if xcat r ≤ 8 ∧ 1 ≤ xrf id ∧ 20 ≤ xrl id then xnx (pc + 3) ls r S else none
    | _ => none
  | 7 => match st with
    | .int n :: .int dp :: .ref k1 :: .int sp :: .ref k0 :: r => if xcat r ≤ 8 ∧ 1 ≤ xrf id ∧ 28 ≤ xrl id then (match xacp S k0 k1 sp dp n with
      | some S' => xnx (pc + 3) ls r S'
      | none => none) else none
    | _ => none
  | 8 => match st with
    | .int i :: .retAddr 1 :: r => if xcat r ≤ 8 ∧ 4 ≤ xrf id ∧ 81 ≤ xrl id then (match xchr i with
      | some v => xnx (pc + 3) ls (.int v :: r) S
      | none => none) else none
    | _ => none
  | _ => none
def xinv (id pc : Nat) (ls st : List Value) (S : xS) (idx : Nat) (ks : List Nat) : Option xR := match xmth (xown id) idx with
  | some (kind, j, n, _) => if ks.contains kind = true then xcall id pc ls st S kind j n else none
  | none => none
def xrt (id : Nat) (st : List Value) (S : xS) : Option xR := match st with
  | [.int x] => match xret id with
    | some .int => some (.inr (.inl (some (.int x), S)))
    | some .boolean => if x = 0 ∨ x = 1 then some (.inr (.inl (some (.int x), S))) else none
    | _ => none
  | _ => none
def xlen (i : Instr) (n : Nat) : Nat := match i with
  | .bipush _ => 2
  | .iload _ => 2
  | .lload _ => 2
  | .aload _ => 2
  | .istore _ => 2
  | .lstore _ => 2
  | .astore _ => 2
  | .ldc _ => 2
  | .newarray _ => 2
  | .sipush _ => 3
  | .ldc2_w _ => 3
  | .iinc _ _ => 3
  | .ifCond _ _ => 3
  | .if_icmp _ _ => 3
  | .goto _ => 3
  | .getfield _ => 3
  | .putfield _ => 3
  | .invokestatic _ => 3
  | .invokevirtual _ => 3
  | .invokespecial _ => 3
  | .new _ => 3
  | .anewarray _ => 3
  | .tableswitch _ _ _ _ => n
  | .lookupswitch _ _ => n
  | _ => 1
def xex (X : xX) (id : Nat) (i : Instr) (pc : Nat) (ls st : List Value) (S : xS) : Option xR := match i with
  | .iconst k => xnx (pc + 1) ls (.int (Int32.ofInt k) :: st) S
  | .bipush k => xnx (pc + 2) ls (.int (Int8.ofInt k).toInt32 :: st) S
  | .sipush k => xnx (pc + 3) ls (.int (Int16.ofInt k).toInt32 :: st) S
  | .lconst k => xnx (pc + 1) ls (.long (Int64.ofNat k.val) :: st) S
  | .ldc j => match xcst (xown id) j with
    | some (.int v, _) => xnx (pc + 2) ls (.int v :: st) S
    | some (.retAddr 1, _) => xnx (pc + 2) ls (.retAddr 1 :: st) S
    | _ => none
  | .ldc2_w j => match xcst (xown id) j with
    | some (.long v, _) => xnx (pc + 3) ls (.long v :: st) S
    | _ => none
  | .iload j => xld ls j (pc + 2) st S xisI
  | .iload_n j => xld ls j.val (pc + 1) st S xisI
  | .lload j => xld ls j (pc + 2) st S xisL
  | .lload_n j => xld ls j.val (pc + 1) st S xisL
  | .aload j => xld ls j (pc + 2) st S xisA
  | .aload_n j => xld ls j.val (pc + 1) st S xisA
  | .istore j => xsto ls j (pc + 2) st S xisI
  | .istore_n j => xsto ls j.val (pc + 1) st S xisI
  | .astore j => xsto ls j (pc + 2) st S xisA
  | .astore_n j => xsto ls j.val (pc + 1) st S xisA
  | .lstore j => xsto2 ls j (pc + 2) st S
  | .lstore_n j => xsto2 ls j.val (pc + 1) st S
  | .iinc j k => match ls[j]? with
    | some (.int x) => xnx (pc + 3) (xst1 ls j (.int (x + Int32.ofInt k))) st S
    | _ => none
  | .iadd => xbi (fun x y => x + y) pc ls st S
  | .isub => xbi (fun x y => x - y) pc ls st S
  | .imul => xbi (fun x y => x * y) pc ls st S
  | .iand => xbi (fun x y => x &&& y) pc ls st S
  | .ior => xbi (fun x y => x ||| y) pc ls st S
  | .ishl => xbi (fun x y => x <<< (y &&& 31)) pc ls st S
  | .ishr => xbi (fun x y => x >>> (y &&& 31)) pc ls st S
  | .idiv => match st with
    | .int y :: .int x :: r => if y = 0 then none else xnx (pc + 1) ls (.int (x / y) :: r) S
    | _ => none
  | .irem => match st with
    | .int y :: .int x :: r => if y = 0 then none else xnx (pc + 1) ls (.int (x - x / y * y) :: r) S
    | _ => none
  | .ineg => match st with
    | .int x :: r => xnx (pc + 1) ls (.int (-x) :: r) S
    | _ => none
  | .ladd => xbl (fun x y => x + y) pc ls st S
  | .lsub => xbl (fun x y => x - y) pc ls st S
  | .lmul => xbl (fun x y => x * y) pc ls st S
  | .land => xbl (fun x y => x &&& y) pc ls st S
  | .lor => xbl (fun x y => x ||| y) pc ls st S
  | .ldiv => match st with
    | .long y :: .long x :: r => if y = 0 then none else xnx (pc + 1) ls (.long (x / y) :: r) S
    | _ => none
  | .lrem => match st with
    | .long y :: .long x :: r => if y = 0 then none else xnx (pc + 1) ls (.long (x - x / y * y) :: r) S
    | _ => none
  | .lneg => match st with
    | .long x :: r => xnx (pc + 1) ls (.long (-x) :: r) S
    | _ => none
  | .lshl => match st with
    | .int y :: .long x :: r => xnx (pc + 1) ls (.long (x <<< (y.toInt64 &&& 63)) :: r) S
    | _ => none
  | .lshr => match st with
    | .int y :: .long x :: r => xnx (pc + 1) ls (.long (x >>> (y.toInt64 &&& 63)) :: r) S
    | _ => none
  | .lcmp => match st with
    | .long y :: .long x :: r => xnx (pc + 1) ls (.int (lg_cmp x y) :: r) S
    | _ => none
  | .i2l => match st with
    | .int x :: r => xnx (pc + 1) ls (.long x.toInt64 :: r) S
    | _ => none
  | .l2i => match st with
    | .long x :: r => xnx (pc + 1) ls (.int x.toInt32 :: r) S
    | _ => none
  | .dup => match st with
    | v :: r => if v.category = 1 then xnx (pc + 1) ls (v :: v :: r) S else none
    | _ => none
  | .pop => match st with
    | v :: r => if v.category = 1 then xnx (pc + 1) ls r S else none
    | _ => none
  | .dup2 => match st with
    | v :: w :: r => if v.category = 1 ∧ w.category = 1 then xnx (pc + 1) ls (v :: w :: v :: w :: r) S else none
    | _ => none
  | .goto off => xjp pc off ls st S
  | .ifCond c off => match st with
    | .int x :: r => if xcmp c x 0 = true then xjp pc off ls r S else xnx (pc + 3) ls r S
    | _ => none
  | .if_icmp c off => match st with
    | .int y :: .int x :: r => if xcmp c x y = true then xjp pc off ls r S else xnx (pc + 3) ls r S
    | _ => none
  | .tableswitch d lo hi offs => match st with
    | .int x :: r => if hi - lo + 1 = (offs.toList.length : Int) then xtt pc x ls r S d (xnum lo offs.toList) else none
    | _ => none
  | .lookupswitch d ps => match st with
    | .int x :: r => if (ps.toList.zip (ps.toList.drop 1)).all (fun (a, next) => a.1 < next.1) = true then xtt pc x ls r S d ps.toList else none
    | _ => none
  | .getfield j => match st with
    | .ref k :: r => match xfld (xown id) j with
      | some (ci, f, _, _) => match xgf S k ci f with
        | some v => xnx (pc + 3) ls (v :: r) S
        | none => none
      | none => none
    | _ => none
  | .putfield j => match st with
    | .int x :: .ref k :: r => match xfld (xown id) j with
      | some (ci, f, b, _) => if b = true then none else match xpf S k ci f x with
        | some S' => xnx (pc + 3) ls r S'
        | none => none
      | none => none
    | .ref a :: .ref k :: r => match xfld (xown id) j with
      | some (ci, f, b, _) => if b = true ∨ ¬ (xy id).name = "<init>" ∨ ¬ ci = xown id then none else match xpr S k ci f a with
        | some S' => xnx (pc + 3) ls r S'
        | none => none
      | none => none
    | _ => none
  | .iaload => match st with
    | .int i :: .ref k :: r => match xal S k 0 i with
      | some v => xnx (pc + 1) ls (.int v :: r) S
      | none => none
    | .int i :: .retAddr 0 :: r => if xin i X.1 = true then xnx (pc + 1) ls (.int (X.2 i.toNatClampNeg) :: r) S else none
    | _ => none
  | .baload => match st with
    | .int i :: .ref k :: r => match xal S k 1 i with
      | some v => xnx (pc + 1) ls (.int v :: r) S
      | none => none
    | _ => none
  | .iastore => match st with
    | .int x :: .int i :: .ref k :: r => match xas S k 0 i x with
      | some S' => xnx (pc + 1) ls r S'
      | none => none
    | _ => none
  | .bastore => match st with
    | .int x :: .int i :: .ref k :: r => if x = 0 ∨ x = 1 then (match xas S k 1 i x with
      | some S' => xnx (pc + 1) ls r S'
      | none => none) else none
    | _ => none
  | .aaload => match st with
    | .int i :: .ref k :: r => match xaq S k i with
      | some v => xnx (pc + 1) ls (v :: r) S
      | none => none
    | _ => none
  | .aastore => match st with
    | .ref a :: .int i :: .ref k :: r => match xaw S k i a with
      | some S' => xnx (pc + 1) ls r S'
      | none => none
    | _ => none
  | .arraylength => match st with
    | .ref k :: r => match xle S k with
      | some v => xnx (pc + 1) ls (.int v :: r) S
      | none => none
    | .retAddr 0 :: r => xnx (pc + 1) ls (.int (Int32.ofNat X.1) :: r) S
    | _ => none
  | .newarray t => match st with
    | .int n :: r => match t with
      | .int => match xnwa S 0 n with
        | some S' => xnx (pc + 2) ls (.ref S.1.length :: r) S'
        | none => none
      | .boolean => match xnwa S 1 n with
        | some S' => xnx (pc + 2) ls (.ref S.1.length :: r) S'
        | none => none
      | _ => none
    | _ => none
  | .anewarray j => match st with
    | .int n :: r => match xnew (xown id) j with
      | some (1, _) => match xnwq S n with
        | some S' => xnx (pc + 3) ls (.ref S.1.length :: r) S'
        | none => none
      | _ => none
    | _ => none
  | .new j => match xnew (xown id) j with
    | some (ci, _) => match xnwo S ci with
      | some S' => xnx (pc + 3) ls (.ref S.1.length :: st) S'
      | none => none
    | none => none
  | .invokestatic j => xinv id pc ls st S j [0, 3, 7]
  | .invokevirtual j => xinv id pc ls st S j [1, 8]
  | .invokespecial j => xinv id pc ls st S j [2, 5, 6]
  | .ireturn => xrt id st S
  | .lreturn => match st with
    | [.long x] => if xret id = some .long then some (.inr (.inl (some (.long x), S))) else none
    | _ => none
  | .areturn => match st with
    | [.ref a] => match xret id with
      | some (.object _) => some (.inr (.inl (some (.ref a), S)))
      | _ => none
    | _ => none
  | .return_ => match st with
    | [] => if xret id = none then some (.inr (.inl (none, S))) else none
    | _ => none
  | _ => none
def xstep (X : xX) (id : Nat) (fr : xF) : Option xR := match decode (xbc id) fr.1 with
  | .ok (i, n) => if n = xlen i n then xex X id i fr.1 fr.2.1 fr.2.2.1 fr.2.2.2 else none
  | .error _ => none
def xgo (k : xF → Option xO) (c : Nat → List Value → xS → Option xO) (r : Option xR) : Option xO := match r with
  | none => none
  | some (.inl fr) => k fr
  | some (.inr (.inl o)) => some o
  | some (.inr (.inr (j, as, fr))) => (c j as fr.2.2.2).bind (fun o => k (fr.1, fr.2.1, o.1.toList ++ fr.2.2.1, o.2))
def xsl : List Value → List Value
  | [] => []
  | v :: r => if v.category = 2 then v :: .float 0 :: xsl r else v :: xsl r
def xent (m : Nat) (as : List Value) : List Value := xsl as ++ List.replicate (m - (xsl as).length) (.float 0)
def xrm (id j : Nat) : Bool := decide (xrf j + 1 ≤ xrf id) && decide (19 + xml j + xrl j ≤ xrl id)
def xrun (X : xX) : Nat → Nat → xF → Option xO
  | 0, _, _ => none
  | n + 1, id, fr => xgo (xrun X n id) (fun j as S => if xrm id j = true ∧ (xsl as).length ≤ xml j then xrun X n j (0, xent (xml j) as, [], S) else none) (xstep X id fr)
end
