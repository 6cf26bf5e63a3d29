section
-- ===== PART A: goes FIRST, ahead of the names: the tables' words, and 'selects' of the private methods out of them =====
/-- a private method of a class that the tables say can be made, by its rows of tables_1 -/
def lw_okq (q : MethodName × Nat) : Prop := (q.1.cls ≠ "java/lang/invoke/MethodHandle" ∧ q.1.cls ≠ "java/lang/invoke/VarHandle") ∧ Cond.instantiable q.1.cls q.2 ∈ tables_1 ∧ Cond.privateMethod q.1 ∈ tables_1 ∧ Cond.instanceMethod q.1 ∈ tables_1
theorem lw_p0 : lw_okq (⟨"KineticCup$Cup", "beginAnew", "()V"⟩, 9) := ⟨⟨by decide +kernel, by decide +kernel⟩, List.mem_of_getElem? (i := 28) (by decide +kernel), List.mem_of_getElem? (i := 91) (by decide +kernel), List.mem_of_getElem? (i := 92) (by decide +kernel)⟩
theorem lw_p1 : lw_okq (⟨"KineticCup$Cup", "decide", "(III)Z"⟩, 9) := ⟨⟨by decide +kernel, by decide +kernel⟩, List.mem_of_getElem? (i := 28) (by decide +kernel), List.mem_of_getElem? (i := 102) (by decide +kernel), List.mem_of_getElem? (i := 103) (by decide +kernel)⟩
theorem lw_p2 : lw_okq (⟨"KineticCup$Cup", "comer", "(I)I"⟩, 9) := ⟨⟨by decide +kernel, by decide +kernel⟩, List.mem_of_getElem? (i := 28) (by decide +kernel), List.mem_of_getElem? (i := 109) (by decide +kernel), List.mem_of_getElem? (i := 110) (by decide +kernel)⟩
theorem lw_p3 : lw_okq (⟨"KineticCup$Cup", "whoIsInOn", "(I)I"⟩, 9) := ⟨⟨by decide +kernel, by decide +kernel⟩, List.mem_of_getElem? (i := 28) (by decide +kernel), List.mem_of_getElem? (i := 117) (by decide +kernel), List.mem_of_getElem? (i := 118) (by decide +kernel)⟩
theorem lw_p4 : lw_okq (⟨"KineticCup$Cup", "ahead", "(IIII)I"⟩, 9) := ⟨⟨by decide +kernel, by decide +kernel⟩, List.mem_of_getElem? (i := 28) (by decide +kernel), List.mem_of_getElem? (i := 121) (by decide +kernel), List.mem_of_getElem? (i := 122) (by decide +kernel)⟩
theorem lw_p5 : lw_okq (⟨"KineticCup$Cup", "certify", "(III)V"⟩, 9) := ⟨⟨by decide +kernel, by decide +kernel⟩, List.mem_of_getElem? (i := 28) (by decide +kernel), List.mem_of_getElem? (i := 128) (by decide +kernel), List.mem_of_getElem? (i := 129) (by decide +kernel)⟩
theorem lw_p6 : lw_okq (⟨"KineticCup$Pad", "faultOfActAt", "(I)I"⟩, 2) := ⟨⟨by decide +kernel, by decide +kernel⟩, List.mem_of_getElem? (i := 169) (by decide +kernel), List.mem_of_getElem? (i := 339) (by decide +kernel), List.mem_of_getElem? (i := 340) (by decide +kernel)⟩
theorem lw_p7 : lw_okq (⟨"KineticCup$Pad", "signAt", "(I)I"⟩, 2) := ⟨⟨by decide +kernel, by decide +kernel⟩, List.mem_of_getElem? (i := 169) (by decide +kernel), List.mem_of_getElem? (i := 343) (by decide +kernel), List.mem_of_getElem? (i := 344) (by decide +kernel)⟩
theorem lw_p8 : lw_okq (⟨"KineticCup$Pad", "isLetterAt", "(I)Z"⟩, 2) := ⟨⟨by decide +kernel, by decide +kernel⟩, List.mem_of_getElem? (i := 169) (by decide +kernel), List.mem_of_getElem? (i := 347) (by decide +kernel), List.mem_of_getElem? (i := 348) (by decide +kernel)⟩
theorem lw_p9 : lw_okq (⟨"KineticCup$Rehearsal", "begin", "(LKineticCup$Cup;)V"⟩, 4) := ⟨⟨by decide +kernel, by decide +kernel⟩, List.mem_of_getElem? (i := 201) (by decide +kernel), List.mem_of_getElem? (i := 368) (by decide +kernel), List.mem_of_getElem? (i := 369) (by decide +kernel)⟩
theorem lw_p10 : lw_okq (⟨"KineticCup$Cup", "swapHindrance", "(II)I"⟩, 9) := ⟨⟨by decide +kernel, by decide +kernel⟩, List.mem_of_getElem? (i := 28) (by decide +kernel), List.mem_of_getElem? (i := 407) (by decide +kernel), List.mem_of_getElem? (i := 408) (by decide +kernel)⟩
theorem lw_p11 : lw_okq (⟨"KineticCup$Cup", "pushHindrance", "(II)I"⟩, 9) := ⟨⟨by decide +kernel, by decide +kernel⟩, List.mem_of_getElem? (i := 28) (by decide +kernel), List.mem_of_getElem? (i := 414) (by decide +kernel), List.mem_of_getElem? (i := 415) (by decide +kernel)⟩
theorem lw_p12 : lw_okq (⟨"KineticCup$Cup", "change", "(III)V"⟩, 9) := ⟨⟨by decide +kernel, by decide +kernel⟩, List.mem_of_getElem? (i := 28) (by decide +kernel), List.mem_of_getElem? (i := 426) (by decide +kernel), List.mem_of_getElem? (i := 427) (by decide +kernel)⟩
theorem lw_p13 : lw_okq (⟨"KineticCup$Cup", "push", "(II)V"⟩, 9) := ⟨⟨by decide +kernel, by decide +kernel⟩, List.mem_of_getElem? (i := 28) (by decide +kernel), List.mem_of_getElem? (i := 430) (by decide +kernel), List.mem_of_getElem? (i := 431) (by decide +kernel)⟩
theorem lw_p14 : lw_okq (⟨"KineticCup$Cup", "swap", "(II)V"⟩, 9) := ⟨⟨by decide +kernel, by decide +kernel⟩, List.mem_of_getElem? (i := 28) (by decide +kernel), List.mem_of_getElem? (i := 434) (by decide +kernel), List.mem_of_getElem? (i := 435) (by decide +kernel)⟩
theorem lw_p15 : lw_okq (⟨"KineticCup$Cup", "takeDue", "(II)Z"⟩, 9) := ⟨⟨by decide +kernel, by decide +kernel⟩, List.mem_of_getElem? (i := 28) (by decide +kernel), List.mem_of_getElem? (i := 438) (by decide +kernel), List.mem_of_getElem? (i := 439) (by decide +kernel)⟩
def lw_privs_1 : List (MethodName × Nat) := [(⟨"KineticCup$Cup", "beginAnew", "()V"⟩, 9), (⟨"KineticCup$Cup", "decide", "(III)Z"⟩, 9), (⟨"KineticCup$Cup", "comer", "(I)I"⟩, 9), (⟨"KineticCup$Cup", "whoIsInOn", "(I)I"⟩, 9), (⟨"KineticCup$Cup", "ahead", "(IIII)I"⟩, 9), (⟨"KineticCup$Cup", "certify", "(III)V"⟩, 9), (⟨"KineticCup$Pad", "faultOfActAt", "(I)I"⟩, 2), (⟨"KineticCup$Pad", "signAt", "(I)I"⟩, 2), (⟨"KineticCup$Pad", "isLetterAt", "(I)Z"⟩, 2), (⟨"KineticCup$Rehearsal", "begin", "(LKineticCup$Cup;)V"⟩, 4), (⟨"KineticCup$Cup", "swapHindrance", "(II)I"⟩, 9), (⟨"KineticCup$Cup", "pushHindrance", "(II)I"⟩, 9), (⟨"KineticCup$Cup", "change", "(III)V"⟩, 9), (⟨"KineticCup$Cup", "push", "(II)V"⟩, 9), (⟨"KineticCup$Cup", "swap", "(II)V"⟩, 9), (⟨"KineticCup$Cup", "takeDue", "(II)Z"⟩, 9)]
theorem lw_r1 : ∀ q ∈ lw_privs_1, lw_okq q := List.forall_mem_cons.mpr ⟨lw_p0, List.forall_mem_cons.mpr ⟨lw_p1, List.forall_mem_cons.mpr ⟨lw_p2, List.forall_mem_cons.mpr ⟨lw_p3, List.forall_mem_cons.mpr ⟨lw_p4, List.forall_mem_cons.mpr ⟨lw_p5, List.forall_mem_cons.mpr ⟨lw_p6, List.forall_mem_cons.mpr ⟨lw_p7, List.forall_mem_cons.mpr ⟨lw_p8, List.forall_mem_cons.mpr ⟨lw_p9, List.forall_mem_cons.mpr ⟨lw_p10, List.forall_mem_cons.mpr ⟨lw_p11, List.forall_mem_cons.mpr ⟨lw_p12, List.forall_mem_cons.mpr ⟨lw_p13, List.forall_mem_cons.mpr ⟨lw_p14, List.forall_mem_cons.mpr ⟨lw_p15, fun _ h => absurd h List.not_mem_nil⟩⟩⟩⟩⟩⟩⟩⟩⟩⟩⟩⟩⟩⟩⟩⟩
theorem lw_p16 : lw_okq (⟨"KineticCup$Queue", "isHere", "(I)Z"⟩, 7) := ⟨⟨by decide +kernel, by decide +kernel⟩, List.mem_of_getElem? (i := 34) (by decide +kernel), List.mem_of_getElem? (i := 454) (by decide +kernel), List.mem_of_getElem? (i := 455) (by decide +kernel)⟩
theorem lw_p17 : lw_okq (⟨"KineticCup$Queue", "isSooner", "(II)Z"⟩, 7) := ⟨⟨by decide +kernel, by decide +kernel⟩, List.mem_of_getElem? (i := 34) (by decide +kernel), List.mem_of_getElem? (i := 458) (by decide +kernel), List.mem_of_getElem? (i := 459) (by decide +kernel)⟩
theorem lw_p18 : lw_okq (⟨"KineticCup$Cup", "successor", "(III)I"⟩, 9) := ⟨⟨by decide +kernel, by decide +kernel⟩, List.mem_of_getElem? (i := 28) (by decide +kernel), List.mem_of_getElem? (i := 575) (by decide +kernel), List.mem_of_getElem? (i := 576) (by decide +kernel)⟩
theorem lw_p19 : lw_okq (⟨"KineticCup$Search", "countAt", "(I)V"⟩, 5) := ⟨⟨by decide +kernel, by decide +kernel⟩, List.mem_of_getElem? (i := 222) (by decide +kernel), List.mem_of_getElem? (i := 670) (by decide +kernel), List.mem_of_getElem? (i := 671) (by decide +kernel)⟩
theorem lw_p20 : lw_okq (⟨"KineticCup", "toldOfAll", "(I)I"⟩, 6) := ⟨⟨by decide +kernel, by decide +kernel⟩, List.mem_of_getElem? (i := 20) (by decide +kernel), List.mem_of_getElem? (i := 770) (by decide +kernel), List.mem_of_getElem? (i := 771) (by decide +kernel)⟩
theorem lw_p21 : lw_okq (⟨"KineticCup", "toldOfOne", "(II)I"⟩, 6) := ⟨⟨by decide +kernel, by decide +kernel⟩, List.mem_of_getElem? (i := 20) (by decide +kernel), List.mem_of_getElem? (i := 778) (by decide +kernel), List.mem_of_getElem? (i := 779) (by decide +kernel)⟩
theorem lw_p22 : lw_okq (⟨"KineticCupModel", "anew", "()V"⟩, 20) := ⟨⟨by decide +kernel, by decide +kernel⟩, List.mem_of_getElem? (i := 782) (by decide +kernel), List.mem_of_getElem? (i := 788) (by decide +kernel), List.mem_of_getElem? (i := 789) (by decide +kernel)⟩
theorem lw_p23 : lw_okq (⟨"KineticCupModel", "comer", "(II)I"⟩, 20) := ⟨⟨by decide +kernel, by decide +kernel⟩, List.mem_of_getElem? (i := 782) (by decide +kernel), List.mem_of_getElem? (i := 792) (by decide +kernel), List.mem_of_getElem? (i := 793) (by decide +kernel)⟩
theorem lw_p24 : lw_okq (⟨"KineticCupModel", "onPlace", "(I)I"⟩, 20) := ⟨⟨by decide +kernel, by decide +kernel⟩, List.mem_of_getElem? (i := 782) (by decide +kernel), List.mem_of_getElem? (i := 796) (by decide +kernel), List.mem_of_getElem? (i := 797) (by decide +kernel)⟩
theorem lw_p25 : lw_okq (⟨"KineticCupModel", "better", "(IIII)I"⟩, 20) := ⟨⟨by decide +kernel, by decide +kernel⟩, List.mem_of_getElem? (i := 782) (by decide +kernel), List.mem_of_getElem? (i := 800) (by decide +kernel), List.mem_of_getElem? (i := 801) (by decide +kernel)⟩
theorem lw_p26 : lw_okq (⟨"KineticCupModel", "isAhead", "(IIII)Z"⟩, 20) := ⟨⟨by decide +kernel, by decide +kernel⟩, List.mem_of_getElem? (i := 782) (by decide +kernel), List.mem_of_getElem? (i := 804) (by decide +kernel), List.mem_of_getElem? (i := 805) (by decide +kernel)⟩
theorem lw_p27 : lw_okq (⟨"KineticCupModel", "certify", "(I)V"⟩, 20) := ⟨⟨by decide +kernel, by decide +kernel⟩, List.mem_of_getElem? (i := 782) (by decide +kernel), List.mem_of_getElem? (i := 808) (by decide +kernel), List.mem_of_getElem? (i := 809) (by decide +kernel)⟩
theorem lw_p28 : lw_okq (⟨"KineticCupModel", "keep", "()V"⟩, 20) := ⟨⟨by decide +kernel, by decide +kernel⟩, List.mem_of_getElem? (i := 782) (by decide +kernel), List.mem_of_getElem? (i := 812) (by decide +kernel), List.mem_of_getElem? (i := 813) (by decide +kernel)⟩
theorem lw_p29 : lw_okq (⟨"KineticCupModel", "asNow", "()V"⟩, 20) := ⟨⟨by decide +kernel, by decide +kernel⟩, List.mem_of_getElem? (i := 782) (by decide +kernel), List.mem_of_getElem? (i := 887) (by decide +kernel), List.mem_of_getElem? (i := 888) (by decide +kernel)⟩
theorem lw_p30 : lw_okq (⟨"KineticCupModel", "faultOf", "()I"⟩, 20) := ⟨⟨by decide +kernel, by decide +kernel⟩, List.mem_of_getElem? (i := 782) (by decide +kernel), List.mem_of_getElem? (i := 903) (by decide +kernel), List.mem_of_getElem? (i := 904) (by decide +kernel)⟩
theorem lw_p31 : lw_okq (⟨"KineticCupModel", "goDays", "()I"⟩, 20) := ⟨⟨by decide +kernel, by decide +kernel⟩, List.mem_of_getElem? (i := 782) (by decide +kernel), List.mem_of_getElem? (i := 914) (by decide +kernel), List.mem_of_getElem? (i := 915) (by decide +kernel)⟩
def lw_privs_2 : List (MethodName × Nat) := [(⟨"KineticCup$Queue", "isHere", "(I)Z"⟩, 7), (⟨"KineticCup$Queue", "isSooner", "(II)Z"⟩, 7), (⟨"KineticCup$Cup", "successor", "(III)I"⟩, 9), (⟨"KineticCup$Search", "countAt", "(I)V"⟩, 5), (⟨"KineticCup", "toldOfAll", "(I)I"⟩, 6), (⟨"KineticCup", "toldOfOne", "(II)I"⟩, 6), (⟨"KineticCupModel", "anew", "()V"⟩, 20), (⟨"KineticCupModel", "comer", "(II)I"⟩, 20), (⟨"KineticCupModel", "onPlace", "(I)I"⟩, 20), (⟨"KineticCupModel", "better", "(IIII)I"⟩, 20), (⟨"KineticCupModel", "isAhead", "(IIII)Z"⟩, 20), (⟨"KineticCupModel", "certify", "(I)V"⟩, 20), (⟨"KineticCupModel", "keep", "()V"⟩, 20), (⟨"KineticCupModel", "asNow", "()V"⟩, 20), (⟨"KineticCupModel", "faultOf", "()I"⟩, 20), (⟨"KineticCupModel", "goDays", "()I"⟩, 20)]
theorem lw_r2 : ∀ q ∈ lw_privs_2, lw_okq q := List.forall_mem_cons.mpr ⟨lw_p16, List.forall_mem_cons.mpr ⟨lw_p17, List.forall_mem_cons.mpr ⟨lw_p18, List.forall_mem_cons.mpr ⟨lw_p19, List.forall_mem_cons.mpr ⟨lw_p20, List.forall_mem_cons.mpr ⟨lw_p21, List.forall_mem_cons.mpr ⟨lw_p22, List.forall_mem_cons.mpr ⟨lw_p23, List.forall_mem_cons.mpr ⟨lw_p24, List.forall_mem_cons.mpr ⟨lw_p25, List.forall_mem_cons.mpr ⟨lw_p26, List.forall_mem_cons.mpr ⟨lw_p27, List.forall_mem_cons.mpr ⟨lw_p28, List.forall_mem_cons.mpr ⟨lw_p29, List.forall_mem_cons.mpr ⟨lw_p30, List.forall_mem_cons.mpr ⟨lw_p31, fun _ h => absurd h List.not_mem_nil⟩⟩⟩⟩⟩⟩⟩⟩⟩⟩⟩⟩⟩⟩⟩⟩
theorem lw_p32 : lw_okq (⟨"KineticCupModel", "oneAct", "(I)I"⟩, 20) := ⟨⟨by decide +kernel, by decide +kernel⟩, List.mem_of_getElem? (i := 782) (by decide +kernel), List.mem_of_getElem? (i := 918) (by decide +kernel), List.mem_of_getElem? (i := 919) (by decide +kernel)⟩
theorem lw_p33 : lw_okq (⟨"KineticCupModel", "endSecond", "(I)I"⟩, 20) := ⟨⟨by decide +kernel, by decide +kernel⟩, List.mem_of_getElem? (i := 782) (by decide +kernel), List.mem_of_getElem? (i := 922) (by decide +kernel), List.mem_of_getElem? (i := 923) (by decide +kernel)⟩
theorem lw_p34 : lw_okq (⟨"KineticCupModel", "dueBy", "(I)I"⟩, 20) := ⟨⟨by decide +kernel, by decide +kernel⟩, List.mem_of_getElem? (i := 782) (by decide +kernel), List.mem_of_getElem? (i := 926) (by decide +kernel), List.mem_of_getElem? (i := 927) (by decide +kernel)⟩
theorem lw_p35 : lw_okq (⟨"KineticCupModel", "take", "(II)V"⟩, 20) := ⟨⟨by decide +kernel, by decide +kernel⟩, List.mem_of_getElem? (i := 782) (by decide +kernel), List.mem_of_getElem? (i := 930) (by decide +kernel), List.mem_of_getElem? (i := 931) (by decide +kernel)⟩
theorem lw_p36 : lw_okq (⟨"KineticCupModel", "bend", "(II)I"⟩, 20) := ⟨⟨by decide +kernel, by decide +kernel⟩, List.mem_of_getElem? (i := 782) (by decide +kernel), List.mem_of_getElem? (i := 934) (by decide +kernel), List.mem_of_getElem? (i := 935) (by decide +kernel)⟩
theorem lw_p37 : lw_okq (⟨"KineticCupModel", "goOut", "(IZ)I"⟩, 20) := ⟨⟨by decide +kernel, by decide +kernel⟩, List.mem_of_getElem? (i := 782) (by decide +kernel), List.mem_of_getElem? (i := 938) (by decide +kernel), List.mem_of_getElem? (i := 939) (by decide +kernel)⟩
theorem lw_p38 : lw_okq (⟨"KineticCupModel", "exchange", "(II)I"⟩, 20) := ⟨⟨by decide +kernel, by decide +kernel⟩, List.mem_of_getElem? (i := 782) (by decide +kernel), List.mem_of_getElem? (i := 942) (by decide +kernel), List.mem_of_getElem? (i := 943) (by decide +kernel)⟩
theorem lw_p39 : lw_okq (⟨"KineticCupModel", "barOfDays", "()I"⟩, 20) := ⟨⟨by decide +kernel, by decide +kernel⟩, List.mem_of_getElem? (i := 782) (by decide +kernel), List.mem_of_getElem? (i := 950) (by decide +kernel), List.mem_of_getElem? (i := 951) (by decide +kernel)⟩
theorem lw_p40 : lw_okq (⟨"KineticCupModel", "best", "(III)I"⟩, 20) := ⟨⟨by decide +kernel, by decide +kernel⟩, List.mem_of_getElem? (i := 782) (by decide +kernel), List.mem_of_getElem? (i := 973) (by decide +kernel), List.mem_of_getElem? (i := 974) (by decide +kernel)⟩
theorem lw_p41 : lw_okq (⟨"KineticCupModel", "isOf", "(II)Z"⟩, 20) := ⟨⟨by decide +kernel, by decide +kernel⟩, List.mem_of_getElem? (i := 782) (by decide +kernel), List.mem_of_getElem? (i := 977) (by decide +kernel), List.mem_of_getElem? (i := 978) (by decide +kernel)⟩
theorem lw_p42 : lw_okq (⟨"KineticCupModel", "nextMatch", "()I"⟩, 20) := ⟨⟨by decide +kernel, by decide +kernel⟩, List.mem_of_getElem? (i := 782) (by decide +kernel), List.mem_of_getElem? (i := 986) (by decide +kernel), List.mem_of_getElem? (i := 987) (by decide +kernel)⟩
theorem lw_p43 : lw_okq (⟨"KineticCupModel", "layNext", "(II)Z"⟩, 20) := ⟨⟨by decide +kernel, by decide +kernel⟩, List.mem_of_getElem? (i := 782) (by decide +kernel), List.mem_of_getElem? (i := 990) (by decide +kernel), List.mem_of_getElem? (i := 991) (by decide +kernel)⟩
theorem lw_p44 : lw_okq (⟨"KineticCupModel", "isFit", "(I)Z"⟩, 20) := ⟨⟨by decide +kernel, by decide +kernel⟩, List.mem_of_getElem? (i := 782) (by decide +kernel), List.mem_of_getElem? (i := 1055) (by decide +kernel), List.mem_of_getElem? (i := 1056) (by decide +kernel)⟩
def lw_privs_3 : List (MethodName × Nat) := [(⟨"KineticCupModel", "oneAct", "(I)I"⟩, 20), (⟨"KineticCupModel", "endSecond", "(I)I"⟩, 20), (⟨"KineticCupModel", "dueBy", "(I)I"⟩, 20), (⟨"KineticCupModel", "take", "(II)V"⟩, 20), (⟨"KineticCupModel", "bend", "(II)I"⟩, 20), (⟨"KineticCupModel", "goOut", "(IZ)I"⟩, 20), (⟨"KineticCupModel", "exchange", "(II)I"⟩, 20), (⟨"KineticCupModel", "barOfDays", "()I"⟩, 20), (⟨"KineticCupModel", "best", "(III)I"⟩, 20), (⟨"KineticCupModel", "isOf", "(II)Z"⟩, 20), (⟨"KineticCupModel", "nextMatch", "()I"⟩, 20), (⟨"KineticCupModel", "layNext", "(II)Z"⟩, 20), (⟨"KineticCupModel", "isFit", "(I)Z"⟩, 20)]
theorem lw_r3 : ∀ q ∈ lw_privs_3, lw_okq q := List.forall_mem_cons.mpr ⟨lw_p32, List.forall_mem_cons.mpr ⟨lw_p33, List.forall_mem_cons.mpr ⟨lw_p34, List.forall_mem_cons.mpr ⟨lw_p35, List.forall_mem_cons.mpr ⟨lw_p36, List.forall_mem_cons.mpr ⟨lw_p37, List.forall_mem_cons.mpr ⟨lw_p38, List.forall_mem_cons.mpr ⟨lw_p39, List.forall_mem_cons.mpr ⟨lw_p40, List.forall_mem_cons.mpr ⟨lw_p41, List.forall_mem_cons.mpr ⟨lw_p42, List.forall_mem_cons.mpr ⟨lw_p43, List.forall_mem_cons.mpr ⟨lw_p44, fun _ h => absurd h List.not_mem_nil⟩⟩⟩⟩⟩⟩⟩⟩⟩⟩⟩⟩⟩
def lw_privs : List (MethodName × Nat) := lw_privs_1 ++ (lw_privs_2 ++ (lw_privs_3))
def lw_tbl : List Cond := k2_sels lw_privs ++ tables_1
theorem lw_privs_ok : ∀ q ∈ lw_privs, lw_okq q := by
  show ∀ q ∈ lw_privs_1 ++ (lw_privs_2 ++ (lw_privs_3)), lw_okq q
  exact List.forall_mem_append.mpr ⟨lw_r1, List.forall_mem_append.mpr ⟨lw_r2, lw_r3⟩⟩
end
section
def RX0 : String := "KineticCup$Cup"
def TX0 : u_T := fun k => match k with
  | 0 => ("KineticCup$Cup", "kind", "[I", true)
  | 1 => ("KineticCup$Cup", "place", "[I", true)
  | 2 => ("KineticCup$Cup", "base", "[I", true)
  | 3 => ("KineticCup$Cup", "slope", "[I", true)
  | 4 => ("KineticCup$Cup", "in", "[Z", true)
  | 5 => ("KineticCup$Cup", "best", "[I", true)
  | 6 => ("KineticCup$Cup", "queue", "LKineticCup$Queue;", true)
  | 7 => ("KineticCup$Cup", "tally", "LKineticCup$Tally;", true)
  | _ => ("KineticCup$Cup", "second", "I", false)
def tyX0 : Nat → FieldType := fun k => match k with
  | 0 => .array .int
  | 1 => .array .int
  | 2 => .array .int
  | 3 => .array .int
  | 4 => .array .boolean
  | 5 => .array .int
  | 6 => .object "KineticCup$Queue"
  | 7 => .object "KineticCup$Tally"
  | _ => .int
theorem nmX0 : ∀ a, a < 9 → ∀ b, b < 9 → a ≠ b → (TX0 a).2.1 ≠ (TX0 b).2.1 := by decide +kernel
theorem tyX0_ok : ∀ k, k < 9 → parseFieldDescriptor (TX0 k).2.2.1 = some (tyX0 k) := by decide +kernel
def RX1 : String := "KineticCup$Image"
def TX1 : u_T := fun k => match k with
  | 0 => ("KineticCup$Image", "cup", "LKineticCup$Cup;", true)
  | 1 => ("KineticCup$Image", "sights", "LKineticCup$Sights;", true)
  | _ => ("KineticCup$Image", "kept", "Z", false)
def tyX1 : Nat → FieldType := fun k => match k with
  | 0 => .object "KineticCup$Cup"
  | 1 => .object "KineticCup$Sights"
  | _ => .boolean
theorem nmX1 : ∀ a, a < 3 → ∀ b, b < 3 → a ≠ b → (TX1 a).2.1 ≠ (TX1 b).2.1 := by decide +kernel
theorem tyX1_ok : ∀ k, k < 3 → parseFieldDescriptor (TX1 k).2.2.1 = some (tyX1 k) := by decide +kernel
def RX2 : String := "KineticCup$Nearest"
def TX2 : u_T := fun k => match k with
  | _ => ("", "", "", false)
def tyX2 : Nat → FieldType := fun k => match k with
  | _ => .int
theorem nmX2 : ∀ a, a < 0 → ∀ b, b < 0 → a ≠ b → (TX2 a).2.1 ≠ (TX2 b).2.1 := by decide +kernel
theorem tyX2_ok : ∀ k, k < 0 → parseFieldDescriptor (TX2 k).2.2.1 = some (tyX2 k) := by decide +kernel
def RX3 : String := "KineticCup$Pad"
def TX3 : u_T := fun k => match k with
  | 0 => ("KineticCup$Pad", "signs", "[I", true)
  | _ => ("KineticCup$Pad", "length", "I", false)
def tyX3 : Nat → FieldType := fun k => match k with
  | 0 => .array .int
  | _ => .int
theorem nmX3 : ∀ a, a < 2 → ∀ b, b < 2 → a ≠ b → (TX3 a).2.1 ≠ (TX3 b).2.1 := by decide +kernel
theorem tyX3_ok : ∀ k, k < 2 → parseFieldDescriptor (TX3 k).2.2.1 = some (tyX3 k) := by decide +kernel
def RX4 : String := "KineticCup$Queue"
def TX4 : u_T := fun k => match k with
  | 0 => ("KineticCup$Queue", "match", "[I", true)
  | 1 => ("KineticCup$Queue", "upper", "[I", true)
  | 2 => ("KineticCup$Queue", "lower", "[I", true)
  | 3 => ("KineticCup$Queue", "serial", "[I", true)
  | 4 => ("KineticCup$Queue", "lastSerial", "[I", true)
  | 5 => ("KineticCup$Queue", "size", "I", false)
  | _ => ("KineticCup$Queue", "made", "I", false)
def tyX4 : Nat → FieldType := fun k => match k with
  | 0 => .array .int
  | 1 => .array .int
  | 2 => .array .int
  | 3 => .array .int
  | 4 => .array .int
  | 5 => .int
  | _ => .int
theorem nmX4 : ∀ a, a < 7 → ∀ b, b < 7 → a ≠ b → (TX4 a).2.1 ≠ (TX4 b).2.1 := by decide +kernel
theorem tyX4_ok : ∀ k, k < 7 → parseFieldDescriptor (TX4 k).2.2.1 = some (tyX4 k) := by decide +kernel
def RX5 : String := "KineticCup$Rehearsal"
def TX5 : u_T := fun k => match k with
  | 0 => ("KineticCup$Rehearsal", "cup", "LKineticCup$Cup;", true)
  | 1 => ("KineticCup$Rehearsal", "acts", "I", false)
  | 2 => ("KineticCup$Rehearsal", "stoppedAct", "I", false)
  | _ => ("KineticCup$Rehearsal", "stoppedWhy", "I", false)
def tyX5 : Nat → FieldType := fun k => match k with
  | 0 => .object "KineticCup$Cup"
  | 1 => .int
  | 2 => .int
  | _ => .int
theorem nmX5 : ∀ a, a < 4 → ∀ b, b < 4 → a ≠ b → (TX5 a).2.1 ≠ (TX5 b).2.1 := by decide +kernel
theorem tyX5_ok : ∀ k, k < 4 → parseFieldDescriptor (TX5 k).2.2.1 = some (tyX5 k) := by decide +kernel
def RX6 : String := "KineticCup$Search"
def TX6 : u_T := fun k => match k with
  | 0 => ("KineticCup$Search", "codes", "[I", true)
  | 1 => ("KineticCup$Search", "linesAtKey", "[I", true)
  | 2 => ("KineticCup$Search", "size", "I", false)
  | 3 => ("KineticCup$Search", "look", "I", false)
  | _ => ("KineticCup$Search", "left", "I", false)
def tyX6 : Nat → FieldType := fun k => match k with
  | 0 => .array .int
  | 1 => .array .int
  | 2 => .int
  | 3 => .int
  | _ => .int
theorem nmX6 : ∀ a, a < 5 → ∀ b, b < 5 → a ≠ b → (TX6 a).2.1 ≠ (TX6 b).2.1 := by decide +kernel
theorem tyX6_ok : ∀ k, k < 5 → parseFieldDescriptor (TX6 k).2.2.1 = some (tyX6 k) := by decide +kernel
def RX7 : String := "KineticCup$Sights"
def TX7 : u_T := fun k => match k with
  | 0 => ("KineticCup$Sights", "time", "[I", true)
  | 1 => ("KineticCup$Sights", "key", "[I", true)
  | 2 => ("KineticCup$Sights", "atLeast", "[Z", true)
  | _ => ("KineticCup$Sights", "size", "I", false)
def tyX7 : Nat → FieldType := fun k => match k with
  | 0 => .array .int
  | 1 => .array .int
  | 2 => .array .boolean
  | _ => .int
theorem nmX7 : ∀ a, a < 4 → ∀ b, b < 4 → a ≠ b → (TX7 a).2.1 ≠ (TX7 b).2.1 := by decide +kernel
theorem tyX7_ok : ∀ k, k < 4 → parseFieldDescriptor (TX7 k).2.2.1 = some (tyX7 k) := by decide +kernel
def RX8 : String := "KineticCup$Tally"
def TX8 : u_T := fun k => match k with
  | 0 => ("KineticCup$Tally", "taken", "I", false)
  | 1 => ("KineticCup$Tally", "stale", "I", false)
  | 2 => ("KineticCup$Tally", "events", "I", false)
  | 3 => ("KineticCup$Tally", "eventAct", "I", false)
  | _ => ("KineticCup$Tally", "eventMatch", "I", false)
def tyX8 : Nat → FieldType := fun k => match k with
  | 0 => .int
  | 1 => .int
  | 2 => .int
  | 3 => .int
  | _ => .int
theorem nmX8 : ∀ a, a < 5 → ∀ b, b < 5 → a ≠ b → (TX8 a).2.1 ≠ (TX8 b).2.1 := by decide +kernel
theorem tyX8_ok : ∀ k, k < 5 → parseFieldDescriptor (TX8 k).2.2.1 = some (tyX8 k) := by decide +kernel
def RX9 : String := "KineticCup"
def TX9 : u_T := fun k => match k with
  | 0 => ("KineticCup", "cup", "LKineticCup$Cup;", true)
  | 1 => ("KineticCup", "pad", "LKineticCup$Pad;", true)
  | 2 => ("KineticCup", "sights", "LKineticCup$Sights;", true)
  | 3 => ("KineticCup", "rehearsal", "LKineticCup$Rehearsal;", true)
  | 4 => ("KineticCup", "search", "LKineticCup$Search;", true)
  | _ => ("KineticCup", "images", "[LKineticCup$Image;", true)
def tyX9 : Nat → FieldType := fun k => match k with
  | 0 => .object "KineticCup$Cup"
  | 1 => .object "KineticCup$Pad"
  | 2 => .object "KineticCup$Sights"
  | 3 => .object "KineticCup$Rehearsal"
  | 4 => .object "KineticCup$Search"
  | _ => .array (.object "KineticCup$Image")
theorem nmX9 : ∀ a, a < 6 → ∀ b, b < 6 → a ≠ b → (TX9 a).2.1 ≠ (TX9 b).2.1 := by decide +kernel
theorem tyX9_ok : ∀ k, k < 6 → parseFieldDescriptor (TX9 k).2.2.1 = some (tyX9 k) := by decide +kernel
def RX10 : String := "KineticCupModel"
def TX10 : u_T := fun k => match k with
  | 0 => ("KineticCupModel", "book", "[I", true)
  | 1 => ("KineticCupModel", "now", "[I", true)
  | 2 => ("KineticCupModel", "sights", "I", false)
  | 3 => ("KineticCupModel", "sight", "[I", true)
  | 4 => ("KineticCupModel", "signs", "I", false)
  | 5 => ("KineticCupModel", "pad", "[I", true)
  | 6 => ("KineticCupModel", "taken", "I", false)
  | 7 => ("KineticCupModel", "stale", "I", false)
  | 8 => ("KineticCupModel", "events", "I", false)
  | 9 => ("KineticCupModel", "eventAt", "I", false)
  | 10 => ("KineticCupModel", "eventMatch", "I", false)
  | 11 => ("KineticCupModel", "reason", "I", false)
  | 12 => ("KineticCupModel", "acts", "I", false)
  | 13 => ("KineticCupModel", "nextUp", "I", false)
  | 14 => ("KineticCupModel", "nextLow", "I", false)
  | 15 => ("KineticCupModel", "foundUp", "I", false)
  | 16 => ("KineticCupModel", "foundLow", "I", false)
  | 17 => ("KineticCupModel", "fitting", "[I", true)
  | 18 => ("KineticCupModel", "image", "[I", true)
  | _ => ("KineticCupModel", "isKept", "[Z", true)
def tyX10 : Nat → FieldType := fun k => match k with
  | 0 => .array .int
  | 1 => .array .int
  | 2 => .int
  | 3 => .array .int
  | 4 => .int
  | 5 => .array .int
  | 6 => .int
  | 7 => .int
  | 8 => .int
  | 9 => .int
  | 10 => .int
  | 11 => .int
  | 12 => .int
  | 13 => .int
  | 14 => .int
  | 15 => .int
  | 16 => .int
  | 17 => .array .int
  | 18 => .array .int
  | _ => .array .boolean
theorem nmX10 : ∀ a, a < 20 → ∀ b, b < 20 → a ≠ b → (TX10 a).2.1 ≠ (TX10 b).2.1 := by decide +kernel
theorem tyX10_ok : ∀ k, k < 20 → parseFieldDescriptor (TX10 k).2.2.1 = some (tyX10 k) := by decide +kernel
def xcn : List String := ["KineticCup$Cup", "KineticCup$Image", "KineticCup$Pad", "KineticCup$Queue", "KineticCup$Rehearsal", "KineticCup$Search", "KineticCup$Sights", "KineticCup$Tally", "KineticCup", "KineticCupModel", "KineticCup$Nearest", "KineticCupLaw", "java/lang/Math", "java/util/Arrays"]
def xnm (c : Nat) : String := xcn.getD c ""
def xcl : List vw_C := [(RX0, TX0, 9), (RX1, TX1, 3), (RX3, TX3, 2), (RX4, TX4, 7), (RX5, TX5, 4), (RX6, TX6, 5), (RX7, TX7, 4), (RX8, TX8, 5), (RX9, TX9, 6), (RX10, TX10, 20)]
abbrev xM : Type := MethodName × ByteArray × Nat × Option FieldType × Nat × Nat × Nat
def xtab_0 : List xM := [
  (⟨"KineticCupLaw", "law", "([I)Z"⟩, code, 4, (some .boolean), 11, 10, 402),
  (⟨"KineticCup$Cup", "<init>", "()V"⟩, prog_2_method_1_code, 2, none, 0, 5, 114),
  (⟨"KineticCup$Cup", "beginAnew", "()V"⟩, prog_2_method_21_code, 2, none, 0, 4, 93),
  (⟨"KineticCup$Cup", "decide", "(III)Z"⟩, prog_2_method_23_code, 8, (some .boolean), 0, 3, 66),
  (⟨"KineticCup$Cup", "comer", "(I)I"⟩, prog_2_method_24_code, 2, (some .int), 0, 2, 41),
  (⟨"KineticCup$Cup", "bestOf", "(I)I"⟩, prog_2_method_8_code, 2, (some .int), 0, 1, 20),
  (⟨"KineticCup$Cup", "whoIsInOn", "(I)I"⟩, prog_2_method_25_code, 3, (some .int), 0, 0, 0),
  (⟨"KineticCup$Cup", "ahead", "(IIII)I"⟩, prog_2_method_26_code, 6, (some .int), 0, 1, 20),
  (⟨"KineticCup$Cup", "certify", "(III)V"⟩, prog_2_method_27_code, 4, none, 0, 2, 43),
  (⟨"KineticCup$Cup", "placeOf", "(I)I"⟩, prog_2_method_4_code, 2, (some .int), 0, 1, 20),
  (⟨"KineticCup$Cup", "laneTakes", "(II)Z"⟩, prog_2_method_12_code, 2, (some .boolean), 0, 0, 0),
  (⟨"KineticCup$Cup", "kindOf", "(I)I"⟩, prog_2_method_3_code, 2, (some .int), 0, 1, 20),
  (⟨"KineticCup$Cup", "inOf", "(I)I"⟩, prog_2_method_7_code, 2, (some .int), 0, 1, 20),
  (⟨"KineticCup$Cup", "enroll", "(IIII)V"⟩, prog_2_method_13_code, 5, none, 0, 5, 114),
  (⟨"KineticCup$Cup", "copy", "(LKineticCup$Cup;)V"⟩, prog_2_method_2_code, 2, none, 0, 2, 49),
  (⟨"KineticCup$Cup", "tally", "()LKineticCup$Tally;"⟩, prog_2_method_11_code, 1, (some (.object "KineticCup$Tally")), 0, 0, 0),
  (⟨"KineticCup$Cup", "hindrance", "(III)I"⟩, prog_2_method_14_code, 4, (some .int), 0, 3, 64),
  (⟨"KineticCup$Cup", "swapHindrance", "(II)I"⟩, prog_2_method_15_code, 4, (some .int), 0, 2, 41),
  (⟨"KineticCup$Cup", "pushHindrance", "(II)I"⟩, prog_2_method_16_code, 4, (some .int), 0, 2, 41),
  (⟨"KineticCup$Cup", "slopeOf", "(I)I"⟩, prog_2_method_6_code, 2, (some .int), 0, 1, 20),
  (⟨"KineticCup$Cup", "perform", "(IIII)V"⟩, prog_2_method_17_code, 8, none, 0, 5, 121),
  (⟨"KineticCup$Cup", "change", "(III)V"⟩, prog_2_method_18_code, 4, none, 0, 2, 43),
  (⟨"KineticCup$Cup", "push", "(II)V"⟩, prog_2_method_19_code, 3, none, 0, 1, 20),
  (⟨"KineticCup$Cup", "swap", "(II)V"⟩, prog_2_method_20_code, 4, none, 0, 1, 20),
  (⟨"KineticCup$Cup", "takeDue", "(II)Z"⟩, prog_2_method_22_code, 9, (some .boolean), 0, 4, 93),
  (⟨"KineticCup$Cup", "baseOf", "(I)I"⟩, prog_2_method_5_code, 2, (some .int), 0, 1, 20),
  (⟨"KineticCup$Cup", "second", "()I"⟩, prog_2_method_9_code, 1, (some .int), 0, 0, 0),
  (⟨"KineticCup$Cup", "leaderAt", "(II)I"⟩, prog_2_method_29_code, 5, (some .int), 0, 2, 45),
  (⟨"KineticCup$Cup", "queue", "()LKineticCup$Queue;"⟩, prog_2_method_10_code, 1, (some (.object "KineticCup$Queue")), 0, 0, 0),
  (⟨"KineticCup$Cup", "leadersUpTo", "(II)I"⟩, prog_2_method_30_code, 6, (some .int), 0, 4, 98),
  (⟨"KineticCup$Cup", "successor", "(III)I"⟩, prog_2_method_31_code, 10, (some .int), 0, 3, 69),
  (⟨"KineticCup$Cup", "keyOf", "(III)I"⟩, prog_2_method_28_code, 4, (some .int), 0, 2, 41),
  (⟨"KineticCup$Image", "<init>", "()V"⟩, prog_3_method_1_code, 1, none, 1, 6, 135),
  (⟨"KineticCup$Image", "keep", "(LKineticCup$Cup;LKineticCup$Sights;)V"⟩, prog_3_method_2_code, 3, none, 1, 3, 70),
  (⟨"KineticCup$Image", "giveBack", "(LKineticCup$Cup;LKineticCup$Sights;)Z"⟩, prog_3_method_3_code, 3, (some .boolean), 1, 3, 70),
  (⟨"KineticCup$Pad", "<init>", "()V"⟩, prog_5_method_1_code, 1, none, 2, 1, 20),
  (⟨"KineticCup$Pad", "add", "(I)Z"⟩, prog_5_method_4_code, 2, (some .boolean), 2, 0, 0),
  (⟨"KineticCup$Pad", "length", "()I"⟩, prog_5_method_2_code, 1, (some .int), 2, 0, 0),
  (⟨"KineticCup$Pad", "clear", "()V"⟩, prog_5_method_3_code, 1, none, 2, 0, 0),
  (⟨"KineticCup$Pad", "firstFault", "()I"⟩, prog_5_method_7_code, 4, (some .int), 2, 3, 63),
  (⟨"KineticCup$Pad", "faultOfActAt", "(I)I"⟩, prog_5_method_8_code, 2, (some .int), 2, 2, 42),
  (⟨"KineticCup$Pad", "signAt", "(I)I"⟩, prog_5_method_5_code, 2, (some .int), 2, 0, 0),
  (⟨"KineticCup$Pad", "isLetterAt", "(I)Z"⟩, prog_5_method_6_code, 2, (some .boolean), 2, 1, 21),
  (⟨"KineticCup$Pad", "lengthAt", "(I)I"⟩, prog_5_method_9_code, 2, (some .int), 2, 2, 42),
  (⟨"KineticCup$Pad", "deedAt", "(I)I"⟩, prog_5_method_10_code, 2, (some .int), 2, 1, 21),
  (⟨"KineticCup$Pad", "runnerAt", "(I)I"⟩, prog_5_method_11_code, 2, (some .int), 2, 1, 21),
  (⟨"KineticCup$Pad", "otherAt", "(I)I"⟩, prog_5_method_12_code, 2, (some .int), 2, 1, 21),
  (⟨"KineticCup$Queue", "<init>", "()V"⟩, prog_6_method_1_code, 1, none, 3, 1, 20)]
def xtab_1 : List xM := [
  (⟨"KineticCup$Queue", "clear", "()V"⟩, prog_6_method_3_code, 1, none, 3, 1, 23),
  (⟨"KineticCup$Queue", "disown", "(I)V"⟩, prog_6_method_5_code, 2, none, 3, 1, 20),
  (⟨"KineticCup$Queue", "put", "(III)V"⟩, prog_6_method_6_code, 4, none, 3, 1, 20),
  (⟨"KineticCup$Queue", "copy", "(LKineticCup$Queue;)V"⟩, prog_6_method_2_code, 2, none, 3, 1, 28),
  (⟨"KineticCup$Queue", "earliest", "(Z)I"⟩, prog_6_method_13_code, 4, (some .int), 3, 3, 66),
  (⟨"KineticCup$Queue", "isOwn", "(I)Z"⟩, prog_6_method_12_code, 3, (some .boolean), 3, 2, 42),
  (⟨"KineticCup$Queue", "matchOf", "(I)I"⟩, prog_6_method_9_code, 2, (some .int), 3, 1, 21),
  (⟨"KineticCup$Queue", "isHere", "(I)Z"⟩, prog_6_method_8_code, 2, (some .boolean), 3, 0, 0),
  (⟨"KineticCup$Queue", "isSooner", "(II)Z"⟩, prog_6_method_14_code, 5, (some .boolean), 3, 2, 42),
  (⟨"KineticCup$Queue", "upperOf", "(I)I"⟩, prog_6_method_10_code, 2, (some .int), 3, 1, 21),
  (⟨"KineticCup$Queue", "lowerOf", "(I)I"⟩, prog_6_method_11_code, 2, (some .int), 3, 1, 21),
  (⟨"KineticCup$Queue", "remove", "(I)V"⟩, prog_6_method_7_code, 3, none, 3, 1, 21),
  (⟨"KineticCup$Queue", "size", "()I"⟩, prog_6_method_4_code, 1, (some .int), 3, 0, 0),
  (⟨"KineticCup$Rehearsal", "<init>", "()V"⟩, prog_7_method_1_code, 1, none, 4, 6, 135),
  (⟨"KineticCup$Rehearsal", "play", "(LKineticCup$Cup;LKineticCup$Pad;)Z"⟩, prog_7_method_7_code, 7, (some .boolean), 4, 6, 148),
  (⟨"KineticCup$Rehearsal", "begin", "(LKineticCup$Cup;)V"⟩, prog_7_method_6_code, 2, none, 4, 3, 70),
  (⟨"KineticCup$Rehearsal", "stoppedAct", "()I"⟩, prog_7_method_4_code, 1, (some .int), 4, 0, 0),
  (⟨"KineticCup$Rehearsal", "stoppedWhy", "()I"⟩, prog_7_method_5_code, 1, (some .int), 4, 0, 0),
  (⟨"KineticCup$Rehearsal", "cup", "()LKineticCup$Cup;"⟩, prog_7_method_2_code, 1, (some (.object "KineticCup$Cup")), 4, 0, 0),
  (⟨"KineticCup$Rehearsal", "acts", "()I"⟩, prog_7_method_3_code, 1, (some .int), 4, 0, 0),
  (⟨"KineticCup$Rehearsal", "draw", "(LKineticCup$Cup;II)V"⟩, prog_7_method_8_code, 9, none, 4, 6, 148),
  (⟨"KineticCup$Search", "<init>", "()V"⟩, prog_8_method_1_code, 1, none, 5, 1, 20),
  (⟨"KineticCup$Search", "gather", "(LKineticCup$Sights;)V"⟩, prog_8_method_6_code, 4, none, 5, 1, 23),
  (⟨"KineticCup$Search", "size", "()I"⟩, prog_8_method_2_code, 1, (some .int), 5, 0, 0),
  (⟨"KineticCup$Search", "codeOf", "(I)I"⟩, prog_8_method_3_code, 2, (some .int), 5, 0, 0),
  (⟨"KineticCup$Search", "weigh", "()V"⟩, prog_8_method_7_code, 5, none, 5, 2, 49),
  (⟨"KineticCup$Search", "countAt", "(I)V"⟩, prog_8_method_8_code, 7, none, 5, 1, 23),
  (⟨"KineticCup$Search", "look", "()I"⟩, prog_8_method_4_code, 1, (some .int), 5, 0, 0),
  (⟨"KineticCup$Search", "left", "()I"⟩, prog_8_method_5_code, 1, (some .int), 5, 0, 0),
  (⟨"KineticCup$Sights", "<init>", "()V"⟩, prog_9_method_1_code, 1, none, 6, 1, 20),
  (⟨"KineticCup$Sights", "add", "(IIZ)Z"⟩, prog_9_method_5_code, 4, (some .boolean), 6, 0, 0),
  (⟨"KineticCup$Sights", "size", "()I"⟩, prog_9_method_3_code, 1, (some .int), 6, 0, 0),
  (⟨"KineticCup$Sights", "clear", "()V"⟩, prog_9_method_4_code, 1, none, 6, 0, 0),
  (⟨"KineticCup$Sights", "allow", "(II)Z"⟩, prog_9_method_6_code, 4, (some .boolean), 6, 0, 0),
  (⟨"KineticCup$Sights", "copy", "(LKineticCup$Sights;)V"⟩, prog_9_method_2_code, 2, none, 6, 1, 28),
  (⟨"KineticCup$Tally", "<init>", "()V"⟩, prog_10_method_1_code, 1, none, 7, 1, 20),
  (⟨"KineticCup$Tally", "clear", "()V"⟩, prog_10_method_2_code, 1, none, 7, 0, 0),
  (⟨"KineticCup$Tally", "count", "(ZII)V"⟩, prog_10_method_3_code, 4, none, 7, 0, 0),
  (⟨"KineticCup", "<init>", "()V"⟩, prog_1_method_1_code, 2, none, 8, 7, 155),
  (⟨"KineticCup", "isMatch", "(I)Z"⟩, prog_1_method_30_code, 1, (some .boolean), 8, 0, 0),
  (⟨"KineticCup", "isRunner", "(I)Z"⟩, prog_1_method_29_code, 1, (some .boolean), 8, 0, 0),
  (⟨"KineticCup", "runner", "(IIII)I"⟩, prog_1_method_2_code, 6, (some .int), 8, 6, 138),
  (⟨"KineticCup", "isWithin", "(II)Z"⟩, prog_1_method_31_code, 2, (some .boolean), 8, 0, 0),
  (⟨"KineticCup", "say", "(I)I"⟩, prog_1_method_3_code, 2, (some .int), 8, 1, 21),
  (⟨"KineticCup", "wipe", "()I"⟩, prog_1_method_4_code, 2, (some .int), 8, 1, 20),
  (⟨"KineticCup", "fault", "()I"⟩, prog_1_method_5_code, 1, (some .int), 8, 4, 86),
  (⟨"KineticCup", "judge", "(I)I"⟩, prog_1_method_6_code, 2, (some .int), 8, 7, 174),
  (⟨"KineticCup", "done", "()I"⟩, prog_1_method_7_code, 1, (some .int), 8, 7, 174)]
def xtab_2 : List xM := [
  (⟨"KineticCup", "behind", "(II)I"⟩, prog_1_method_8_code, 4, (some .int), 8, 7, 174),
  (⟨"KineticCup", "winner", "(I)I"⟩, prog_1_method_9_code, 2, (some .int), 8, 7, 174),
  (⟨"KineticCup", "then", "(I)I"⟩, prog_1_method_10_code, 4, (some .int), 8, 7, 174),
  (⟨"KineticCup", "leads", "(II)I"⟩, prog_1_method_11_code, 3, (some .int), 8, 3, 69),
  (⟨"KineticCup", "isTime", "(II)Z"⟩, prog_1_method_32_code, 2, (some .boolean), 8, 0, 0),
  (⟨"KineticCup", "next", "(I)J"⟩, prog_1_method_12_code, 4, (some .long), 8, 4, 89),
  (⟨"KineticCup", "isPart", "(I)Z"⟩, prog_1_method_33_code, 1, (some .boolean), 8, 0, 0),
  (⟨"KineticCup", "lowestTerms", "(III)J"⟩, prog_1_method_34_code, 7, (some .long), 8, 1, 21),
  (⟨"KineticCup", "where", "()I"⟩, prog_1_method_13_code, 2, (some .int), 8, 4, 89),
  (⟨"KineticCup", "ever", "(II)I"⟩, prog_1_method_14_code, 3, (some .int), 8, 5, 123),
  (⟨"KineticCup", "value", "(IIII)J"⟩, prog_1_method_15_code, 5, (some .long), 8, 3, 64),
  (⟨"KineticCup", "number", "(IIII)J"⟩, prog_1_method_16_code, 6, (some .long), 8, 3, 85),
  (⟨"KineticCup", "heap", "(III)J"⟩, prog_1_method_17_code, 9, (some .long), 8, 3, 84),
  (⟨"KineticCup", "seen", "(IIZ)I"⟩, prog_1_method_18_code, 4, (some .int), 8, 1, 23),
  (⟨"KineticCup", "forget", "()I"⟩, prog_1_method_19_code, 2, (some .int), 8, 1, 20),
  (⟨"KineticCup", "lines", "(I)I"⟩, prog_1_method_20_code, 2, (some .int), 8, 2, 46),
  (⟨"KineticCup", "ask", "(I)I"⟩, prog_1_method_21_code, 2, (some .int), 8, 3, 73),
  (⟨"KineticCup", "cross", "(III)J"⟩, prog_1_method_22_code, 6, (some .long), 8, 2, 47),
  (⟨"KineticCup", "run", "(III)I"⟩, prog_1_method_23_code, 5, (some .int), 8, 7, 176),
  (⟨"KineticCup", "image", "(I)I"⟩, prog_1_method_24_code, 2, (some .int), 8, 4, 92),
  (⟨"KineticCup", "restore", "(I)I"⟩, prog_1_method_25_code, 2, (some .int), 8, 4, 92),
  (⟨"KineticCup", "told", "(I)I"⟩, prog_1_method_26_code, 2, (some .int), 8, 3, 63),
  (⟨"KineticCup", "toldOfAll", "(I)I"⟩, prog_1_method_27_code, 2, (some .int), 8, 2, 41),
  (⟨"KineticCup", "toldOfOne", "(II)I"⟩, prog_1_method_28_code, 3, (some .int), 8, 2, 41),
  (⟨"KineticCupModel", "<init>", "()V"⟩, prog_12_method_1_code, 2, none, 9, 3, 70),
  (⟨"KineticCupModel", "anew", "()V"⟩, prog_12_method_11_code, 2, none, 9, 2, 49),
  (⟨"KineticCupModel", "comer", "(II)I"⟩, prog_12_method_9_code, 3, (some .int), 9, 1, 22),
  (⟨"KineticCupModel", "onPlace", "(I)I"⟩, prog_12_method_8_code, 3, (some .int), 9, 0, 0),
  (⟨"KineticCupModel", "better", "(IIII)I"⟩, prog_12_method_7_code, 5, (some .int), 9, 1, 25),
  (⟨"KineticCupModel", "isAhead", "(IIII)Z"⟩, prog_12_method_6_code, 6, (some .boolean), 9, 0, 0),
  (⟨"KineticCupModel", "certify", "(I)V"⟩, prog_12_method_10_code, 8, none, 9, 0, 0),
  (⟨"KineticCupModel", "keep", "()V"⟩, prog_12_method_5_code, 2, none, 9, 0, 0),
  (⟨"KineticCupModel", "runner", "(IIII)I"⟩, prog_12_method_14_code, 6, (some .int), 9, 3, 70),
  (⟨"KineticCupModel", "isRunner", "(I)Z"⟩, prog_12_method_3_code, 1, (some .boolean), 9, 1, 22),
  (⟨"KineticCupModel", "in", "(III)Z"⟩, prog_12_method_2_code, 3, (some .boolean), 9, 0, 0),
  (⟨"KineticCupModel", "asNow", "()V"⟩, prog_12_method_4_code, 2, none, 9, 0, 0),
  (⟨"KineticCupModel", "say", "(I)I"⟩, prog_12_method_15_code, 2, (some .int), 9, 1, 22),
  (⟨"KineticCupModel", "wipe", "()I"⟩, prog_12_method_16_code, 2, (some .int), 9, 0, 0),
  (⟨"KineticCupModel", "fault", "()I"⟩, prog_12_method_19_code, 1, (some .int), 9, 3, 66),
  (⟨"KineticCupModel", "faultOf", "()I"⟩, prog_12_method_18_code, 3, (some .int), 9, 2, 44),
  (⟨"KineticCupModel", "step", "(II)I"⟩, prog_12_method_17_code, 3, (some .int), 9, 1, 22),
  (⟨"KineticCupModel", "judge", "(I)I"⟩, prog_12_method_26_code, 3, (some .int), 9, 6, 147),
  (⟨"KineticCupModel", "goDays", "()I"⟩, prog_12_method_25_code, 2, (some .int), 9, 5, 126),
  (⟨"KineticCupModel", "oneAct", "(I)I"⟩, prog_12_method_24_code, 3, (some .int), 9, 4, 104),
  (⟨"KineticCupModel", "endSecond", "(I)I"⟩, prog_12_method_23_code, 3, (some .int), 9, 3, 82),
  (⟨"KineticCupModel", "dueBy", "(I)I"⟩, prog_12_method_12_code, 6, (some .int), 9, 0, 0),
  (⟨"KineticCupModel", "take", "(II)V"⟩, prog_12_method_13_code, 14, none, 9, 2, 49),
  (⟨"KineticCupModel", "bend", "(II)I"⟩, prog_12_method_20_code, 3, (some .int), 9, 3, 70)]
def xtab_3 : List xM := [
  (⟨"KineticCupModel", "goOut", "(IZ)I"⟩, prog_12_method_21_code, 3, (some .int), 9, 3, 70),
  (⟨"KineticCupModel", "exchange", "(II)I"⟩, prog_12_method_22_code, 5, (some .int), 9, 3, 70),
  (⟨"KineticCupModel", "done", "()I"⟩, prog_12_method_28_code, 1, (some .int), 9, 7, 167),
  (⟨"KineticCupModel", "barOfDays", "()I"⟩, prog_12_method_27_code, 1, (some .int), 9, 6, 147),
  (⟨"KineticCupModel", "behind", "(II)I"⟩, prog_12_method_29_code, 3, (some .int), 9, 7, 167),
  (⟨"KineticCupModel", "winner", "(I)I"⟩, prog_12_method_30_code, 2, (some .int), 9, 7, 167),
  (⟨"KineticCupModel", "then", "(I)I"⟩, prog_12_method_31_code, 2, (some .int), 9, 7, 167),
  (⟨"KineticCupModel", "leads", "(II)I"⟩, prog_12_method_35_code, 3, (some .int), 9, 3, 74),
  (⟨"KineticCupModel", "isTime", "(II)Z"⟩, prog_12_method_32_code, 2, (some .boolean), 9, 1, 22),
  (⟨"KineticCupModel", "best", "(III)I"⟩, prog_12_method_34_code, 6, (some .int), 9, 2, 49),
  (⟨"KineticCupModel", "isOf", "(II)Z"⟩, prog_12_method_33_code, 4, (some .boolean), 9, 0, 0),
  (⟨"KineticCupModel", "next", "(I)J"⟩, prog_12_method_39_code, 2, (some .long), 9, 4, 96),
  (⟨"KineticCupModel", "nextMatch", "()I"⟩, prog_12_method_37_code, 3, (some .int), 9, 3, 74),
  (⟨"KineticCupModel", "layNext", "(II)Z"⟩, prog_12_method_36_code, 8, (some .boolean), 9, 1, 23),
  (⟨"KineticCupModel", "lowest", "(JJI)J"⟩, prog_12_method_38_code, 11, (some .long), 9, 0, 0),
  (⟨"KineticCupModel", "where", "()I"⟩, prog_12_method_40_code, 1, (some .int), 9, 4, 96),
  (⟨"KineticCupModel", "ever", "(II)I"⟩, prog_12_method_41_code, 6, (some .int), 9, 3, 74),
  (⟨"KineticCupModel", "value", "(IIII)J"⟩, prog_12_method_42_code, 5, (some .long), 9, 2, 43),
  (⟨"KineticCupModel", "number", "(IIII)J"⟩, prog_12_method_49_code, 9, (some .long), 9, 3, 85),
  (⟨"KineticCupModel", "bitsOfDouble", "(JJ)J"⟩, prog_12_method_48_code, 13, (some .long), 9, 0, 0),
  (⟨"KineticCupModel", "single", "(JJ)J"⟩, prog_12_method_45_code, 12, (some .long), 9, 2, 54),
  (⟨"KineticCupModel", "round", "(JZZZ)J"⟩, prog_12_method_44_code, 13, (some .long), 9, 1, 22),
  (⟨"KineticCupModel", "length", "(J)I"⟩, prog_12_method_43_code, 3, (some .int), 9, 0, 0),
  (⟨"KineticCupModel", "bitsOfSingle", "(J)J"⟩, prog_12_method_46_code, 9, (some .long), 9, 1, 22),
  (⟨"KineticCupModel", "whole", "(J)J"⟩, prog_12_method_47_code, 2, (some .long), 9, 0, 0),
  (⟨"KineticCupModel", "heap", "(III)J"⟩, prog_12_method_50_code, 9, (some .long), 9, 3, 85),
  (⟨"KineticCupModel", "seen", "(IIZ)I"⟩, prog_12_method_51_code, 4, (some .int), 9, 1, 22),
  (⟨"KineticCupModel", "forget", "()I"⟩, prog_12_method_52_code, 2, (some .int), 9, 0, 0),
  (⟨"KineticCupModel", "lines", "(I)I"⟩, prog_12_method_55_code, 4, (some .int), 9, 2, 45),
  (⟨"KineticCupModel", "isFit", "(I)Z"⟩, prog_12_method_54_code, 4, (some .boolean), 9, 1, 22),
  (⟨"KineticCupModel", "isLeast", "(III)Z"⟩, prog_12_method_53_code, 3, (some .boolean), 9, 0, 0),
  (⟨"KineticCupModel", "ask", "(I)I"⟩, prog_12_method_56_code, 9, (some .int), 9, 2, 45),
  (⟨"KineticCupModel", "cross", "(III)J"⟩, prog_12_method_57_code, 6, (some .long), 9, 2, 42),
  (⟨"KineticCupModel", "run", "(III)I"⟩, prog_12_method_58_code, 7, (some .int), 9, 4, 104),
  (⟨"KineticCupModel", "image", "(I)I"⟩, prog_12_method_59_code, 4, (some .int), 9, 1, 22),
  (⟨"KineticCupModel", "restore", "(I)I"⟩, prog_12_method_60_code, 4, (some .int), 9, 1, 22),
  (⟨"KineticCupModel", "told", "(I)I"⟩, prog_12_method_61_code, 4, (some .int), 9, 2, 42),
  (⟨"KineticCup$Nearest", "singleBits", "(JJ)J"⟩, prog_4_method_3_code, 5, (some .long), 10, 2, 60),
  (⟨"KineticCup$Nearest", "sizeBits", "(JJII)J"⟩, prog_4_method_5_code, 13, (some .long), 10, 1, 28),
  (⟨"KineticCup$Nearest", "shiftFor", "(JJI)I"⟩, prog_4_method_6_code, 6, (some .int), 10, 0, 0),
  (⟨"KineticCup$Nearest", "nearestWhole", "(JJ)J"⟩, prog_4_method_7_code, 9, (some .long), 10, 0, 0),
  (⟨"KineticCup$Nearest", "doubleBits", "(JJ)J"⟩, prog_4_method_4_code, 6, (some .long), 10, 2, 60),
  (⟨"KineticCup$Nearest", "single", "(JJ)J"⟩, prog_4_method_2_code, 11, (some .long), 10, 1, 28),
  (⟨"java/util/Arrays", "fill", "([II)V"⟩, prog_18_method_103_code, 4, none, 13, 0, 0)]
def xtab : List xM := xtab_0 ++ (xtab_1 ++ (xtab_2 ++ (xtab_3)))
def xm (id : Nat) : xM := xtab.getD id (⟨"", "", ""⟩, .empty, 0, none, 0, 0, 0)
def xy (id : Nat) : MethodName := (xm id).1
def xbc (id : Nat) : ByteArray := (xm id).2.1
def xml (id : Nat) : Nat := (xm id).2.2.1
def xret (id : Nat) : Option FieldType := (xm id).2.2.2.1
def xown (id : Nat) : Nat := (xm id).2.2.2.2.1
def xrf (id : Nat) : Nat := (xm id).2.2.2.2.2.1
def xrl (id : Nat) : Nat := (xm id).2.2.2.2.2.2
def xfl : List ((Nat × Nat) × Nat × Nat × Bool × Bool × Nat) := [
  ((0, 9), 0, 0, false, false, 185),
  ((0, 15), 0, 1, false, false, 186),
  ((0, 18), 0, 2, false, false, 187),
  ((0, 21), 0, 3, false, false, 188),
  ((0, 24), 0, 4, false, false, 189),
  ((0, 28), 0, 5, false, false, 190),
  ((0, 34), 0, 6, false, false, 191),
  ((0, 41), 0, 7, false, false, 192),
  ((0, 45), 0, 8, false, true, 193),
  ((1, 10), 1, 0, false, false, 299),
  ((1, 19), 1, 1, false, false, 300),
  ((1, 23), 1, 2, false, true, 301),
  ((2, 11), 2, 0, false, false, 219),
  ((2, 15), 2, 1, false, true, 220),
  ((3, 11), 3, 0, false, false, 84),
  ((3, 15), 3, 1, false, false, 85),
  ((3, 18), 3, 2, false, false, 86),
  ((3, 21), 3, 3, false, false, 87),
  ((3, 24), 3, 4, false, false, 88),
  ((3, 27), 3, 5, false, true, 89),
  ((3, 31), 3, 6, false, true, 90),
  ((4, 12), 4, 0, false, false, 253),
  ((4, 18), 4, 1, false, true, 254),
  ((4, 22), 4, 2, false, true, 255),
  ((4, 25), 4, 3, false, true, 256),
  ((5, 11), 5, 0, false, false, 272),
  ((5, 17), 5, 1, false, false, 273),
  ((5, 20), 5, 2, false, true, 274),
  ((5, 24), 5, 3, false, true, 275),
  ((5, 27), 5, 4, false, true, 276),
  ((6, 9), 6, 0, false, false, 232),
  ((6, 13), 6, 1, false, false, 233),
  ((6, 16), 6, 2, false, false, 234),
  ((6, 20), 6, 3, false, true, 235),
  ((7, 9), 7, 0, false, true, 114),
  ((7, 15), 7, 1, false, true, 116),
  ((7, 18), 7, 2, false, true, 118),
  ((7, 21), 7, 3, false, true, 120),
  ((7, 24), 7, 4, false, true, 122),
  ((8, 10), 8, 0, false, false, 309),
  ((8, 19), 8, 1, false, false, 310),
  ((8, 26), 8, 2, false, false, 311),
  ((8, 33), 8, 3, false, false, 312),
  ((8, 40), 8, 4, false, false, 313),
  ((8, 46), 8, 5, false, false, 314),
  ((8, 128), 7, 0, true, true, 115),
  ((8, 134), 7, 1, true, true, 117),
  ((8, 137), 7, 2, true, true, 119),
  ((8, 140), 7, 3, true, true, 121),
  ((8, 143), 7, 4, true, true, 123),
  ((9, 7), 9, 0, false, false, 860),
  ((9, 13), 9, 1, false, false, 861),
  ((9, 16), 9, 3, false, false, 863),
  ((9, 19), 9, 5, false, false, 865),
  ((9, 22), 9, 17, false, false, 877),
  ((9, 25), 9, 18, false, false, 878),
  ((9, 28), 9, 19, false, false, 879),
  ((9, 42), 9, 6, false, true, 866),
  ((9, 46), 9, 7, false, true, 867),
  ((9, 49), 9, 8, false, true, 868),
  ((9, 52), 9, 9, false, true, 869),
  ((9, 55), 9, 10, false, true, 870),
  ((9, 85), 9, 4, false, true, 864),
  ((9, 102), 9, 12, false, true, 872),
  ((9, 121), 9, 11, false, true, 871),
  ((9, 141), 9, 14, false, true, 874),
  ((9, 144), 9, 13, false, true, 873),
  ((9, 150), 9, 16, false, true, 876),
  ((9, 153), 9, 15, false, true, 875),
  ((9, 203), 9, 2, false, true, 862)]
def xfld (own idx : Nat) : Option (Nat × Nat × Bool × Bool × Nat) := xfl.lookup (own, idx)
def xcs : List ((Nat × Nat) × Value × Nat) := [
  ((4, 74), .int (65537 : Int32), 745),
  ((4, 75), .retAddr 1, 0),
  ((8, 156), .long (-1000000000000000002 : Int64), 590),
  ((8, 168), .long (-1000000000000000003 : Int64), 596),
  ((8, 186), .long (-1000000000000000001 : Int64), 628),
  ((8, 204), .long (1073741824 : Int64), 661),
  ((9, 156), .long (-1000000000000000002 : Int64), 1029),
  ((9, 161), .long (-1000000000000000003 : Int64), 1038),
  ((9, 167), .long (-1000000000000000001 : Int64), 1054),
  ((9, 173), .long (2 : Int64), 1063),
  ((9, 179), .long (8388608 : Int64), 1078),
  ((9, 181), .long (2147483648 : Int64), 1079),
  ((9, 183), .long (4503599627370496 : Int64), 1062),
  ((9, 185), .long (9007199254740992 : Int64), 1064),
  ((9, 187), .long (-9223372036854775808 : Int64), 1065),
  ((9, 212), .int (1000000 : Int32), 1110),
  ((9, 213), .int (65537 : Int32), 1119),
  ((10, 29), .int (-2147483648 : Int32), 653),
  ((10, 32), .long (-9223372036854775808 : Int64), 657),
  ((10, 34), .long (2 : Int64), 652)]
def xcst (own idx : Nat) : Option (Value × Nat) := xcs.lookup (own, idx)
def xmt : List ((Nat × Nat) × Nat × Nat × Nat × Nat × Nat × Nat) := [
  ((0, 3), 6, 0, 0, 77, 70, 0),
  ((0, 33), 5, 47, 0, 80, 81, 0),
  ((0, 40), 5, 83, 0, 110, 111, 0),
  ((0, 49), 1, 2, 0, 135, 137, 0),
  ((0, 52), 7, 0, 5, 420, 421, 0),
  ((0, 58), 1, 51, 1, 423, 424, 425),
  ((0, 62), 3, 88, 1, 169, 170, 0),
  ((0, 66), 3, 87, 1, 150, 151, 0),
  ((0, 69), 1, 17, 2, 451, 453, 10),
  ((0, 73), 1, 18, 2, 458, 460, 11),
  ((0, 76), 1, 9, 1, 455, 337, 338),
  ((0, 80), 1, 11, 1, 456, 344, 345),
  ((0, 83), 0, 10, 2, 457, 341, 0),
  ((0, 87), 1, 19, 1, 462, 463, 464),
  ((0, 90), 1, 21, 3, 470, 472, 12),
  ((0, 94), 1, 24, 2, 482, 484, 15),
  ((0, 97), 1, 22, 2, 474, 476, 13),
  ((0, 101), 1, 23, 2, 478, 480, 14),
  ((0, 104), 1, 48, 0, 139, 140, 141),
  ((0, 107), 1, 3, 3, 146, 148, 1),
  ((0, 111), 1, 52, 1, 486, 487, 488),
  ((0, 115), 1, 54, 1, 514, 495, 496),
  ((0, 118), 1, 57, 1, 515, 507, 508),
  ((0, 121), 1, 58, 1, 516, 511, 512),
  ((0, 124), 1, 53, 1, 517, 491, 492),
  ((0, 127), 1, 59, 1, 518, 519, 520),
  ((0, 131), 1, 85, 3, 522, 523, 524),
  ((0, 135), 1, 4, 1, 153, 155, 2),
  ((0, 138), 1, 7, 4, 165, 167, 4),
  ((0, 142), 1, 8, 3, 172, 174, 5),
  ((0, 145), 1, 5, 1, 157, 158, 159),
  ((0, 148), 1, 6, 1, 161, 163, 3),
  ((0, 151), 1, 49, 1, 176, 177, 178),
  ((0, 154), 1, 50, 3, 181, 182, 183),
  ((0, 157), 1, 25, 1, 623, 553, 554),
  ((0, 160), 1, 27, 2, 618, 580, 581),
  ((0, 163), 1, 30, 3, 619, 621, 18),
  ((1, 1), 6, 0, 0, 294, 70, 0),
  ((1, 9), 2, 1, 0, 296, 75, 0),
  ((1, 18), 5, 77, 0, 298, 229, 0),
  ((1, 27), 1, 14, 1, 796, 417, 418),
  ((1, 31), 1, 82, 1, 797, 798, 799),
  ((2, 3), 6, 0, 0, 218, 70, 0),
  ((2, 19), 1, 41, 1, 387, 389, 7),
  ((2, 23), 3, 88, 1, 395, 170, 0),
  ((2, 27), 1, 40, 1, 383, 385, 6),
  ((2, 30), 1, 43, 1, 396, 397, 398),
  ((2, 33), 1, 42, 1, 391, 393, 8),
  ((2, 36), 1, 44, 1, 400, 401, 402),
  ((3, 3), 6, 0, 0, 83, 70, 0),
  ((3, 34), 7, 0, 5, 427, 421, 0),
  ((3, 40), 0, 187, 2, 143, 144, 0),
  ((3, 46), 3, 87, 1, 180, 151, 0),
  ((3, 50), 1, 55, 1, 498, 500, 16),
  ((3, 53), 1, 54, 1, 494, 495, 496),
  ((3, 57), 1, 53, 1, 490, 491, 492),
  ((3, 60), 1, 56, 2, 502, 504, 17),
  ((3, 64), 1, 57, 1, 506, 507, 508),
  ((3, 67), 1, 58, 1, 510, 511, 512),
  ((4, 3), 6, 0, 0, 250, 70, 0),
  ((4, 11), 2, 1, 0, 252, 75, 0),
  ((4, 28), 1, 14, 1, 416, 417, 418),
  ((4, 32), 1, 15, 0, 428, 429, 430),
  ((4, 36), 1, 84, 0, 432, 433, 434),
  ((4, 41), 1, 63, 1, 412, 414, 9),
  ((4, 44), 1, 39, 0, 436, 380, 381),
  ((4, 50), 1, 37, 0, 437, 364, 365),
  ((4, 53), 1, 44, 1, 438, 401, 402),
  ((4, 57), 1, 45, 1, 439, 440, 441),
  ((4, 60), 1, 46, 1, 443, 444, 445),
  ((4, 63), 1, 16, 3, 447, 448, 449),
  ((4, 67), 1, 20, 4, 466, 467, 468),
  ((4, 71), 1, 43, 1, 526, 397, 398),
  ((4, 77), 8, 0, 1, 747, 748, 749),
  ((5, 5), 6, 0, 0, 271, 70, 0),
  ((5, 30), 1, 81, 2, 694, 695, 696),
  ((5, 34), 1, 74, 1, 714, 716, 19),
  ((5, 38), 11, 0, 2, 722, 723, 724),
  ((5, 44), 0, 187, 2, 718, 144, 0),
  ((5, 50), 12, 0, 2, 719, 720, 721),
  ((6, 1), 6, 0, 0, 231, 70, 0),
  ((6, 24), 7, 0, 5, 801, 421, 0),
  ((7, 3), 6, 0, 0, 113, 70, 0),
  ((8, 1), 6, 0, 0, 69, 70, 0),
  ((8, 9), 2, 1, 0, 74, 75, 0),
  ((8, 18), 5, 35, 0, 215, 216, 0),
  ((8, 25), 5, 77, 0, 228, 229, 0),
  ((8, 32), 5, 61, 0, 247, 248, 0),
  ((8, 39), 5, 69, 0, 268, 269, 0),
  ((8, 50), 5, 32, 0, 291, 292, 0),
  ((8, 51), 0, 88, 1, 332, 170, 0),
  ((8, 55), 0, 90, 2, 333, 334, 0),
  ((8, 59), 1, 9, 1, 336, 337, 338),
  ((8, 63), 0, 10, 2, 340, 341, 0),
  ((8, 66), 1, 11, 1, 343, 344, 345),
  ((8, 69), 1, 12, 1, 347, 348, 349),
  ((8, 72), 1, 13, 4, 351, 352, 353),
  ((8, 76), 1, 36, 1, 359, 360, 361),
  ((8, 79), 1, 37, 0, 363, 364, 365),
  ((8, 83), 1, 38, 0, 371, 372, 373),
  ((8, 86), 1, 39, 0, 379, 380, 381),
  ((8, 89), 1, 62, 2, 408, 409, 410),
  ((8, 93), 1, 64, 0, 527, 528, 529),
  ((8, 96), 1, 65, 0, 531, 532, 533),
  ((8, 99), 1, 66, 0, 539, 540, 541),
  ((8, 102), 1, 14, 1, 543, 417, 418),
  ((8, 106), 1, 67, 0, 544, 545, 546),
  ((8, 109), 1, 25, 1, 552, 553, 554),
  ((8, 112), 1, 19, 1, 556, 463, 464),
  ((8, 115), 0, 87, 1, 561, 151, 0),
  ((8, 118), 1, 5, 1, 562, 158, 159),
  ((8, 121), 1, 15, 0, 567, 429, 430),
  ((8, 125), 1, 26, 0, 568, 569, 570),
  ((8, 146), 0, 100, 2, 576, 577, 0),
  ((8, 149), 1, 27, 2, 579, 580, 581),
  ((8, 153), 0, 102, 1, 587, 588, 0),
  ((8, 158), 1, 28, 0, 591, 592, 593),
  ((8, 162), 1, 52, 1, 595, 487, 488),
  ((8, 170), 1, 57, 1, 597, 507, 508),
  ((8, 173), 1, 58, 1, 598, 511, 512),
  ((8, 176), 0, 103, 3, 599, 600, 0),
  ((8, 180), 1, 54, 1, 609, 495, 496),
  ((8, 183), 1, 29, 2, 614, 615, 616),
  ((8, 188), 1, 31, 3, 629, 630, 631),
  ((8, 192), 0, 181, 2, 637, 638, 0),
  ((8, 198), 0, 185, 2, 654, 655, 0),
  ((8, 201), 0, 186, 2, 658, 659, 0),
  ((8, 206), 1, 78, 3, 670, 671, 672),
  ((8, 209), 1, 79, 0, 674, 675, 676),
  ((8, 212), 1, 80, 0, 682, 683, 684),
  ((8, 213), 1, 70, 1, 690, 691, 692),
  ((8, 217), 1, 71, 0, 698, 699, 700),
  ((8, 218), 1, 72, 1, 702, 703, 704),
  ((8, 221), 1, 73, 0, 710, 711, 712),
  ((8, 224), 1, 75, 0, 725, 726, 727),
  ((8, 227), 1, 76, 0, 729, 730, 731),
  ((8, 230), 1, 68, 3, 741, 742, 743),
  ((8, 234), 1, 33, 2, 792, 793, 794),
  ((8, 238), 1, 34, 2, 806, 807, 808),
  ((8, 242), 1, 118, 1, 814, 816, 20),
  ((8, 245), 1, 119, 2, 822, 824, 21),
  ((8, 248), 1, 60, 0, 818, 819, 820),
  ((8, 249), 9, 0, 1, 602, 603, 604),
  ((9, 1), 6, 0, 0, 831, 70, 0),
  ((9, 32), 1, 121, 0, 832, 834, 22),
  ((9, 35), 1, 127, 0, 856, 858, 28),
  ((9, 38), 0, 130, 3, 928, 929, 0),
  ((9, 58), 1, 125, 4, 848, 850, 26),
  ((9, 62), 1, 123, 1, 840, 842, 24),
  ((9, 66), 1, 122, 2, 836, 838, 23),
  ((9, 70), 1, 124, 4, 844, 846, 25),
  ((9, 74), 1, 126, 1, 852, 854, 27),
  ((9, 78), 0, 129, 1, 925, 926, 0),
  ((9, 82), 1, 131, 0, 931, 933, 29),
  ((9, 88), 0, 136, 2, 951, 952, 0),
  ((9, 91), 1, 135, 0, 947, 949, 30),
  ((9, 95), 1, 141, 1, 970, 972, 34),
  ((9, 98), 1, 142, 2, 974, 976, 35),
  ((9, 105), 1, 140, 1, 966, 968, 33),
  ((9, 108), 1, 143, 2, 978, 980, 36),
  ((9, 111), 1, 144, 2, 982, 984, 37),
  ((9, 115), 1, 145, 2, 986, 988, 38),
  ((9, 118), 1, 139, 1, 962, 964, 32),
  ((9, 124), 1, 138, 0, 958, 960, 31),
  ((9, 127), 1, 147, 0, 994, 996, 39),
  ((9, 130), 1, 154, 2, 1021, 1023, 41),
  ((9, 134), 0, 152, 2, 1014, 1015, 0),
  ((9, 137), 1, 153, 3, 1017, 1019, 40),
  ((9, 147), 1, 157, 2, 1034, 1036, 43),
  ((9, 158), 1, 156, 0, 1030, 1032, 42),
  ((9, 163), 0, 158, 3, 1039, 1040, 0),
  ((9, 169), 0, 166, 1, 1072, 1073, 0),
  ((9, 175), 0, 165, 4, 1069, 1070, 0),
  ((9, 189), 0, 163, 2, 1059, 1060, 0),
  ((9, 193), 0, 164, 2, 1066, 1067, 0),
  ((9, 196), 0, 167, 1, 1075, 1076, 0),
  ((9, 200), 0, 168, 1, 1080, 1081, 0),
  ((9, 206), 0, 174, 3, 1103, 1104, 0),
  ((9, 209), 1, 173, 1, 1099, 1101, 44),
  ((10, 9), 10, 0, 1, 643, 644, 645),
  ((10, 15), 0, 183, 3, 646, 647, 0),
  ((10, 19), 0, 184, 2, 649, 650, 0),
  ((10, 23), 0, 182, 4, 640, 641, 0),
  ((11, 9), 2, 86, 0, 66, 67, 0),
  ((11, 12), 2, 120, 0, 828, 829, 0),
  ((11, 13), 1, 89, 4, 328, 329, 330),
  ((11, 17), 1, 128, 4, 921, 922, 923),
  ((11, 18), 1, 91, 1, 355, 356, 357),
  ((11, 22), 1, 132, 1, 935, 936, 937),
  ((11, 23), 1, 92, 0, 367, 368, 369),
  ((11, 27), 1, 133, 0, 939, 940, 941),
  ((11, 28), 1, 93, 0, 375, 376, 377),
  ((11, 31), 1, 134, 0, 943, 944, 945),
  ((11, 32), 1, 94, 1, 404, 405, 406),
  ((11, 35), 1, 137, 1, 954, 955, 956),
  ((11, 36), 1, 95, 0, 535, 536, 537),
  ((11, 39), 1, 146, 0, 990, 991, 992),
  ((11, 40), 1, 96, 2, 548, 549, 550),
  ((11, 44), 1, 148, 2, 998, 999, 1000),
  ((11, 45), 1, 97, 1, 557, 558, 559),
  ((11, 48), 1, 149, 1, 1002, 1003, 1004),
  ((11, 49), 1, 98, 1, 563, 564, 565),
  ((11, 52), 1, 150, 1, 1006, 1007, 1008),
  ((11, 53), 1, 99, 2, 572, 573, 574),
  ((11, 56), 1, 151, 2, 1010, 1011, 1012),
  ((11, 57), 1, 101, 1, 583, 584, 585),
  ((11, 61), 1, 155, 1, 1025, 1026, 1027),
  ((11, 62), 1, 104, 0, 605, 606, 607),
  ((11, 65), 1, 159, 0, 1042, 1043, 1044),
  ((11, 66), 1, 105, 2, 610, 611, 612),
  ((11, 69), 1, 160, 2, 1046, 1047, 1048),
  ((11, 70), 1, 106, 4, 624, 625, 626),
  ((11, 74), 1, 161, 4, 1050, 1051, 1052),
  ((11, 75), 1, 107, 4, 633, 634, 635),
  ((11, 78), 1, 162, 4, 1055, 1056, 1057),
  ((11, 79), 1, 108, 3, 662, 663, 664),
  ((11, 83), 1, 169, 3, 1083, 1084, 1085),
  ((11, 84), 1, 109, 3, 666, 667, 668),
  ((11, 88), 1, 170, 3, 1087, 1088, 1089),
  ((11, 89), 1, 110, 0, 678, 679, 680),
  ((11, 92), 1, 171, 0, 1091, 1092, 1093),
  ((11, 93), 1, 111, 1, 686, 687, 688),
  ((11, 96), 1, 172, 1, 1095, 1096, 1097),
  ((11, 97), 1, 112, 1, 706, 707, 708),
  ((11, 100), 1, 175, 1, 1106, 1107, 1108),
  ((11, 101), 1, 113, 3, 733, 734, 735),
  ((11, 104), 1, 176, 3, 1111, 1112, 1113),
  ((11, 105), 1, 114, 3, 737, 738, 739),
  ((11, 109), 1, 177, 3, 1115, 1116, 1117),
  ((11, 110), 1, 115, 1, 788, 789, 790),
  ((11, 113), 1, 178, 1, 1120, 1121, 1122),
  ((11, 114), 1, 116, 1, 802, 803, 804),
  ((11, 117), 1, 179, 1, 1124, 1125, 1126),
  ((11, 118), 1, 117, 1, 810, 811, 812),
  ((11, 121), 1, 180, 1, 1128, 1129, 1130)]
def xmth (own idx : Nat) : Option (Nat × Nat × Nat × Nat × Nat × Nat) := xmt.lookup (own, idx)
def xnw : List ((Nat × Nat) × Nat × Nat) := [((0, 31), 3, 78), ((0, 38), 7, 108), ((1, 7), 0, 295), ((1, 16), 6, 297), ((4, 9), 0, 251), ((8, 7), 0, 72), ((8, 16), 2, 213), ((8, 23), 6, 226), ((8, 30), 4, 245), ((8, 37), 5, 266), ((8, 44), 1, 288), ((11, 7), 8, 64), ((11, 10), 9, 826)]
def xnew (own idx : Nat) : Option (Nat × Nat) := xnw.lookup (own, idx)
def xpC : List Nat := [0, 76, 138, 149, 156, 160, 164, 168, 175, 339, 342, 346, 350, 354, 419, 431, 450, 454, 461, 465, 469, 473, 477, 481, 485, 555, 571, 582, 594, 617, 622, 632, 293, 795, 809, 217, 362, 366, 374, 382, 386, 390, 394, 399, 403, 442, 446, 82, 142, 179, 184, 426, 489, 493, 497, 501, 505, 509, 513, 521, 821, 249, 411, 415, 530, 534, 542, 547, 744, 270, 693, 701, 705, 713, 717, 728, 732, 230, 673, 677, 685, 697, 800, 112, 435, 525, 68, 152, 171, 331, 335, 358, 370, 378, 407, 538, 551, 560, 566, 575, 578, 586, 589, 601, 608, 613, 627, 636, 665, 669, 681, 689, 709, 736, 740, 791, 805, 813, 817, 825, 830, 835, 839, 843, 847, 851, 855, 859, 924, 927, 930, 934, 938, 942, 946, 950, 953, 957, 961, 965, 969, 973, 977, 981, 985, 989, 993, 997, 1001, 1005, 1009, 1013, 1016, 1020, 1024, 1028, 1033, 1037, 1041, 1045, 1049, 1053, 1058, 1061, 1068, 1071, 1074, 1077, 1082, 1086, 1090, 1094, 1098, 1102, 1105, 1109, 1114, 1118, 1123, 1127, 1131, 639, 642, 648, 651, 656, 660, 145]
def xpI : List Nat := [47, 55, 51, 48, 53, 54, 52, 49, 46, 56, 59, 45, 58, 50]
def xpN : List Nat := [73, 290, 214, 79, 246, 267, 227, 109, 65, 827]
def xpL : List (List Nat) := [[194, 196, 198, 200, 202, 204, 206, 208, 210], [302, 304, 306], [221, 223], [91, 93, 95, 97, 99, 101, 103], [257, 259, 261, 263], [277, 279, 281, 283, 285], [236, 238, 240, 242], [124, 126, 128, 130, 132], [315, 317, 319, 321, 323, 325], [880, 882, 884, 886, 888, 890, 892, 894, 896, 898, 900, 902, 904, 906, 908, 910, 912, 914, 916, 918]]
def xty (c : Nat) : Nat → FieldType := match c with
  | 0 => tyX0
  | 1 => tyX1
  | 2 => tyX3
  | 3 => tyX4
  | 4 => tyX5
  | 5 => tyX6
  | 6 => tyX7
  | 7 => tyX8
  | 8 => tyX9
  | 9 => tyX10
  | _ => fun _ => .int
end
section
abbrev xS : Type := List (Nat × Nat × List Value) × (Nat → Nat → Int32)
abbrev xF : Type := Nat × List Value × List Value × xS
abbrev xO : Type := Option Value × xS
abbrev xR : Type := xF ⊕ (xO ⊕ (Nat × List Value × xF))
abbrev xX : Type := Nat × (Nat → Int32)
def xin (i : Int32) (n : Nat) : Bool := decide (0 ≤ i.toInt) && decide (i.toInt < (n : Int))
def xup (σ : Nat → Nat → Int32) (k j : Nat) (v : Int32) : Nat → Nat → Int32 := fun a b => if a = k ∧ b = j then v else σ a b
def xzr (σ : Nat → Nat → Int32) (k : Nat) : Nat → Nat → Int32 := fun a b => if a = k then 0 else σ a b
def xcp (σ : Nat → Nat → Int32) (k0 k1 sp dp n : Nat) : Nat → Nat → Int32 := fun a b => if a = k1 ∧ dp ≤ b ∧ b < dp + n then σ k0 (sp + (b - dp)) else σ a b
def xcat : List Value → Nat
  | [] => 0
  | v :: r => v.category + xcat r
def xkl (ls : List Value) (i : Nat) : List Value := match i with
  | 0 => ls
  | j + 1 => match ls[j]? with
    | some (.long _) => ls.set j (.float 0)
    | _ => ls
def xst1 (ls : List Value) (i : Nat) (v : Value) : List Value := (xkl ls i).set i v
def xst2 (ls : List Value) (i : Nat) (v : Value) : List Value := ((xkl ls i).set i v).set (i + 1) (.float 0)
def xcmp (c : Jvm.ClassFile.Cond) (x y : Int32) : Bool := match c with
  | .eq => decide (x = y)
  | .ne => decide (¬ x = y)
  | .lt => decide (x < y)
  | .ge => decide (y ≤ x)
  | .gt => decide (y < x)
  | .le => decide (x ≤ y)
def xnx (pc : Nat) (ls st : List Value) (S : xS) : Option xR := some (.inl (pc, ls, st, S))
def xjp (pc : Nat) (off : Int) (ls st : List Value) (S : xS) : Option xR := if 0 ≤ (pc : Int) + off then xnx ((pc : Int) + off).toNat ls st S else none
def xtt (pc : Nat) (x : Int32) (ls st : List Value) (S : xS) (d : Int) : List (Int × Int) → Option xR
  | [] => xjp pc d ls st S
  | (a, o) :: r => if x.toInt = a then xjp pc o ls st S else xtt pc x ls st S d r
def xnum : Int → List Int → List (Int × Int)
  | _, [] => []
  | a, o :: r => (a, o) :: xnum (a + 1) r
def xbi (f : Int32 → Int32 → Int32) (pc : Nat) (ls st : List Value) (S : xS) : Option xR := match st with
  | .int y :: .int x :: r => xnx (pc + 1) ls (.int (f x y) :: r) S
  | _ => none
def xbl (f : Int64 → Int64 → Int64) (pc : Nat) (ls st : List Value) (S : xS) : Option xR := match st with
  | .long y :: .long x :: r => xnx (pc + 1) ls (.long (f x y) :: r) S
  | _ => none
def xld (ls : List Value) (i pc : Nat) (st : List Value) (S : xS) (ok : Value → Bool) : Option xR := match ls[i]? with
  | some v => if ok v then xnx pc ls (v :: st) S else none
  | none => none
def xisI : Value → Bool
  | .int _ => true
  | _ => false
def xisL : Value → Bool
  | .long _ => true
  | _ => false
def xisA : Value → Bool
  | .ref _ => true
  | .retAddr _ => true
  | _ => false
def xsto (ls : List Value) (i pc : Nat) (st : List Value) (S : xS) (ok : Value → Bool) : Option xR := match st with
  | v :: r => if ok v = true ∧ i < ls.length then xnx pc (xst1 ls i v) r S else none
  | _ => none
def xsto2 (ls : List Value) (i pc : Nat) (st : List Value) (S : xS) : Option xR := match st with
  | .long x :: r => if i + 1 < ls.length then xnx pc (xst2 ls i (.long x)) r S else none
  | _ => none
def xgf (S : xS) (k ci j : Nat) : Option Value := match S.1[k]? with
  | some (t, _, vs) => if t = ci + 3 then (match vs[j]? with
    | some (.int _) => some (.int (S.2 k j))
    | some (.ref a) => some (.ref a)
    | _ => none) else none
  | none => none
def xzf (ci j : Nat) : Bool := ci == 1 && j == 2
def xpf (S : xS) (k ci j : Nat) (x : Int32) : Option xS := match S.1[k]? with
  | some (t, _, vs) => if t = ci + 3 then (match vs[j]? with
    | some (.int _) => if xzf ci j = true ∧ ¬ (x = 0 ∨ x = 1) then none else some (S.1, xup S.2 k j x)
    | _ => none) else none
  | none => none
def xpr (S : xS) (k ci j a : Nat) : Option xS := match S.1[k]? with
  | some (t, n, vs) => if t = ci + 3 then (match vs[j]? with
    | some .null => some (S.1.set k (t, n, vs.set j (.ref a)), S.2)
    | _ => none) else none
  | none => none
def xal (S : xS) (k t : Nat) (i : Int32) : Option Int32 := match S.1[k]? with
  | some (t', n, _) => if t' = t ∧ xin i n = true then some (S.2 k i.toNatClampNeg) else none
  | none => none
def xas (S : xS) (k t : Nat) (i x : Int32) : Option xS := match S.1[k]? with
  | some (t', n, _) => if t' = t ∧ xin i n = true then some (S.1, xup S.2 k i.toNatClampNeg x) else none
  | none => none
def xaq (S : xS) (k : Nat) (i : Int32) : Option Value := match S.1[k]? with
  | some (t, n, vs) => if t = 2 ∧ xin i n = true then (match vs[i.toNatClampNeg]? with
    | some (.ref a) => some (.ref a)
    | _ => none) else none
  | none => none
def xaw (S : xS) (k : Nat) (i : Int32) (a : Nat) : Option xS := match S.1[k]? with
  | some (t, n, vs) => if t = 2 ∧ xin i n = true ∧ vs.length = n then (match S.1[a]? with
    | some (t', _, _) => if t' = 4 then some (S.1.set k (t, n, vs.set i.toNatClampNeg (.ref a)), S.2) else none
    | none => none) else none
  | none => none
def xle (S : xS) (k : Nat) : Option Int32 := match S.1[k]? with
  | some (t, n, _) => if t < 3 then some (Int32.ofNat n) else none
  | none => none
def xblank : List (List Value) := [
  [.null, .null, .null, .null, .null, .null, .null, .null, .int 0],
  [.null, .null, .int 0],
  [.null, .int 0],
  [.null, .null, .null, .null, .null, .int 0, .int 0],
  [.null, .int 0, .int 0, .int 0],
  [.null, .null, .int 0, .int 0, .int 0],
  [.null, .null, .null, .int 0],
  [.int 0, .int 0, .int 0, .int 0, .int 0],
  [.null, .null, .null, .null, .null, .null],
  [.null, .null, .int 0, .null, .int 0, .null, .int 0, .int 0, .int 0, .int 0, .int 0, .int 0, .int 0, .int 0, .int 0, .int 0, .int 0, .null, .null, .null]]
def xnwo (S : xS) (ci : Nat) : Option xS := match xblank[ci]? with
  | some vs => some (S.1 ++ [(ci + 3, vs.length, vs)], xzr S.2 S.1.length)
  | none => none
def xnwa (S : xS) (t : Nat) (n : Int32) : Option xS := if 0 ≤ n ∧ n ≤ 4000 then some (S.1 ++ [(t, n.toNatClampNeg, [])], xzr S.2 S.1.length) else none
def xnwq (S : xS) (n : Int32) : Option xS := if 0 ≤ n ∧ n ≤ 4000 then some (S.1 ++ [(2, n.toNatClampNeg, List.replicate n.toNatClampNeg .null)], xzr S.2 S.1.length) else none
def xpop : Nat → List Value → List Value → Option (List Value × List Value)
  | 0, as, st => some (as, st)
  | n + 1, as, v :: st => xpop n (v :: as) st
  | _ + 1, _, [] => none
def xchr (i : Int32) : Option Int32 := if xin i 8 = true then some (([43, 45, 33, 35, 37, 46, 46, 46] : List Int32).getD i.toNatClampNeg 0) else none
def xacp (S : xS) (k0 k1 : Nat) (sp dp n : Int32) : Option xS := match S.1[k0]?, S.1[k1]? with
  | some (t0, n0, _), some (t1, n1, _) => if t0 = t1 ∧ t0 < 2 ∧ 0 ≤ sp ∧ 0 ≤ dp ∧ 0 ≤ n ∧ sp.toNatClampNeg + n.toNatClampNeg ≤ n0 ∧ dp.toNatClampNeg + n.toNatClampNeg ≤ n1 then some (S.1, xcp S.2 k0 k1 sp.toNatClampNeg dp.toNatClampNeg n.toNatClampNeg) else none
  | _, _ => none
def xcall (id pc : Nat) (ls st : List Value) (S : xS) (kind j n : Nat) : Option xR := match kind with
  | 0 => (xpop n [] st).bind fun w => if xcat w.2 ≤ 8 then some (.inr (.inr (j, w.1, (pc + 3, ls, w.2, S)))) else none
  | 3 => (xpop n [] st).bind fun w => if xcat w.2 ≤ 8 then some (.inr (.inr (j, w.1, (pc + 3, ls, w.2, S)))) else none
  | 1 => (xpop (n + 1) [] st).bind fun w => match w.1 with
    | .ref k :: as => if xcat w.2 ≤ 8 ∧ (S.1[k]?).map (fun c => c.1) = some (xown j + 3) then some (.inr (.inr (j, .ref k :: as, (pc + 3, ls, w.2, S)))) else none
    | _ => none
  | 2 => (xpop (n + 1) [] st).bind fun w => match w.1 with
    | .ref k :: as => if xcat w.2 ≤ 8 then some (.inr (.inr (j, .ref k :: as, (pc + 3, ls, w.2, S)))) else none
    | _ => none
  | 5 => (xpop (n + 1) [] st).bind fun w => match w.1 with
    | .ref k :: as => if xcat w.2 ≤ 8 then some (.inr (.inr (j, .ref k :: as, (pc + 3, ls, w.2, S)))) else none
    | _ => none
  | 6 => match st with
    | .ref _ :: r => if xcat r ≤ 8 ∧ 1 ≤ xrf id ∧ 20 ≤ xrl id then xnx (pc + 3) ls r S else none
    | _ => none
  | 7 => match st with
    | .int n :: .int dp :: .ref k1 :: .int sp :: .ref k0 :: r => if xcat r ≤ 8 ∧ 1 ≤ xrf id ∧ 28 ≤ xrl id then (xacp S k0 k1 sp dp n).bind fun S' => xnx (pc + 3) ls r S' else none
    | _ => none
  | 8 => match st with
    | .int i :: .retAddr 1 :: r => if xcat r ≤ 8 ∧ 4 ≤ xrf id ∧ 81 ≤ xrl id then (xchr i).bind fun v => xnx (pc + 3) ls (.int v :: r) S else none
    | _ => none
  | 9 => match st with
    | .int x :: r => if xcat r ≤ 8 ∧ 1 ≤ xrf id ∧ 21 ≤ xrl id then xnx (pc + 3) ls (.int (if 0 ≤ x then x else 0 - x) :: r) S else none
    | _ => none
  | 10 => match st with
    | .long x :: r => if xcat r ≤ 8 ∧ 1 ≤ xrf id ∧ 21 ≤ xrl id then xnx (pc + 3) ls (.long (if 0 < x then x else -x) :: r) S else none
    | _ => none
  | 11 => match st with
    | .int y :: .int x :: r => if xcat r ≤ 8 ∧ 1 ≤ xrf id ∧ 21 ≤ xrl id then xnx (pc + 3) ls (.int (if x < y then y else x) :: r) S else none
    | _ => none
  | 12 => match st with
    | .int y :: .int x :: r => if xcat r ≤ 8 ∧ 1 ≤ xrf id ∧ 21 ≤ xrl id then xnx (pc + 3) ls (.int (if y < x then y else x) :: r) S else none
    | _ => none
  | _ => none
def xinv (id pc : Nat) (ls st : List Value) (S : xS) (idx : Nat) (ks : List Nat) : Option xR := (xmth (xown id) idx).bind fun w => if ks.contains w.1 = true then xcall id pc ls st S w.1 w.2.1 w.2.2.1 else none
def xrt (id : Nat) (st : List Value) (S : xS) : Option xR := match st with
  | [.int x] => match xret id with
    | some .int => some (.inr (.inl (some (.int x), S)))
    | some .boolean => if x = 0 ∨ x = 1 then some (.inr (.inl (some (.int x), S))) else none
    | _ => none
  | _ => none
def xlen (i : Instr) (n : Nat) : Nat := match i with
  | .bipush _ => 2
  | .iload _ => 2
  | .lload _ => 2
  | .aload _ => 2
  | .istore _ => 2
  | .lstore _ => 2
  | .astore _ => 2
  | .ldc _ => 2
  | .newarray _ => 2
  | .sipush _ => 3
  | .ldc2_w _ => 3
  | .iinc _ _ => 3
  | .ifCond _ _ => 3
  | .if_icmp _ _ => 3
  | .goto _ => 3
  | .getfield _ => 3
  | .putfield _ => 3
  | .invokestatic _ => 3
  | .invokevirtual _ => 3
  | .invokespecial _ => 3
  | .new _ => 3
  | .anewarray _ => 3
  | .tableswitch _ _ _ _ => n
  | .lookupswitch _ _ => n
  | _ => 1
def xex (X : xX) (id : Nat) (i : Instr) (pc : Nat) (ls st : List Value) (S : xS) : Option xR := match i with
  | .iconst k => xnx (pc + 1) ls (.int (Int32.ofInt k) :: st) S
  | .bipush k => xnx (pc + 2) ls (.int (Int8.ofInt k).toInt32 :: st) S
  | .sipush k => xnx (pc + 3) ls (.int (Int16.ofInt k).toInt32 :: st) S
  | .lconst k => xnx (pc + 1) ls (.long (Int64.ofNat k.val) :: st) S
  | .ldc j => (xcst (xown id) j).bind fun w => match w.1 with
    | .int v => xnx (pc + 2) ls (.int v :: st) S
    | .retAddr 1 => xnx (pc + 2) ls (.retAddr 1 :: st) S
    | _ => none
  | .ldc2_w j => (xcst (xown id) j).bind fun w => match w.1 with
    | .long v => xnx (pc + 3) ls (.long v :: st) S
    | _ => none
  | .iload j => xld ls j (pc + 2) st S xisI
  | .iload_n j => xld ls j.val (pc + 1) st S xisI
  | .lload j => xld ls j (pc + 2) st S xisL
  | .lload_n j => xld ls j.val (pc + 1) st S xisL
  | .aload j => xld ls j (pc + 2) st S xisA
  | .aload_n j => xld ls j.val (pc + 1) st S xisA
  | .istore j => xsto ls j (pc + 2) st S xisI
  | .istore_n j => xsto ls j.val (pc + 1) st S xisI
  | .astore j => xsto ls j (pc + 2) st S xisA
  | .astore_n j => xsto ls j.val (pc + 1) st S xisA
  | .lstore j => xsto2 ls j (pc + 2) st S
  | .lstore_n j => xsto2 ls j.val (pc + 1) st S
  | .iinc j k => match ls[j]? with
    | some (.int x) => xnx (pc + 3) (xst1 ls j (.int (x + Int32.ofInt k))) st S
    | _ => none
  | .iadd => xbi (fun x y => x + y) pc ls st S
  | .isub => xbi (fun x y => x - y) pc ls st S
  | .imul => xbi (fun x y => x * y) pc ls st S
  | .iand => xbi (fun x y => x &&& y) pc ls st S
  | .ior => xbi (fun x y => x ||| y) pc ls st S
  | .ishl => xbi (fun x y => x <<< (y &&& 31)) pc ls st S
  | .ishr => xbi (fun x y => x >>> (y &&& 31)) pc ls st S
  | .idiv => match st with
    | .int y :: .int x :: r => if y = 0 then none else xnx (pc + 1) ls (.int (x / y) :: r) S
    | _ => none
  | .irem => match st with
    | .int y :: .int x :: r => if y = 0 then none else xnx (pc + 1) ls (.int (x - x / y * y) :: r) S
    | _ => none
  | .ineg => match st with
    | .int x :: r => xnx (pc + 1) ls (.int (-x) :: r) S
    | _ => none
  | .ladd => xbl (fun x y => x + y) pc ls st S
  | .lsub => xbl (fun x y => x - y) pc ls st S
  | .lmul => xbl (fun x y => x * y) pc ls st S
  | .land => xbl (fun x y => x &&& y) pc ls st S
  | .lor => xbl (fun x y => x ||| y) pc ls st S
  | .ldiv => match st with
    | .long y :: .long x :: r => if y = 0 then none else xnx (pc + 1) ls (.long (x / y) :: r) S
    | _ => none
  | .lrem => match st with
    | .long y :: .long x :: r => if y = 0 then none else xnx (pc + 1) ls (.long (x - x / y * y) :: r) S
    | _ => none
  | .lneg => match st with
    | .long x :: r => xnx (pc + 1) ls (.long (-x) :: r) S
    | _ => none
  | .lshl => match st with
    | .int y :: .long x :: r => xnx (pc + 1) ls (.long (x <<< (y.toInt64 &&& 63)) :: r) S
    | _ => none
  | .lshr => match st with
    | .int y :: .long x :: r => xnx (pc + 1) ls (.long (x >>> (y.toInt64 &&& 63)) :: r) S
    | _ => none
  | .lcmp => match st with
    | .long y :: .long x :: r => xnx (pc + 1) ls (.int (lg_cmp x y) :: r) S
    | _ => none
  | .i2l => match st with
    | .int x :: r => xnx (pc + 1) ls (.long x.toInt64 :: r) S
    | _ => none
  | .l2i => match st with
    | .long x :: r => xnx (pc + 1) ls (.int x.toInt32 :: r) S
    | _ => none
  | .dup => match st with
    | v :: r => if v.category = 1 then xnx (pc + 1) ls (v :: v :: r) S else none
    | _ => none
  | .pop => match st with
    | v :: r => if v.category = 1 then xnx (pc + 1) ls r S else none
    | _ => none
  | .dup2 => match st with
    | v :: w :: r => if v.category = 1 ∧ w.category = 1 then xnx (pc + 1) ls (v :: w :: v :: w :: r) S else none
    | _ => none
  | .goto off => xjp pc off ls st S
  | .ifCond c off => match st with
    | .int x :: r => if 0 ≤ (pc : Int) + off then (if xcmp c x 0 = true then xnx ((pc : Int) + off).toNat ls r S else xnx (pc + 3) ls r S) else none
    | _ => none
  | .if_icmp c off => match st with
    | .int y :: .int x :: r => if 0 ≤ (pc : Int) + off then (if xcmp c x y = true then xnx ((pc : Int) + off).toNat ls r S else xnx (pc + 3) ls r S) else none
    | _ => none
  | .tableswitch d lo hi offs => match st with
    | .int x :: r => if hi - lo + 1 = (offs.toList.length : Int) then xtt pc x ls r S d (xnum lo offs.toList) else none
    | _ => none
  | .lookupswitch d ps => match st with
    | .int x :: r => if (ps.toList.zip (ps.toList.drop 1)).all (fun (a, next) => a.1 < next.1) = true then xtt pc x ls r S d ps.toList else none
    | _ => none
  | .getfield j => match st with
    | .ref k :: r => (xfld (xown id) j).bind fun f => (xgf S k f.1 f.2.1).bind fun v => xnx (pc + 3) ls (v :: r) S
    | _ => none
  | .putfield j => match st with
    | .int x :: .ref k :: r => (xfld (xown id) j).bind fun f => if f.2.2.1 = true ∨ f.2.2.2.1 = false then none else (xpf S k f.1 f.2.1 x).bind fun S' => xnx (pc + 3) ls r S'
    | .ref a :: .ref k :: r => (xfld (xown id) j).bind fun f => if f.2.2.1 = true ∨ f.2.2.2.1 = true ∨ ¬ (xy id).name = "<init>" ∨ ¬ f.1 = xown id then none else (xpr S k f.1 f.2.1 a).bind fun S' => xnx (pc + 3) ls r S'
    | _ => none
  | .iaload => match st with
    | .int i :: .ref k :: r => (xal S k 0 i).bind fun v => xnx (pc + 1) ls (.int v :: r) S
    | .int i :: .retAddr 0 :: r => if xin i X.1 = true then xnx (pc + 1) ls (.int (X.2 i.toNatClampNeg) :: r) S else none
    | _ => none
  | .baload => match st with
    | .int i :: .ref k :: r => (xal S k 1 i).bind fun v => xnx (pc + 1) ls (.int v :: r) S
    | _ => none
  | .iastore => match st with
    | .int x :: .int i :: .ref k :: r => (xas S k 0 i x).bind fun S' => xnx (pc + 1) ls r S'
    | _ => none
  | .bastore => match st with
    | .int x :: .int i :: .ref k :: r => if x = 0 ∨ x = 1 then (xas S k 1 i x).bind fun S' => xnx (pc + 1) ls r S' else none
    | _ => none
  | .aaload => match st with
    | .int i :: .ref k :: r => (xaq S k i).bind fun v => xnx (pc + 1) ls (v :: r) S
    | _ => none
  | .aastore => match st with
    | .ref a :: .int i :: .ref k :: r => (xaw S k i a).bind fun S' => xnx (pc + 1) ls r S'
    | _ => none
  | .arraylength => match st with
    | .ref k :: r => (xle S k).bind fun v => xnx (pc + 1) ls (.int v :: r) S
    | .retAddr 0 :: r => xnx (pc + 1) ls (.int (Int32.ofNat X.1) :: r) S
    | _ => none
  | .newarray t => match st with
    | .int n :: r => match t with
      | .int => (xnwa S 0 n).bind fun S' => xnx (pc + 2) ls (.ref S.1.length :: r) S'
      | .boolean => (xnwa S 1 n).bind fun S' => xnx (pc + 2) ls (.ref S.1.length :: r) S'
      | _ => none
    | _ => none
  | .anewarray j => match st with
    | .int n :: r => (xnew (xown id) j).bind fun w => if w.1 = 1 then (xnwq S n).bind fun S' => xnx (pc + 3) ls (.ref S.1.length :: r) S' else none
    | _ => none
  | .new j => (xnew (xown id) j).bind fun w => (xnwo S w.1).bind fun S' => xnx (pc + 3) ls (.ref S.1.length :: st) S'
  | .invokestatic j => xinv id pc ls st S j [0, 3, 7, 9, 10, 11, 12]
  | .invokevirtual j => xinv id pc ls st S j [1, 8]
  | .invokespecial j => xinv id pc ls st S j [2, 5, 6]
  | .ireturn => xrt id st S
  | .lreturn => match st with
    | [.long x] => if xret id = some .long then some (.inr (.inl (some (.long x), S))) else none
    | _ => none
  | .areturn => match st with
    | [.ref a] => match xret id with
      | some (.object _) => some (.inr (.inl (some (.ref a), S)))
      | _ => none
    | _ => none
  | .return_ => match st with
    | [] => if xret id = none then some (.inr (.inl (none, S))) else none
    | _ => none
  | _ => none
def xstep (X : xX) (id : Nat) (fr : xF) : Option xR := match decode (xbc id) fr.1 with
  | .ok (i, n) => if n = xlen i n then xex X id i fr.1 fr.2.1 fr.2.2.1 fr.2.2.2 else none
  | .error _ => none
def xgo (k : xF → Option xO) (c : Nat → List Value → xS → Option xO) (r : Option xR) : Option xO := match r with
  | none => none
  | some (.inl fr) => k fr
  | some (.inr (.inl o)) => some o
  | some (.inr (.inr (j, as, fr))) => (c j as fr.2.2.2).bind (fun o => k (fr.1, fr.2.1, o.1.toList ++ fr.2.2.1, o.2))
def xsl : List Value → List Value
  | [] => []
  | v :: r => if v.category = 2 then v :: .float 0 :: xsl r else v :: xsl r
def xent (m : Nat) (as : List Value) : List Value := xsl as ++ List.replicate (m - (xsl as).length) (.float 0)
def xrm (id j : Nat) : Bool := decide (xrf j + 1 ≤ xrf id) && decide (19 + xml j + xrl j ≤ xrl id)
def xrun (X : xX) : Nat → Nat → xF → Option xO
  | 0, _, _ => none
  | n + 1, id, fr => xgo (xrun X n id) (fun j as S => if xrm id j = true ∧ (xsl as).length ≤ xml j then xrun X n j (0, xent (xml j) as, [], S) else none) (xstep X id fr)
end
section
theorem xgo_mono {k k' : xF → Option xO} {c c' : Nat → List Value → xS → Option xO} (hk : ∀ fr o, k fr = some o → k' fr = some o) (hc : ∀ j as S o, c j as S = some o → c' j as S = some o) {r : Option xR} {o : xO} (h : xgo k c r = some o) : xgo k' c' r = some o := by
  rcases r with _ | (fr | (o' | ⟨j, as, fr⟩))
  · exact h
  · exact hk _ _ h
  · exact h
  · simp only [xgo] at h ⊢
    obtain ⟨o1, h1, h2⟩ := Option.bind_eq_some_iff.mp h
    rw [hc _ _ _ _ h1]
    exact hk _ _ h2
theorem xrun_succ (X : xX) (n id : Nat) (fr : xF) : xrun X (n + 1) id fr = xgo (xrun X n id) (fun j as S => if xrm id j = true ∧ (xsl as).length ≤ xml j then xrun X n j (0, xent (xml j) as, [], S) else none) (xstep X id fr) := rfl
theorem xrun_mono1 (X : xX) : ∀ (n id : Nat) (fr : xF) (o : xO), xrun X n id fr = some o → xrun X (n + 1) id fr = some o
  | 0, _, _, _, h => by cases h
  | n + 1, id, fr, o, h => by
    rw [xrun_succ] at h ⊢
    refine xgo_mono (fun fr o => xrun_mono1 X n id fr o) (fun j as S o h => ?_) h
    by_cases hc : xrm id j = true ∧ (xsl as).length ≤ xml j
    · rw [if_pos hc] at h ⊢
      exact xrun_mono1 X n j _ o h
    · rw [if_neg hc] at h
      cases h
theorem xrun_mono (X : xX) {n m id : Nat} {fr : xF} {o : xO} (hnm : n ≤ m) (h : xrun X n id fr = some o) : xrun X m id fr = some o := by
  induction hnm with
  | refl => exact h
  | step _ ih => exact xrun_mono1 X _ _ _ _ ih
noncomputable def xV (X : xX) (id : Nat) (fr : xF) : Option xO := @dite (Option xO) (∃ o n, xrun X n id fr = some o) (Classical.propDecidable _) (fun h => some h.choose) (fun _ => none)
theorem xV_some {X : xX} {id : Nat} {fr : xF} {o : xO} : xV X id fr = some o ↔ ∃ n, xrun X n id fr = some o := by
  unfold xV
  by_cases h : ∃ o n, xrun X n id fr = some o
  · rw [dif_pos h]
    obtain ⟨n, hn⟩ := h.choose_spec
    constructor
    · intro e
      cases e
      exact ⟨n, hn⟩
    · rintro ⟨m, hm⟩
      have h1 := xrun_mono X (Nat.le_max_left n m) hn
      have h2 := xrun_mono X (Nat.le_max_right n m) hm
      rw [h1] at h2
      exact h2
  · rw [dif_neg h]
    constructor
    · intro e; cases e
    · rintro ⟨n, hn⟩
      exact absurd ⟨o, n, hn⟩ h
noncomputable def xK (X : xX) (j : Nat) (as : List Value) (S : xS) : Option xO := xV X j (0, xent (xml j) as, [], S)
noncomputable def xC (X : xX) (id j : Nat) (as : List Value) (S : xS) : Option xO := if xrm id j = true ∧ (xsl as).length ≤ xml j then xK X j as S else none
theorem xV_eq (X : xX) (id : Nat) (fr : xF) : xV X id fr = xgo (xV X id) (xC X id) (xstep X id fr) := by
  have key : ∀ o, xV X id fr = some o ↔ xgo (xV X id) (xC X id) (xstep X id fr) = some o := by
    intro o
    constructor
    · intro h
      obtain ⟨n, hn⟩ := xV_some.mp h
      cases n with
      | zero => cases hn
      | succ n =>
        rw [xrun_succ] at hn
        refine xgo_mono (fun fr o h => xV_some.mpr ⟨n, h⟩) (fun j as S o h => ?_) hn
        unfold xC
        by_cases hc : xrm id j = true ∧ (xsl as).length ≤ xml j
        · rw [if_pos hc] at h ⊢
          exact xV_some.mpr ⟨n, h⟩
        · rw [if_neg hc] at h
          cases h
    · intro h
      refine xV_some.mpr ?_
      rcases hr : xstep X id fr with _ | (fr' | (o' | ⟨j, as, fr'⟩))
      · rw [hr] at h; cases h
      · rw [hr] at h
        obtain ⟨n, hn⟩ := xV_some.mp h
        exact ⟨n + 1, by rw [xrun_succ, hr]; exact hn⟩
      · rw [hr] at h
        exact ⟨1, by rw [xrun_succ, hr]; exact h⟩
      · rw [hr] at h
        simp only [xgo] at h
        obtain ⟨o1, h1, h2⟩ := Option.bind_eq_some_iff.mp h
        obtain ⟨n2, hn2⟩ := xV_some.mp h2
        unfold xC at h1
        by_cases hc : xrm id j = true ∧ (xsl as).length ≤ xml j
        · rw [if_pos hc] at h1
          obtain ⟨n1, hn1⟩ := xV_some.mp h1
          refine ⟨max n1 n2 + 1, ?_⟩
          rw [xrun_succ, hr]
          simp only [xgo]
          rw [if_pos hc, xrun_mono X (Nat.le_max_left n1 n2) hn1]
          exact xrun_mono X (Nat.le_max_right n1 n2) hn2
        · rw [if_neg hc] at h1
          cases h1
  cases h : xgo (xV X id) (xC X id) (xstep X id fr) with
  | some o => exact (key o).mpr h
  | none =>
    cases h2 : xV X id fr with
    | none => rfl
    | some o => rw [(key o).mp h2] at h; cases h
noncomputable def xr (X : xX) (id : Nat) (stops : List Nat) : Nat → xF → Option xO
  | 0, fr => xV X id fr
  | n + 1, fr => if stops.contains fr.1 = true then xV X id fr else xgo (xr X id stops n) (xC X id) (xstep X id fr)
theorem xr_eq (X : xX) (id : Nat) (stops : List Nat) : ∀ (n : Nat) (fr : xF), xr X id stops n fr = xV X id fr
  | 0, _ => rfl
  | n + 1, fr => by
    have e : xr X id stops n = xV X id := funext (xr_eq X id stops n)
    rw [xr, e]
    by_cases h : stops.contains fr.1 = true
    · rw [if_pos h]
    · rw [if_neg h, ← xV_eq]
theorem xgo_ite {k : xF → Option xO} {c : Nat → List Value → xS → Option xO} {p : Prop} [Decidable p] {a b : Option xR} : xgo k c (if p then a else b) = if p then xgo k c a else xgo k c b := apply_ite _ _ _ _
theorem xr_s (X : xX) (id : Nat) (stops : List Nat) (n pc : Nat) (ls st : List Value) (S : xS) : xr X id stops (n + 1) (pc, ls, st, S) = if stops.contains pc = true then xV X id (pc, ls, st, S) else xgo (xr X id stops n) (xC X id) (xstep X id (pc, ls, st, S)) := rfl
theorem xgo_nx {k : xF → Option xO} {c : Nat → List Value → xS → Option xO} {pc : Nat} {ls st : List Value} {S : xS} : xgo k c (xnx pc ls st S) = k (pc, ls, st, S) := rfl
theorem xgo_n {k : xF → Option xO} {c : Nat → List Value → xS → Option xO} : xgo k c none = none := rfl
theorem xgo_o {k : xF → Option xO} {c : Nat → List Value → xS → Option xO} {o : xO} : xgo k c (some (.inr (.inl o))) = some o := rfl
theorem xgo_c {k : xF → Option xO} {c : Nat → List Value → xS → Option xO} {j : Nat} {as : List Value} {pc : Nat} {ls st : List Value} {S : xS} : xgo k c (some (.inr (.inr (j, as, (pc, ls, st, S))))) = (c j as S).bind (fun o => k (pc, ls, o.1.toList ++ st, o.2)) := rfl
theorem xstep_s (X : xX) (id pc : Nat) (ls st : List Value) (S : xS) : xstep X id (pc, ls, st, S) = match decode (xbc id) pc with
  | .ok (i, n) => if n = xlen i n then xex X id i pc ls st S else none
  | .error _ => none := rfl
theorem xK_s (X : xX) (j : Nat) (as : List Value) (S : xS) (stops : List Nat) (n : Nat) : xK X j as S = xr X j stops n (0, xent (xml j) as, [], S) := (xr_eq X j stops n _).symm
theorem xC_s (X : xX) (id j : Nat) (as : List Value) (S : xS) : xC X id j as S = if xrm id j = true ∧ (xsl as).length ≤ xml j then xK X j as S else none := rfl
end
section
def xtG : List Cond := lw_tbl.filter goodWord
def xw (w : Cond) (i : Nat) : Bool := decide (lw_tbl[i]? = some w) && goodWord w
theorem xw_in {w : Cond} {i : Nat} (h : xw w i = true) : w ∈ xtG := by
  simp only [xw, Bool.and_eq_true, decide_eq_true_eq] at h
  exact List.mem_filter.mpr ⟨List.mem_of_getElem? h.1, h.2⟩
def xisN : Cond → Bool
  | .methodLinkNest _ _ _ _ => true
  | .fieldLinkNest _ _ _ _ _ _ => true
  | _ => false
def xtN : List Cond := lw_tbl.filter xisN
def xwN (w : Cond) (i : Nat) : Bool := decide (lw_tbl[i]? = some w) && xisN w
theorem xwN_in {w : Cond} {i : Nat} (h : xwN w i = true) : w ∈ xtN := by
  simp only [xwN, Bool.and_eq_true, decide_eq_true_eq] at h
  exact List.mem_filter.mpr ⟨List.mem_of_getElem? h.1, h.2⟩
set_option maxRecDepth 100000 in
set_option maxHeartbeats 4000000 in
theorem xk_code0 : (xtab.drop 1).map (fun M => some (Cond.code M.1 M.2.1 M.2.2.1 M.2.2.2.1)) = (xpC.drop 1).map (fun i => lw_tbl[i]?) := rfl
set_option maxRecDepth 100000 in
theorem xk_cls : (List.range 188).all (fun id => decide ((xy id).cls = xnm (xown id)) && Jvm.plainName (xy id).cls && decide (xown id < 14)) = true := by decide +kernel
theorem xk_ini : (List.range 14).all (fun c => xw (.initialized (xnm c)) (xpI.getD c 0) && decide (xnm c ≠ "java/lang/invoke/MethodHandle") && decide (xnm c ≠ "java/lang/invoke/VarHandle")) = true := by decide +kernel
def xkf (e : (Nat × Nat) × Nat × Nat × Bool × Bool × Nat) : Bool := match e with
  | ((o, i), ci, f, nest, dat, pl) => match xcl[ci]? with
    | some (C, T, N) => decide (f < N) && (if nest = true then xwN (.fieldLinkNest (xnm o) i C (T f).2.1 (T f).2.2.1 "KineticCup") pl else xw (.fieldLink (xnm o) i C (T f).2.1 (T f).2.2.1) pl) && (if dat = true then decide ((T f).2.2.2 = false) && decide (xty ci f = .int ∨ (xty ci f = .boolean ∧ xzf ci f = true)) else decide ((T f).2.2.2 = true) && decide (narrow (xty ci f) (.ref 0) = .ref 0) && fits (xty ci f) (.ref 0))
    | none => false
set_option maxRecDepth 100000 in
theorem xk_fld : xfl.all xkf = true := by decide +kernel
def xkc (e : (Nat × Nat) × Value × Nat) : Bool := match e.2.1 with
  | .int v => xw (.constant (xnm e.1.1) e.1.2 v) e.2.2
  | .long v => xw (.constantLong (xnm e.1.1) e.1.2 v) e.2.2
  | .retAddr 1 => e.1 == (4, 75)
  | _ => false
set_option maxRecDepth 100000 in
theorem xk_cst : xcs.all xkc = true := by decide +kernel
def xkm (e : (Nat × Nat) × Nat × Nat × Nat × Nat × Nat × Nat) : Bool := match e with
  | ((o, i), kind, j, n, p1, p2, p3) => match kind with
    | 0 => xw (.methodLink (xnm o) i (xy j)) p1 && xw (.static (xy j)) p2 && decide ((parseMethodDescriptor (xy j).desc).map (fun d => d.parameters.length) = some n) && decide (1 ≤ j) && decide (j < 188)
    | 3 => xwN (.methodLinkNest (xnm o) i (xy j) "KineticCup") p1 && xw (.static (xy j)) p2 && decide ((parseMethodDescriptor (xy j).desc).map (fun d => d.parameters.length) = some n) && decide (1 ≤ j) && decide (j < 188)
    | 1 => xw (.methodLink (xnm o) i (xy j)) p1 && xw (.instanceMethod (xy j)) p2 && xw (.selects (xnm (xown j)) (xy j) (xy j)) p3 && decide ((parseMethodDescriptor (xy j).desc).map (fun d => d.parameters.length) = some n) && decide (1 ≤ j) && decide (j < 188)
    | 2 => xw (.methodLink (xnm o) i (xy j)) p1 && xw (.instanceMethod (xy j)) p2 && decide ((xy j).name = "<init>") && decide (xret j = none) && decide ((parseMethodDescriptor (xy j).desc).map (fun d => d.parameters.length) = some n) && decide (1 ≤ j) && decide (j < 188)
    | 5 => xwN (.methodLinkNest (xnm o) i (xy j) "KineticCup") p1 && xw (.instanceMethod (xy j)) p2 && decide ((xy j).name = "<init>") && decide (xret j = none) && decide ((parseMethodDescriptor (xy j).desc).map (fun d => d.parameters.length) = some n) && decide (1 ≤ j) && decide (j < 188)
    | 6 => xw (.methodLink (xnm o) i objectInit) p1 && xw (.instanceMethod objectInit) p2
    | 7 => xw (.methodLink (xnm o) i arraycopyName) p1 && xw (.static arraycopyName) p2
    | 9 => xw (.methodLink (xnm o) i Lib.Math.abs.name) p1 && xw (.static Lib.Math.abs.name) p2
    | 10 => xw (.methodLink (xnm o) i Lib.MathLoose.abs_long.x) p1 && xw (.static Lib.MathLoose.abs_long.x) p2
    | 11 => xw (.methodLink (xnm o) i Lib.Math.max.name) p1 && xw (.static Lib.Math.max.name) p2
    | 12 => xw (.methodLink (xnm o) i Lib.Math.min.name) p1 && xw (.static Lib.Math.min.name) p2
    | 8 => xw (.methodLink (xnm o) i ⟨"java/lang/String", "charAt", "(I)C"⟩) p1
    | _ => false
set_option maxRecDepth 100000 in
theorem xk_mth : xmt.all xkm = true := by decide +kernel
def xkn (e : (Nat × Nat) × Nat × Nat) : Bool := xw (.classLink (xnm e.1.1) e.1.2 (xnm e.2.1)) e.2.2 && decide (e.2.1 < 10)
set_option maxRecDepth 100000 in
theorem xk_new : xnw.all xkn = true := by decide +kernel
def xko (c : Nat) : Bool := match xcl[c]? with
  | some (C, T, N) => decide (C = xnm c) && xw (.instantiable C N) (xpN.getD c 0) && (List.range N).all (fun k => xw (u_lay C T k) ((xpL.getD c []).getD k 0) && decide ((T k).1 = C) && decide (parseFieldDescriptor (T k).2.2.1 = some (xty c k))) && decide (∀ a, a < N → ∀ b, b < N → a ≠ b → (T a).2.1 ≠ (T b).2.1) && decide ((xblank.getD c []).length = N) && (List.range N).all (fun k => decide (defaultValue (xty c k) = (xblank.getD c []).getD k .null))
  | none => false
set_option maxRecDepth 100000 in
theorem xk_cl : (List.range 10).all xko = true := by decide +kernel
theorem xk_cln : xcl.length = 10 := by decide +kernel
end
section
set_option maxRecDepth 100000 in
theorem xk_abs : Cond.code Lib.Math.abs.name Lib.Math.abs.code 1 (some .int) ∈ xtG := List.mem_filter.mpr ⟨List.mem_of_getElem? (i := 604) rfl, rfl⟩
set_option maxRecDepth 100000 in
theorem xk_absl : Cond.code Lib.MathLoose.abs_long.x Lib.MathLoose.abs_long.code 2 (some .long) ∈ xtG := List.mem_filter.mpr ⟨List.mem_of_getElem? (i := 645) rfl, rfl⟩
set_option maxRecDepth 100000 in
theorem xk_max : Cond.code Lib.Math.max.name Lib.Math.max.code 2 (some .int) ∈ xtG := List.mem_filter.mpr ⟨List.mem_of_getElem? (i := 724) rfl, rfl⟩
set_option maxRecDepth 100000 in
theorem xk_min : Cond.code Lib.Math.min.name Lib.Math.min.code 2 (some .int) ∈ xtG := List.mem_filter.mpr ⟨List.mem_of_getElem? (i := 721) rfl, rfl⟩
theorem xk_obj : Cond.code objectInit ⟨#[0xb1]⟩ 1 none ∈ xtG := List.mem_filter.mpr ⟨List.mem_of_getElem? (i := 71) rfl, rfl⟩
theorem xk_sys : xw (.initialized "java/lang/System") 57 = true := by decide +kernel
theorem xk_mat : xw (.initialized "java/lang/Math") 58 = true := by decide +kernel
theorem xk_nat : xw (.native arraycopyName) 422 = true := by decide +kernel
theorem xk_arI : xw (.arrayClass .int) 106 = true := by decide +kernel
theorem xk_arZ : xw (.arrayClass .boolean) 107 = true := by decide +kernel
theorem xtab_len : xtab.length = 188 := by decide +kernel
theorem xk_code {id : Nat} (h1 : 1 ≤ id) (h2 : id < 188) : Cond.code (xy id) (xbc id) (xml id) (xret id) ∈ xtG := by
  have e := congrArg (fun l => l[id - 1]?) xk_code0
  have hl : id < xtab.length := by rw [xtab_len]; exact h2
  have e1 : xtab[id]? = some (xm id) := by
    unfold xm
    rw [List.getElem?_eq_getElem hl, List.getD_eq_getElem?_getD, List.getElem?_eq_getElem hl]
    rfl
  simp only [List.getElem?_map, List.getElem?_drop] at e
  rw [show 1 + (id - 1) = id by omega, e1] at e
  cases hp : xpC[id]? with
  | none => rw [hp] at e; cases e
  | some i =>
    rw [hp] at e
    have e2 : lw_tbl[i]? = some (Cond.code (xy id) (xbc id) (xml id) (xret id)) := by
      have := Option.some.inj e
      exact this.symm
    exact List.mem_filter.mpr ⟨List.mem_of_getElem? e2, rfl⟩
theorem xk_own {id : Nat} (h2 : id < 188) : (xy id).cls = xnm (xown id) ∧ Jvm.plainName (xy id).cls = true ∧ xown id < 14 := by
  have h := List.all_eq_true.mp xk_cls id (List.mem_range.mpr h2)
  simp only [Bool.and_eq_true, decide_eq_true_eq] at h
  exact ⟨h.1.1, h.1.2, h.2⟩
theorem xk_init {c : Nat} (h : c < 14) : Cond.initialized (xnm c) ∈ xtG ∧ xnm c ≠ "java/lang/invoke/MethodHandle" ∧ xnm c ≠ "java/lang/invoke/VarHandle" := by
  have h := List.all_eq_true.mp xk_ini c (List.mem_range.mpr h)
  simp only [Bool.and_eq_true, decide_eq_true_eq] at h
  exact ⟨xw_in h.1.1, h.1.2, h.2⟩
theorem xlook {α β : Type} [BEq α] [LawfulBEq α] {a : α} {b : β} : ∀ {l : List (α × β)}, l.lookup a = some b → (a, b) ∈ l
  | [], h => by cases h
  | (x, y) :: l, h => by
    rw [List.lookup_cons] at h
    cases he : a == x with
    | true =>
      rw [he] at h
      cases h
      rw [eq_of_beq he]
      exact List.mem_cons_self
    | false =>
      rw [he] at h
      exact List.mem_cons_of_mem _ (xlook h)
theorem xk_fldw {o i ci f p : Nat} {b d : Bool} (h : xfld o i = some (ci, f, b, d, p)) : ∃ C T N, xcl[ci]? = some (C, T, N) ∧ f < N ∧ (b = true → Cond.fieldLinkNest (xnm o) i C (T f).2.1 (T f).2.2.1 "KineticCup" ∈ xtN) ∧ (b = false → Cond.fieldLink (xnm o) i C (T f).2.1 (T f).2.2.1 ∈ xtG) ∧ (d = true → (T f).2.2.2 = false ∧ (xty ci f = .int ∨ (xty ci f = .boolean ∧ xzf ci f = true))) ∧ (d = false → (T f).2.2.2 = true ∧ narrow (xty ci f) (.ref 0) = .ref 0 ∧ fits (xty ci f) (.ref 0) = true) := by
  have h := List.all_eq_true.mp xk_fld _ (xlook h)
  unfold xkf at h
  dsimp only at h
  split at h
  · rename_i C T N hc
    simp only [Bool.and_eq_true, decide_eq_true_eq] at h
    obtain ⟨⟨h1, h2⟩, h3⟩ := h
    refine ⟨C, T, N, hc, h1, fun hb => ?_, fun hb => ?_, fun hd => ?_, fun hd => ?_⟩
    · rw [if_pos hb] at h2; exact xwN_in h2
    · rw [if_neg (by rw [hb]; decide)] at h2; exact xw_in h2
    · rw [if_pos hd] at h3
      simp only [Bool.and_eq_true, decide_eq_true_eq] at h3
      exact h3
    · rw [if_neg (by rw [hd]; decide)] at h3
      simp only [Bool.and_eq_true, decide_eq_true_eq] at h3
      exact ⟨h3.1.1, h3.1.2, h3.2⟩
  · cases h
theorem xk_clw {c : Nat} {C : String} {T : u_T} {N : Nat} (h : xcl[c]? = some (C, T, N)) : C = xnm c ∧ Cond.instantiable C N ∈ xtG ∧ (∀ w ∈ u_ws C T N, w ∈ xtG) ∧ (∀ k, k < N → (T k).1 = C) ∧ (∀ k, k < N → parseFieldDescriptor (T k).2.2.1 = some (xty c k)) ∧ (∀ a, a < N → ∀ b, b < N → a ≠ b → (T a).2.1 ≠ (T b).2.1) ∧ (xblank.getD c []).length = N ∧ (∀ k, k < N → defaultValue (xty c k) = (xblank.getD c []).getD k .null) ∧ c < 10 := by
  have hlt : c < 10 := by rw [← xk_cln]; exact (List.getElem?_eq_some_iff.mp h).1
  have h2 := List.all_eq_true.mp xk_cl c (List.mem_range.mpr hlt)
  unfold xko at h2
  rw [h] at h2
  simp only [Bool.and_eq_true, decide_eq_true_eq, List.all_eq_true, List.mem_range] at h2
  obtain ⟨⟨⟨⟨⟨a1, a2⟩, a3⟩, a4⟩, a5⟩, a6⟩ := h2
  refine ⟨a1, xw_in a2, fun w hw => ?_, fun k hk => (a3 k hk).1.2, fun k hk => (a3 k hk).2, a4, a5, a6, hlt⟩
  obtain ⟨k, hk, rfl⟩ := List.mem_map.mp hw
  exact xw_in (a3 k (List.mem_range.mp hk)).1.1
end
section
def xtv (base : Nat) (ex : Nat → Nat) (v : Value) : Value := match v with
  | .ref k => .ref (base + k)
  | .retAddr n => .ref (ex n)
  | v => v
def xfv (σ : Nat → Nat → Int32) (k j : Nat) (v : Value) : Value := match v with
  | .int _ => .int (σ k j)
  | v => v
def xce (base : Nat) (ex : Nat → Nat) (D : va_G) (cA : Nat → ClassId) (σ : Nat → Nat → Int32) (H : Heap) (k t n : Nat) (vs : List Value) : Prop :=
  (t = 0 → H[base + k]? = some (arrV (cA 0) n (fun j => .int (σ k j)))) ∧
  (t = 1 → (∀ j, σ k j = 0 ∨ σ k j = 1) ∧ H[base + k]? = some (arrV (cA 1) n (fun j => .int (σ k j)))) ∧
  (t = 2 → vs.length = n ∧ H[base + k]? = some (arrV (cA 2) n (fun j => xtv base ex (vs.getD j .null)))) ∧
  (∀ ci, t = ci + 3 → ∃ C T, xcl[ci]? = some (C, T, n) ∧ vs.length = n ∧ t_OB (base + k) (D.1 ci) n (D.2 ci) H (fun j => xtv base ex (xfv σ k j (vs.getD j .null))))
def xhp (base : Nat) (ex : Nat → Nat) (D : va_G) (cA : Nat → ClassId) (H00 : Heap) (S : xS) (H : Heap) : Prop :=
  H.size = base + S.1.length ∧ (∀ k t n vs, S.1[k]? = some (t, n, vs) → xce base ex D cA S.2 H k t n vs) ∧ ∀ q, q < base → H[q]? = H00[q]?
def xkw (base : Nat) (ex : Nat → Nat) (D : va_G) (cA : Nat → ClassId) (H00 : Heap) (X : xX) (Z : State → Prop) (U : State) : Prop :=
  va_K D xcl [(cA 0, .int), (cA 1, .boolean), (cA 2, .object "KineticCup$Image")] U ∧ (∀ w ∈ xtN, va_Nw w U) ∧ va_AO "KineticCup$Image" U ∧ (va_X (ex 0) X.1 X.2 U H00 ∧ ex 0 < base) ∧ Z U
def xfx (base : Nat) (ex : Nat → Nat) (D : va_G) (cA : Nat → ClassId) (H00 : Heap) (X : xX) (Z : State → Prop) (p : Program) (R : Room) (s : State) (m : MethodId) (args : Array Value) (meth : Method) (c : Code) (id : Nat) : Prop :=
  p.tables.exec = Jvm.exec ∧ c.code = xbc id ∧ meth.sig.returnType = xret id ∧ c.maxLocals = xml id ∧ s.vm.findClass (xnm (xown id)) = some m.cls ∧ (∀ w ∈ xtG, w.before args s = true) ∧ xkw base ex D cA H00 X Z s ∧ meth.locks = false ∧ meth.name = (xy id).name ∧ xrf id ≤ R.frames ∧ xrl id ≤ R.locals
def xbad : Value → Bool
  | .float _ => true
  | .double _ => true
  | _ => false
def xlr (base : Nat) (ex : Nat → Nat) (arr : Array Slot) (nL : Nat) (ls : List Value) : Prop :=
  arr.size = nL ∧ ls.length = nL ∧ lv_wf arr ∧ ∀ (i : Nat) (v : Value), ls[i]? = some v → xbad v = false → arr[i]? = some (Slot.val (xtv base ex v))
def xps (base : Nat) (ex : Nat → Nat) (ls : List Value) : List (Nat × Value) := ls.zipIdx.filterMap (fun q => if xbad q.1 = true then none else some (q.2, xtv base ex q.1))
theorem xtv_cat (base : Nat) (ex : Nat → Nat) (v : Value) : (xtv base ex v).category = v.category := by cases v <;> rfl
theorem xps_mem {base : Nat} {ex : Nat → Nat} {ls : List Value} {i : Nat} {w : Value} : (i, w) ∈ xps base ex ls ↔ ∃ v, ls[i]? = some v ∧ xbad v = false ∧ w = xtv base ex v := by
  unfold xps
  rw [List.mem_filterMap]
  constructor
  · rintro ⟨⟨v, j⟩, h1, h2⟩
    have h1 := List.mem_zipIdx_iff_getElem?.mp h1
    dsimp only at h1 h2
    by_cases hb : xbad v = true
    · rw [if_pos hb] at h2; cases h2
    · rw [if_neg hb] at h2
      cases h2
      exact ⟨v, h1, by simpa using hb, rfl⟩
  · rintro ⟨v, h1, h2, rfl⟩
    exact ⟨(v, i), List.mem_zipIdx_iff_getElem?.mpr h1, by dsimp only; rw [if_neg (by rw [h2]; decide)]⟩
theorem xlr_has {base : Nat} {ex : Nat → Nat} {arr : Array Slot} {nL : Nat} {ls : List Value} (h : xlr base ex arr nL ls) : lv_has arr nL (xps base ex ls) := by
  obtain ⟨h1, h2, h3, h4⟩ := h
  refine ⟨h1, h3, ?_⟩
  rintro ⟨i, w⟩ hq
  obtain ⟨v, a, b, rfl⟩ := xps_mem.mp hq
  exact h4 i v a b
theorem xkl_get {ls : List Value} {i j : Nat} {w : Value} (h : (xkl ls i)[j]? = some w) (hw : xbad w = false) : ls[j]? = some w ∧ ¬ (j + 1 = i ∧ w.category = 2) := by
  unfold xkl at h
  split at h
  · exact ⟨h, by omega⟩
  · rename_i k
    split at h
    · rename_i y hy
      by_cases hjk : j = k
      · subst hjk
        have hl := (List.getElem?_eq_some_iff.mp hy).1
        rw [List.getElem?_set_self hl] at h
        cases h
        cases hw
      · rw [List.getElem?_set_ne (Ne.symm hjk)] at h
        exact ⟨h, by omega⟩
    · rename_i hn
      refine ⟨h, ?_⟩
      rintro ⟨e, hc⟩
      have : j = k := by omega
      subst this
      cases w with
      | long y => exact hn y h
      | double _ => cases hw
      | _ => cases hc
theorem xkl_len (ls : List Value) (i : Nat) : (xkl ls i).length = ls.length := by
  unfold xkl
  split
  · rfl
  · split <;> simp
theorem xlr_st1 {base : Nat} {ex : Nat → Nat} {arr' : Array Slot} {nL i : Nat} {ls : List Value} {v : Value} (hls : ls.length = nL) (h : lv_has arr' nL ((i, xtv base ex v) :: (xps base ex ls).filter (fun q => !(q.1 == i) && !(q.1 + 1 == i && q.2.category == 2)))) : xlr base ex arr' nL (xst1 ls i v) := by
  obtain ⟨h1, h2, h3⟩ := h
  refine ⟨h1, by simp [xst1, xkl_len, hls], h2, fun j w hj hw => ?_⟩
  unfold xst1 at hj
  by_cases hji : j = i
  · subst hji
    have hl : j < (xkl ls j).length := by simpa using (List.getElem?_eq_some_iff.mp hj).1
    rw [List.getElem?_set_self hl] at hj
    cases hj
    exact h3 (j, _) List.mem_cons_self
  · rw [List.getElem?_set_ne (Ne.symm hji)] at hj
    obtain ⟨a, b⟩ := xkl_get hj hw
    refine h3 (j, _) (List.mem_cons_of_mem _ (List.mem_filter.mpr ⟨xps_mem.mpr ⟨w, a, hw, rfl⟩, ?_⟩))
    simp only [xtv_cat, Bool.and_eq_true, Bool.not_eq_true', beq_eq_false_iff_ne, Bool.and_eq_false_iff, ne_eq]
    refine ⟨hji, ?_⟩
    by_cases c : j + 1 = i
    · exact Or.inr (fun e => b ⟨c, (xtv_cat base ex w).symm.trans e⟩)
    · exact Or.inl c
theorem xlr_st2 {base : Nat} {ex : Nat → Nat} {arr' : Array Slot} {nL i : Nat} {ls : List Value} {v : Value} (hls : ls.length = nL) (h : lv_has arr' nL ((i, xtv base ex v) :: (xps base ex ls).filter (fun q => !(q.1 == i) && (!(q.1 == i + 1) && !(q.1 + 1 == i && q.2.category == 2))))) : xlr base ex arr' nL (xst2 ls i v) := by
  obtain ⟨h1, h2, h3⟩ := h
  refine ⟨h1, by simp [xst2, xkl_len, hls], h2, fun j w hj hw => ?_⟩
  unfold xst2 at hj
  by_cases hj2 : j = i + 1
  · subst hj2
    have hl : i + 1 < ((xkl ls i).set i v).length := by simpa using (List.getElem?_eq_some_iff.mp hj).1
    rw [List.getElem?_set_self hl] at hj
    cases hj
    cases hw
  · rw [List.getElem?_set_ne (Ne.symm hj2)] at hj
    by_cases hji : j = i
    · subst hji
      have hl : j < (xkl ls j).length := by simpa using (List.getElem?_eq_some_iff.mp hj).1
      rw [List.getElem?_set_self hl] at hj
      cases hj
      exact h3 (j, _) List.mem_cons_self
    · rw [List.getElem?_set_ne (Ne.symm hji)] at hj
      obtain ⟨a, b⟩ := xkl_get hj hw
      refine h3 (j, _) (List.mem_cons_of_mem _ (List.mem_filter.mpr ⟨xps_mem.mpr ⟨w, a, hw, rfl⟩, ?_⟩))
      simp only [xtv_cat, Bool.and_eq_true, Bool.not_eq_true', beq_eq_false_iff_ne, Bool.and_eq_false_iff, ne_eq]
      refine ⟨hji, hj2, ?_⟩
      by_cases c : j + 1 = i
      · exact Or.inr (fun e => b ⟨c, (xtv_cat base ex w).symm.trans e⟩)
      · exact Or.inl c
theorem xce_kept {base : Nat} {ex : Nat → Nat} {D : va_G} {cA : Nat → ClassId} {σ σ' : Nat → Nat → Int32} {H H' : Heap} {k t n : Nat} {vs : List Value} (h : xce base ex D cA σ H k t n vs) (hH : H'[base + k]? = H[base + k]?) (hs : ∀ j, σ' k j = σ k j) : xce base ex D cA σ' H' k t n vs := by
  obtain ⟨h0, h1, h2, h3⟩ := h
  have e : σ' k = σ k := funext hs
  refine ⟨fun ht => ?_, fun ht => ?_, fun ht => ?_, fun ci ht => ?_⟩
  · rw [hH, h0 ht, e]
  · rw [hH, (h1 ht).2, e]; exact ⟨(h1 ht).1, rfl⟩
  · rw [hH]; exact h2 ht
  · obtain ⟨C, T, a, b, c⟩ := h3 ci ht
    refine ⟨C, T, a, b, (c.kept hH).to (fun j _ => ?_)⟩
    unfold xfv
    cases vs.getD j .null <;> simp only [hs]
theorem xin_iff {i : Int32} {n : Nat} : xin i n = true ↔ vp_in i n := by
  rw [vp_in_iff]
  simp [xin]
end
section
theorem xnx_inj {a : Nat} {b d : List Value} {e : xS} {fr' : xF} (h : xnx a b d e = some (.inl fr')) : (a, b, d, e) = fr' := Sum.inl.inj (Option.some.inj h)
theorem xbi_inv {f : Int32 → Int32 → Int32} {pc : Nat} {ls st : List Value} {S : xS} {fr' : xF} (h : xbi f pc ls st S = some (.inl fr')) : ∃ y x r, st = .int y :: .int x :: r ∧ (pc + 1, ls, .int (f x y) :: r, S) = fr' := by
  unfold xbi at h
  split at h
  · exact ⟨_, _, _, rfl, xnx_inj h⟩
  · cases h
theorem xbl_inv {f : Int64 → Int64 → Int64} {pc : Nat} {ls st : List Value} {S : xS} {fr' : xF} (h : xbl f pc ls st S = some (.inl fr')) : ∃ y x r, st = .long y :: .long x :: r ∧ (pc + 1, ls, .long (f x y) :: r, S) = fr' := by
  unfold xbl at h
  split at h
  · exact ⟨_, _, _, rfl, xnx_inj h⟩
  · cases h
theorem xld_inv {ls : List Value} {i pc : Nat} {st : List Value} {S : xS} {ok : Value → Bool} {fr' : xF} (h : xld ls i pc st S ok = some (.inl fr')) : ∃ v, ls[i]? = some v ∧ ok v = true ∧ (pc, ls, v :: st, S) = fr' := by
  unfold xld at h
  split at h
  · rename_i v hv
    split at h
    · rename_i ho
      exact ⟨v, hv, ho, xnx_inj h⟩
    · cases h
  · cases h
theorem xsto_inv {ls : List Value} {i pc : Nat} {st : List Value} {S : xS} {ok : Value → Bool} {fr' : xF} (h : xsto ls i pc st S ok = some (.inl fr')) : ∃ v r, st = v :: r ∧ ok v = true ∧ i < ls.length ∧ (pc, xst1 ls i v, r, S) = fr' := by
  unfold xsto at h
  split at h
  · split at h
    · rename_i ho
      exact ⟨_, _, rfl, ho.1, ho.2, xnx_inj h⟩
    · cases h
  · cases h
theorem xsto2_inv {ls : List Value} {i pc : Nat} {st : List Value} {S : xS} {fr' : xF} (h : xsto2 ls i pc st S = some (.inl fr')) : ∃ x r, st = .long x :: r ∧ i + 1 < ls.length ∧ (pc, xst2 ls i (.long x), r, S) = fr' := by
  unfold xsto2 at h
  split at h
  · split at h
    · rename_i ho
      exact ⟨_, _, rfl, ho, xnx_inj h⟩
    · cases h
  · cases h
theorem xjp_inv {pc : Nat} {off : Int} {ls st : List Value} {S : xS} {fr' : xF} (h : xjp pc off ls st S = some (.inl fr')) : (pc : Int) + off = ((((pc : Int) + off).toNat : Nat) : Int) ∧ (((pc : Int) + off).toNat, ls, st, S) = fr' := by
  unfold xjp at h
  split at h
  · rename_i ho
    exact ⟨by omega, xnx_inj h⟩
  · cases h
section XP
variable {p : Program} {l : Launch} {e : Env} {R : Room} {s : State} {m : MethodId} {args : Array Value} {below : List Frame} {meth : Method} {c : Code} {H : Heap} {locs : List Loc} {cells slots : Nat} {Q : State → Prop}
variable {base : Nat} {ex : Nat → Nat} {D : va_G} {cA : Nat → ClassId} {H00 : Heap} {X : xX} {Z : State → Prop}
theorem xtt_sim {pc : Nat} {x : Int32} {ls st : List Value} {S : xS} {d : Int} {fr' : xF} {ps : List (Int × Int)} (h : xtt pc x ls st S d ps = some (.inl fr')) : (pc : Int) + Op.lookupswitch.offset ps d x.toInt = ((fr'.1 : Nat) : Int) ∧ fr'.2 = (ls, st, S) := by
  induction ps with
  | nil =>
    obtain ⟨a, rfl⟩ := xjp_inv h
    exact ⟨a, rfl⟩
  | cons q r ih =>
    obtain ⟨k, o⟩ := q
    rw [Op.lookupswitch.offset_cons]
    rw [xtt] at h
    by_cases hk : x.toInt = k
    · rw [if_pos hk] at h
      rw [if_pos hk.symm]
      obtain ⟨a, rfl⟩ := xjp_inv h
      exact ⟨a, rfl⟩
    · rw [if_neg hk] at h
      rw [if_neg (fun q => hk q.symm)]
      exact ih h
theorem xnum_off {x : Int} {d : Int} : ∀ (offs : List Int) (lo : Int), (x < lo ∨ lo + offs.length ≤ x → Op.lookupswitch.offset (xnum lo offs) d x = d) ∧ (lo ≤ x → x < lo + offs.length → offs[(x - lo).toNat]? = some (Op.lookupswitch.offset (xnum lo offs) d x))
  | [], lo => ⟨fun _ => rfl, fun h1 h2 => by simp at h2; omega⟩
  | o :: r, lo => by
    have ih := xnum_off (x := x) (d := d) r (lo + 1)
    rw [xnum, Op.lookupswitch.offset_cons]
    constructor
    · intro h
      rw [if_neg (by simp at h; omega)]
      exact ih.1 (by simp at h; omega)
    · intro h1 h2
      by_cases e : lo = x
      · rw [if_pos e]
        subst e
        simp
      · rw [if_neg e]
        have h3 := ih.2 (by omega) (by simp at h2; omega)
        rw [show (x - lo).toNat = (x - (lo + 1)).toNat + 1 by omega, List.getElem?_cons_succ]
        exact h3
end XP
end
section
theorem xfits {ty : FieldType} {a b : Nat} (h : fits ty (.ref a) = true) : fits ty (.ref b) = true := by cases ty <;> first | exact h | rfl
theorem xnarr {ty : FieldType} (b : Nat) : narrow ty (.ref b) = .ref b := by cases ty <;> rfl
theorem xn01 {x : Int32} (h : x = 0 ∨ x = 1) : narrow .boolean (.int x) = .int x ∧ fits .boolean (.int x) = true := by
  rcases h with rfl | rfl <;> decide
section XH
variable {p : Program} {l : Launch} {e : Env} {R : Room} {s : State} {m : MethodId} {args : Array Value} {below : List Frame} {meth : Method} {c : Code} {H : Heap} {locs : List Loc} {cells slots : Nat} {Q : State → Prop}
variable {base : Nat} {ex : Nat → Nat} {D : va_G} {cA : Nat → ClassId} {H00 : Heap} {X : xX} {Z : State → Prop} {id pc : Nat} {arr : Array Slot} {rest : List Value} {S S' : xS}
theorem xg_get {j k ci f pl : Nat} {b d : Bool} {v : Value} (F : xfx base ex D cA H00 X Z p R s m args meth c id) (hH : xhp base ex D cA H00 S H) (hd : decode (xbc id) pc = .ok (.getfield j, 3)) (hf : xfld (xown id) j = some (ci, f, b, d, pl)) (hg : xgf S k ci f = some v)
    (kk : W p l e R s m args below meth c H locs cells slots Q (F0 m (pc + 3) arr (xtv base ex v :: rest))) : W p l e R s m args below meth c H locs cells slots Q (F0 m pc arr (.ref (base + k) :: rest)) := by
  obtain ⟨hx, hb, hr, hml, hown, hts, hkw, hlk, hnm, hrf, hrl⟩ := F
  obtain ⟨C, T, N, hc, hfN, hn1, hn2, -, -⟩ := xk_fldw hf
  obtain ⟨hC, hinst, hlay, hdecl, hpar, hne, -⟩ := xk_clw hc
  unfold xgf at hg
  split at hg
  · rename_i t n vs hS
    split at hg
    · rename_i ht
      obtain ⟨C', T', hc', hvs, cell, q1, q2, q3, q4⟩ := (hH.2.1 k t n vs hS).2.2.2 ci ht
      rw [hc] at hc'
      cases hc'
      obtain ⟨hSl, hfc, kC, hkC, hkind⟩ := hkw.1.1 ci _ hc
      obtain ⟨cf, kf, fi, fd, hi, hsl⟩ := hSl f hfN
      have hi2 : s.fieldFound? C (T f).2.1 (T f).2.2.1 = some (cf, kf, fi, fd) := by
        have := hi
        dsimp only at this
        rwa [hdecl f hfN] at this
      have hst := (u_facts hfc hkC (u_lays hts hlay hfN) hi).1
      have hv : cell.slots[fd.slot]? = some (xtv base ex v) := by
        rw [hsl, q4 f hfN]
        congr 1
        have hl : f < vs.length := by omega
        rw [List.getElem?_eq_getElem hl] at hg
        dsimp only
        rw [List.getD_eq_getElem?_getD, List.getElem?_eq_getElem hl]
        show xtv base ex (xfv S.2 k f vs[f]) = _
        cases hvf : vs[f] <;> rw [hvf] at hg <;> simp only [Option.some.injEq, reduceCtorEq] at hg <;> subst hg <;> rfl
      cases b with
      | false => exact W.getf hx hb hown (hts _ (hn2 rfl)) hi2 hst q1 (by rw [q3]; exact fun h => by cases h) hv rfl rfl hd kk
      | true => exact va_Wgetf hx hb hown (va_Nw.use rfl (hkw.2.1 _ (hn1 rfl))) hi2 hst q1 (by rw [q3]; exact fun h => by cases h) hv rfl rfl hd kk
    · cases hg
  · cases hg
theorem xhp_upd {k t n : Nat} {vs : List Value} {H' : Heap} (hH : xhp base ex D cA H00 S H) (hS : S.1[k]? = some (t, n, vs)) (z : H'.size = H.size) (oq : ∀ q : Nat, q ≠ base + k → H'[q]? = H[q]?) {σ' : Nat → Nat → Int32} (hσ : ∀ a j, a ≠ k → σ' a j = S.2 a j) {vs' : List Value} (he : xce base ex D cA σ' H' k t n vs') : xhp base ex D cA H00 (S.1.set k (t, n, vs'), σ') H' := by
  have hl := (List.getElem?_eq_some_iff.mp hS).1
  refine ⟨by rw [z, hH.1]; simp, fun k' t' n' vs'' h => ?_, fun q hq => ?_⟩
  · by_cases hk : k' = k
    · subst hk
      dsimp only at h
      rw [List.getElem?_set_self hl] at h
      cases h
      exact he
    · dsimp only at h
      rw [List.getElem?_set_ne (Ne.symm hk)] at h
      exact xce_kept (hH.2.1 k' t' n' vs'' h) (oq _ (by omega)) (fun j => hσ k' j hk)
  · rw [oq q (by omega)]; exact hH.2.2 q hq
theorem xset_self {α : Type} {l : List α} {k : Nat} {x : α} (h : l[k]? = some x) : l.set k x = l := by
  obtain ⟨hl, e⟩ := List.getElem?_eq_some_iff.mp h
  subst e
  simp
theorem xg_put {j k ci f pl : Nat} {x : Int32} (F : xfx base ex D cA H00 X Z p R s m args meth c id) (hH : xhp base ex D cA H00 S H) (hL : ∀ q ∈ locs, base ≤ q.base) (hd : decode (xbc id) pc = .ok (.putfield j, 3)) (hf : xfld (xown id) j = some (ci, f, false, true, pl)) (hg : xpf S k ci f x = some S')
    (kk : ∀ (H' : Heap) (locs' : List Loc), xhp base ex D cA H00 S' H' → (∀ q ∈ locs', base ≤ q.base) → W p l e R s m args below meth c H' locs' cells slots Q (F0 m (pc + 3) arr rest)) : W p l e R s m args below meth c H locs cells slots Q (F0 m pc arr (.int x :: .ref (base + k) :: rest)) := by
  obtain ⟨hx, hb, hr, hml, hown, hts, hkw, hlk, hnm, hrf, hrl⟩ := F
  obtain ⟨C, T, N, hc, hfN, -, hn2, hdat, -⟩ := xk_fldw hf
  obtain ⟨hC, hinst, hlay, hdecl, hpar, hne, -⟩ := xk_clw hc
  unfold xpf at hg
  split at hg
  · rename_i t n vs hS
    split at hg
    · rename_i ht
      split at hg
      · rename_i y hvf
        split at hg
        · cases hg
        · rename_i hz
          cases hg
          obtain ⟨C', T', hc', hvs, cell, q1, q2, q3, q4⟩ := (hH.2.1 k t n vs hS).2.2.2 ci ht
          rw [hc] at hc'
          cases hc'
          obtain ⟨hSl, hfc, kC, hkC, hkind⟩ := hkw.1.1 ci _ hc
          have hap := va_apart (own := C) hts hlay (xty ci) hpar hne hkw.1 hc
          obtain ⟨cf, kf, fi, fd, hi, hsl⟩ := hSl f hfN
          have hi2 : s.fieldFound? C (T f).2.1 (T f).2.2.1 = some (cf, kf, fi, fd) := by
            have := hi
            dsimp only at this
            rwa [hdecl f hfN] at this
          have hst := (u_facts hfc hkC (u_lays hts hlay hfN) hi).1
          have hl1 := hts _ (hlay _ (u_in_lay hfN))
          unfold u_lay at hl1
          rw [if_neg (by rw [(hdat rfl).1]; decide)] at hl1
          have hnf : narrow (xty ci f) (.int x) = .int x ∧ fits (xty ci f) (.int x) = true := by
            rcases (hdat rfl).2 with h | ⟨h, h2⟩
            · rw [h]; exact ⟨rfl, rfl⟩
            · rw [h]
              refine xn01 ?_
              by_cases q : x = 0 ∨ x = 1
              · exact q
              · exact absurd ⟨h2, q⟩ hz
          have h6 := u_store hfc hkC hkind hl1 hi (hpar f hfN) hnf.1 hnf.2
          refine W.putK hx hb (f := fd) ⟨hown, hts _ (hn2 rfl), ⟨_, _, _, hi2⟩, hst⟩ (by rw [q2]; exact h6) q1 q3 (by rw [hsl]; exact k2_hasslot (q4 f hfN)) rfl rfl hd fun H' e1 e2 e3 => ?_
          rw [hsl] at e1
          refine kk H' _ ?_ (fun q hq => ?_)
          · have := xhp_upd (σ' := xup S.2 k f x) (vs' := vs) hH hS e2 e3 (fun a j h => by simp [xup, h]) ⟨fun h => by omega, fun h => by omega, fun h => by omega, fun ci' h => ?_⟩
            · rw [xset_self hS] at this; exact this
            · have : ci' = ci := by omega
              subst this
              refine ⟨C, T, hc, hvs, _, e1, q2, q3, fun j hj => ?_⟩
              rw [t_set q4 hap hfN (.int x) j hj]
              congr 1
              unfold updV
              dsimp only
              by_cases hjf : j = f
              · subst hjf
                rw [if_pos rfl, List.getD_eq_getElem?_getD, hvf]
                simp [xfv, xtv, xup]
              · rw [if_neg hjf]
                unfold xfv
                cases vs.getD j .null <;> simp [xup, hjf]
          · rcases List.mem_append.mp hq with h | h
            · exact hL q h
            · rw [List.mem_singleton.mp h]; show base ≤ base + k; omega
      · cases hg
    · cases hg
  · cases hg
theorem xg_putF {j k ci f pl a : Nat} (F : xfx base ex D cA H00 X Z p R s m args meth c id) (hH : xhp base ex D cA H00 S H) (hL : ∀ q ∈ locs, base ≤ q.base) (hd : decode (xbc id) pc = .ok (.putfield j, 3)) (hf : xfld (xown id) j = some (ci, f, false, false, pl)) (hini : (xy id).name = "<init>") (hco : ci = xown id) (hg : xpr S k ci f a = some S')
    (kk : ∀ (H' : Heap) (locs' : List Loc), xhp base ex D cA H00 S' H' → (∀ q ∈ locs', base ≤ q.base) → W p l e R s m args below meth c H' locs' cells slots Q (F0 m (pc + 3) arr rest)) : W p l e R s m args below meth c H locs cells slots Q (F0 m pc arr (.ref (base + a) :: .ref (base + k) :: rest)) := by
  obtain ⟨hx, hb, hr, hml, hown, hts, hkw, hlk, hnm, hrf, hrl⟩ := F
  obtain ⟨C, T, N, hc, hfN, -, hn2, -, hdat⟩ := xk_fldw hf
  obtain ⟨hC, hinst, hlay, hdecl, hpar, hne, -⟩ := xk_clw hc
  unfold xpr at hg
  split at hg
  · rename_i t n vs hS
    split at hg
    · rename_i ht
      split at hg
      · rename_i hvf
        cases hg
        obtain ⟨C', T', hc', hvs, cell, q1, q2, q3, q4⟩ := (hH.2.1 k t n vs hS).2.2.2 ci ht
        rw [hc] at hc'
        cases hc'
        obtain ⟨hSl, hfc, kC, hkC, hkind⟩ := hkw.1.1 ci _ hc
        have hap := va_apart (own := C) hts hlay (xty ci) hpar hne hkw.1 hc
        obtain ⟨cf, kf, fi, fd, hi, hsl⟩ := hSl f hfN
        have hi2 : s.fieldFound? C (T f).2.1 (T f).2.2.1 = some (cf, kf, fi, fd) := by
          have := hi
          dsimp only at this
          rwa [hdecl f hfN] at this
        have hst := (u_facts hfc hkC (u_lays hts hlay hfN) hi).1
        have hl1 := hts _ (hlay _ (u_in_lay hfN))
        unfold u_lay at hl1
        rw [if_pos (hdat rfl).1] at hl1
        have hcf : m.cls = cf := by
          obtain ⟨_, _, c', _, _, _, -, -, hf', -, -, -, hown2, -⟩ := Cond.laysFinal_spec hl1
          have e1 : c' = cf := by have := hi.symm.trans hf'; simp at this; exact this.1.symm
          rw [hdecl f hfN, hC, hco] at hown2
          rw [← e1]; exact Option.some.inj (hown.symm.trans hown2)
        have h6 := u_fits (v := .ref (base + a)) hfc hkC hkind (Or.inr hl1) hi (hpar f hfN) (xnarr _) (xfits (hdat rfl).2.2)
        refine W.putFinK hx hb hown (hts _ (hn2 rfl)) hi2 hst hcf (by rw [hnm]; exact hini) (by rw [q2]; exact h6) q1 q3 (by rw [hsl]; exact k2_hasslot (q4 f hfN)) rfl rfl hd fun H' e1 e2 e3 => ?_
        rw [hsl] at e1
        have hfl : f < vs.length := (List.getElem?_eq_some_iff.mp hvf).1
        refine kk H' _ ?_ (fun q hq => ?_)
        · refine xhp_upd hH hS e2 e3 (fun _ _ _ => rfl) ⟨fun h => by omega, fun h => by omega, fun h => by omega, fun ci' h => ?_⟩
          have : ci' = ci := by omega
          subst this
          refine ⟨C, T, hc, by simpa using hvs, _, e1, q2, q3, fun j hj => ?_⟩
          rw [t_set q4 hap hfN (.ref (base + a)) j hj]
          congr 1
          unfold updV
          dsimp only
          by_cases hjf : j = f
          · subst hjf
            rw [if_pos rfl, List.getD_eq_getElem?_getD, List.getElem?_set_self hfl]
            rfl
          · rw [if_neg hjf, List.getD_eq_getElem?_getD, List.getD_eq_getElem?_getD, List.getElem?_set_ne (Ne.symm hjf)]
        · rcases List.mem_append.mp hq with h | h
          · exact hL q h
          · rw [List.mem_singleton.mp h]; show base ≤ base + k; omega
      · cases hg
    · cases hg
  · cases hg
end XH
end
section
def xsz (sh : List (Nat × Nat × List Value)) : Nat := (sh.map (fun q => q.2.1)).sum
theorem xsz_app (sh : List (Nat × Nat × List Value)) (q : Nat × Nat × List Value) : xsz (sh ++ [q]) = xsz sh + q.2.1 := by simp [xsz]
theorem xupd_v (f : Nat → Int32) (k : Nat) (x : Int32) : updV (fun j => Value.int (f j)) k (.int x) = fun j => .int (if j = k then x else f j) := by
  funext j
  unfold updV
  by_cases h : j = k <;> simp [h]
section XA
variable {p : Program} {l : Launch} {e : Env} {R : Room} {s : State} {m : MethodId} {args : Array Value} {below : List Frame} {meth : Method} {c : Code} {H : Heap} {locs : List Loc} {cells slots : Nat} {Q : State → Prop}
variable {base : Nat} {ex : Nat → Nat} {D : va_G} {cA : Nat → ClassId} {H00 : Heap} {X : xX} {Z : State → Prop} {id pc : Nat} {arr : Array Slot} {rest : List Value} {S S' : xS}
theorem xal_inv {k t : Nat} {i v : Int32} (h : xal S k t i = some v) : ∃ n vs, S.1[k]? = some (t, n, vs) ∧ vp_in i n ∧ v = S.2 k i.toNatClampNeg := by
  unfold xal at h
  split at h
  · rename_i t' n vs hS
    split at h
    · rename_i hc
      obtain ⟨rfl, h2⟩ := hc
      exact ⟨n, vs, hS, xin_iff.mp h2, (Option.some.inj h).symm⟩
    · cases h
  · cases h
theorem xas_inv {k t : Nat} {i x : Int32} (h : xas S k t i x = some S') : ∃ n vs, S.1[k]? = some (t, n, vs) ∧ vp_in i n ∧ S' = (S.1, xup S.2 k i.toNatClampNeg x) := by
  unfold xas at h
  split at h
  · rename_i t' n vs hS
    split at h
    · rename_i hc
      obtain ⟨rfl, h2⟩ := hc
      exact ⟨n, vs, hS, xin_iff.mp h2, (Option.some.inj h).symm⟩
    · cases h
  · cases h
theorem xg_iald {k : Nat} {i v : Int32} (F : xfx base ex D cA H00 X Z p R s m args meth c id) (hH : xhp base ex D cA H00 S H) (hd : decode (xbc id) pc = .ok (.iaload, 1)) (hg : xal S k 0 i = some v)
    (kk : W p l e R s m args below meth c H locs cells slots Q (F0 m (pc + 1) arr (.int v :: rest))) : W p l e R s m args below meth c H locs cells slots Q (F0 m pc arr (.int i :: .ref (base + k) :: rest)) := by
  obtain ⟨hx, hb, hr, hml, hown, hts, hkw, hlk, hnm, hrf, hrl⟩ := F
  obtain ⟨n, vs, hS, hin, rfl⟩ := xal_inv hg
  have hc := (hH.2.1 k 0 n vs hS).1 rfl
  have hlt : i.toNatClampNeg < n := Nat.not_le.mp fun q => hin (Or.inr q)
  exact W.iald (v := .int (S.2 k i.toNatClampNeg)) hx hb hc ((hkw.1.2 0 _ rfl).1 n _) (fun q => by cases q) (by rw [arrV_size]; exact hin) (by rw [arrV_read _ _ hlt]) rfl rfl hd kk
theorem xg_zald {k : Nat} {i v : Int32} (F : xfx base ex D cA H00 X Z p R s m args meth c id) (hH : xhp base ex D cA H00 S H) (hd : decode (xbc id) pc = .ok (.baload, 1)) (hg : xal S k 1 i = some v)
    (kk : W p l e R s m args below meth c H locs cells slots Q (F0 m (pc + 1) arr (.int v :: rest))) : W p l e R s m args below meth c H locs cells slots Q (F0 m pc arr (.int i :: .ref (base + k) :: rest)) := by
  obtain ⟨hx, hb, hr, hml, hown, hts, hkw, hlk, hnm, hrf, hrl⟩ := F
  obtain ⟨n, vs, hS, hin, rfl⟩ := xal_inv hg
  have hc := ((hH.2.1 k 1 n vs hS).2.1 rfl).2
  have hP : va_P D xcl [(base + k, .inl (cA 1, n, .inl (S.2 k)))] H := by
    intro k' q hq
    have hz : k' < 1 := (List.getElem?_eq_some_iff.mp hq).1
    rw [show k' = 0 by omega] at hq
    cases hq
    exact hc
  exact va_zald hx hb hkw.1 hP 0 1 rfl rfl hin hd kk
theorem xg_iast {k : Nat} {i x : Int32} (F : xfx base ex D cA H00 X Z p R s m args meth c id) (hH : xhp base ex D cA H00 S H) (hL : ∀ q ∈ locs, base ≤ q.base) (hd : decode (xbc id) pc = .ok (.iastore, 1)) (hg : xas S k 0 i x = some S')
    (kk : ∀ (H' : Heap) (locs' : List Loc), xhp base ex D cA H00 S' H' → (∀ q ∈ locs', base ≤ q.base) → W p l e R s m args below meth c H' locs' cells slots Q (F0 m (pc + 1) arr rest)) : W p l e R s m args below meth c H locs cells slots Q (F0 m pc arr (.int x :: .int i :: .ref (base + k) :: rest)) := by
  obtain ⟨hx, hb, hr, hml, hown, hts, hkw, hlk, hnm, hrf, hrl⟩ := F
  obtain ⟨n, vs, hS, hin, rfl⟩ := xas_inv hg
  have hc := (hH.2.1 k 0 n vs hS).1 rfl
  refine W.iast hx hb hc ((hkw.1.2 0 _ rfl).1 n _) (fun q => by cases q) (by rw [arrV_size]; exact hin) rfl rfl hd fun H' e1 z oq => ?_
  rw [arrV_store, xupd_v] at e1
  refine kk H' _ ?_ (fun q hq => ?_)
  · have := xhp_upd (σ' := xup S.2 k i.toNatClampNeg x) (vs' := vs) hH hS z oq (fun a j h => by simp [xup, h]) ⟨fun _ => ?_, fun h => by omega, fun h => by omega, fun ci h => by omega⟩
    · rw [xset_self hS] at this; exact this
    · rw [e1]; simp [xup]
  · rcases List.mem_append.mp hq with h | h
    · exact hL q h
    · rw [List.mem_singleton.mp h]; show base ≤ base + k; omega
theorem xg_zast {k : Nat} {i x : Int32} (F : xfx base ex D cA H00 X Z p R s m args meth c id) (hH : xhp base ex D cA H00 S H) (hL : ∀ q ∈ locs, base ≤ q.base) (hd : decode (xbc id) pc = .ok (.bastore, 1)) (hx01 : x = 0 ∨ x = 1) (hg : xas S k 1 i x = some S')
    (kk : ∀ (H' : Heap) (locs' : List Loc), xhp base ex D cA H00 S' H' → (∀ q ∈ locs', base ≤ q.base) → W p l e R s m args below meth c H' locs' cells slots Q (F0 m (pc + 1) arr rest)) : W p l e R s m args below meth c H locs cells slots Q (F0 m pc arr (.int x :: .int i :: .ref (base + k) :: rest)) := by
  obtain ⟨hx, hb, hr, hml, hown, hts, hkw, hlk, hnm, hrf, hrl⟩ := F
  obtain ⟨n, vs, hS, hin, rfl⟩ := xas_inv hg
  have hc := (hH.2.1 k 1 n vs hS).2.1 rfl
  refine W.zast hx hb hc.2 ((hkw.1.2 1 _ rfl).1 n _) (fun q => by cases q) (by rw [arrV_size]; exact hin) rfl rfl hd fun H' e1 z oq => ?_
  rw [(xn01 hx01).1, arrV_store, xupd_v] at e1
  refine kk H' _ ?_ (fun q hq => ?_)
  · have := xhp_upd (σ' := xup S.2 k i.toNatClampNeg x) (vs' := vs) hH hS z oq (fun a j h => by simp [xup, h]) ⟨fun h => by omega, fun _ => ⟨fun j => ?_, ?_⟩, fun h => by omega, fun ci h => by omega⟩
    · rw [xset_self hS] at this; exact this
    · unfold xup
      by_cases q : k = k ∧ j = i.toNatClampNeg
      · rw [if_pos q]; exact hx01
      · rw [if_neg q]; exact hc.1 j
    · rw [e1]; simp [xup]
  · rcases List.mem_append.mp hq with h | h
    · exact hL q h
    · rw [List.mem_singleton.mp h]; show base ≤ base + k; omega
theorem xg_aald {k : Nat} {i : Int32} {v : Value} (F : xfx base ex D cA H00 X Z p R s m args meth c id) (hH : xhp base ex D cA H00 S H) (hd : decode (xbc id) pc = .ok (.aaload, 1)) (hg : xaq S k i = some v)
    (kk : W p l e R s m args below meth c H locs cells slots Q (F0 m (pc + 1) arr (xtv base ex v :: rest))) : W p l e R s m args below meth c H locs cells slots Q (F0 m pc arr (.int i :: .ref (base + k) :: rest)) := by
  obtain ⟨hx, hb, hr, hml, hown, hts, hkw, hlk, hnm, hrf, hrl⟩ := F
  unfold xaq at hg
  split at hg
  · rename_i t n vs hS
    split at hg
    · rename_i hc
      obtain ⟨rfl, h2⟩ := hc
      have hin := xin_iff.mp h2
      obtain ⟨hvl, hc⟩ := (hH.2.1 k 2 n vs hS).2.2.1 rfl
      have hlt : i.toNatClampNeg < n := Nat.not_le.mp fun q => hin (Or.inr q)
      split at hg
      · rename_i a ha
        cases hg
        exact W.aald (v := .ref (base + a)) (ty := .object "KineticCup$Image") hx hb hc ((hkw.1.2 2 _ rfl).1 n _) rfl (fun q => by cases q) (by rw [arrV_size]; exact hin) (by rw [arrV_read _ _ hlt, List.getD_eq_getElem?_getD, ha]; rfl) rfl rfl hd kk
      · cases hg
    · cases hg
  · cases hg
theorem xg_aast {k a : Nat} {i : Int32} (F : xfx base ex D cA H00 X Z p R s m args meth c id) (hH : xhp base ex D cA H00 S H) (hL : ∀ q ∈ locs, base ≤ q.base) (hd : decode (xbc id) pc = .ok (.aastore, 1)) (hg : xaw S k i a = some S')
    (kk : ∀ (H' : Heap) (locs' : List Loc), xhp base ex D cA H00 S' H' → (∀ q ∈ locs', base ≤ q.base) → W p l e R s m args below meth c H' locs' cells slots Q (F0 m (pc + 1) arr rest)) : W p l e R s m args below meth c H locs cells slots Q (F0 m pc arr (.ref (base + a) :: .int i :: .ref (base + k) :: rest)) := by
  obtain ⟨hx, hb, hr, hml, hown, hts, hkw, hlk, hnm, hrf, hrl⟩ := F
  unfold xaw at hg
  split at hg
  · rename_i t n vs hS
    split at hg
    · rename_i hc
      obtain ⟨rfl, h2, hvn⟩ := hc
      have hin := xin_iff.mp h2
      obtain ⟨hvl, hc⟩ := (hH.2.1 k 2 n vs hS).2.2.1 rfl
      have hlt : i.toNatClampNeg < n := Nat.not_le.mp fun q => hin (Or.inr q)
      have h0 : ¬ i < 0 := fun q => hin (Or.inl q)
      split at hg
      · rename_i t' n' vs' hA
        split at hg
        · rename_i ht'
          subst ht'
          cases hg
          obtain ⟨C, T, hC, -, cellV, g1, g2, g3, -⟩ := (hH.2.1 a 4 n' vs' hA).2.2.2 1 rfl
          have hCn : C = "KineticCup$Image" := (xk_clw hC).1
          have hcls := (hkw.1.1 1 _ hC).2
          rw [hCn] at hcls
          obtain ⟨kA, comp, k1, k2, k3, -⟩ := (hkw.1.2 2 _ rfl).2
          have hcomp : comp = D.1 1 := Option.some.inj (k3.symm.trans hcls.1)
          subst hcomp
          obtain ⟨kC, hkC, hkd⟩ := hcls.2
          refine W.aast hx hb hc (fun q h => by cases h) (fun h => by cases h) k1 k2 rfl hkC ⟨h0, by rw [arrV_size]; exact hlt⟩ g1 (fun q h => by rw [g3] at h; cases h) (by rw [g2]; exact hkC) (by rw [g2]; exact va_assign hcls) rfl rfl hd fun H' e1 z oq => ?_
          rw [arrV_store] at e1
          refine kk H' _ ?_ (fun q hq => ?_)
          · refine xhp_upd hH hS z oq (fun _ _ _ => rfl) ⟨fun h => by omega, fun h => by omega, fun _ => ⟨by simpa using hvl, ?_⟩, fun ci h => by omega⟩
            rw [e1]
            congr 2
            funext j
            unfold updV
            dsimp only
            by_cases hj : j = i.toNatClampNeg
            · subst hj
              rw [if_pos rfl, List.getD_eq_getElem?_getD, List.getElem?_set_self (by omega)]
              rfl
            · rw [if_neg hj, List.getD_eq_getElem?_getD, List.getD_eq_getElem?_getD, List.getElem?_set_ne (Ne.symm hj)]
          · rcases List.mem_append.mp hq with h | h
            · exact hL q h
            · rw [List.mem_singleton.mp h]; show base ≤ base + k; omega
        · cases hg
      · cases hg
    · cases hg
  · cases hg
theorem xg_alen {k : Nat} {v : Int32} (F : xfx base ex D cA H00 X Z p R s m args meth c id) (hH : xhp base ex D cA H00 S H) (hd : decode (xbc id) pc = .ok (.arraylength, 1)) (hg : xle S k = some v)
    (kk : W p l e R s m args below meth c H locs cells slots Q (F0 m (pc + 1) arr (.int v :: rest))) : W p l e R s m args below meth c H locs cells slots Q (F0 m pc arr (.ref (base + k) :: rest)) := by
  obtain ⟨hx, hb, hr, hml, hown, hts, hkw, hlk, hnm, hrf, hrl⟩ := F
  unfold xle at hg
  split at hg
  · rename_i t n vs hS
    split at hg
    · rename_i ht
      cases hg
      obtain ⟨a0, a1, a2, -⟩ := hH.2.1 k t n vs hS
      have key : ∃ (f : Nat → Value) (t0 : Nat) (ty : FieldType), [(cA 0, FieldType.int), (cA 1, .boolean), (cA 2, .object "KineticCup$Image")][t0]? = some (cA t, ty) ∧ H[base + k]? = some (arrV (cA t) n f) := by
        rcases (by omega : t = 0 ∨ t = 1 ∨ t = 2) with rfl | rfl | rfl
        · exact ⟨_, 0, _, rfl, a0 rfl⟩
        · exact ⟨_, 1, _, rfl, (a1 rfl).2⟩
        · exact ⟨_, 2, _, rfl, (a2 rfl).2⟩
      obtain ⟨f, t0, ty, ht0, hc⟩ := key
      exact W.alen (n := Int32.ofNat n) hx hb hc ((hkw.1.2 t0 _ ht0).1 n f) (by rw [arrV_size] <;> rfl) rfl rfl hd kk
    · cases hg
  · cases hg
theorem xhp_new {H' : Heap} {t n : Nat} {vs : List Value} (hH : xhp base ex D cA H00 S H) (z : H'.size = H.size + 1) (o1 : ∀ q : Nat, q < H.size → H'[q]? = H[q]?) (he : xce base ex D cA (xzr S.2 S.1.length) H' S.1.length t n vs) : xhp base ex D cA H00 (S.1 ++ [(t, n, vs)], xzr S.2 S.1.length) H' := by
  refine ⟨by rw [z, hH.1]; simp; omega, fun k t' n' vs' h => ?_, fun q hq => ?_⟩
  · dsimp only at h
    by_cases hk : k < S.1.length
    · rw [List.getElem?_append_left hk] at h
      refine xce_kept (hH.2.1 k t' n' vs' h) (o1 _ (by rw [hH.1]; omega)) (fun j => ?_)
      simp [xzr, Nat.ne_of_lt hk]
    · rw [List.getElem?_append_right (by omega)] at h
      have hz : k - S.1.length < 1 := (List.getElem?_eq_some_iff.mp h).1
      have hk2 : k = S.1.length := by omega
      subst hk2
      rw [Nat.sub_self] at h
      cases h
      exact he
  · rw [o1 q (by rw [hH.1]; omega)]; exact hH.2.2 q hq
theorem xg_newo {j ci pl : Nat} (F : xfx base ex D cA H00 X Z p R s m args meth c id) (hH : xhp base ex D cA H00 S H) (hL : ∀ q ∈ locs, base ≤ q.base) (hd : decode (xbc id) pc = .ok (.new j, 3)) (hf : xnew (xown id) j = some (ci, pl)) (hg : xnwo S ci = some S') (hc : cells + 1 ≤ R.cells) (hz : slots + (xsz S'.1 - xsz S.1) ≤ R.slots)
    (kk : ∀ (H' : Heap), S'.1.length = S.1.length + 1 → xhp base ex D cA H00 S' H' → W p l e R s m args below meth c H' locs (cells + 1) (slots + (xsz S'.1 - xsz S.1)) Q (F0 m (pc + 3) arr (.ref (base + S.1.length) :: rest))) : W p l e R s m args below meth c H locs cells slots Q (F0 m pc arr rest) := by
  obtain ⟨hx, hb, hr, hml, hown, hts, hkw, hlk, hnm, hrf, hrl⟩ := F
  have hw := List.all_eq_true.mp xk_new _ (xlook hf)
  simp only [xkn, Bool.and_eq_true, decide_eq_true_eq] at hw
  obtain ⟨hw1, hci⟩ := hw
  have hcl : ∃ C T N, xcl[ci]? = some (C, T, N) := by
    have : ci < xcl.length := by rw [xk_cln]; exact hci
    exact ⟨_, _, _, List.getElem?_eq_getElem this⟩
  obtain ⟨C, T, N, hcl⟩ := hcl
  obtain ⟨hC, hinst, hlay, hdecl, hpar, hne, hbl, hdef, -⟩ := xk_clw hcl
  unfold xnwo at hg
  split at hg
  · rename_i vs hvs
    cases hg
    have hvs2 : xblank.getD ci [] = vs := by rw [List.getD_eq_getElem?_getD, hvs]; rfl
    rw [hvs2] at hbl hdef
    have hKn := hkw.1.1 ci _ hcl
    rw [xsz_app] at hz kk
    dsimp only at hz kk
    rw [Nat.add_sub_cancel_left, hbl] at hz kk
    refine W.newcK hx hb hown (by have := hts _ (xw_in hw1); rw [← hC] at this; exact this) (hts _ hinst) (by rw [hC]; exact hts _ (xk_init (by omega)).1) rfl hd hc hz hKn.2.1 hH.1 fun H' kC hkC e1 z1 o1 => ?_
    refine kk H' (by simp) (xhp_new (vs := vs) hH (by rw [z1, hH.1]) (by rw [hH.1]; exact o1) ⟨fun h => by omega, fun h => by omega, fun h => by omega, fun ci' h => ?_⟩)
    have : ci' = ci := by omega
    subst this
    refine ⟨C, T, hcl, hbl, (u_born (xty ci') hts hlay hKn hkC e1 hpar).to (fun k hk => ?_)⟩
    rw [hdef k hk]
    have hk2 : k < vs.length := by omega
    rw [List.getD_eq_getElem?_getD, List.getElem?_eq_getElem hk2]
    have hb2 : ∀ (ci : Nat) (v : Value) (k : Nat), (xblank.getD ci [])[k]? = some v → v = .null ∨ v = .int 0 := by
      intro ci v k h
      have hall : xblank.all (fun l => l.all (fun v => decide (v = .null ∨ v = .int 0))) = true := by decide +kernel
      by_cases hci : ci < xblank.length
      · rw [List.getD_eq_getElem?_getD, List.getElem?_eq_getElem hci] at h
        have h2 := List.all_eq_true.mp hall _ (List.getElem_mem hci)
        have h3 := List.all_eq_true.mp h2 v (List.mem_of_getElem? h)
        simpa using h3
      · rw [List.getD_eq_getElem?_getD, show xblank[ci]? = none from List.getElem?_eq_none (by omega)] at h
        cases h
    have h4 := hb2 ci' vs[k] k (by rw [hvs2, List.getElem?_eq_getElem hk2])
    simp only [Option.getD_some]
    rcases h4 with h4 | h4
    · rw [h4]; rfl
    · rw [h4]; simp [xfv, xtv, xzr]
  · cases hg
end XA
end
section
theorem xn4000 {n : Int32} (h : 0 ≤ n ∧ n ≤ 4000) : ¬ n < 0 ∧ n.toNatClampNeg ≤ 4000 := by
  obtain ⟨h1, h2⟩ := h
  rw [Int32.le_iff_toInt_le] at h1 h2
  refine ⟨fun q => ?_, ?_⟩
  · rw [Int32.lt_iff_toInt_lt] at q
    omega
  · show n.toInt.toNat ≤ 4000
    have e4 : (4000 : Int32).toInt = 4000 := by decide
    rw [e4] at h2
    omega
section XB
variable {p : Program} {l : Launch} {e : Env} {R : Room} {s : State} {m : MethodId} {args : Array Value} {below : List Frame} {meth : Method} {c : Code} {H : Heap} {locs : List Loc} {cells slots : Nat} {Q : State → Prop}
variable {base : Nat} {ex : Nat → Nat} {D : va_G} {cA : Nat → ClassId} {H00 : Heap} {X : xX} {Z : State → Prop} {id pc : Nat} {arr : Array Slot} {rest : List Value} {S S' : xS}
theorem xg_newI {n : Int32} (F : xfx base ex D cA H00 X Z p R s m args meth c id) (hH : xhp base ex D cA H00 S H) (hd : decode (xbc id) pc = .ok (.newarray .int, 2)) (hg : xnwa S 0 n = some S') (hc : cells + 1 ≤ R.cells) (hz : slots + (xsz S'.1 - xsz S.1) ≤ R.slots)
    (kk : ∀ (H' : Heap), S'.1.length = S.1.length + 1 → xhp base ex D cA H00 S' H' → W p l e R s m args below meth c H' locs (cells + 1) (slots + (xsz S'.1 - xsz S.1)) Q (F0 m (pc + 2) arr (.ref (base + S.1.length) :: rest))) : W p l e R s m args below meth c H locs cells slots Q (F0 m pc arr (.int n :: rest)) := by
  obtain ⟨hx, hb, hr, hml, hown, hts, hkw, hlk, hnm, hrf, hrl⟩ := F
  unfold xnwa at hg
  split at hg
  · rename_i hn
    cases hg
    obtain ⟨hn0, hn4⟩ := xn4000 hn
    rw [xsz_app] at hz kk
    dsimp only at hz kk
    rw [Nat.add_sub_cancel_left] at hz kk
    refine va_newaK (atype := .int) hx hb (hts _ (xw_in xk_arI)) rfl hd rfl hn0 rfl (by show _ * 4 ≤ _; omega) hc hz hH.1 fun H' cI e1 z1 o1 _ hfc => ?_
    have hcI : cI = cA 0 := by
      have h2 : s.vm.findClass ("[" ++ FieldType.int.toString) = some (cA 0) := (hkw.1.2 0 _ rfl).2
      exact Option.some.inj (hfc.symm.trans h2)
    subst hcI
    refine kk H' (by simp) (xhp_new hH (by rw [z1, hH.1]) (by rw [hH.1]; exact o1) ⟨fun _ => ?_, fun h => by omega, fun h => by omega, fun ci' h => by omega⟩)
    rw [e1]
    congr 2
    funext j
    simp [xzr]
    rfl
  · cases hg
theorem xg_newZ {n : Int32} (F : xfx base ex D cA H00 X Z p R s m args meth c id) (hH : xhp base ex D cA H00 S H) (hd : decode (xbc id) pc = .ok (.newarray .boolean, 2)) (hg : xnwa S 1 n = some S') (hc : cells + 1 ≤ R.cells) (hz : slots + (xsz S'.1 - xsz S.1) ≤ R.slots)
    (kk : ∀ (H' : Heap), S'.1.length = S.1.length + 1 → xhp base ex D cA H00 S' H' → W p l e R s m args below meth c H' locs (cells + 1) (slots + (xsz S'.1 - xsz S.1)) Q (F0 m (pc + 2) arr (.ref (base + S.1.length) :: rest))) : W p l e R s m args below meth c H locs cells slots Q (F0 m pc arr (.int n :: rest)) := by
  obtain ⟨hx, hb, hr, hml, hown, hts, hkw, hlk, hnm, hrf, hrl⟩ := F
  unfold xnwa at hg
  split at hg
  · rename_i hn
    cases hg
    obtain ⟨hn0, hn4⟩ := xn4000 hn
    rw [xsz_app] at hz kk
    dsimp only at hz kk
    rw [Nat.add_sub_cancel_left] at hz kk
    refine va_newaK (atype := .boolean) hx hb (hts _ (xw_in xk_arZ)) rfl hd rfl hn0 rfl (by show _ * 1 ≤ _; omega) hc hz hH.1 fun H' cI e1 z1 o1 _ hfc => ?_
    have hcI : cI = cA 1 := by
      have h2 : s.vm.findClass ("[" ++ FieldType.boolean.toString) = some (cA 1) := (hkw.1.2 1 _ rfl).2
      exact Option.some.inj (hfc.symm.trans h2)
    subst hcI
    refine kk H' (by simp) (xhp_new hH (by rw [z1, hH.1]) (by rw [hH.1]; exact o1) ⟨fun h => by omega, fun _ => ⟨fun j => Or.inl (by simp [xzr]), ?_⟩, fun h => by omega, fun ci' h => by omega⟩)
    rw [e1]
    congr 2
    funext j
    simp [xzr]
    rfl
  · cases hg
theorem xg_newQ {j pl : Nat} {n : Int32} (F : xfx base ex D cA H00 X Z p R s m args meth c id) (hH : xhp base ex D cA H00 S H) (hd : decode (xbc id) pc = .ok (.anewarray j, 3)) (hf : xnew (xown id) j = some (1, pl)) (hg : xnwq S n = some S') (hc : cells + 1 ≤ R.cells) (hz : slots + (xsz S'.1 - xsz S.1) ≤ R.slots)
    (kk : ∀ (H' : Heap), S'.1.length = S.1.length + 1 → xhp base ex D cA H00 S' H' → W p l e R s m args below meth c H' locs (cells + 1) (slots + (xsz S'.1 - xsz S.1)) Q (F0 m (pc + 3) arr (.ref (base + S.1.length) :: rest))) : W p l e R s m args below meth c H locs cells slots Q (F0 m pc arr (.int n :: rest)) := by
  obtain ⟨hx, hb, hr, hml, hown, hts, hkw, hlk, hnm, hrf, hrl⟩ := F
  have hw := List.all_eq_true.mp xk_new _ (xlook hf)
  simp only [xkn, Bool.and_eq_true, decide_eq_true_eq] at hw
  unfold xnwq at hg
  split at hg
  · rename_i hn
    cases hg
    obtain ⟨hn0, hn4⟩ := xn4000 hn
    rw [xsz_app] at hz kk
    dsimp only at hz kk
    rw [Nat.add_sub_cancel_left] at hz kk
    refine W.anew (C := "KineticCup$Image") hx hb hown (hts _ (xw_in hw.1)) (va_AO.use hkw.2.2.1) rfl hd rfl hn0 (by omega) hc hz fun cI kA comp f1 f2 f3 f4 => ?_
    have hcI : cI = cA 2 := by
      obtain ⟨_, _, -, -, -, h2⟩ := (hkw.1.2 2 _ rfl).2
      exact Option.some.inj (f1.symm.trans h2)
    subst hcI
    have hsz := hH.1
    have e1 : (H.push ({ cls := cA 2, slots := Array.replicate n.toNatClampNeg .null, vm := .none } : Cell))[H.size]? = some (arrV (cA 2) n.toNatClampNeg (fun _ => .null)) := by rw [Array.getElem?_push_size, ← arrV_new]
    have o1 : ∀ q : Nat, q < H.size → (H.push ({ cls := cA 2, slots := Array.replicate n.toNatClampNeg .null, vm := .none } : Cell))[q]? = H[q]? := fun q hq => by rw [Array.getElem?_push, if_neg (Nat.ne_of_lt hq)]
    have z1 : (H.push ({ cls := cA 2, slots := Array.replicate n.toNatClampNeg .null, vm := .none } : Cell)).size = H.size + 1 := by rw [Array.size_push]
    rw [show H.size = base + S.1.length from hsz]
    refine kk _ (by simp) (xhp_new hH z1 o1 ⟨fun h => by omega, fun h => by omega, fun _ => ⟨by simp, ?_⟩, fun ci' h => by omega⟩)
    rw [← hsz, e1]
    congr 2
    funext j
    by_cases hj : j < n.toNatClampNeg
    · simp [List.getD_eq_getElem?_getD, List.getElem?_replicate, hj, xtv]
    · simp [List.getD_eq_getElem?_getD, List.getElem?_replicate, hj, xtv]
  · cases hg
theorem xcats (r : List Value) : ((r.map (xtv base ex)).map fun v => v.category).sum = xcat r := by
  induction r with
  | nil => rfl
  | cons v r ih => simp only [List.map_cons, List.sum_cons, xcat, xtv_cat, ih]
theorem xg_copy {j k0 k1 p1 p2 p3 a b : Nat} {sp dp n : Int32} {r : List Value} (F : xfx base ex D cA H00 X Z p R s m args meth c id) (hH : xhp base ex D cA H00 S H) (hL : ∀ q ∈ locs, base ≤ q.base) (hsize : arr.size = xml id) (hd : decode (xbc id) pc = .ok (.invokestatic j, 3)) (hf : xmth (xown id) j = some (7, a, b, p1, p2, p3)) (hr8 : xcat r ≤ 8) (hf1 : 1 ≤ xrf id) (hf2 : 28 ≤ xrl id) (hg : xacp S k0 k1 sp dp n = some S')
    (kk : ∀ (H' : Heap) (locs' : List Loc), xhp base ex D cA H00 S' H' → (∀ q ∈ locs', base ≤ q.base) → W p l e R s m args below meth c H' locs' cells slots Q (F0 m (pc + 3) arr (r.map (xtv base ex)))) : W p l e R s m args below meth c H locs cells slots Q (F0 m pc arr (.int n :: .int dp :: .ref (base + k1) :: .int sp :: .ref (base + k0) :: r.map (xtv base ex))) := by
  obtain ⟨hx, hb, hr, hml, hown, hts, hkw, hlk, hnm, hrf, hrl⟩ := F
  have hw := List.all_eq_true.mp xk_mth _ (xlook hf)
  simp only [xkm, Bool.and_eq_true] at hw
  unfold xacp at hg
  split at hg
  · rename_i t0 n0 v0 t1 n1 v1 hS0 hS1
    split at hg
    · rename_i hc
      obtain ⟨rfl, ht2, h1, h2, h3, h4, h5⟩ := hc
      cases hg
      have nn : ∀ z : Int32, 0 ≤ z → ¬ z < 0 ∧ z.toInt = (z.toNatClampNeg : Int) := by
        intro z hz
        have hz0 : (0 : Int) ≤ z.toInt := by simpa using Int32.le_iff_toInt_le.mp hz
        refine ⟨fun q => ?_, ?_⟩
        · have := Int32.lt_iff_toInt_lt.mp q
          simp at this
          omega
        · show z.toInt = ((z.toInt.toNat : Nat) : Int)
          omega
      have key : ∃ (ty : FieldType), [(cA 0, FieldType.int), (cA 1, .boolean), (cA 2, .object "KineticCup$Image")][t0]? = some (cA t0, ty) ∧ refKind ty = false ∧ (∀ i, fits ty (.int (S.2 k0 i)) = true) ∧ H[base + k0]? = some (arrV (cA t0) n0 (fun j => .int (S.2 k0 j))) ∧ H[base + k1]? = some (arrV (cA t0) n1 (fun j => .int (S.2 k1 j))) := by
        rcases (by omega : t0 = 0 ∨ t0 = 1) with rfl | rfl
        · exact ⟨_, rfl, rfl, fun _ => rfl, (hH.2.1 _ _ _ _ hS0).1 rfl, (hH.2.1 _ _ _ _ hS1).1 rfl⟩
        · refine ⟨_, rfl, rfl, fun i => ?_, ((hH.2.1 _ _ _ _ hS0).2.1 rfl).2, ((hH.2.1 _ _ _ _ hS1).2.1 rfl).2⟩
          exact (xn01 (((hH.2.1 _ _ _ _ hS0).2.1 rfl).1 i)).2
      obtain ⟨ty, hty, hprim, hfit, hc0, hc1⟩ := key
      obtain ⟨-, kk0, hk0, cm0, hkk0⟩ := (hkw.1.2 t0 _ hty).1 n0 (fun j => .int (S.2 k0 j))
      intro T hT Y
      obtain ⟨vm', Y', step⟩ := Y.arraycopy hx hown (hts _ (xw_in hw.1)) (hts _ (xw_in xk_nat)) (hts _ (xw_in hw.2)) (hts _ (xw_in xk_sys)) (src := base + k0) (dst := base + k1) (cs := arrV (cA t0) n0 (fun j => .int (S.2 k0 j))) (cd := arrV (cA t0) n1 (fun j => .int (S.2 k1 j))) (srcPos := sp) (destPos := dp) (n := n) (by rw [hT]; exact hc0) (by rw [hT]; exact hc1)
        (fun _ h => by cases h) (fun _ h => by cases h) (fun h => by cases h) (fun h => by cases h) hk0 hk0 hkk0 hkk0 (by simp [hprim]) (nn sp h1).1 (nn dp h2).1 (nn n h3).1
        (by rw [(nn sp h1).2, (nn n h3).2, arrV_size]; omega)
        (by rw [(nn dp h2).2, (nn n h3).2, arrV_size]; omega)
        (fun vm₁ _ i hi => by
          have ee : (arrV (cA t0) n0 (fun j => .int (S.2 k0 j))).slots.getD (sp.toNatClampNeg + i) .null = .int (S.2 k0 (sp.toNatClampNeg + i)) := by
            rw [Array.getD_eq_getD_getElem?, arrV_read _ _ (by omega)]
            rfl
          rw [ee]
          exact ⟨hfit _, trivial⟩)
        (g := F0 m pc arr (.int n :: .int dp :: .ref (base + k1) :: .int sp :: .ref (base + k0) :: r.map (xtv base ex))) rfl (by rw [hml]; exact hsize) (rest := r.map (xtv base ex)) rfl (by rw [hb]; exact hd) (by omega) (by
          have e8 := xcats (base := base) (ex := ex) r
          have e18 : nativeFrameWords "java/lang/System" "arraycopy" 5 = 7 := by decide +kernel
          rw [e8, e18]
          show 2 * 0 + _ + _ ≤ _
          omega)
      have e1 : copied (arrV (cA t0) n0 (fun j => .int (S.2 k0 j))) (arrV (cA t0) n1 (fun j => .int (S.2 k1 j))) sp dp n = arrV (cA t0) n1 (fun j => .int (va_cpy (S.2 k0) (S.2 k1) sp.toNatClampNeg dp.toNatClampNeg n.toNatClampNeg j)) := va_copied (fun z => .int z) (cA t0) (cA t0) (S.2 k0) (S.2 k1) h4
      rw [e1] at Y' step
      have hl : base + k1 < H.size := (Array.getElem?_eq_some_iff.mp hc1).1
      have e2 : xcp S.2 k0 k1 sp.toNatClampNeg dp.toNatClampNeg n.toNatClampNeg k1 = va_cpy (S.2 k0) (S.2 k1) sp.toNatClampNeg dp.toNatClampNeg n.toNatClampNeg := by
        funext j
        simp [xcp, va_cpy]
      have hheap : ((T.setVm vm').setCell (base + k1) (arrV (cA t0) n1 (fun j => .int (va_cpy (S.2 k0) (S.2 k1) sp.toNatClampNeg dp.toNatClampNeg n.toNatClampNeg j)))).heap = H.setIfInBounds (base + k1) (arrV (cA t0) n1 (fun j => .int (va_cpy (S.2 k0) (S.2 k1) sp.toNatClampNeg dp.toNatClampNeg n.toNatClampNeg j))) := by rw [← hT]; rfl
      have hnew : (H.setIfInBounds (base + k1) (arrV (cA t0) n1 (fun j => .int (va_cpy (S.2 k0) (S.2 k1) sp.toNatClampNeg dp.toNatClampNeg n.toNatClampNeg j))))[base + k1]? = some (arrV (cA t0) n1 (fun j => .int (va_cpy (S.2 k0) (S.2 k1) sp.toNatClampNeg dp.toNatClampNeg n.toNatClampNeg j))) := by simp [Array.getElem?_setIfInBounds, hl]
      have hx2 := xhp_upd (H' := H.setIfInBounds (base + k1) (arrV (cA t0) n1 (fun j => .int (va_cpy (S.2 k0) (S.2 k1) sp.toNatClampNeg dp.toNatClampNeg n.toNatClampNeg j)))) (σ' := xcp S.2 k0 k1 sp.toNatClampNeg dp.toNatClampNeg n.toNatClampNeg) (vs' := v1) hH hS1 (by simp) (fun q hq => by simp [Array.getElem?_setIfInBounds, Ne.symm hq]) (fun a j h => by simp [xcp, h]) ⟨fun h => by rw [hnew, e2, h], fun h => ⟨fun j => by
          rw [e2]
          have b0 := ((hH.2.1 _ _ _ _ hS0).2.1 h).1
          have b1 := ((hH.2.1 _ _ _ _ hS1).2.1 h).1
          unfold va_cpy
          split
          · exact b0 _
          · exact b1 _, by rw [hnew, e2, h]⟩, fun h => by omega, fun ci h => by omega⟩
      rw [xset_self hS1] at hx2
      obtain ⟨t, a1, b1⟩ := kk _ _ hx2 (fun q hq => by
          rcases List.mem_append.mp hq with h | h
          · exact hL q h
          · obtain ⟨z, -, hz⟩ := List.mem_map.mp h
            rw [← hz]
            show base ≤ base + k1
            omega) _ hheap Y'
      exact ⟨t, step t a1, b1⟩
    · cases hg
  · cases hg
end XB
end
section
def xstrR (l : Launch) (base : Nat) (ex : Nat → Nat) (D : va_G) (cA : Nat → ClassId) (H00 : Heap) (X : xX) (Z : State → Prop) : Prop :=
  (∀ (p : Program) (e : Env) (R : Room) (s : State) (m : MethodId) (args : Array Value) (below : List Frame) (meth : Method) (c : Code) (H : Heap) (locs : List Loc) (cells slots : Nat) (Q : State → Prop) (id pc j pl : Nat) (arr : Array Slot) (rest : List Value), xfx base ex D cA H00 X Z p R s m args meth c id → decode (xbc id) pc = .ok (.ldc j, 2) → xcst (xown id) j = some (.retAddr 1, pl) → W p l e R s m args below meth c H locs cells slots Q (F0 m (pc + 2) arr (.ref (ex 1) :: rest)) → W p l e R s m args below meth c H locs cells slots Q (F0 m pc arr rest)) ∧
  (∀ (p : Program) (e : Env) (R : Room) (s : State) (m : MethodId) (args : Array Value) (below : List Frame) (meth : Method) (c : Code) (H : Heap) (locs : List Loc) (cells slots : Nat) (Q : State → Prop) (id pc j a b p1 p2 p3 : Nat) (arr : Array Slot) (r : List Value) (S : xS) (i v : Int32), xfx base ex D cA H00 X Z p R s m args meth c id → xhp base ex D cA H00 S H → (∀ q ∈ locs, base ≤ q.base) → arr.size = xml id → decode (xbc id) pc = .ok (.invokevirtual j, 3) → xmth (xown id) j = some (8, a, b, p1, p2, p3) → xcat r ≤ 8 → 4 ≤ xrf id → 81 ≤ xrl id → xchr i = some v → cells ≤ R.cells → slots ≤ R.slots → (∀ (H' : Heap) (locs' : List Loc), xhp base ex D cA H00 S H' → (∀ q ∈ locs', base ≤ q.base) → W p l e R s m args below meth c H' locs' cells slots Q (F0 m (pc + 3) arr (.int v :: r.map (xtv base ex)))) → W p l e R s m args below meth c H locs cells slots Q (F0 m pc arr (.int i :: .ref (ex 1) :: r.map (xtv base ex))))
section XT
variable {p : Program} {l : Launch} {e : Env} {R : Room} {s : State} {m : MethodId} {args : Array Value} {below : List Frame} {meth : Method} {c : Code} {H : Heap} {locs : List Loc} {cells slots : Nat} {Q : State → Prop}
variable {base : Nat} {ex : Nat → Nat} {D : va_G} {cA : Nat → ClassId} {H00 : Heap} {X : xX} {Z : State → Prop} {id : Nat} {arr : Array Slot}
theorem xisI_inv {v : Value} (h : xisI v = true) : ∃ x, v = .int x := by cases v <;> first | exact ⟨_, rfl⟩ | cases h
theorem xisL_inv {v : Value} (h : xisL v = true) : ∃ x, v = .long x := by cases v <;> first | exact ⟨_, rfl⟩ | cases h
theorem xisA_inv {v : Value} (h : xisA v = true) : ∃ x, xtv base ex v = .ref x ∧ xbad v = false ∧ v.category = 1 := by cases v <;> first | exact ⟨_, rfl, rfl, rfl⟩ | cases h
theorem xbp {α β : Type} {o : Option α} {f : α → Option β} {b : β} (h : o.bind f = some b) : ∃ a, o = some a ∧ f a = some b := Option.bind_eq_some_iff.mp h
set_option maxHeartbeats 4000000 in
theorem xsim (hZ : xstrR l base ex D cA H00 X Z) {fr fr' : xF} (F : xfx base ex D cA H00 X Z p R s m args meth c id) (hs : xstep X id fr = some (.inl fr')) (hH : xhp base ex D cA H00 fr.2.2.2 H) (hL : ∀ q ∈ locs, base ≤ q.base) (hA : xlr base ex arr (xml id) fr.2.1)
    (hc : cells + (fr'.2.2.2.1.length - fr.2.2.2.1.length) ≤ R.cells) (hz : slots + (xsz fr'.2.2.2.1 - xsz fr.2.2.2.1) ≤ R.slots)
    (kk : ∀ (H' : Heap) (locs' : List Loc) (arr' : Array Slot) (c' z' : Nat), c' = cells + (fr'.2.2.2.1.length - fr.2.2.2.1.length) → z' = slots + (xsz fr'.2.2.2.1 - xsz fr.2.2.2.1) → xhp base ex D cA H00 fr'.2.2.2 H' → (∀ q ∈ locs', base ≤ q.base) → xlr base ex arr' (xml id) fr'.2.1 → W p l e R s m args below meth c H' locs' c' z' Q (F0 m fr'.1 arr' (fr'.2.2.1.map (xtv base ex)))) :
    W p l e R s m args below meth c H locs cells slots Q (F0 m fr.1 arr (fr.2.2.1.map (xtv base ex))) := by
  obtain ⟨pc, ls, st, S⟩ := fr
  have F' := F
  obtain ⟨hx, hb, hr, hml, hown, hts, hkw, hlk, hnm, hrf, hrl⟩ := F
  dsimp only at hH hA hc hz kk ⊢
  have hcap : xlr base ex arr (xml id) ls := hA
  obtain ⟨ha1, ha2, ha3, ha4⟩ := hA
  rw [xstep_s] at hs
  split at hs
  · rename_i i n hd
    split at hs
    · rename_i hn
      have pure : ∀ {pc' : Nat} {st' : List Value}, (pc', ls, st', S) = fr' → W p l e R s m args below meth c H locs cells slots Q (F0 m pc' arr (st'.map (xtv base ex))) := by
        rintro pc' st' rfl
        exact kk H locs arr cells slots (by simp) (by simp) hH hL hcap
      have pureS : ∀ {pc' : Nat} {st' : List Value} {S' : xS}, (pc', ls, st', S') = fr' → S'.1.length = S.1.length → xsz S'.1 = xsz S.1 → ∀ (H' : Heap) (locs' : List Loc), xhp base ex D cA H00 S' H' → (∀ q ∈ locs', base ≤ q.base) → W p l e R s m args below meth c H' locs' cells slots Q (F0 m pc' arr (st'.map (xtv base ex))) := by
        rintro pc' st' S' rfl h1 h2 H' locs' hH' hL'
        exact kk H' locs' arr cells slots (by simp [h1]) (by simp [h2]) hH' hL' hcap
      have ldI : ∀ {k : Nat} {x : Int32}, ls[k]? = some (.int x) → arr[k]? = some (Slot.val (.int x)) := fun h => ha4 _ _ h rfl
      have ldL : ∀ {k : Nat} {x : Int64}, ls[k]? = some (.long x) → arr[k]? = some (Slot.val (.long x)) := fun h => ha4 _ _ h rfl
      cases i
      case iconst k =>
        (have hn : n = 1 := hn); subst hn
        exact lv_iconst hx hb hd rfl (pure (xnx_inj hs))
      case bipush k =>
        (have hn : n = 2 := hn); subst hn
        exact lv_bipush hx hb hd rfl (pure (xnx_inj hs))
      case sipush k =>
        (have hn : n = 3 := hn); subst hn
        exact lv_sipush hx hb hd rfl (pure (xnx_inj hs))
      case lconst k =>
        (have hn : n = 1 := hn); subst hn
        exact lv_lconst hx hb hd rfl (pure (xnx_inj hs))
      case ldc k =>
        (have hn : n = 2 := hn); subst hn
        obtain ⟨⟨w, pl⟩, h1, h2⟩ := xbp hs
        dsimp only at h2
        split at h2
        · have hw := List.all_eq_true.mp xk_cst _ (xlook h1)
          exact lv_ldc hx hb hown (hts _ (xw_in hw)) hd (pure (xnx_inj h2))
        · exact hZ.1 _ _ _ _ _ _ _ _ _ _ _ _ _ _ _ _ _ _ _ _ F' hd h1 (pure (xnx_inj h2))
        · cases h2
      case ldc2_w k =>
        (have hn : n = 3 := hn); subst hn
        obtain ⟨⟨w, pl⟩, h1, h2⟩ := xbp hs
        dsimp only at h2
        split at h2
        · have hw := List.all_eq_true.mp xk_cst _ (xlook h1)
          exact lv_ldc2 hx hb hown (hts _ (xw_in hw)) hd (pure (xnx_inj h2))
        · cases h2
      case iload k =>
        (have hn : n = 2 := hn); subst hn
        obtain ⟨v, h1, h2, h3⟩ := xld_inv hs
        obtain ⟨x, rfl⟩ := xisI_inv h2
        exact lv_iload hx hb hd (ldI h1) (pure h3)
      case iload_n k =>
        (have hn : n = 1 := hn); subst hn
        obtain ⟨v, h1, h2, h3⟩ := xld_inv hs
        obtain ⟨x, rfl⟩ := xisI_inv h2
        exact lv_iload_n hx hb hd rfl (ldI h1) (pure h3)
      case lload k =>
        (have hn : n = 2 := hn); subst hn
        obtain ⟨v, h1, h2, h3⟩ := xld_inv hs
        obtain ⟨x, rfl⟩ := xisL_inv h2
        exact lv_lload hx hb hd (ldL h1) (pure h3)
      case lload_n k =>
        (have hn : n = 1 := hn); subst hn
        obtain ⟨v, h1, h2, h3⟩ := xld_inv hs
        obtain ⟨x, rfl⟩ := xisL_inv h2
        exact lv_lload_n hx hb hd rfl (ldL h1) (pure h3)
      case aload k =>
        (have hn : n = 2 := hn); subst hn
        obtain ⟨v, h1, h2, h3⟩ := xld_inv hs
        obtain ⟨x, e1, e2, -⟩ := xisA_inv (base := base) (ex := ex) h2
        have h5 := ha4 _ _ h1 e2
        rw [e1] at h5
        refine lv_aload hx hb hd h5 ?_
        rw [← e1]
        exact pure h3
      case aload_n k =>
        (have hn : n = 1 := hn); subst hn
        obtain ⟨v, h1, h2, h3⟩ := xld_inv hs
        obtain ⟨x, e1, e2, -⟩ := xisA_inv (base := base) (ex := ex) h2
        have h5 := ha4 _ _ h1 e2
        rw [e1] at h5
        refine lv_aload_n hx hb hd rfl h5 ?_
        rw [← e1]
        exact pure h3
      case istore k =>
        (have hn : n = 2 := hn); subst hn
        obtain ⟨v, r, rfl, h1, h2, rfl⟩ := xsto_inv hs
        obtain ⟨x, rfl⟩ := xisI_inv h1
        exact lv_istore hx hb hd (xlr_has hcap) (by omega) rfl fun ls' hl => kk H locs ls' cells slots (by simp) (by simp) hH hL (xlr_st1 (v := .int x) ha2 hl)
      case istore_n k =>
        (have hn : n = 1 := hn); subst hn
        obtain ⟨v, r, rfl, h1, h2, rfl⟩ := xsto_inv hs
        obtain ⟨x, rfl⟩ := xisI_inv h1
        exact lv_istore_n hx hb hd rfl (xlr_has hcap) (by omega) rfl fun ls' hl => kk H locs ls' cells slots (by simp) (by simp) hH hL (xlr_st1 (v := .int x) ha2 hl)
      case astore k =>
        (have hn : n = 2 := hn); subst hn
        obtain ⟨v, r, rfl, h1, h2, rfl⟩ := xsto_inv hs
        obtain ⟨x, e1, e2, -⟩ := xisA_inv (base := base) (ex := ex) h1
        rw [List.map_cons, e1]
        refine lv_astore hx hb hd (xlr_has hcap) (by omega) rfl fun ls' hl => kk H locs ls' cells slots (by simp) (by simp) hH hL (xlr_st1 (v := v) ha2 ?_)
        rw [e1]; exact hl
      case astore_n k =>
        (have hn : n = 1 := hn); subst hn
        obtain ⟨v, r, rfl, h1, h2, rfl⟩ := xsto_inv hs
        obtain ⟨x, e1, e2, -⟩ := xisA_inv (base := base) (ex := ex) h1
        rw [List.map_cons, e1]
        refine lv_astore_n hx hb hd rfl (xlr_has hcap) (by omega) rfl fun ls' hl => kk H locs ls' cells slots (by simp) (by simp) hH hL (xlr_st1 (v := v) ha2 ?_)
        rw [e1]; exact hl
      case lstore k =>
        (have hn : n = 2 := hn); subst hn
        obtain ⟨x, r, rfl, h2, rfl⟩ := xsto2_inv hs
        exact lv_lstore hx hb hd (xlr_has hcap) (by omega) rfl fun ls' hl => kk H locs ls' cells slots (by simp) (by simp) hH hL (xlr_st2 (v := .long x) ha2 hl)
      case lstore_n k =>
        (have hn : n = 1 := hn); subst hn
        obtain ⟨x, r, rfl, h2, rfl⟩ := xsto2_inv hs
        exact lv_lstore_n hx hb hd rfl (xlr_has hcap) (by omega) rfl fun ls' hl => kk H locs ls' cells slots (by simp) (by simp) hH hL (xlr_st2 (v := .long x) ha2 hl)
      case iinc k d =>
        (have hn : n = 3 := hn); subst hn
        simp only [xex] at hs
        split at hs
        · rename_i x hk
          have hkl : k < ls.length := (List.getElem?_eq_some_iff.mp hk).1
          cases xnx_inj hs
          obtain ⟨q, hq⟩ := List.getElem?_of_mem (xps_mem (base := base) (ex := ex).mpr ⟨.int x, hk, rfl, rfl⟩)
          exact lv_iinc hx hb hd (xlr_has hcap) hq rfl (by omega) rfl fun ls' hl => kk H locs ls' cells slots (by simp) (by simp) hH hL (xlr_st1 (v := .int (x + Int32.ofInt d)) ha2 hl)
        · cases hs
      case iadd => (have hn : n = 1 := hn); subst hn; obtain ⟨y, x, r, rfl, h⟩ := xbi_inv hs; exact lv_iadd hx hb hd (pure h)
      case isub => (have hn : n = 1 := hn); subst hn; obtain ⟨y, x, r, rfl, h⟩ := xbi_inv hs; exact lv_isub hx hb hd (pure h)
      case imul => (have hn : n = 1 := hn); subst hn; obtain ⟨y, x, r, rfl, h⟩ := xbi_inv hs; exact lv_imul hx hb hd (pure h)
      case iand => (have hn : n = 1 := hn); subst hn; obtain ⟨y, x, r, rfl, h⟩ := xbi_inv hs; exact lv_iand hx hb hd (pure h)
      case ior => (have hn : n = 1 := hn); subst hn; obtain ⟨y, x, r, rfl, h⟩ := xbi_inv hs; exact lv_ior hx hb hd (pure h)
      case ishl => (have hn : n = 1 := hn); subst hn; obtain ⟨y, x, r, rfl, h⟩ := xbi_inv hs; exact lv_ishl hx hb hd (pure h)
      case ishr => (have hn : n = 1 := hn); subst hn; obtain ⟨y, x, r, rfl, h⟩ := xbi_inv hs; exact lv_ishr hx hb hd (pure h)
      case ladd => (have hn : n = 1 := hn); subst hn; obtain ⟨y, x, r, rfl, h⟩ := xbl_inv hs; exact lv_ladd hx hb hd (pure h)
      case lsub => (have hn : n = 1 := hn); subst hn; obtain ⟨y, x, r, rfl, h⟩ := xbl_inv hs; exact lv_lsub hx hb hd (pure h)
      case lmul => (have hn : n = 1 := hn); subst hn; obtain ⟨y, x, r, rfl, h⟩ := xbl_inv hs; exact lv_lmul hx hb hd (pure h)
      case land => (have hn : n = 1 := hn); subst hn; obtain ⟨y, x, r, rfl, h⟩ := xbl_inv hs; exact lv_land hx hb hd (pure h)
      case lor => (have hn : n = 1 := hn); subst hn; obtain ⟨y, x, r, rfl, h⟩ := xbl_inv hs; exact lv_lor hx hb hd (pure h)
      case idiv =>
        (have hn : n = 1 := hn); subst hn
        simp only [xex] at hs
        split at hs
        · split at hs
          · cases hs
          · rename_i hy; exact lv_idiv hx hb hd hy (pure (xnx_inj hs))
        · cases hs
      case irem =>
        (have hn : n = 1 := hn); subst hn
        simp only [xex] at hs
        split at hs
        · split at hs
          · cases hs
          · rename_i hy; exact lv_irem hx hb hd hy (pure (xnx_inj hs))
        · cases hs
      case ldiv =>
        (have hn : n = 1 := hn); subst hn
        simp only [xex] at hs
        split at hs
        · split at hs
          · cases hs
          · rename_i hy; exact lv_ldiv hx hb hd hy (pure (xnx_inj hs))
        · cases hs
      case lrem =>
        (have hn : n = 1 := hn); subst hn
        simp only [xex] at hs
        split at hs
        · split at hs
          · cases hs
          · rename_i hy; exact lv_lrem hx hb hd hy (pure (xnx_inj hs))
        · cases hs
      case ineg =>
        (have hn : n = 1 := hn); subst hn
        simp only [xex] at hs
        split at hs
        · exact lv_ineg hx hb hd (pure (xnx_inj hs))
        · cases hs
      case lneg =>
        (have hn : n = 1 := hn); subst hn
        simp only [xex] at hs
        split at hs
        · exact lv_lneg hx hb hd (pure (xnx_inj hs))
        · cases hs
      case lshl =>
        (have hn : n = 1 := hn); subst hn
        simp only [xex] at hs
        split at hs
        · exact lv_lshl hx hb hd rfl (pure (xnx_inj hs))
        · cases hs
      case lshr =>
        (have hn : n = 1 := hn); subst hn
        simp only [xex] at hs
        split at hs
        · exact lv_lshr hx hb hd rfl (pure (xnx_inj hs))
        · cases hs
      case lcmp =>
        (have hn : n = 1 := hn); subst hn
        simp only [xex] at hs
        split at hs
        · exact W.lcmp hx hb hd (pure (xnx_inj hs))
        · cases hs
      case i2l =>
        (have hn : n = 1 := hn); subst hn
        simp only [xex] at hs
        split at hs
        · exact lv_i2l hx hb hd rfl (pure (xnx_inj hs))
        · cases hs
      case l2i =>
        (have hn : n = 1 := hn); subst hn
        simp only [xex] at hs
        split at hs
        · exact lv_l2i hx hb hd rfl (pure (xnx_inj hs))
        · cases hs
      case dup =>
        (have hn : n = 1 := hn); subst hn
        simp only [xex] at hs
        split at hs
        · split at hs
          · rename_i hv; exact lv_dup hx hb hd (by rw [xtv_cat]; exact hv) (pure (xnx_inj hs))
          · cases hs
        · cases hs
      case pop =>
        (have hn : n = 1 := hn); subst hn
        simp only [xex] at hs
        split at hs
        · split at hs
          · rename_i hv; exact lv_pop hx hb hd (by rw [xtv_cat]; exact hv) (pure (xnx_inj hs))
          · cases hs
        · cases hs
      case dup2 =>
        (have hn : n = 1 := hn); subst hn
        simp only [xex] at hs
        split at hs
        · split at hs
          · rename_i hv; exact lv_dup2_11 hx hb hd (by rw [xtv_cat]; exact hv.1) (by rw [xtv_cat]; exact hv.2) (pure (xnx_inj hs))
          · cases hs
        · cases hs
      case goto off =>
        (have hn : n = 3 := hn); subst hn
        obtain ⟨h1, h2⟩ := xjp_inv hs
        exact lv_goto hx hb hd h1 (pure h2)
      case ifCond cd off =>
        have hn : n = 3 := hn
        subst hn
        simp only [xex] at hs
        split at hs
        · rename_i x r
          split at hs
          · rename_i h0
            have h1 : (pc : Int) + off = ((((pc : Int) + off).toNat : Nat) : Int) := by omega
            split at hs
            · rename_i hcm
              have h2 := xnx_inj hs
              cases cd
              case eq => exact lv_if_eq hx hb hd h1 (fun _ => pure h2) (fun q => absurd q (by simpa [xcmp] using hcm))
              case ne => exact lv_if_ne hx hb hd h1 (fun _ => pure h2) (fun q => absurd q (by simpa [xcmp] using hcm))
              case lt => exact lv_if_lt hx hb hd h1 (fun _ => pure h2) (fun q => absurd q (by simpa [xcmp] using hcm))
              case ge => exact lv_if_ge hx hb hd h1 (fun _ => pure h2) (fun q => absurd q (by simpa [xcmp] using hcm))
              case gt => exact lv_if_gt hx hb hd h1 (fun _ => pure h2) (fun q => absurd q (by simpa [xcmp] using hcm))
              case le => exact lv_if_le hx hb hd h1 (fun _ => pure h2) (fun q => absurd q (by simpa [xcmp] using hcm))
            · rename_i hcm
              have h2 := xnx_inj hs
              cases cd
              case eq => exact lv_if_eq hx hb hd h1 (fun q => absurd q (by simpa [xcmp] using hcm)) (fun _ => pure h2)
              case ne => exact lv_if_ne hx hb hd h1 (fun q => absurd q (by simpa [xcmp] using hcm)) (fun _ => pure h2)
              case lt => exact lv_if_lt hx hb hd h1 (fun q => absurd q (by simpa [xcmp] using hcm)) (fun _ => pure h2)
              case ge => exact lv_if_ge hx hb hd h1 (fun q => absurd q (by simpa [xcmp] using hcm)) (fun _ => pure h2)
              case gt => exact lv_if_gt hx hb hd h1 (fun q => absurd q (by simpa [xcmp] using hcm)) (fun _ => pure h2)
              case le => exact lv_if_le hx hb hd h1 (fun q => absurd q (by simpa [xcmp] using hcm)) (fun _ => pure h2)
          · cases hs
        · cases hs
      case if_icmp cd off =>
        have hn : n = 3 := hn
        subst hn
        simp only [xex] at hs
        split at hs
        · rename_i y x r
          split at hs
          · rename_i h0
            have h1 : (pc : Int) + off = ((((pc : Int) + off).toNat : Nat) : Int) := by omega
            split at hs
            · rename_i hcm
              have h2 := xnx_inj hs
              cases cd
              case eq => exact lv_icmp_eq hx hb hd h1 (fun _ => pure h2) (fun q => absurd q (by simpa [xcmp] using hcm))
              case ne => exact lv_icmp_ne hx hb hd h1 (fun _ => pure h2) (fun q => absurd q (by simpa [xcmp] using hcm))
              case lt => exact lv_icmp_lt hx hb hd h1 (fun _ => pure h2) (fun q => absurd q (by simpa [xcmp] using hcm))
              case ge => exact lv_icmp_ge hx hb hd h1 (fun _ => pure h2) (fun q => absurd q (by simpa [xcmp] using hcm))
              case gt => exact lv_icmp_gt hx hb hd h1 (fun _ => pure h2) (fun q => absurd q (by simpa [xcmp] using hcm))
              case le => exact lv_icmp_le hx hb hd h1 (fun _ => pure h2) (fun q => absurd q (by simpa [xcmp] using hcm))
            · rename_i hcm
              have h2 := xnx_inj hs
              cases cd
              case eq => exact lv_icmp_eq hx hb hd h1 (fun q => absurd q (by simpa [xcmp] using hcm)) (fun _ => pure h2)
              case ne => exact lv_icmp_ne hx hb hd h1 (fun q => absurd q (by simpa [xcmp] using hcm)) (fun _ => pure h2)
              case lt => exact lv_icmp_lt hx hb hd h1 (fun q => absurd q (by simpa [xcmp] using hcm)) (fun _ => pure h2)
              case ge => exact lv_icmp_ge hx hb hd h1 (fun q => absurd q (by simpa [xcmp] using hcm)) (fun _ => pure h2)
              case gt => exact lv_icmp_gt hx hb hd h1 (fun q => absurd q (by simpa [xcmp] using hcm)) (fun _ => pure h2)
              case le => exact lv_icmp_le hx hb hd h1 (fun q => absurd q (by simpa [xcmp] using hcm)) (fun _ => pure h2)
          · cases hs
        · cases hs
      case tableswitch d lo hi offs =>
        simp only [xex] at hs
        split at hs
        · rename_i x r
          split at hs
          · rename_i hlen
            obtain ⟨h1, h2⟩ := xtt_sim hs
            have h3 := xnum_off (x := x.toInt) (d := d) offs.toList lo
            have hp : (fr'.1, ls, r, S) = fr' := by rw [← h2]
            by_cases hout : x.toInt < lo ∨ hi < x.toInt
            · rw [h3.1 (by omega)] at h1
              exact lv_tableOut hx hb hd hout h1 (pure hp)
            · have h4 := h3.2 (by omega) (by omega)
              rw [Array.getElem?_toList] at h4
              exact lv_tableIn hx hb hd (by omega) (by omega) h4 h1 (pure hp)
          · cases hs
        · cases hs
      case lookupswitch d ps =>
        simp only [xex] at hs
        split at hs
        · rename_i x r
          split at hs
          · rename_i hps
            obtain ⟨h1, h2⟩ := xtt_sim hs
            exact lv_lookup hx hb hd hps rfl h1 (pure (by rw [← h2]))
          · cases hs
        · cases hs
      case getfield j =>
        have hn : n = 3 := hn
        subst hn
        simp only [xex] at hs
        split at hs
        · obtain ⟨⟨ci, f, b, dt, pl⟩, h1, h2⟩ := xbp hs
          obtain ⟨v, h3, h4⟩ := xbp h2
          exact xg_get F' hH hd h1 h3 (pure (xnx_inj h4))
        · cases hs
      case putfield j =>
        have hn : n = 3 := hn
        subst hn
        simp only [xex] at hs
        split at hs
        · obtain ⟨⟨ci, f, b, dt, pl⟩, h1, h2⟩ := xbp hs
          dsimp only at h2
          split at h2
          · cases h2
          · rename_i hbd
            obtain ⟨S', h3, h4⟩ := xbp h2
            simp only [not_or, Bool.not_eq_true, Bool.not_eq_false] at hbd
            obtain ⟨hb', hd'⟩ := hbd
            subst hb'; subst hd'
            have e3 : S'.1 = S.1 := by
              unfold xpf at h3
              split at h3
              · split at h3
                · split at h3
                  · split at h3
                    · cases h3
                    · cases h3; rfl
                  · cases h3
                · cases h3
              · cases h3
            exact xg_put F' hH hL hd h1 h3 (pureS (xnx_inj h4) (by rw [e3]) (by rw [e3]))
        · obtain ⟨⟨ci, f, b, dt, pl⟩, h1, h2⟩ := xbp hs
          dsimp only at h2
          split at h2
          · cases h2
          · rename_i hbd
            obtain ⟨S', h3, h4⟩ := xbp h2
            simp only [not_or, Bool.not_eq_true, Decidable.not_not] at hbd
            obtain ⟨hb', hd', hi', hc'⟩ := hbd
            subst hb'; subst hd'
            have e3 : S'.1.length = S.1.length ∧ xsz S'.1 = xsz S.1 := by
              unfold xpr at h3
              split at h3
              · rename_i t0 n0 vs0 hS0
                split at h3
                · split at h3
                  · cases h3
                    refine ⟨by simp, ?_⟩
                    unfold xsz
                    rw [List.map_set]
                    congr 1
                    exact xset_self (by rw [List.getElem?_map, hS0]; rfl)
                  · cases h3
                · cases h3
              · cases h3
            exact xg_putF F' hH hL hd h1 hi' hc' h3 (pureS (xnx_inj h4) e3.1 e3.2)
        · cases hs
      case iaload =>
        have hn : n = 1 := hn
        subst hn
        simp only [xex] at hs
        split at hs
        · obtain ⟨v, h1, h2⟩ := xbp hs
          exact xg_iald F' hH hd h1 (pure (xnx_inj h2))
        · split at hs
          · rename_i hin
            obtain ⟨scr, q1, q2, q3, q4, q5⟩ := hkw.2.2.2.1.1
            have hin := xin_iff.mp hin
            have hlt : _ < X.1 := Nat.not_le.mp fun q => hin (Or.inr q)
            exact W.iald hx hb (by rw [hH.2.2 _ hkw.2.2.2.1.2]; exact q1) q2 q3 (by rw [q4]; exact hin) (q5 _ hlt) rfl rfl hd (pure (xnx_inj hs))
          · cases hs
        · cases hs
      case baload =>
        have hn : n = 1 := hn
        subst hn
        simp only [xex] at hs
        split at hs
        · obtain ⟨v, h1, h2⟩ := xbp hs
          exact xg_zald F' hH hd h1 (pure (xnx_inj h2))
        · cases hs
      case iastore =>
        have hn : n = 1 := hn
        subst hn
        simp only [xex] at hs
        split at hs
        · obtain ⟨S', h1, h2⟩ := xbp hs
          have e3 : S'.1 = S.1 := by obtain ⟨_, _, _, _, rfl⟩ := xas_inv h1; rfl
          exact xg_iast F' hH hL hd h1 (pureS (xnx_inj h2) (by rw [e3]) (by rw [e3]))
        · cases hs
      case bastore =>
        have hn : n = 1 := hn
        subst hn
        simp only [xex] at hs
        split at hs
        · split at hs
          · rename_i h01
            obtain ⟨S', h1, h2⟩ := xbp hs
            have e3 : S'.1 = S.1 := by obtain ⟨_, _, _, _, rfl⟩ := xas_inv h1; rfl
            exact xg_zast F' hH hL hd h01 h1 (pureS (xnx_inj h2) (by rw [e3]) (by rw [e3]))
          · cases hs
        · cases hs
      case aaload =>
        have hn : n = 1 := hn
        subst hn
        simp only [xex] at hs
        split at hs
        · obtain ⟨v, h1, h2⟩ := xbp hs
          exact xg_aald F' hH hd h1 (pure (xnx_inj h2))
        · cases hs
      case aastore =>
        have hn : n = 1 := hn
        subst hn
        simp only [xex] at hs
        split at hs
        · obtain ⟨S', h1, h2⟩ := xbp hs
          have e3 : S'.1.length = S.1.length ∧ xsz S'.1 = xsz S.1 := by
            unfold xaw at h1
            split at h1
            · rename_i t0 n0 vs0 hS0
              split at h1
              · split at h1
                · split at h1
                  · cases h1
                    refine ⟨by simp, ?_⟩
                    unfold xsz
                    rw [List.map_set]
                    congr 1
                    exact xset_self (by rw [List.getElem?_map, hS0]; rfl)
                  · cases h1
                · cases h1
              · cases h1
            · cases h1
          exact xg_aast F' hH hL hd h1 (pureS (xnx_inj h2) e3.1 e3.2)
        · cases hs
      case arraylength =>
        have hn : n = 1 := hn
        subst hn
        simp only [xex] at hs
        split at hs
        · obtain ⟨v, h1, h2⟩ := xbp hs
          exact xg_alen F' hH hd h1 (pure (xnx_inj h2))
        · obtain ⟨scr, q1, q2, q3, q4, q5⟩ := hkw.2.2.2.1.1
          exact W.alen (n := Int32.ofNat X.1) hx hb (by rw [hH.2.2 _ hkw.2.2.2.1.2]; exact q1) q2 (by rw [q4] <;> rfl) rfl rfl hd (pure (xnx_inj hs))
        · cases hs
      case newarray ty =>
        have hn : n = 2 := hn
        subst hn
        simp only [xex] at hs
        split at hs
        · split at hs
          · obtain ⟨S', h1, h2⟩ := xbp hs
            cases xnx_inj h2
            have e1 : S'.1.length = S.1.length + 1 := by
              unfold xnwa at h1
              split at h1
              · cases h1; simp
              · cases h1
            dsimp only at hc hz kk
            exact xg_newI F' hH hd h1 (by rw [e1] at hc; omega) hz (fun H' e2 hH' => kk H' locs arr _ _ (by rw [e1]; omega) rfl hH' hL hcap)
          · obtain ⟨S', h1, h2⟩ := xbp hs
            cases xnx_inj h2
            have e1 : S'.1.length = S.1.length + 1 := by
              unfold xnwa at h1
              split at h1
              · cases h1; simp
              · cases h1
            dsimp only at hc hz kk
            exact xg_newZ F' hH hd h1 (by rw [e1] at hc; omega) hz (fun H' e2 hH' => kk H' locs arr _ _ (by rw [e1]; omega) rfl hH' hL hcap)
          · cases hs
        · cases hs
      case anewarray j =>
        have hn : n = 3 := hn
        subst hn
        simp only [xex] at hs
        split at hs
        · obtain ⟨⟨ci, pl⟩, h0, h00⟩ := xbp hs
          dsimp only at h00
          split at h00
          · rename_i hci
            subst hci
            obtain ⟨S', h1, h2⟩ := xbp h00
            cases xnx_inj h2
            have e1 : S'.1.length = S.1.length + 1 := by
              unfold xnwq at h1
              split at h1
              · cases h1; simp
              · cases h1
            dsimp only at hc hz kk
            exact xg_newQ F' hH hd h0 h1 (by rw [e1] at hc; omega) hz (fun H' e2 hH' => kk H' locs arr _ _ (by rw [e1]; omega) rfl hH' hL hcap)
          · cases h00
        · cases hs
      case new j =>
        have hn : n = 3 := hn
        subst hn
        simp only [xex] at hs
        obtain ⟨⟨ci, pl⟩, h0, h00⟩ := xbp hs
        obtain ⟨S', h1, h2⟩ := xbp h00
        cases xnx_inj h2
        have e1 : S'.1.length = S.1.length + 1 := by
          unfold xnwo at h1
          split at h1
          · cases h1; simp
          · cases h1
        dsimp only at hc hz kk
        exact xg_newo F' hH hL hd h0 h1 (by rw [e1] at hc; omega) hz (fun H' e2 hH' => kk H' locs arr _ _ (by rw [e1]; omega) rfl hH' hL hcap)
      case invokestatic j =>
        have hn : n = 3 := hn
        subst hn
        simp only [xex] at hs
        obtain ⟨⟨kind, jj, nn, p1, p2, p3⟩, h1, h2⟩ := xbp hs
        dsimp only at h2
        split at h2
        · rename_i hks
          have h3 := h2
          unfold xcall at h3
          split at h3
          · obtain ⟨w, h4, h5⟩ := xbp h3
            split at h5 <;> cases h5
          · obtain ⟨w, h4, h5⟩ := xbp h3
            split at h5 <;> cases h5
          · cases hks
          · cases hks
          · cases hks
          · cases hks
          · split at h3
            · split at h3
              · rename_i hq
                obtain ⟨S', h4, h5⟩ := xbp h3
                have e3 : S'.1 = S.1 := by
                  unfold xacp at h4
                  split at h4
                  · split at h4
                    · cases h4; rfl
                    · cases h4
                  · cases h4
                exact xg_copy F' hH hL ha1 hd h1 hq.1 hq.2.1 hq.2.2 h4 (pureS (xnx_inj h5) (by rw [e3]) (by rw [e3]))
              · cases h3
            · cases h3
          · cases hks
          · split at h3
            · split at h3
              · rename_i hq
                have hw := List.all_eq_true.mp xk_mth _ (xlook h1)
                simp only [xkm, Bool.and_eq_true] at hw
                have h8 := xcats (base := base) (ex := ex)
                refine va_mabs hx hb (by rw [hml, ha1]) hown (hts _ (xw_in hw.1)) (hts _ (xw_in hw.2)) (hts _ (xw_in xk_mat)) (hts _ xk_abs) (by omega) (by rw [h8]; omega) (by omega) (by omega) hd ?_
                exact pure (xnx_inj h3)
              · cases h3
            · cases h3
          · split at h3
            · split at h3
              · rename_i hq
                have hw := List.all_eq_true.mp xk_mth _ (xlook h1)
                simp only [xkm, Bool.and_eq_true] at hw
                have h8 := xcats (base := base) (ex := ex)
                refine va_mabs_long hx hb (by rw [hml, ha1]) hown (hts _ (xw_in hw.1)) (hts _ (xw_in hw.2)) (hts _ (xw_in xk_mat)) (hts _ xk_absl) (by omega) (by rw [h8]; omega) (by omega) (by omega) hd ?_
                exact pure (xnx_inj h3)
              · cases h3
            · cases h3
          · split at h3
            · split at h3
              · rename_i hq
                have hw := List.all_eq_true.mp xk_mth _ (xlook h1)
                simp only [xkm, Bool.and_eq_true] at hw
                have h8 := xcats (base := base) (ex := ex)
                refine va_mmax hx hb (by rw [hml, ha1]) hown (hts _ (xw_in hw.1)) (hts _ (xw_in hw.2)) (hts _ (xw_in xk_mat)) (hts _ xk_max) (by omega) (by rw [h8]; omega) (by omega) (by omega) hd ?_
                exact pure (xnx_inj h3)
              · cases h3
            · cases h3
          · split at h3
            · split at h3
              · rename_i hq
                have hw := List.all_eq_true.mp xk_mth _ (xlook h1)
                simp only [xkm, Bool.and_eq_true] at hw
                have h8 := xcats (base := base) (ex := ex)
                refine va_mmin hx hb (by rw [hml, ha1]) hown (hts _ (xw_in hw.1)) (hts _ (xw_in hw.2)) (hts _ (xw_in xk_mat)) (hts _ xk_min) (by omega) (by rw [h8]; omega) (by omega) (by omega) hd ?_
                exact pure (xnx_inj h3)
              · cases h3
            · cases h3
          · cases h3
        · cases h2
      case invokevirtual j =>
        have hn : n = 3 := hn
        subst hn
        simp only [xex] at hs
        obtain ⟨⟨kind, jj, nn, p1, p2, p3⟩, h1, h2⟩ := xbp hs
        dsimp only at h2
        split at h2
        · rename_i hks
          have h3 := h2
          unfold xcall at h3
          split at h3
          · cases hks
          · cases hks
          · obtain ⟨w, h4, h5⟩ := xbp h3
            split at h5
            · split at h5 <;> cases h5
            · cases h5
          · cases hks
          · cases hks
          · cases hks
          · cases hks
          · split at h3
            · split at h3
              · rename_i hq
                obtain ⟨v, h4, h5⟩ := xbp h3
                exact hZ.2 _ _ _ _ _ _ _ _ _ _ _ _ _ _ _ _ _ _ _ _ _ _ _ _ _ _ _ F' hH hL ha1 hd h1 hq.1 hq.2.1 hq.2.2 h4 (by omega) (by omega) (pureS (xnx_inj h5) rfl rfl)
              · cases h3
            · cases h3
          · cases hks
          · cases hks
          · cases hks
          · cases hks
          · cases h3
        · cases h2
      case invokespecial j =>
        have hn : n = 3 := hn
        subst hn
        simp only [xex] at hs
        obtain ⟨⟨kind, jj, nn, p1, p2, p3⟩, h1, h2⟩ := xbp hs
        dsimp only at h2
        split at h2
        · rename_i hks
          have h3 := h2
          unfold xcall at h3
          split at h3
          · cases hks
          · cases hks
          · cases hks
          · obtain ⟨w, h4, h5⟩ := xbp h3
            split at h5
            · split at h5 <;> cases h5
            · cases h5
          · obtain ⟨w, h4, h5⟩ := xbp h3
            split at h5
            · split at h5 <;> cases h5
            · cases h5
          · split at h3
            · split at h3
              · rename_i hq
                have hw := List.all_eq_true.mp xk_mth _ (xlook h1)
                simp only [xkm, Bool.and_eq_true] at hw
                have h8 := xcats (base := base) (ex := ex)
                refine W.objInit hx hb hown (hts _ (xw_in hw.1)) (hts _ (xw_in hw.2)) (hts _ xk_obj) rfl (by rw [hml]; exact ha1) rfl hd (by omega) (by rw [h8]; show 2 * 0 + _ + 12 ≤ _; omega) ?_
                exact pure (xnx_inj h3)
              · cases h3
            · cases h3
          · cases hks
          · cases hks
          · cases hks
          · cases hks
          · cases hks
          · cases hks
          · cases h3
        · cases h2
      case ireturn =>
        simp only [xex, xrt] at hs
        repeat' split at hs
        all_goals cases hs
      case lreturn =>
        simp only [xex] at hs
        repeat' split at hs
        all_goals cases hs
      case areturn =>
        simp only [xex] at hs
        repeat' split at hs
        all_goals cases hs
      case return_ =>
        simp only [xex] at hs
        repeat' split at hs
        all_goals cases hs
      all_goals cases hs
    · cases hs
  · cases hs
end XT
end
section
theorem xtt_inl {pc : Nat} {x : Int32} {ls st : List Value} {S : xS} {d : Int} {r : xR} {ps : List (Int × Int)} (h : xtt pc x ls st S d ps = some r) : ∃ fr : xF, r = .inl fr ∧ fr.2.2.2 = S := by
  induction ps with
  | nil =>
    unfold xtt xjp at h
    split at h
    · exact ⟨_, (Option.some.inj h).symm, rfl⟩
    · cases h
  | cons q t ih =>
    obtain ⟨a, o⟩ := q
    rw [xtt] at h
    split at h
    · unfold xjp at h
      split at h
      · exact ⟨_, (Option.some.inj h).symm, rfl⟩
      · cases h
    · exact ih h
theorem xpop_inv : ∀ (n : Nat) (acc st as r : List Value), xpop n acc st = some (as, r) → ∃ bs, as = bs ++ acc ∧ bs.length = n ∧ st = bs.reverse ++ r
  | 0, acc, st, as, r, h => by cases h; exact ⟨[], rfl, rfl, rfl⟩
  | n + 1, acc, [], as, r, h => by cases h
  | n + 1, acc, v :: st, as, r, h => by
    obtain ⟨bs, e1, e2, e3⟩ := xpop_inv n (v :: acc) st as r h
    refine ⟨bs ++ [v], by simp [e1], by simp [e2], by simp [e3]⟩
theorem xpf_len {S S' : xS} {k ci j : Nat} {x : Int32} (h : xpf S k ci j x = some S') : S'.1 = S.1 := by
  unfold xpf at h
  repeat' split at h
  all_goals first | cases h; done | (cases h; rfl)
theorem xas_len {S S' : xS} {k t : Nat} {i x : Int32} (h : xas S k t i x = some S') : S'.1 = S.1 := by
  unfold xas at h
  repeat' split at h
  all_goals first | cases h; done | (cases h; rfl)
theorem xacp_len {S S' : xS} {k0 k1 : Nat} {sp dp n : Int32} (h : xacp S k0 k1 sp dp n = some S') : S'.1 = S.1 := by
  unfold xacp at h
  repeat' split at h
  all_goals first | cases h; done | (cases h; rfl)
theorem xpr_len {S S' : xS} {k ci j a : Nat} (h : xpr S k ci j a = some S') : S'.1.length = S.1.length ∧ xsz S'.1 = xsz S.1 := by
  unfold xpr at h
  split at h
  · rename_i t0 n0 vs0 hS0
    split at h
    · split at h
      · cases h
        refine ⟨by simp, ?_⟩
        unfold xsz
        rw [List.map_set]
        congr 1
        exact xset_self (by rw [List.getElem?_map, hS0]; rfl)
      · cases h
    · cases h
  · cases h
theorem xaw_len {S S' : xS} {k a : Nat} {i : Int32} (h1 : xaw S k i a = some S') : S'.1.length = S.1.length ∧ xsz S'.1 = xsz S.1 := by
  unfold xaw at h1
  split at h1
  · rename_i t0 n0 vs0 hS0
    split at h1
    · split at h1
      · split at h1
        · cases h1
          refine ⟨by simp, ?_⟩
          unfold xsz
          rw [List.map_set]
          congr 1
          exact xset_self (by rw [List.getElem?_map, hS0]; rfl)
        · cases h1
      · cases h1
    · cases h1
  · cases h1
theorem xnwo_len {S S' : xS} {ci : Nat} (h : xnwo S ci = some S') : S.1.length ≤ S'.1.length ∧ xsz S.1 ≤ xsz S'.1 := by
  unfold xnwo at h
  split at h
  · cases h; exact ⟨by simp, by rw [xsz_app]; omega⟩
  · cases h
theorem xnwa_len {S S' : xS} {t : Nat} {n : Int32} (h : xnwa S t n = some S') : S.1.length ≤ S'.1.length ∧ xsz S.1 ≤ xsz S'.1 := by
  unfold xnwa at h
  split at h
  · cases h; exact ⟨by simp, by rw [xsz_app]; omega⟩
  · cases h
theorem xnwq_len {S S' : xS} {n : Int32} (h : xnwq S n = some S') : S.1.length ≤ S'.1.length ∧ xsz S.1 ≤ xsz S'.1 := by
  unfold xnwq at h
  split at h
  · cases h; exact ⟨by simp, by rw [xsz_app]; omega⟩
  · cases h
theorem xle2 {S S' : xS} (h : S'.1 = S.1) : S.1.length ≤ S'.1.length ∧ xsz S.1 ≤ xsz S'.1 := by rw [h]; exact ⟨Nat.le_refl _, Nat.le_refl _⟩
theorem xle3 {S S' : xS} (h : S'.1.length = S.1.length ∧ xsz S'.1 = xsz S.1) : S.1.length ≤ S'.1.length ∧ xsz S.1 ≤ xsz S'.1 := by rw [h.1, h.2]; exact ⟨Nat.le_refl _, Nat.le_refl _⟩
def xG (S : xS) (r : xR) : Prop := ∃ fr' : xF, r = .inl fr' ∧ S.1.length ≤ fr'.2.2.2.1.length ∧ xsz S.1 ≤ xsz fr'.2.2.2.1
theorem xG_nx {a : Nat} {b d : List Value} {S S' : xS} {r : xR} (h : xnx a b d S' = some r) (hs : S.1.length ≤ S'.1.length ∧ xsz S.1 ≤ xsz S'.1) : xG S r := ⟨_, (Option.some.inj h).symm, hs⟩
theorem xG_n {a : Nat} {b d : List Value} {S : xS} {r : xR} (h : xnx a b d S = some r) : xG S r := xG_nx h ⟨Nat.le_refl _, Nat.le_refl _⟩
theorem xG_jp {pc : Nat} {off : Int} {ls st : List Value} {S : xS} {r : xR} (h : xjp pc off ls st S = some r) : xG S r := by
  unfold xjp at h
  split at h
  · exact xG_n h
  · cases h
theorem xG_bi {f : Int32 → Int32 → Int32} {pc : Nat} {ls st : List Value} {S : xS} {r : xR} (h : xbi f pc ls st S = some r) : xG S r := by
  unfold xbi at h
  split at h
  · exact xG_n h
  · cases h
theorem xG_bl {f : Int64 → Int64 → Int64} {pc : Nat} {ls st : List Value} {S : xS} {r : xR} (h : xbl f pc ls st S = some r) : xG S r := by
  unfold xbl at h
  split at h
  · exact xG_n h
  · cases h
theorem xG_ld {ls : List Value} {i pc : Nat} {st : List Value} {S : xS} {ok : Value → Bool} {r : xR} (h : xld ls i pc st S ok = some r) : xG S r := by
  unfold xld at h
  split at h
  · split at h
    · exact xG_n h
    · cases h
  · cases h
theorem xG_sto {ls : List Value} {i pc : Nat} {st : List Value} {S : xS} {ok : Value → Bool} {r : xR} (h : xsto ls i pc st S ok = some r) : xG S r := by
  unfold xsto at h
  split at h
  · split at h
    · exact xG_n h
    · cases h
  · cases h
theorem xG_sto2 {ls : List Value} {i pc : Nat} {st : List Value} {S : xS} {r : xR} (h : xsto2 ls i pc st S = some r) : xG S r := by
  unfold xsto2 at h
  split at h
  · split at h
    · exact xG_n h
    · cases h
  · cases h
theorem xG_tt {pc : Nat} {x : Int32} {ls st : List Value} {S : xS} {d : Int} {r : xR} {ps : List (Int × Int)} (h : xtt pc x ls st S d ps = some r) : xG S r := by
  obtain ⟨fr, e, e2⟩ := xtt_inl h
  exact ⟨fr, e, by rw [e2]; exact ⟨Nat.le_refl _, Nat.le_refl _⟩⟩
def xplain (i : Instr) : Bool := match i with
  | .ireturn => false
  | .lreturn => false
  | .areturn => false
  | .return_ => false
  | .invokestatic _ => false
  | .invokevirtual _ => false
  | .invokespecial _ => false
  | _ => true
set_option maxHeartbeats 4000000 in
theorem xex_cls {X : xX} {id : Nat} {i : Instr} {pc : Nat} {ls st : List Value} {S : xS} {r : xR} (hi : xplain i = true) (h : xex X id i pc ls st S = some r) : xG S r := by
  cases i
  case ireturn => cases hi
  case lreturn => cases hi
  case areturn => cases hi
  case return_ => cases hi
  case invokestatic j => cases hi
  case invokevirtual j => cases hi
  case invokespecial j => cases hi
  case tableswitch d lo hi offs =>
    simp only [xex] at h
    split at h
    · split at h
      · exact xG_tt h
      · cases h
    · cases h
  case lookupswitch d ps =>
    simp only [xex] at h
    split at h
    · split at h
      · exact xG_tt h
      · cases h
    · cases h
  case putfield j =>
    simp only [xex] at h
    split at h
    · obtain ⟨f, h1, h2⟩ := xbp h
      split at h2
      · cases h2
      · obtain ⟨S', h3, h4⟩ := xbp h2
        exact xG_nx h4 (xle2 (xpf_len h3))
    · obtain ⟨f, h1, h2⟩ := xbp h
      split at h2
      · cases h2
      · obtain ⟨S', h3, h4⟩ := xbp h2
        exact xG_nx h4 (xle3 (xpr_len h3))
    · cases h
  case iastore =>
    simp only [xex] at h
    split at h
    · obtain ⟨S', h3, h4⟩ := xbp h
      exact xG_nx h4 (xle2 (xas_len h3))
    · cases h
  case bastore =>
    simp only [xex] at h
    split at h
    · split at h
      · obtain ⟨S', h3, h4⟩ := xbp h
        exact xG_nx h4 (xle2 (xas_len h3))
      · cases h
    · cases h
  case aastore =>
    simp only [xex] at h
    split at h
    · obtain ⟨S', h3, h4⟩ := xbp h
      exact xG_nx h4 (xle3 (xaw_len h3))
    · cases h
  case newarray t =>
    simp only [xex] at h
    split at h
    · split at h
      · obtain ⟨S', h3, h4⟩ := xbp h
        exact xG_nx h4 (xnwa_len h3)
      · obtain ⟨S', h3, h4⟩ := xbp h
        exact xG_nx h4 (xnwa_len h3)
      · cases h
    · cases h
  case anewarray j =>
    simp only [xex] at h
    split at h
    · obtain ⟨w, h1, h2⟩ := xbp h
      split at h2
      · obtain ⟨S', h3, h4⟩ := xbp h2
        exact xG_nx h4 (xnwq_len h3)
      · cases h2
    · cases h
  case new j =>
    simp only [xex] at h
    obtain ⟨w, h1, h2⟩ := xbp h
    obtain ⟨S', h3, h4⟩ := xbp h2
    exact xG_nx h4 (xnwo_len h3)
  case ldc j =>
    simp only [xex] at h
    obtain ⟨w, h1, h2⟩ := xbp h
    split at h2
    · exact xG_n h2
    · exact xG_n h2
    · cases h2
  case ldc2_w j =>
    simp only [xex] at h
    obtain ⟨w, h1, h2⟩ := xbp h
    split at h2
    · exact xG_n h2
    · cases h2
  case getfield j =>
    simp only [xex] at h
    split at h
    · obtain ⟨f, h1, h2⟩ := xbp h
      obtain ⟨v, h3, h4⟩ := xbp h2
      exact xG_n h4
    · cases h
  case iaload =>
    simp only [xex] at h
    split at h
    · obtain ⟨v, h3, h4⟩ := xbp h
      exact xG_n h4
    · split at h
      · exact xG_n h
      · cases h
    · cases h
  case baload =>
    simp only [xex] at h
    split at h
    · obtain ⟨v, h3, h4⟩ := xbp h
      exact xG_n h4
    · cases h
  case aaload =>
    simp only [xex] at h
    split at h
    · obtain ⟨v, h3, h4⟩ := xbp h
      exact xG_n h4
    · cases h
  case arraylength =>
    simp only [xex] at h
    split at h
    · obtain ⟨v, h3, h4⟩ := xbp h
      exact xG_n h4
    · exact xG_n h
    · cases h
  case iload j => exact xG_ld h
  case iload_n j => exact xG_ld h
  case lload j => exact xG_ld h
  case lload_n j => exact xG_ld h
  case aload j => exact xG_ld h
  case aload_n j => exact xG_ld h
  case istore j => exact xG_sto h
  case istore_n j => exact xG_sto h
  case astore j => exact xG_sto h
  case astore_n j => exact xG_sto h
  case lstore j => exact xG_sto2 h
  case lstore_n j => exact xG_sto2 h
  case goto off => exact xG_jp h
  case ifCond c off =>
    simp only [xex] at h
    split at h
    · split at h
      · split at h
        · exact xG_n h
        · exact xG_n h
      · cases h
    · cases h
  case if_icmp c off =>
    simp only [xex] at h
    split at h
    · split at h
      · split at h
        · exact xG_n h
        · exact xG_n h
      · cases h
    · cases h
  case iconst k => exact xG_n h
  case bipush k => exact xG_n h
  case sipush k => exact xG_n h
  case lconst k => exact xG_n h
  case iinc j k =>
    simp only [xex] at h
    split at h
    · exact xG_n h
    · cases h
  case iadd => exact xG_bi h
  case isub => exact xG_bi h
  case imul => exact xG_bi h
  case iand => exact xG_bi h
  case ior => exact xG_bi h
  case ishl => exact xG_bi h
  case ishr => exact xG_bi h
  case ladd => exact xG_bl h
  case lsub => exact xG_bl h
  case lmul => exact xG_bl h
  case land => exact xG_bl h
  case lor => exact xG_bl h
  case idiv =>
    simp only [xex] at h
    split at h
    · split at h
      · cases h
      · exact xG_n h
    · cases h
  case irem =>
    simp only [xex] at h
    split at h
    · split at h
      · cases h
      · exact xG_n h
    · cases h
  case ldiv =>
    simp only [xex] at h
    split at h
    · split at h
      · cases h
      · exact xG_n h
    · cases h
  case lrem =>
    simp only [xex] at h
    split at h
    · split at h
      · cases h
      · exact xG_n h
    · cases h
  case ineg =>
    simp only [xex] at h
    split at h
    · exact xG_n h
    · cases h
  case lneg =>
    simp only [xex] at h
    split at h
    · exact xG_n h
    · cases h
  case lshl =>
    simp only [xex] at h
    split at h
    · exact xG_n h
    · cases h
  case lshr =>
    simp only [xex] at h
    split at h
    · exact xG_n h
    · cases h
  case lcmp =>
    simp only [xex] at h
    split at h
    · exact xG_n h
    · cases h
  case i2l =>
    simp only [xex] at h
    split at h
    · exact xG_n h
    · cases h
  case l2i =>
    simp only [xex] at h
    split at h
    · exact xG_n h
    · cases h
  case dup =>
    simp only [xex] at h
    split at h
    · split at h
      · exact xG_n h
      · cases h
    · cases h
  case pop =>
    simp only [xex] at h
    split at h
    · split at h
      · exact xG_n h
      · cases h
    · cases h
  case dup2 =>
    simp only [xex] at h
    split at h
    · split at h
      · exact xG_n h
      · cases h
    · cases h
  all_goals cases h
theorem xcall_cls {id pc : Nat} {ls st : List Value} {S : xS} {kind j n : Nat} {r : xR} (h : xcall id pc ls st S kind j n = some r) : xG S r ∨ ∃ as r', r = .inr (.inr (j, as, (pc + 3, ls, r', S))) := by
  unfold xcall at h
  split at h
  · obtain ⟨w, h1, h2⟩ := xbp h
    split at h2
    · exact Or.inr ⟨_, _, (Option.some.inj h2).symm⟩
    · cases h2
  · obtain ⟨w, h1, h2⟩ := xbp h
    split at h2
    · exact Or.inr ⟨_, _, (Option.some.inj h2).symm⟩
    · cases h2
  · obtain ⟨w, h1, h2⟩ := xbp h
    split at h2
    · split at h2
      · exact Or.inr ⟨_, _, (Option.some.inj h2).symm⟩
      · cases h2
    · cases h2
  · obtain ⟨w, h1, h2⟩ := xbp h
    split at h2
    · split at h2
      · exact Or.inr ⟨_, _, (Option.some.inj h2).symm⟩
      · cases h2
    · cases h2
  · obtain ⟨w, h1, h2⟩ := xbp h
    split at h2
    · split at h2
      · exact Or.inr ⟨_, _, (Option.some.inj h2).symm⟩
      · cases h2
    · cases h2
  · split at h
    · split at h
      · exact Or.inl (xG_n h)
      · cases h
    · cases h
  · split at h
    · split at h
      · obtain ⟨S', h3, h4⟩ := xbp h
        exact Or.inl (xG_nx h4 (xle2 (xacp_len h3)))
      · cases h
    · cases h
  · split at h
    · split at h
      · obtain ⟨v, h3, h4⟩ := xbp h
        exact Or.inl (xG_n h4)
      · cases h
    · cases h
  · split at h
    · split at h
      · exact Or.inl (xG_n h)
      · cases h
    · cases h
  · split at h
    · split at h
      · exact Or.inl (xG_n h)
      · cases h
    · cases h
  · split at h
    · split at h
      · exact Or.inl (xG_n h)
      · cases h
    · cases h
  · split at h
    · split at h
      · exact Or.inl (xG_n h)
      · cases h
    · cases h
  · cases h
theorem xinv_cls {id pc : Nat} {ls st : List Value} {S : xS} {idx : Nat} {ks : List Nat} {r : xR} (h : xinv id pc ls st S idx ks = some r) : xG S r ∨ ∃ j as r', r = .inr (.inr (j, as, (pc + 3, ls, r', S))) := by
  obtain ⟨w, h1, h2⟩ := xbp h
  split at h2
  · rcases xcall_cls h2 with h | h
    · exact Or.inl h
    · exact Or.inr ⟨_, h⟩
  · cases h2
theorem xrt_cls {id : Nat} {st : List Value} {S : xS} {r : xR} (h : xrt id st S = some r) : ∃ x, st = [.int x] ∧ r = .inr (.inl (some (.int x), S)) ∧ (xret id = some .int ∨ (xret id = some .boolean ∧ (x = 0 ∨ x = 1))) := by
  unfold xrt at h
  split at h
  · split at h
    · rename_i hr
      exact ⟨_, rfl, (Option.some.inj h).symm, Or.inl hr⟩
    · rename_i hr
      split at h
      · rename_i h01
        exact ⟨_, rfl, (Option.some.inj h).symm, Or.inr ⟨hr, h01⟩⟩
      · cases h
    · cases h
  · cases h
theorem xstep_mono {X : xX} {id : Nat} {fr fr' : xF} (h : xstep X id fr = some (.inl fr')) : fr.2.2.2.1.length ≤ fr'.2.2.2.1.length ∧ xsz fr.2.2.2.1 ≤ xsz fr'.2.2.2.1 := by
  obtain ⟨pc, ls, st, S⟩ := fr
  have key : ∀ {r : xR}, xG S r → r = .inl fr' → S.1.length ≤ fr'.2.2.2.1.length ∧ xsz S.1 ≤ xsz fr'.2.2.2.1 := by
    rintro r ⟨fr2, rfl, h2⟩ e
    cases e
    exact h2
  rw [xstep_s] at h
  split at h
  · rename_i i n hd
    split at h
    · cases hp : xplain i with
      | true => exact key (xex_cls hp h) rfl
      | false =>
        cases i
        case invokestatic j =>
          rcases xinv_cls h with h2 | ⟨_, _, _, e⟩
          · exact key h2 rfl
          · cases e
        case invokevirtual j =>
          rcases xinv_cls h with h2 | ⟨_, _, _, e⟩
          · exact key h2 rfl
          · cases e
        case invokespecial j =>
          rcases xinv_cls h with h2 | ⟨_, _, _, e⟩
          · exact key h2 rfl
          · cases e
        case ireturn =>
          obtain ⟨_, _, e, _⟩ := xrt_cls h
          cases e
        case lreturn =>
          simp only [xex] at h
          split at h
          · split at h <;> cases h
          · cases h
        case areturn =>
          simp only [xex] at h
          split at h
          · split at h <;> cases h
          · cases h
        case return_ =>
          simp only [xex] at h
          split at h
          · split at h <;> cases h
          · cases h
        all_goals cases hp
    · cases h
  · cases h
theorem xstep_ret {X : xX} {id pc : Nat} {ls st : List Value} {S : xS} {o : xO} (h : xstep X id (pc, ls, st, S) = some (.inr (.inl o))) :
    o.2 = S ∧ ((∃ x, decode (xbc id) pc = .ok (.ireturn, 1) ∧ st = [.int x] ∧ o.1 = some (.int x) ∧ (xret id = some .int ∨ (xret id = some .boolean ∧ (x = 0 ∨ x = 1)))) ∨ (∃ x, decode (xbc id) pc = .ok (.lreturn, 1) ∧ st = [.long x] ∧ o.1 = some (.long x) ∧ xret id = some .long) ∨ (∃ a C, decode (xbc id) pc = .ok (.areturn, 1) ∧ st = [.ref a] ∧ o.1 = some (.ref a) ∧ xret id = some (.object C)) ∨ (decode (xbc id) pc = .ok (.return_, 1) ∧ st = [] ∧ o.1 = none ∧ xret id = none)) := by
  rw [xstep_s] at h
  split at h
  · rename_i i n hd
    split at h
    · rename_i hn
      cases hp : xplain i with
      | true => obtain ⟨_, e, _⟩ := xex_cls hp h; cases e
      | false =>
        cases i
        case invokestatic j =>
          rcases xinv_cls h with ⟨_, e, _⟩ | ⟨_, _, _, e⟩ <;> cases e
        case invokevirtual j =>
          rcases xinv_cls h with ⟨_, e, _⟩ | ⟨_, _, _, e⟩ <;> cases e
        case invokespecial j =>
          rcases xinv_cls h with ⟨_, e, _⟩ | ⟨_, _, _, e⟩ <;> cases e
        case ireturn =>
          have hn : n = 1 := hn
          subst hn
          obtain ⟨x, e1, e2, e3⟩ := xrt_cls h
          cases e2
          exact ⟨rfl, Or.inl ⟨x, hd, e1, rfl, e3⟩⟩
        case lreturn =>
          have hn : n = 1 := hn
          subst hn
          simp only [xex] at h
          split at h
          · split at h
            · rename_i hr
              cases h
              exact ⟨rfl, Or.inr (Or.inl ⟨_, hd, rfl, rfl, hr⟩)⟩
            · cases h
          · cases h
        case areturn =>
          have hn : n = 1 := hn
          subst hn
          simp only [xex] at h
          split at h
          · split at h
            · rename_i hr
              cases h
              exact ⟨rfl, Or.inr (Or.inr (Or.inl ⟨_, _, hd, rfl, rfl, hr⟩))⟩
            · cases h
          · cases h
        case return_ =>
          have hn : n = 1 := hn
          subst hn
          simp only [xex] at h
          split at h
          · split at h
            · rename_i hr
              cases h
              exact ⟨rfl, Or.inr (Or.inr (Or.inr ⟨hd, rfl, rfl, hr⟩))⟩
            · cases h
          · cases h
        all_goals cases hp
    · cases h
  · cases h
theorem xstep_call {X : xX} {id pc j : Nat} {ls st as : List Value} {S : xS} {fr' : xF} (h : xstep X id (pc, ls, st, S) = some (.inr (.inr (j, as, fr')))) :
    ∃ (idx kind nn p1 p2 p3 : Nat) (r : List Value), xmth (xown id) idx = some (kind, j, nn, p1, p2, p3) ∧ fr' = (pc + 3, ls, r, S) ∧ xcat r ≤ 8 ∧
      (((kind = 0 ∨ kind = 3) ∧ decode (xbc id) pc = .ok (.invokestatic idx, 3) ∧ st = as.reverse ++ r ∧ as.length = nn) ∨
       (kind = 1 ∧ decode (xbc id) pc = .ok (.invokevirtual idx, 3) ∧ ∃ k as', as = .ref k :: as' ∧ st = as'.reverse ++ .ref k :: r ∧ as'.length = nn ∧ (S.1[k]?).map (fun c => c.1) = some (xown j + 3)) ∨
       ((kind = 2 ∨ kind = 5) ∧ decode (xbc id) pc = .ok (.invokespecial idx, 3) ∧ ∃ k as', as = .ref k :: as' ∧ st = as'.reverse ++ .ref k :: r ∧ as'.length = nn)) := by
  have pk : ∀ {nn : Nat} {as' r : List Value}, xpop nn [] st = some (as', r) → st = as'.reverse ++ r ∧ as'.length = nn := by
    intro nn as' r h3
    obtain ⟨bs, e1, e2, e3⟩ := xpop_inv _ _ _ _ _ h3
    rw [List.append_nil] at e1
    subst e1
    exact ⟨e3, e2⟩
  have nG : ∀ {r : xR}, xG S r → r ≠ .inr (.inr (j, as, fr')) := by
    rintro r ⟨_, rfl, _⟩ e
    cases e
  rw [xstep_s] at h
  split at h
  · rename_i i n hd
    split at h
    · rename_i hn
      cases hp : xplain i with
      | true => exact absurd rfl (nG (xex_cls hp h))
      | false =>
        cases i
        case ireturn => obtain ⟨_, _, e, _⟩ := xrt_cls h; cases e
        case lreturn =>
          simp only [xex] at h
          split at h
          · split at h <;> cases h
          · cases h
        case areturn =>
          simp only [xex] at h
          split at h
          · split at h <;> cases h
          · cases h
        case return_ =>
          simp only [xex] at h
          split at h
          · split at h <;> cases h
          · cases h
        case invokestatic idx =>
          have hn : n = 3 := hn
          subst hn
          obtain ⟨⟨kind, jj, nn, p1, p2, p3⟩, h1, h2⟩ := xbp h
          dsimp only at h2
          split at h2
          · rename_i hks
            have hk : kind = 0 ∨ kind = 3 ∨ kind = 7 ∨ kind = 9 ∨ kind = 10 ∨ kind = 11 ∨ kind = 12 := by simpa using hks
            rcases hk with rfl | rfl | rfl | rfl | rfl | rfl | rfl
            · obtain ⟨⟨as', r⟩, h3, h4⟩ := xbp h2
              dsimp only at h4
              split at h4
              · rename_i h8
                cases h4
                obtain ⟨e3, e2⟩ := pk h3
                exact ⟨idx, _, nn, p1, p2, p3, r, h1, rfl, h8, Or.inl ⟨Or.inl rfl, hd, e3, e2⟩⟩
              · cases h4
            · obtain ⟨⟨as', r⟩, h3, h4⟩ := xbp h2
              dsimp only at h4
              split at h4
              · rename_i h8
                cases h4
                obtain ⟨e3, e2⟩ := pk h3
                exact ⟨idx, _, nn, p1, p2, p3, r, h1, rfl, h8, Or.inl ⟨Or.inr rfl, hd, e3, e2⟩⟩
              · cases h4
            · simp only [xcall] at h2
              split at h2
              · split at h2
                · obtain ⟨S', h3, h4⟩ := xbp h2
                  cases h4
                · cases h2
              · cases h2
            · simp only [xcall] at h2
              split at h2
              · split at h2 <;> cases h2
              · cases h2
            · simp only [xcall] at h2
              split at h2
              · split at h2 <;> cases h2
              · cases h2
            · simp only [xcall] at h2
              split at h2
              · split at h2 <;> cases h2
              · cases h2
            · simp only [xcall] at h2
              split at h2
              · split at h2 <;> cases h2
              · cases h2
          · cases h2
        case invokevirtual idx =>
          have hn : n = 3 := hn
          subst hn
          obtain ⟨⟨kind, jj, nn, p1, p2, p3⟩, h1, h2⟩ := xbp h
          dsimp only at h2
          split at h2
          · rename_i hks
            have hk : kind = 1 ∨ kind = 8 := by simpa using hks
            rcases hk with rfl | rfl
            · obtain ⟨⟨as', r⟩, h3, h4⟩ := xbp h2
              dsimp only at h4
              split at h4
              · rename_i k as2
                split at h4
                · rename_i h8
                  cases h4
                  obtain ⟨e3, e2⟩ := pk h3
                  exact ⟨idx, _, nn, p1, p2, p3, r, h1, rfl, h8.1, Or.inr (Or.inl ⟨rfl, hd, k, as2, rfl, by simpa using e3, by simpa using e2, h8.2⟩)⟩
                · cases h4
              · cases h4
            · simp only [xcall] at h2
              split at h2
              · split at h2
                · obtain ⟨v, h3, h4⟩ := xbp h2
                  cases h4
                · cases h2
              · cases h2
          · cases h2
        case invokespecial idx =>
          have hn : n = 3 := hn
          subst hn
          obtain ⟨⟨kind, jj, nn, p1, p2, p3⟩, h1, h2⟩ := xbp h
          dsimp only at h2
          split at h2
          · rename_i hks
            have hk : kind = 2 ∨ kind = 5 ∨ kind = 6 := by simpa using hks
            rcases hk with rfl | rfl | rfl
            · obtain ⟨⟨as', r⟩, h3, h4⟩ := xbp h2
              dsimp only at h4
              split at h4
              · rename_i k as2
                split at h4
                · rename_i h8
                  cases h4
                  obtain ⟨e3, e2⟩ := pk h3
                  exact ⟨idx, _, nn, p1, p2, p3, r, h1, rfl, h8, Or.inr (Or.inr ⟨Or.inl rfl, hd, k, as2, rfl, by simpa using e3, by simpa using e2⟩)⟩
                · cases h4
              · cases h4
            · obtain ⟨⟨as', r⟩, h3, h4⟩ := xbp h2
              dsimp only at h4
              split at h4
              · rename_i k as2
                split at h4
                · rename_i h8
                  cases h4
                  obtain ⟨e3, e2⟩ := pk h3
                  exact ⟨idx, _, nn, p1, p2, p3, r, h1, rfl, h8, Or.inr (Or.inr ⟨Or.inr rfl, hd, k, as2, rfl, by simpa using e3, by simpa using e2⟩)⟩
                · cases h4
              · cases h4
            · simp only [xcall] at h2
              split at h2
              · split at h2 <;> cases h2
              · cases h2
          · cases h2
        all_goals cases hp
    · cases h
  · cases h
end
section
theorem xadd3 {a b c d : Nat} (h1 : b ≤ c) (h2 : c ≤ d) : a + (c - b) + (d - c) = a + (d - b) := by omega
def xPc (base : Nat) (ex : Nat → Nat) (D : va_G) (cA : Nat → ClassId) (H00 : Heap) (X : xX) (Z : State → Prop) (as : List Value) (S : xS) : Array Value → State → Prop := fun v U => v = (as.map (xtv base ex)).toArray ∧ xhp base ex D cA H00 S U.heap ∧ xkw base ex D cA H00 X Z U
def xQc (base : Nat) (ex : Nat → Nat) (D : va_G) (cA : Nat → ClassId) (H00 : Heap) (o : xO) : Array Value → State → Outcome → State → Prop := fun _ _ oc t => oc = .returned (o.1.map (xtv base ex)) ∧ xhp base ex D cA H00 o.2 t.heap
def xZok (Z : State → Prop) : Prop := (∀ (s U : State), s.WarmedH U.vm → Z s → Z U) ∧ ∀ (U : State) (g : JFrame) (mk : MethodId) (a : Array Value), Z U → Z (U.calling g mk a)
theorem xtN_nest {w : Cond} (h : w ∈ xtN) : xisN w = true := (List.mem_filter.mp h).2
theorem xkw_warm {base : Nat} {ex : Nat → Nat} {D : va_G} {cA : Nat → ClassId} {H00 : Heap} {X : xX} {Z : State → Prop} (hz : xZok Z) {s U : State} (hW : s.WarmedH U.vm) (h : xkw base ex D cA H00 X Z s) : xkw base ex D cA H00 X Z U := by
  obtain ⟨h1, h2, h3, h4, h5⟩ := h
  refine ⟨va_K.moved hW.alike h1, fun w hw => ?_, va_AO.moved hW.alike h3, ⟨va_X.moved hW.alike h4.1, h4.2⟩, hz.1 s U hW h5⟩
  have hn := xtN_nest hw
  have h6 := h2 w hw
  cases w
  case methodLinkNest a i y b => exact va_Nw.warmM hW h6
  case fieldLinkNest a i b n d y => exact va_Nw.warmF hW h6
  all_goals cases hn
theorem xkw_blind {base : Nat} {ex : Nat → Nat} {D : va_G} {cA : Nat → ClassId} {H00 : Heap} {X : xX} {Z : State → Prop} (hz : xZok Z) {U : State} {g : JFrame} {mk : MethodId} {a : Array Value} (h : xkw base ex D cA H00 X Z U) : xkw base ex D cA H00 X Z (U.calling g mk a) := by
  obtain ⟨h1, h2, h3, h4, h5⟩ := h
  refine ⟨va_K.moved (u := U) (U := U.calling g mk a) (Vm.Alike.refl U.vm) h1, fun w hw => ?_, va_AO.moved (u := U) (U := U.calling g mk a) (Vm.Alike.refl U.vm) h3, ⟨va_X.moved (u := U) (U := U.calling g mk a) (Vm.Alike.refl U.vm) h4.1, h4.2⟩, hz.2 U g mk a h5⟩
  have hn := xtN_nest hw
  have h6 := h2 w hw
  cases w
  case methodLinkNest a i y b => exact va_Nw.same rfl rfl h6
  case fieldLinkNest a i b n d y => exact va_Nw.same rfl rfl h6
  all_goals cases hn
theorem xtG_good {w : Cond} (h : w ∈ xtG) : (w.onTables && w.keeps) = true ∨ ∃ ty, w = .arrayClass ty := good_of_word (List.mem_filter.mp h).2
theorem xGI {j : Nat} (h1 : 1 ≤ j) (h2 : j < 188) : GoodIn xtG (Cond.code (xy j) (xbc j) (xml j) (xret j) :: xtG) := by
  intro w hw
  rcases List.mem_cons.mp hw with rfl | hw
  · exact ⟨xk_code h1 h2, xtG_good (xk_code h1 h2)⟩
  · exact ⟨hw, xtG_good hw⟩
theorem xsl_len {base : Nat} {ex : Nat → Nat} : ∀ as : List Value, (lg_sl (as.map (xtv base ex))).length = (xsl as).length
  | [] => rfl
  | v :: r => by
    have ih := xsl_len (base := base) (ex := ex) r
    unfold lg_sl at ih ⊢
    rw [List.map_cons, List.flatMap_cons, xsl]
    by_cases hc : v.category = 2
    · rw [if_pos (by rw [xtv_cat]; exact hc), if_pos hc]
      simp [ih]
    · rw [if_neg (by rw [xtv_cat]; exact hc), if_neg hc]
      simp [ih]
theorem xsl_at {base : Nat} {ex : Nat → Nat} : ∀ (as : List Value) (off i : Nat) (v : Value), (xsl as)[i]? = some v → xbad v = false → (off + i, xtv base ex v) ∈ lv_args off (as.map (xtv base ex))
  | [], off, i, v, h, _ => by simp [xsl] at h
  | w :: r, off, i, v, h, hb => by
    rw [List.map_cons, lv_args, xtv_cat]
    rw [xsl] at h
    by_cases hc : w.category = 2
    · rw [if_pos hc] at h ⊢
      match i, h with
      | 0, h => cases h; exact List.mem_cons_self
      | 1, h => cases h; cases hb
      | i + 2, h =>
        have := xsl_at (base := base) (ex := ex) r (off + 2) i v h hb
        rw [show off + (i + 2) = off + 2 + i by omega]
        exact List.mem_cons_of_mem _ this
    · rw [if_neg hc] at h ⊢
      match i, h with
      | 0, h => cases h; exact List.mem_cons_self
      | i + 1, h =>
        have := xsl_at (base := base) (ex := ex) r (off + 1) i v h hb
        rw [show off + (i + 1) = off + 1 + i by omega]
        exact List.mem_cons_of_mem _ this
theorem xlr_entry {base : Nat} {ex : Nat → Nat} {as : List Value} {n : Nat} (h : (xsl as).length ≤ n) : xlr base ex ((lg_sl (as.map (xtv base ex)) ++ List.replicate (n - (lg_sl (as.map (xtv base ex))).length) Slot.unset).toArray) n (xent n as) := by
  have hl := lv_entry (as.map (xtv base ex)) (n := n) (by rw [xsl_len]; exact h)
  refine ⟨hl.1, by simp [xent]; omega, hl.2.1, fun i v hi hb => ?_⟩
  unfold xent at hi
  by_cases hlt : i < (xsl as).length
  · rw [List.getElem?_append_left hlt] at hi
    have := xsl_at (base := base) (ex := ex) as 0 i v hi hb
    rw [Nat.zero_add] at this
    exact hl.2.2 _ this
  · rw [List.getElem?_append_right (by omega), List.getElem?_replicate] at hi
    split at hi
    · cases hi; cases hb
    · cases hi
theorem xrun_len {X : xX} : ∀ (n id : Nat) (fr : xF) (o : xO), xrun X n id fr = some o → fr.2.2.2.1.length ≤ o.2.1.length ∧ xsz fr.2.2.2.1 ≤ xsz o.2.1
  | 0, _, _, _, h => by cases h
  | n + 1, id, fr, o, h => by
    rw [xrun_succ] at h
    rcases hr : xstep X id fr with _ | (fr' | (o' | ⟨j, as, fr'⟩))
    · rw [hr] at h; cases h
    · rw [hr] at h
      have h1 := xstep_mono hr
      have h2 := xrun_len n id fr' o h
      omega
    · rw [hr] at h
      cases h
      obtain ⟨pc, ls, st, S⟩ := fr
      have := (xstep_ret hr).1
      rw [this]
      exact ⟨Nat.le_refl _, Nat.le_refl _⟩
    · rw [hr] at h
      simp only [xgo] at h
      obtain ⟨o1, h1, h2⟩ := xbp h
      obtain ⟨pc, ls, st, S⟩ := fr
      obtain ⟨_, _, _, _, _, _, r, -, rfl, -⟩ := xstep_call hr
      split at h1
      · have a1 := xrun_len n j _ o1 h1
        have a2 := xrun_len n id _ o h2
        dsimp only at a1 a2 ⊢
        omega
      · cases h1
def xWn (l : Launch) (base : Nat) (ex : Nat → Nat) (D : va_G) (cA : Nat → ClassId) (H00 : Heap) (X : xX) (Z : State → Prop) (n : Nat) : Prop :=
  ∀ (id : Nat) (fr : xF) (o : xO), xrun X n id fr = some o → ∀ (p : Program) (e : Env) (R : Room) (s : State) (m : MethodId) (args : Array Value) (below : List Frame) (meth : Method) (c : Code) (H : Heap) (locs : List Loc) (cells slots : Nat) (Q : State → Prop) (arr : Array Slot),
    xfx base ex D cA H00 X Z p R s m args meth c id → xhp base ex D cA H00 fr.2.2.2 H → (∀ q ∈ locs, base ≤ q.base) → xlr base ex arr (xml id) fr.2.1 → cells + (o.2.1.length - fr.2.2.2.1.length) ≤ R.cells → slots + (xsz o.2.1 - xsz fr.2.2.2.1) ≤ R.slots →
    (∀ (pc : Nat) (ls st : List Value) (H' : Heap) (locs' : List Loc) (arr' : Array Slot), xstep X id (pc, ls, st, o.2) = some (.inr (.inl o)) → xhp base ex D cA H00 o.2 H' → (∀ q ∈ locs', base ≤ q.base) → xlr base ex arr' (xml id) ls → W p l e R s m args below meth c H' locs' (cells + (o.2.1.length - fr.2.2.2.1.length)) (slots + (xsz o.2.1 - xsz fr.2.2.2.1)) Q (F0 m pc arr' (st.map (xtv base ex)))) →
    W p l e R s m args below meth c H locs cells slots Q (F0 m fr.1 arr (fr.2.2.1.map (xtv base ex)))
section XU
variable {p : Program} {l : Launch} {e : Env} {R : Room} {s : State} {m : MethodId} {args : Array Value} {below : List Frame} {meth : Method} {c : Code} {H : Heap} {locs : List Loc} {cells slots : Nat} {Q : State → Prop}
variable {base : Nat} {ex : Nat → Nat} {D : va_G} {cA : Nat → ClassId} {H00 : Heap} {X : xX} {Z : State → Prop} {id : Nat} {arr : Array Slot}
theorem xmet (hz : xZok Z) {n j : Nat} (hI : xWn l base ex D cA H00 X Z n) {as : List Value} {S : xS} {o1 : xO} (h1 : 1 ≤ j) (h2 : j < 188) (hl : (xsl as).length ≤ xml j) (h : xrun X n j (0, xent (xml j) as, [], S) = some o1) :
    Met l (xy j) (Cond.code (xy j) (xbc j) (xml j) (xret j) :: xtG) { frames := xrf j, cells := o1.2.1.length - S.1.length, slots := xsz o1.2.1 - xsz S.1, locals := xrl j } (xPc base ex D cA H00 X Z as S) (xQc base ex D cA H00 o1) (o1.2.1.length - S.1.length) (xsz o1.2.1 - xsz S.1) (fun q => base ≤ q) := by
  obtain ⟨hcls, hpl, hown14⟩ := xk_own h2
  refine Met.ofW (cc := xbc j) (maxL := xml j) (ret := xret j) hpl rfl ?_
  intro p e s m args below meth c s₁ B hml hv
  obtain ⟨rfl, hH, hk⟩ := hv
  have hx := B.exec
  have hb := B.bytes
  have hr := B.returns
  have hts := atoms_spec (ws := Cond.code (xy j) (xbc j) (xml j) (xret j) :: xtG) B.pre
  have hown : s.vm.findClass (xnm (xown j)) = some m.cls := by rw [← hcls]; exact findClass_of_methodNamed B.named
  have hlocks := B.notSynchronized
  have hin := (name_of_methodNamed B.named B.method).1
  rw [lg_entry_eq]
  have F : xfx base ex D cA H00 X Z p (headSpec (Cond.code (xy j) (xbc j) (xml j) (xret j) :: xtG) { frames := xrf j, cells := o1.2.1.length - S.1.length, slots := xsz o1.2.1 - xsz S.1, locals := xrl j }).room s m (as.map (xtv base ex)).toArray meth c j := ⟨hx, hb, hr, hml, hown, fun w hw => hts w (List.mem_cons_of_mem _ hw), hk, hlocks, hin, Nat.le_refl _, Nat.le_refl _⟩
  refine hI j (0, xent (xml j) as, [], S) o1 h _ _ _ _ _ _ _ _ _ _ _ _ _ _ _ F hH (fun q hq => by cases hq) (xlr_entry hl) (by show 0 + _ ≤ _; dsimp only; rw [Nat.zero_add]; exact Nat.le_refl _) (by show 0 + _ ≤ _; dsimp only; rw [Nat.zero_add]; exact Nat.le_refl _) ?_
  intro pc ls st H' locs' arr' hs hH' hL' hA'
  dsimp only
  rw [Nat.zero_add, Nat.zero_add]
  obtain ⟨eS, hcase⟩ := xstep_ret hs
  rcases hcase with ⟨x, hd, rfl, eo, hr2⟩ | ⟨x, hd, rfl, eo, hr2⟩ | ⟨a, C, hd, rfl, eo, hr2⟩ | ⟨hd, rfl, eo, hr2⟩
  · rcases hr2 with hr2 | ⟨hr2, h01⟩
    · exact W.iret (v := x) hx hb (by rw [hr, hr2]) (fun t ht _ => ⟨by rw [eo]; rfl, by rw [ht]; exact hH'⟩) hL' hd hlocks
    · exact W.zret (v := x) (ty := .boolean) hx hb (by rw [hr, hr2]) (xn01 h01).1 (fun t ht _ => ⟨by rw [eo]; rfl, by rw [ht]; exact hH'⟩) hL' hd hlocks
  · exact W.lret (v := x) hx hb (by rw [hr, hr2]) (fun t ht _ => ⟨by rw [eo]; rfl, by rw [ht]; exact hH'⟩) hL' hd hlocks
  · exact W.aret (v := .ref (base + a)) hx hb (by rw [hr, hr2]) (Or.inl ⟨C, rfl⟩) (Or.inr ⟨_, rfl⟩) (fun t ht _ => ⟨by rw [eo]; rfl, by rw [ht]; exact hH'⟩) hL' hd hlocks
  · exact W.vret hx hb (by rw [hr, hr2]) (fun t ht _ => ⟨by rw [eo]; rfl, by rw [ht]; exact hH'⟩) hL' hd hlocks
theorem xcont {pc mc ms : Nat} {rest st0 : List Value} {a : Array Value} {o1 : xO} (hr : va_Run p l e R s m args below meth c H locs cells slots mc ms (F0 m pc arr st0) rest (xQc base ex D cA H00 o1 a) (fun q => base ≤ q)) (hL : ∀ q ∈ locs, base ≤ q.base)
    (kk : ∀ (H1 : Heap) (locs1 : List Loc), xhp base ex D cA H00 o1.2 H1 → (∀ q ∈ locs1, base ≤ q.base) → W p l e R s m args below meth c H1 locs1 (cells + mc) (slots + ms) Q (F0 m (pc + 3) arr ((o1.1.map (xtv base ex)).toList ++ rest))) : W p l e R s m args below meth c H locs cells slots Q (F0 m pc arr st0) := by
  intro T hT Y
  obtain ⟨v, st₀, t, T', L, h0, Y', hL2, e1, e2, ⟨hv, hh⟩, st⟩ := hr T hT Y
  have hv2 : v = o1.1.map (xtv base ex) := Outcome.returned.inj hv
  subst hv2
  obtain ⟨t2, a1, b1⟩ := kk T'.heap (locs ++ L) (by rw [e1]; exact hh) (fun q hq => by
    rcases List.mem_append.mp hq with h | h
    · exact hL q h
    · exact hL2 q h) T' rfl Y'
  exact ⟨t2, st t2 a1, b1⟩
theorem xsound (hZ : xstrR l base ex D cA H00 X Z) (hz : xZok Z) : ∀ n, xWn l base ex D cA H00 X Z n
  | 0 => fun id fr o h => by cases h
  | n + 1 => by
    intro id fr o h p e R s m args below meth c H locs cells slots Q arr F hH hL hA hc hzz hret
    have IH := xsound hZ hz n
    rw [xrun_succ] at h
    rcases hr : xstep X id fr with _ | (fr' | (o' | ⟨j, as, fr'⟩))
    · rw [hr] at h; cases h
    · rw [hr] at h
      have h : xrun X n id fr' = some o := h
      have m1 := xstep_mono hr
      have m2 := xrun_len n id fr' o h
      refine xsim hZ F hr hH hL hA (by omega) (by omega) fun H' locs' arr' c' z' ec ez hH' hL' hA' => ?_
      have e1 : c' + (o.2.1.length - fr'.2.2.2.1.length) = cells + (o.2.1.length - fr.2.2.2.1.length) := by omega
      have e2 : z' + (xsz o.2.1 - xsz fr'.2.2.2.1) = slots + (xsz o.2.1 - xsz fr.2.2.2.1) := by omega
      exact IH id fr' o h p e R s m args below meth c H' locs' c' z' Q arr' F hH' hL' hA' (by omega) (by omega) (by rw [e1, e2]; exact hret)
    · rw [hr] at h
      cases h
      obtain ⟨pc, ls, st, S⟩ := fr
      have eS := (xstep_ret hr).1
      dsimp only at hH hA hret ⊢
      subst eS
      have := hret pc ls st H locs arr hr hH hL hA
      rwa [Nat.sub_self, Nat.sub_self, Nat.add_zero, Nat.add_zero] at this
    · rw [hr] at h
      simp only [xgo] at h
      obtain ⟨o1, h1, h2⟩ := xbp h
      obtain ⟨pc, ls, st, S⟩ := fr
      obtain ⟨idx, kind, nn, p1, p2, p3, r, hm, rfl, h8, hcase⟩ := xstep_call hr
      dsimp only at hH hA hc hzz hret h1 h2 ⊢
      split at h1
      · rename_i hroom
        obtain ⟨hrm, hsl⟩ := hroom
        have m1 := xrun_len n j _ o1 h1
        have m2 := xrun_len n id _ o h2
        dsimp only at m1 m2
        simp only [xrm, Bool.and_eq_true, decide_eq_true_eq] at hrm
        have F' := F
        obtain ⟨hx, hb, hr0, hml, hown, hts, hkw, hlk, hnm, hrf, hrl⟩ := F
        have hw := List.all_eq_true.mp xk_mth _ (xlook hm)
        have hpre : ∀ U : State, U.heap = H → s.WarmedH U.vm → xPc base ex D cA H00 X Z as S (as.map (xtv base ex)).toArray U := fun U hU hW => ⟨rfl, by rw [hU]; exact hH, xkw_warm hz hW hkw⟩
        have hbl : FrameBlind (xPc base ex D cA H00 X Z as S) := fun a U g mk q => ⟨q.1, q.2.1, xkw_blind hz q.2.2⟩
        have hroomR : xrf j + 1 ≤ R.frames ∧ 8 + (xml j + 11) + xrl j ≤ R.locals := ⟨by omega, by omega⟩
        have hfit : cells + (o1.2.1.length - S.1.length) ≤ R.cells ∧ slots + (xsz o1.2.1 - xsz S.1) ≤ R.slots := ⟨by omega, by omega⟩
        have hsz := hA.1
        have hgo : va_Run p l e R s m args below meth c H locs cells slots (o1.2.1.length - S.1.length) (xsz o1.2.1 - xsz S.1) (F0 m pc arr (st.map (xtv base ex))) (r.map (xtv base ex)) (xQc base ex D cA H00 o1 (as.map (xtv base ex)).toArray) (fun q => base ≤ q) := by
          rcases hcase with ⟨hk, hd, est, hlen⟩ | ⟨rfl, hd, k, as', rfl, est, hlen, hobj⟩ | ⟨hk, hd, k, as', rfl, est, hlen⟩
          · have hstk : (F0 m pc arr (st.map (xtv base ex))).stack = (as.map (xtv base ex)).reverse ++ r.map (xtv base ex) := by
              show st.map (xtv base ex) = _
              rw [est, List.map_append, List.map_reverse]
            rcases hk with rfl | rfl
            · simp only [xkm, Bool.and_eq_true, decide_eq_true_eq] at hw
              obtain ⟨⟨⟨⟨w1, w2⟩, w3⟩, w4⟩, w5⟩ := hw
              obtain ⟨hcls, hpl, h14⟩ := xk_own w5
              obtain ⟨i1, i2, i3⟩ := xk_init h14
              exact va_runS (n := nn) (As := as.map (xtv base ex)) ⟨hx, hb, hml, hown, hts⟩ (xmet hz IH w4 w5 hsl h1) ⟨callB_of nn hts (xGI w4 w5) rfl rfl rfl (by rw [hcls]; exact hts _ i1) (hts _ (xw_in w1)) ⟨by rw [hcls]; exact i2, by rw [hcls]; exact i3, w3⟩ hroomR, hts _ (xw_in w2)⟩ ⟨hbl, hpre⟩ rfl (by simp [hlen]) hsz hstk (lv_room (by rw [xcats]; exact h8)) hd hfit
            · simp only [xkm, Bool.and_eq_true, decide_eq_true_eq] at hw
              obtain ⟨⟨⟨⟨w1, w2⟩, w3⟩, w4⟩, w5⟩ := hw
              obtain ⟨hcls, hpl, h14⟩ := xk_own w5
              obtain ⟨i1, i2, i3⟩ := xk_init h14
              exact va_runSN (n := nn) (As := as.map (xtv base ex)) ⟨hx, hb, hml, hown, hts⟩ (xmet hz IH w4 w5 hsl h1) ⟨va_cnB nn hts (xGI w4 w5) rfl rfl rfl (hkw.2.1 _ (xwN_in w1)) (by rw [hcls]; exact hts _ i1) ⟨by rw [hcls]; exact i2, by rw [hcls]; exact i3, w3⟩ hroomR, hts _ (xw_in w2), trivial⟩ ⟨hbl, hpre⟩ rfl (by simp [hlen]) hsz hstk (lv_room (by rw [xcats]; exact h8)) hd hfit
          · have hstk : (F0 m pc arr (st.map (xtv base ex))).stack = (as'.map (xtv base ex)).reverse ++ .ref (base + k) :: r.map (xtv base ex) := by
              show st.map (xtv base ex) = _
              rw [est, List.map_append, List.map_reverse]
              rfl
            simp only [xkm, Bool.and_eq_true, decide_eq_true_eq] at hw
            obtain ⟨⟨⟨⟨⟨w1, w2⟩, w3⟩, w4⟩, w5⟩, w6⟩ := hw
            obtain ⟨hcls, hpl, h14⟩ := xk_own w6
            obtain ⟨i1, i2, i3⟩ := xk_init h14
            have hrecv : ∃ cellB : Cell, H[base + k]? = some cellB ∧ cellB.vm.isStatics = false ∧ s.vm.findClass (xnm (xown j)) = some cellB.cls := by
              cases hSk : S.1[k]? with
              | none => rw [hSk] at hobj; cases hobj
              | some q =>
                obtain ⟨t, n0, vs⟩ := q
                rw [hSk] at hobj
                have ht : t = xown j + 3 := Option.some.inj hobj
                obtain ⟨C, T, hC, -, cell, q1, q2, q3, -⟩ := (hH.2.1 k t n0 vs hSk).2.2.2 (xown j) ht
                refine ⟨cell, q1, by rw [q3]; rfl, ?_⟩
                rw [q2, ← (xk_clw hC).1]
                exact (hkw.1.1 _ _ hC).2.1
            exact va_runV (n := nn) (C := xnm (xown j)) (As := as'.map (xtv base ex)) ⟨hx, hb, hml, hown, hts⟩ (xmet hz IH w5 w6 hsl h1) ⟨callB_of nn hts (xGI w5 w6) rfl rfl rfl (by rw [hcls]; exact hts _ i1) (hts _ (xw_in w1)) ⟨by rw [hcls]; exact i2, by rw [hcls]; exact i3, w4⟩ hroomR, hts _ (xw_in w2), hts _ (xw_in w3)⟩ ⟨hbl, hrecv, hpre⟩ rfl (by simp [hlen]) hsz hstk (lv_room (by rw [xcats]; exact h8)) hd hfit
          · have hstk : (F0 m pc arr (st.map (xtv base ex))).stack = (as'.map (xtv base ex)).reverse ++ .ref (base + k) :: r.map (xtv base ex) := by
              show st.map (xtv base ex) = _
              rw [est, List.map_append, List.map_reverse]
              rfl
            rcases hk with rfl | rfl
            · simp only [xkm, Bool.and_eq_true, decide_eq_true_eq] at hw
              obtain ⟨⟨⟨⟨⟨⟨w1, w2⟩, w3⟩, w3b⟩, w4⟩, w5⟩, w6⟩ := hw
              obtain ⟨hcls, hpl, h14⟩ := xk_own w6
              obtain ⟨i1, i2, i3⟩ := xk_init h14
              exact va_runI (n := nn) (As := as'.map (xtv base ex)) ⟨hx, hb, hml, hown, hts⟩ (xmet hz IH w5 w6 hsl h1) ⟨callB_of nn hts (xGI w5 w6) (by rw [w3b]) rfl rfl (by rw [hcls]; exact hts _ i1) (hts _ (xw_in w1)) ⟨by rw [hcls]; exact i2, by rw [hcls]; exact i3, w4⟩ hroomR, w3, hts _ (xw_in w2)⟩ ⟨hbl, hpre⟩ rfl (by simp [hlen]) hsz hstk (lv_room (by rw [xcats]; exact h8)) hd hfit
            · simp only [xkm, Bool.and_eq_true, decide_eq_true_eq] at hw
              obtain ⟨⟨⟨⟨⟨⟨w1, w2⟩, w3⟩, w3b⟩, w4⟩, w5⟩, w6⟩ := hw
              obtain ⟨hcls, hpl, h14⟩ := xk_own w6
              obtain ⟨i1, i2, i3⟩ := xk_init h14
              exact va_runIN (n := nn) (As := as'.map (xtv base ex)) ⟨hx, hb, hml, hown, hts⟩ (xmet hz IH w5 w6 hsl h1) ⟨va_cnB nn hts (xGI w5 w6) (by rw [w3b]) rfl rfl (hkw.2.1 _ (xwN_in w1)) (by rw [hcls]; exact hts _ i1) ⟨by rw [hcls]; exact i2, by rw [hcls]; exact i3, w4⟩ hroomR, w3, hts _ (xw_in w2)⟩ ⟨hbl, hpre⟩ rfl (by simp [hlen]) hsz hstk (lv_room (by rw [xcats]; exact h8)) hd hfit
        refine xcont hgo hL fun H1 locs1 hH1 hL1 => ?_
        have e1 : cells + (o1.2.1.length - S.1.length) + (o.2.1.length - o1.2.1.length) = cells + (o.2.1.length - S.1.length) := xadd3 m1.1 m2.1
        have e2 : slots + (xsz o1.2.1 - xsz S.1) + (xsz o.2.1 - xsz o1.2.1) = slots + (xsz o.2.1 - xsz S.1) := xadd3 m1.2 m2.2
        have e3 : (o1.1.map (xtv base ex)).toList ++ r.map (xtv base ex) = (o1.1.toList ++ r).map (xtv base ex) := by cases o1.1 <;> rfl
        rw [e3]
        exact IH id (pc + 3, ls, o1.1.toList ++ r, o1.2) o h2 p e R s m args below meth c H1 locs1 _ _ Q arr F' hH1 hL1 hA (by dsimp only; omega) (by dsimp only; omega) (by dsimp only; rw [e1, e2]; exact hret)
      · cases h1
end XU
end
