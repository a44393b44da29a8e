section
-- ===== PART A: goes FIRST, ahead of the names: the tables' words, and 'selects' of the private methods out of them =====
/-- a private method of a class that the tables say can be made, by its rows of tables_1 -/
def lw_okq (q : MethodName × Nat) : Prop := (q.1.cls ≠ "java/lang/invoke/MethodHandle" ∧ q.1.cls ≠ "java/lang/invoke/VarHandle") ∧ Cond.instantiable q.1.cls q.2 ∈ tables_1 ∧ Cond.privateMethod q.1 ∈ tables_1 ∧ Cond.instanceMethod q.1 ∈ tables_1
theorem lw_p0 : lw_okq (⟨"AirBed", "putFour", "(I)V"⟩, 16) := ⟨⟨by decide +kernel, by decide +kernel⟩, List.mem_of_getElem? (i := 25) (by decide +kernel), List.mem_of_getElem? (i := 598) (by decide +kernel), List.mem_of_getElem? (i := 599) (by decide +kernel)⟩
theorem lw_p1 : lw_okq (⟨"AirBed$Reader", "advance", "()V"⟩, 15) := ⟨⟨by decide +kernel, by decide +kernel⟩, List.mem_of_getElem? (i := 243) (by decide +kernel), List.mem_of_getElem? (i := 611) (by decide +kernel), List.mem_of_getElem? (i := 612) (by decide +kernel)⟩
theorem lw_p2 : lw_okq (⟨"AirBed$Reader", "advanceWord", "()V"⟩, 15) := ⟨⟨by decide +kernel, by decide +kernel⟩, List.mem_of_getElem? (i := 243) (by decide +kernel), List.mem_of_getElem? (i := 618) (by decide +kernel), List.mem_of_getElem? (i := 619) (by decide +kernel)⟩
theorem lw_p3 : lw_okq (⟨"AirBed$Reader", "advanceNumber", "()V"⟩, 15) := ⟨⟨by decide +kernel, by decide +kernel⟩, List.mem_of_getElem? (i := 243) (by decide +kernel), List.mem_of_getElem? (i := 625) (by decide +kernel), List.mem_of_getElem? (i := 626) (by decide +kernel)⟩
theorem lw_p4 : lw_okq (⟨"AirBed$Reader", "advanceSign", "()V"⟩, 15) := ⟨⟨by decide +kernel, by decide +kernel⟩, List.mem_of_getElem? (i := 243) (by decide +kernel), List.mem_of_getElem? (i := 633) (by decide +kernel), List.mem_of_getElem? (i := 634) (by decide +kernel)⟩
theorem lw_p5 : lw_okq (⟨"AirBed$Reader", "follows", "(C)Z"⟩, 15) := ⟨⟨by decide +kernel, by decide +kernel⟩, List.mem_of_getElem? (i := 243) (by decide +kernel), List.mem_of_getElem? (i := 637) (by decide +kernel), List.mem_of_getElem? (i := 638) (by decide +kernel)⟩
theorem lw_p6 : lw_okq (⟨"AirBed$Reader", "readLine", "()V"⟩, 15) := ⟨⟨by decide +kernel, by decide +kernel⟩, List.mem_of_getElem? (i := 243) (by decide +kernel), List.mem_of_getElem? (i := 641) (by decide +kernel), List.mem_of_getElem? (i := 642) (by decide +kernel)⟩
theorem lw_p7 : lw_okq (⟨"AirBed$Reader", "readBed", "()V"⟩, 15) := ⟨⟨by decide +kernel, by decide +kernel⟩, List.mem_of_getElem? (i := 243) (by decide +kernel), List.mem_of_getElem? (i := 645) (by decide +kernel), List.mem_of_getElem? (i := 646) (by decide +kernel)⟩
theorem lw_p8 : lw_okq (⟨"AirBed$Reader", "tellOnce", "(I)V"⟩, 15) := ⟨⟨by decide +kernel, by decide +kernel⟩, List.mem_of_getElem? (i := 243) (by decide +kernel), List.mem_of_getElem? (i := 649) (by decide +kernel), List.mem_of_getElem? (i := 650) (by decide +kernel)⟩
theorem lw_p9 : lw_okq (⟨"AirBed$Reader", "fail", "(I)V"⟩, 15) := ⟨⟨by decide +kernel, by decide +kernel⟩, List.mem_of_getElem? (i := 243) (by decide +kernel), List.mem_of_getElem? (i := 653) (by decide +kernel), List.mem_of_getElem? (i := 654) (by decide +kernel)⟩
theorem lw_p10 : lw_okq (⟨"AirBed$Reader", "readNumber", "(II)I"⟩, 15) := ⟨⟨by decide +kernel, by decide +kernel⟩, List.mem_of_getElem? (i := 243) (by decide +kernel), List.mem_of_getElem? (i := 657) (by decide +kernel), List.mem_of_getElem? (i := 658) (by decide +kernel)⟩
theorem lw_p11 : lw_okq (⟨"AirBed$Reader", "readBlower", "()V"⟩, 15) := ⟨⟨by decide +kernel, by decide +kernel⟩, List.mem_of_getElem? (i := 243) (by decide +kernel), List.mem_of_getElem? (i := 661) (by decide +kernel), List.mem_of_getElem? (i := 662) (by decide +kernel)⟩
theorem lw_p12 : lw_okq (⟨"AirBed$Reader", "tellOneMore", "(II)Z"⟩, 15) := ⟨⟨by decide +kernel, by decide +kernel⟩, List.mem_of_getElem? (i := 243) (by decide +kernel), List.mem_of_getElem? (i := 665) (by decide +kernel), List.mem_of_getElem? (i := 666) (by decide +kernel)⟩
theorem lw_p13 : lw_okq (⟨"AirBed$Reader", "isOwnWord", "()Z"⟩, 15) := ⟨⟨by decide +kernel, by decide +kernel⟩, List.mem_of_getElem? (i := 243) (by decide +kernel), List.mem_of_getElem? (i := 669) (by decide +kernel), List.mem_of_getElem? (i := 670) (by decide +kernel)⟩
theorem lw_p14 : lw_okq (⟨"AirBed$Reader", "readTurn", "()V"⟩, 15) := ⟨⟨by decide +kernel, by decide +kernel⟩, List.mem_of_getElem? (i := 243) (by decide +kernel), List.mem_of_getElem? (i := 677) (by decide +kernel), List.mem_of_getElem? (i := 678) (by decide +kernel)⟩
theorem lw_p15 : lw_okq (⟨"AirBed$Reader", "readPump", "()V"⟩, 15) := ⟨⟨by decide +kernel, by decide +kernel⟩, List.mem_of_getElem? (i := 243) (by decide +kernel), List.mem_of_getElem? (i := 681) (by decide +kernel), List.mem_of_getElem? (i := 682) (by decide +kernel)⟩
def lw_privs_1 : List (MethodName × Nat) := [(⟨"AirBed", "putFour", "(I)V"⟩, 16), (⟨"AirBed$Reader", "advance", "()V"⟩, 15), (⟨"AirBed$Reader", "advanceWord", "()V"⟩, 15), (⟨"AirBed$Reader", "advanceNumber", "()V"⟩, 15), (⟨"AirBed$Reader", "advanceSign", "()V"⟩, 15), (⟨"AirBed$Reader", "follows", "(C)Z"⟩, 15), (⟨"AirBed$Reader", "readLine", "()V"⟩, 15), (⟨"AirBed$Reader", "readBed", "()V"⟩, 15), (⟨"AirBed$Reader", "tellOnce", "(I)V"⟩, 15), (⟨"AirBed$Reader", "fail", "(I)V"⟩, 15), (⟨"AirBed$Reader", "readNumber", "(II)I"⟩, 15), (⟨"AirBed$Reader", "readBlower", "()V"⟩, 15), (⟨"AirBed$Reader", "tellOneMore", "(II)Z"⟩, 15), (⟨"AirBed$Reader", "isOwnWord", "()Z"⟩, 15), (⟨"AirBed$Reader", "readTurn", "()V"⟩, 15), (⟨"AirBed$Reader", "readPump", "()V"⟩, 15)]
theorem lw_r1 : ∀ q ∈ lw_privs_1, lw_okq q := List.forall_mem_cons.mpr ⟨lw_p0, List.forall_mem_cons.mpr ⟨lw_p1, List.forall_mem_cons.mpr ⟨lw_p2, List.forall_mem_cons.mpr ⟨lw_p3, List.forall_mem_cons.mpr ⟨lw_p4, List.forall_mem_cons.mpr ⟨lw_p5, List.forall_mem_cons.mpr ⟨lw_p6, List.forall_mem_cons.mpr ⟨lw_p7, List.forall_mem_cons.mpr ⟨lw_p8, List.forall_mem_cons.mpr ⟨lw_p9, List.forall_mem_cons.mpr ⟨lw_p10, List.forall_mem_cons.mpr ⟨lw_p11, List.forall_mem_cons.mpr ⟨lw_p12, List.forall_mem_cons.mpr ⟨lw_p13, List.forall_mem_cons.mpr ⟨lw_p14, List.forall_mem_cons.mpr ⟨lw_p15, fun _ h => absurd h List.not_mem_nil⟩⟩⟩⟩⟩⟩⟩⟩⟩⟩⟩⟩⟩⟩⟩⟩
theorem lw_p16 : lw_okq (⟨"AirBed$Reader", "readLeak", "()V"⟩, 15) := ⟨⟨by decide +kernel, by decide +kernel⟩, List.mem_of_getElem? (i := 243) (by decide +kernel), List.mem_of_getElem? (i := 685) (by decide +kernel), List.mem_of_getElem? (i := 686) (by decide +kernel)⟩
theorem lw_p17 : lw_okq (⟨"AirBed$Reader", "readTrial", "()V"⟩, 15) := ⟨⟨by decide +kernel, by decide +kernel⟩, List.mem_of_getElem? (i := 243) (by decide +kernel), List.mem_of_getElem? (i := 689) (by decide +kernel), List.mem_of_getElem? (i := 690) (by decide +kernel)⟩
theorem lw_p18 : lw_okq (⟨"AirBed$Reader", "readSlip", "()V"⟩, 15) := ⟨⟨by decide +kernel, by decide +kernel⟩, List.mem_of_getElem? (i := 243) (by decide +kernel), List.mem_of_getElem? (i := 697) (by decide +kernel), List.mem_of_getElem? (i := 698) (by decide +kernel)⟩
theorem lw_p19 : lw_okq (⟨"AirBed$Reader", "readSeed", "()V"⟩, 15) := ⟨⟨by decide +kernel, by decide +kernel⟩, List.mem_of_getElem? (i := 243) (by decide +kernel), List.mem_of_getElem? (i := 701) (by decide +kernel), List.mem_of_getElem? (i := 702) (by decide +kernel)⟩
theorem lw_p20 : lw_okq (⟨"AirBed$Reader", "readLaw", "()V"⟩, 15) := ⟨⟨by decide +kernel, by decide +kernel⟩, List.mem_of_getElem? (i := 243) (by decide +kernel), List.mem_of_getElem? (i := 706) (by decide +kernel), List.mem_of_getElem? (i := 707) (by decide +kernel)⟩
theorem lw_p21 : lw_okq (⟨"AirBed$Reader", "readJoin", "()I"⟩, 15) := ⟨⟨by decide +kernel, by decide +kernel⟩, List.mem_of_getElem? (i := 243) (by decide +kernel), List.mem_of_getElem? (i := 714) (by decide +kernel), List.mem_of_getElem? (i := 715) (by decide +kernel)⟩
theorem lw_p22 : lw_okq (⟨"AirBed$Reader", "isMark", "(C)Z"⟩, 15) := ⟨⟨by decide +kernel, by decide +kernel⟩, List.mem_of_getElem? (i := 243) (by decide +kernel), List.mem_of_getElem? (i := 718) (by decide +kernel), List.mem_of_getElem? (i := 719) (by decide +kernel)⟩
theorem lw_p23 : lw_okq (⟨"AirBed$Reader", "settleDownTo", "(I)V"⟩, 15) := ⟨⟨by decide +kernel, by decide +kernel⟩, List.mem_of_getElem? (i := 243) (by decide +kernel), List.mem_of_getElem? (i := 722) (by decide +kernel), List.mem_of_getElem? (i := 723) (by decide +kernel)⟩
theorem lw_p24 : lw_okq (⟨"AirBed$Reader", "countKnot", "()V"⟩, 15) := ⟨⟨by decide +kernel, by decide +kernel⟩, List.mem_of_getElem? (i := 243) (by decide +kernel), List.mem_of_getElem? (i := 736) (by decide +kernel), List.mem_of_getElem? (i := 737) (by decide +kernel)⟩
theorem lw_p25 : lw_okq (⟨"AirBed$Reader", "hold", "(I)V"⟩, 15) := ⟨⟨by decide +kernel, by decide +kernel⟩, List.mem_of_getElem? (i := 243) (by decide +kernel), List.mem_of_getElem? (i := 740) (by decide +kernel), List.mem_of_getElem? (i := 741) (by decide +kernel)⟩
theorem lw_p26 : lw_okq (⟨"AirBed$Reader", "readValue", "(I)I"⟩, 15) := ⟨⟨by decide +kernel, by decide +kernel⟩, List.mem_of_getElem? (i := 243) (by decide +kernel), List.mem_of_getElem? (i := 744) (by decide +kernel), List.mem_of_getElem? (i := 745) (by decide +kernel)⟩
theorem lw_p27 : lw_okq (⟨"AirBed$Reader", "readEnd", "()V"⟩, 15) := ⟨⟨by decide +kernel, by decide +kernel⟩, List.mem_of_getElem? (i := 243) (by decide +kernel), List.mem_of_getElem? (i := 752) (by decide +kernel), List.mem_of_getElem? (i := 753) (by decide +kernel)⟩
theorem lw_p28 : lw_okq (⟨"AirBed", "isBlower", "(I)Z"⟩, 16) := ⟨⟨by decide +kernel, by decide +kernel⟩, List.mem_of_getElem? (i := 25) (by decide +kernel), List.mem_of_getElem? (i := 827) (by decide +kernel), List.mem_of_getElem? (i := 828) (by decide +kernel)⟩
theorem lw_p29 : lw_okq (⟨"AirBed$Sim", "sinceAt", "(II)I"⟩, 7) := ⟨⟨by decide +kernel, by decide +kernel⟩, List.mem_of_getElem? (i := 442) (by decide +kernel), List.mem_of_getElem? (i := 839) (by decide +kernel), List.mem_of_getElem? (i := 840) (by decide +kernel)⟩
theorem lw_p30 : lw_okq (⟨"AirBed$Sim", "fillBy", "(I)V"⟩, 7) := ⟨⟨by decide +kernel, by decide +kernel⟩, List.mem_of_getElem? (i := 442) (by decide +kernel), List.mem_of_getElem? (i := 872) (by decide +kernel), List.mem_of_getElem? (i := 873) (by decide +kernel)⟩
theorem lw_p31 : lw_okq (⟨"AirBed", "settle", "()I"⟩, 16) := ⟨⟨by decide +kernel, by decide +kernel⟩, List.mem_of_getElem? (i := 25) (by decide +kernel), List.mem_of_getElem? (i := 876) (by decide +kernel), List.mem_of_getElem? (i := 877) (by decide +kernel)⟩
def lw_privs_2 : List (MethodName × Nat) := [(⟨"AirBed$Reader", "readLeak", "()V"⟩, 15), (⟨"AirBed$Reader", "readTrial", "()V"⟩, 15), (⟨"AirBed$Reader", "readSlip", "()V"⟩, 15), (⟨"AirBed$Reader", "readSeed", "()V"⟩, 15), (⟨"AirBed$Reader", "readLaw", "()V"⟩, 15), (⟨"AirBed$Reader", "readJoin", "()I"⟩, 15), (⟨"AirBed$Reader", "isMark", "(C)Z"⟩, 15), (⟨"AirBed$Reader", "settleDownTo", "(I)V"⟩, 15), (⟨"AirBed$Reader", "countKnot", "()V"⟩, 15), (⟨"AirBed$Reader", "hold", "(I)V"⟩, 15), (⟨"AirBed$Reader", "readValue", "(I)I"⟩, 15), (⟨"AirBed$Reader", "readEnd", "()V"⟩, 15), (⟨"AirBed", "isBlower", "(I)Z"⟩, 16), (⟨"AirBed$Sim", "sinceAt", "(II)I"⟩, 7), (⟨"AirBed$Sim", "fillBy", "(I)V"⟩, 7), (⟨"AirBed", "settle", "()I"⟩, 16)]
theorem lw_r2 : ∀ q ∈ lw_privs_2, lw_okq q := List.forall_mem_cons.mpr ⟨lw_p16, List.forall_mem_cons.mpr ⟨lw_p17, List.forall_mem_cons.mpr ⟨lw_p18, List.forall_mem_cons.mpr ⟨lw_p19, List.forall_mem_cons.mpr ⟨lw_p20, List.forall_mem_cons.mpr ⟨lw_p21, List.forall_mem_cons.mpr ⟨lw_p22, List.forall_mem_cons.mpr ⟨lw_p23, List.forall_mem_cons.mpr ⟨lw_p24, List.forall_mem_cons.mpr ⟨lw_p25, List.forall_mem_cons.mpr ⟨lw_p26, List.forall_mem_cons.mpr ⟨lw_p27, List.forall_mem_cons.mpr ⟨lw_p28, List.forall_mem_cons.mpr ⟨lw_p29, List.forall_mem_cons.mpr ⟨lw_p30, List.forall_mem_cons.mpr ⟨lw_p31, fun _ h => absurd h List.not_mem_nil⟩⟩⟩⟩⟩⟩⟩⟩⟩⟩⟩⟩⟩⟩⟩⟩
theorem lw_p32 : lw_okq (⟨"AirBed$Rules", "goRounds", "()V"⟩, 3) := ⟨⟨by decide +kernel, by decide +kernel⟩, List.mem_of_getElem? (i := 482) (by decide +kernel), List.mem_of_getElem? (i := 914) (by decide +kernel), List.mem_of_getElem? (i := 915) (by decide +kernel)⟩
theorem lw_p33 : lw_okq (⟨"AirBed$Rules", "goByRule", "(I)V"⟩, 3) := ⟨⟨by decide +kernel, by decide +kernel⟩, List.mem_of_getElem? (i := 482) (by decide +kernel), List.mem_of_getElem? (i := 941) (by decide +kernel), List.mem_of_getElem? (i := 942) (by decide +kernel)⟩
theorem lw_p34 : lw_okq (⟨"AirBed$Rules", "strongest", "()I"⟩, 3) := ⟨⟨by decide +kernel, by decide +kernel⟩, List.mem_of_getElem? (i := 482) (by decide +kernel), List.mem_of_getElem? (i := 945) (by decide +kernel), List.mem_of_getElem? (i := 946) (by decide +kernel)⟩
theorem lw_p35 : lw_okq (⟨"AirBed$Rules", "isStronger", "(II)Z"⟩, 3) := ⟨⟨by decide +kernel, by decide +kernel⟩, List.mem_of_getElem? (i := 482) (by decide +kernel), List.mem_of_getElem? (i := 950) (by decide +kernel), List.mem_of_getElem? (i := 951) (by decide +kernel)⟩
theorem lw_p36 : lw_okq (⟨"AirBed$Rules", "firstAwake", "(I)I"⟩, 3) := ⟨⟨by decide +kernel, by decide +kernel⟩, List.mem_of_getElem? (i := 482) (by decide +kernel), List.mem_of_getElem? (i := 958) (by decide +kernel), List.mem_of_getElem? (i := 959) (by decide +kernel)⟩
theorem lw_p37 : lw_okq (⟨"AirBed$Best", "offer", "(LAirBed$State;IIIII)V"⟩, 4) := ⟨⟨by decide +kernel, by decide +kernel⟩, List.mem_of_getElem? (i := 500) (by decide +kernel), List.mem_of_getElem? (i := 976) (by decide +kernel), List.mem_of_getElem? (i := 977) (by decide +kernel)⟩
theorem lw_p38 : lw_okq (⟨"AirBed$Best", "tryBehind", "(III)V"⟩, 4) := ⟨⟨by decide +kernel, by decide +kernel⟩, List.mem_of_getElem? (i := 500) (by decide +kernel), List.mem_of_getElem? (i := 980) (by decide +kernel), List.mem_of_getElem? (i := 981) (by decide +kernel)⟩
theorem lw_p39 : lw_okq (⟨"AirBed", "secondsAbove", "(III)I"⟩, 16) := ⟨⟨by decide +kernel, by decide +kernel⟩, List.mem_of_getElem? (i := 25) (by decide +kernel), List.mem_of_getElem? (i := 988) (by decide +kernel), List.mem_of_getElem? (i := 989) (by decide +kernel)⟩
theorem lw_p40 : lw_okq (⟨"AirBed", "timesUp", "(IIII)I"⟩, 16) := ⟨⟨by decide +kernel, by decide +kernel⟩, List.mem_of_getElem? (i := 25) (by decide +kernel), List.mem_of_getElem? (i := 1003) (by decide +kernel), List.mem_of_getElem? (i := 1004) (by decide +kernel)⟩
theorem lw_p41 : lw_okq (⟨"AirBed", "mustRise", "(III)Z"⟩, 16) := ⟨⟨by decide +kernel, by decide +kernel⟩, List.mem_of_getElem? (i := 25) (by decide +kernel), List.mem_of_getElem? (i := 1007) (by decide +kernel), List.mem_of_getElem? (i := 1008) (by decide +kernel)⟩
theorem lw_p42 : lw_okq (⟨"AirBed$Search", "findNext", "(LAirBed$Plan;)Z"⟩, 4) := ⟨⟨by decide +kernel, by decide +kernel⟩, List.mem_of_getElem? (i := 520) (by decide +kernel), List.mem_of_getElem? (i := 1037) (by decide +kernel), List.mem_of_getElem? (i := 1038) (by decide +kernel)⟩
theorem lw_p43 : lw_okq (⟨"AirBed", "isRule", "(I)Z"⟩, 16) := ⟨⟨by decide +kernel, by decide +kernel⟩, List.mem_of_getElem? (i := 25) (by decide +kernel), List.mem_of_getElem? (i := 1061) (by decide +kernel), List.mem_of_getElem? (i := 1062) (by decide +kernel)⟩
theorem lw_p44 : lw_okq (⟨"AirBed", "fitsLeak", "(I)Z"⟩, 16) := ⟨⟨by decide +kernel, by decide +kernel⟩, List.mem_of_getElem? (i := 25) (by decide +kernel), List.mem_of_getElem? (i := 1097) (by decide +kernel), List.mem_of_getElem? (i := 1098) (by decide +kernel)⟩
theorem lw_p45 : lw_okq (⟨"AirBed", "wouldBeSeen", "(II)Z"⟩, 16) := ⟨⟨by decide +kernel, by decide +kernel⟩, List.mem_of_getElem? (i := 25) (by decide +kernel), List.mem_of_getElem? (i := 1106) (by decide +kernel), List.mem_of_getElem? (i := 1107) (by decide +kernel)⟩
theorem lw_p46 : lw_okq (⟨"java/lang/Throwable", "fillInStackTrace", "(I)Ljava/lang/Throwable;"⟩, 6) := ⟨⟨by decide +kernel, by decide +kernel⟩, List.mem_of_getElem? (i := 1186) (by decide +kernel), List.mem_of_getElem? (i := 1184) (by decide +kernel), List.mem_of_getElem? (i := 1185) (by decide +kernel)⟩
theorem lw_p47 : lw_okq (⟨"AirBedModel", "plain", "()V"⟩, 81) := ⟨⟨by decide +kernel, by decide +kernel⟩, List.mem_of_getElem? (i := 1235) (by decide +kernel), List.mem_of_getElem? (i := 1241) (by decide +kernel), List.mem_of_getElem? (i := 1242) (by decide +kernel)⟩
def lw_privs_3 : List (MethodName × Nat) := [(⟨"AirBed$Rules", "goRounds", "()V"⟩, 3), (⟨"AirBed$Rules", "goByRule", "(I)V"⟩, 3), (⟨"AirBed$Rules", "strongest", "()I"⟩, 3), (⟨"AirBed$Rules", "isStronger", "(II)Z"⟩, 3), (⟨"AirBed$Rules", "firstAwake", "(I)I"⟩, 3), (⟨"AirBed$Best", "offer", "(LAirBed$State;IIIII)V"⟩, 4), (⟨"AirBed$Best", "tryBehind", "(III)V"⟩, 4), (⟨"AirBed", "secondsAbove", "(III)I"⟩, 16), (⟨"AirBed", "timesUp", "(IIII)I"⟩, 16), (⟨"AirBed", "mustRise", "(III)Z"⟩, 16), (⟨"AirBed$Search", "findNext", "(LAirBed$Plan;)Z"⟩, 4), (⟨"AirBed", "isRule", "(I)Z"⟩, 16), (⟨"AirBed", "fitsLeak", "(I)Z"⟩, 16), (⟨"AirBed", "wouldBeSeen", "(II)Z"⟩, 16), (⟨"java/lang/Throwable", "fillInStackTrace", "(I)Ljava/lang/Throwable;"⟩, 6), (⟨"AirBedModel", "plain", "()V"⟩, 81)]
theorem lw_r3 : ∀ q ∈ lw_privs_3, lw_okq q := List.forall_mem_cons.mpr ⟨lw_p32, List.forall_mem_cons.mpr ⟨lw_p33, List.forall_mem_cons.mpr ⟨lw_p34, List.forall_mem_cons.mpr ⟨lw_p35, List.forall_mem_cons.mpr ⟨lw_p36, List.forall_mem_cons.mpr ⟨lw_p37, List.forall_mem_cons.mpr ⟨lw_p38, List.forall_mem_cons.mpr ⟨lw_p39, List.forall_mem_cons.mpr ⟨lw_p40, List.forall_mem_cons.mpr ⟨lw_p41, List.forall_mem_cons.mpr ⟨lw_p42, List.forall_mem_cons.mpr ⟨lw_p43, List.forall_mem_cons.mpr ⟨lw_p44, List.forall_mem_cons.mpr ⟨lw_p45, List.forall_mem_cons.mpr ⟨lw_p46, List.forall_mem_cons.mpr ⟨lw_p47, fun _ h => absurd h List.not_mem_nil⟩⟩⟩⟩⟩⟩⟩⟩⟩⟩⟩⟩⟩⟩⟩⟩
theorem lw_p48 : lw_okq (⟨"AirBedModel", "keepText", "()V"⟩, 81) := ⟨⟨by decide +kernel, by decide +kernel⟩, List.mem_of_getElem? (i := 1235) (by decide +kernel), List.mem_of_getElem? (i := 1245) (by decide +kernel), List.mem_of_getElem? (i := 1246) (by decide +kernel)⟩
theorem lw_p49 : lw_okq (⟨"AirBedModel", "begin", "()V"⟩, 81) := ⟨⟨by decide +kernel, by decide +kernel⟩, List.mem_of_getElem? (i := 1235) (by decide +kernel), List.mem_of_getElem? (i := 1252) (by decide +kernel), List.mem_of_getElem? (i := 1253) (by decide +kernel)⟩
theorem lw_p50 : lw_okq (⟨"AirBedModel", "atFirst", "(I)V"⟩, 81) := ⟨⟨by decide +kernel, by decide +kernel⟩, List.mem_of_getElem? (i := 1235) (by decide +kernel), List.mem_of_getElem? (i := 1256) (by decide +kernel), List.mem_of_getElem? (i := 1257) (by decide +kernel)⟩
theorem lw_p51 : lw_okq (⟨"AirBedModel", "number1", "(I)I"⟩, 81) := ⟨⟨by decide +kernel, by decide +kernel⟩, List.mem_of_getElem? (i := 1235) (by decide +kernel), List.mem_of_getElem? (i := 1260) (by decide +kernel), List.mem_of_getElem? (i := 1261) (by decide +kernel)⟩
theorem lw_p52 : lw_okq (⟨"AirBedModel", "token", "()V"⟩, 81) := ⟨⟨by decide +kernel, by decide +kernel⟩, List.mem_of_getElem? (i := 1235) (by decide +kernel), List.mem_of_getElem? (i := 1524) (by decide +kernel), List.mem_of_getElem? (i := 1525) (by decide +kernel)⟩
theorem lw_p53 : lw_okq (⟨"AirBedModel", "isSmall", "(I)Z"⟩, 81) := ⟨⟨by decide +kernel, by decide +kernel⟩, List.mem_of_getElem? (i := 1235) (by decide +kernel), List.mem_of_getElem? (i := 1528) (by decide +kernel), List.mem_of_getElem? (i := 1529) (by decide +kernel)⟩
theorem lw_p54 : lw_okq (⟨"AirBedModel", "wordAt", "(II)I"⟩, 81) := ⟨⟨by decide +kernel, by decide +kernel⟩, List.mem_of_getElem? (i := 1235) (by decide +kernel), List.mem_of_getElem? (i := 1532) (by decide +kernel), List.mem_of_getElem? (i := 1533) (by decide +kernel)⟩
theorem lw_p55 : lw_okq (⟨"AirBedModel", "packed", "(II)I"⟩, 81) := ⟨⟨by decide +kernel, by decide +kernel⟩, List.mem_of_getElem? (i := 1235) (by decide +kernel), List.mem_of_getElem? (i := 1536) (by decide +kernel), List.mem_of_getElem? (i := 1537) (by decide +kernel)⟩
theorem lw_p56 : lw_okq (⟨"AirBedModel", "isDigit", "(I)Z"⟩, 81) := ⟨⟨by decide +kernel, by decide +kernel⟩, List.mem_of_getElem? (i := 1235) (by decide +kernel), List.mem_of_getElem? (i := 1540) (by decide +kernel), List.mem_of_getElem? (i := 1541) (by decide +kernel)⟩
theorem lw_p57 : lw_okq (⟨"AirBedModel", "signToken", "()V"⟩, 81) := ⟨⟨by decide +kernel, by decide +kernel⟩, List.mem_of_getElem? (i := 1235) (by decide +kernel), List.mem_of_getElem? (i := 1545) (by decide +kernel), List.mem_of_getElem? (i := 1546) (by decide +kernel)⟩
theorem lw_p58 : lw_okq (⟨"AirBedModel", "lineRead", "()Z"⟩, 81) := ⟨⟨by decide +kernel, by decide +kernel⟩, List.mem_of_getElem? (i := 1235) (by decide +kernel), List.mem_of_getElem? (i := 1549) (by decide +kernel), List.mem_of_getElem? (i := 1550) (by decide +kernel)⟩
theorem lw_p59 : lw_okq (⟨"AirBedModel", "wrong", "(I)Z"⟩, 81) := ⟨⟨by decide +kernel, by decide +kernel⟩, List.mem_of_getElem? (i := 1235) (by decide +kernel), List.mem_of_getElem? (i := 1553) (by decide +kernel), List.mem_of_getElem? (i := 1554) (by decide +kernel)⟩
theorem lw_p60 : lw_okq (⟨"AirBedModel", "bedLine", "()Z"⟩, 81) := ⟨⟨by decide +kernel, by decide +kernel⟩, List.mem_of_getElem? (i := 1235) (by decide +kernel), List.mem_of_getElem? (i := 1557) (by decide +kernel), List.mem_of_getElem? (i := 1558) (by decide +kernel)⟩
theorem lw_p61 : lw_okq (⟨"AirBedModel", "isOnce", "(I)Z"⟩, 81) := ⟨⟨by decide +kernel, by decide +kernel⟩, List.mem_of_getElem? (i := 1235) (by decide +kernel), List.mem_of_getElem? (i := 1561) (by decide +kernel), List.mem_of_getElem? (i := 1562) (by decide +kernel)⟩
theorem lw_p62 : lw_okq (⟨"AirBedModel", "number", "(II)Z"⟩, 81) := ⟨⟨by decide +kernel, by decide +kernel⟩, List.mem_of_getElem? (i := 1235) (by decide +kernel), List.mem_of_getElem? (i := 1565) (by decide +kernel), List.mem_of_getElem? (i := 1566) (by decide +kernel)⟩
theorem lw_p63 : lw_okq (⟨"AirBedModel", "blowerLine", "()Z"⟩, 81) := ⟨⟨by decide +kernel, by decide +kernel⟩, List.mem_of_getElem? (i := 1235) (by decide +kernel), List.mem_of_getElem? (i := 1572) (by decide +kernel), List.mem_of_getElem? (i := 1573) (by decide +kernel)⟩
def lw_privs_4 : List (MethodName × Nat) := [(⟨"AirBedModel", "keepText", "()V"⟩, 81), (⟨"AirBedModel", "begin", "()V"⟩, 81), (⟨"AirBedModel", "atFirst", "(I)V"⟩, 81), (⟨"AirBedModel", "number1", "(I)I"⟩, 81), (⟨"AirBedModel", "token", "()V"⟩, 81), (⟨"AirBedModel", "isSmall", "(I)Z"⟩, 81), (⟨"AirBedModel", "wordAt", "(II)I"⟩, 81), (⟨"AirBedModel", "packed", "(II)I"⟩, 81), (⟨"AirBedModel", "isDigit", "(I)Z"⟩, 81), (⟨"AirBedModel", "signToken", "()V"⟩, 81), (⟨"AirBedModel", "lineRead", "()Z"⟩, 81), (⟨"AirBedModel", "wrong", "(I)Z"⟩, 81), (⟨"AirBedModel", "bedLine", "()Z"⟩, 81), (⟨"AirBedModel", "isOnce", "(I)Z"⟩, 81), (⟨"AirBedModel", "number", "(II)Z"⟩, 81), (⟨"AirBedModel", "blowerLine", "()Z"⟩, 81)]
theorem lw_r4 : ∀ q ∈ lw_privs_4, lw_okq q := List.forall_mem_cons.mpr ⟨lw_p48, List.forall_mem_cons.mpr ⟨lw_p49, List.forall_mem_cons.mpr ⟨lw_p50, List.forall_mem_cons.mpr ⟨lw_p51, List.forall_mem_cons.mpr ⟨lw_p52, List.forall_mem_cons.mpr ⟨lw_p53, List.forall_mem_cons.mpr ⟨lw_p54, List.forall_mem_cons.mpr ⟨lw_p55, List.forall_mem_cons.mpr ⟨lw_p56, List.forall_mem_cons.mpr ⟨lw_p57, List.forall_mem_cons.mpr ⟨lw_p58, List.forall_mem_cons.mpr ⟨lw_p59, List.forall_mem_cons.mpr ⟨lw_p60, List.forall_mem_cons.mpr ⟨lw_p61, List.forall_mem_cons.mpr ⟨lw_p62, List.forall_mem_cons.mpr ⟨lw_p63, fun _ h => absurd h List.not_mem_nil⟩⟩⟩⟩⟩⟩⟩⟩⟩⟩⟩⟩⟩⟩⟩⟩
theorem lw_p64 : lw_okq (⟨"AirBedModel", "newName", "([III)Z"⟩, 81) := ⟨⟨by decide +kernel, by decide +kernel⟩, List.mem_of_getElem? (i := 1235) (by decide +kernel), List.mem_of_getElem? (i := 1576) (by decide +kernel), List.mem_of_getElem? (i := 1577) (by decide +kernel)⟩
theorem lw_p65 : lw_okq (⟨"AirBedModel", "turnLine", "()Z"⟩, 81) := ⟨⟨by decide +kernel, by decide +kernel⟩, List.mem_of_getElem? (i := 1235) (by decide +kernel), List.mem_of_getElem? (i := 1583) (by decide +kernel), List.mem_of_getElem? (i := 1584) (by decide +kernel)⟩
theorem lw_p66 : lw_okq (⟨"AirBedModel", "pumpLine", "()Z"⟩, 81) := ⟨⟨by decide +kernel, by decide +kernel⟩, List.mem_of_getElem? (i := 1235) (by decide +kernel), List.mem_of_getElem? (i := 1587) (by decide +kernel), List.mem_of_getElem? (i := 1588) (by decide +kernel)⟩
theorem lw_p67 : lw_okq (⟨"AirBedModel", "leakLine", "()Z"⟩, 81) := ⟨⟨by decide +kernel, by decide +kernel⟩, List.mem_of_getElem? (i := 1235) (by decide +kernel), List.mem_of_getElem? (i := 1591) (by decide +kernel), List.mem_of_getElem? (i := 1592) (by decide +kernel)⟩
theorem lw_p68 : lw_okq (⟨"AirBedModel", "trialLine", "()Z"⟩, 81) := ⟨⟨by decide +kernel, by decide +kernel⟩, List.mem_of_getElem? (i := 1235) (by decide +kernel), List.mem_of_getElem? (i := 1595) (by decide +kernel), List.mem_of_getElem? (i := 1596) (by decide +kernel)⟩
theorem lw_p69 : lw_okq (⟨"AirBedModel", "sumRead", "()Z"⟩, 81) := ⟨⟨by decide +kernel, by decide +kernel⟩, List.mem_of_getElem? (i := 1235) (by decide +kernel), List.mem_of_getElem? (i := 1599) (by decide +kernel), List.mem_of_getElem? (i := 1600) (by decide +kernel)⟩
theorem lw_p70 : lw_okq (⟨"AirBedModel", "isSign", "(I)Z"⟩, 81) := ⟨⟨by decide +kernel, by decide +kernel⟩, List.mem_of_getElem? (i := 1235) (by decide +kernel), List.mem_of_getElem? (i := 1603) (by decide +kernel), List.mem_of_getElem? (i := 1604) (by decide +kernel)⟩
theorem lw_p71 : lw_okq (⟨"AirBedModel", "leafRead", "()Z"⟩, 81) := ⟨⟨by decide +kernel, by decide +kernel⟩, List.mem_of_getElem? (i := 1235) (by decide +kernel), List.mem_of_getElem? (i := 1607) (by decide +kernel), List.mem_of_getElem? (i := 1608) (by decide +kernel)⟩
theorem lw_p72 : lw_okq (⟨"AirBedModel", "waitsFor", "(I)V"⟩, 81) := ⟨⟨by decide +kernel, by decide +kernel⟩, List.mem_of_getElem? (i := 1235) (by decide +kernel), List.mem_of_getElem? (i := 1611) (by decide +kernel), List.mem_of_getElem? (i := 1612) (by decide +kernel)⟩
theorem lw_p73 : lw_okq (⟨"AirBedModel", "isKey", "(I)Z"⟩, 81) := ⟨⟨by decide +kernel, by decide +kernel⟩, List.mem_of_getElem? (i := 1235) (by decide +kernel), List.mem_of_getElem? (i := 1615) (by decide +kernel), List.mem_of_getElem? (i := 1616) (by decide +kernel)⟩
theorem lw_p74 : lw_okq (⟨"AirBedModel", "isCounted", "()Z"⟩, 81) := ⟨⟨by decide +kernel, by decide +kernel⟩, List.mem_of_getElem? (i := 1235) (by decide +kernel), List.mem_of_getElem? (i := 1619) (by decide +kernel), List.mem_of_getElem? (i := 1620) (by decide +kernel)⟩
theorem lw_p75 : lw_okq (⟨"AirBedModel", "nameMet", "()I"⟩, 81) := ⟨⟨by decide +kernel, by decide +kernel⟩, List.mem_of_getElem? (i := 1235) (by decide +kernel), List.mem_of_getElem? (i := 1623) (by decide +kernel), List.mem_of_getElem? (i := 1624) (by decide +kernel)⟩
theorem lw_p76 : lw_okq (⟨"AirBedModel", "grown", "(III)V"⟩, 81) := ⟨⟨by decide +kernel, by decide +kernel⟩, List.mem_of_getElem? (i := 1235) (by decide +kernel), List.mem_of_getElem? (i := 1627) (by decide +kernel), List.mem_of_getElem? (i := 1628) (by decide +kernel)⟩
theorem lw_p77 : lw_okq (⟨"AirBedModel", "signs", "()Z"⟩, 81) := ⟨⟨by decide +kernel, by decide +kernel⟩, List.mem_of_getElem? (i := 1235) (by decide +kernel), List.mem_of_getElem? (i := 1631) (by decide +kernel), List.mem_of_getElem? (i := 1632) (by decide +kernel)⟩
theorem lw_p78 : lw_okq (⟨"AirBedModel", "bind", "(I)V"⟩, 81) := ⟨⟨by decide +kernel, by decide +kernel⟩, List.mem_of_getElem? (i := 1235) (by decide +kernel), List.mem_of_getElem? (i := 1635) (by decide +kernel), List.mem_of_getElem? (i := 1636) (by decide +kernel)⟩
theorem lw_p79 : lw_okq (⟨"AirBedModel", "dropHeld", "()I"⟩, 81) := ⟨⟨by decide +kernel, by decide +kernel⟩, List.mem_of_getElem? (i := 1235) (by decide +kernel), List.mem_of_getElem? (i := 1642) (by decide +kernel), List.mem_of_getElem? (i := 1643) (by decide +kernel)⟩
def lw_privs_5 : List (MethodName × Nat) := [(⟨"AirBedModel", "newName", "([III)Z"⟩, 81), (⟨"AirBedModel", "turnLine", "()Z"⟩, 81), (⟨"AirBedModel", "pumpLine", "()Z"⟩, 81), (⟨"AirBedModel", "leakLine", "()Z"⟩, 81), (⟨"AirBedModel", "trialLine", "()Z"⟩, 81), (⟨"AirBedModel", "sumRead", "()Z"⟩, 81), (⟨"AirBedModel", "isSign", "(I)Z"⟩, 81), (⟨"AirBedModel", "leafRead", "()Z"⟩, 81), (⟨"AirBedModel", "waitsFor", "(I)V"⟩, 81), (⟨"AirBedModel", "isKey", "(I)Z"⟩, 81), (⟨"AirBedModel", "isCounted", "()Z"⟩, 81), (⟨"AirBedModel", "nameMet", "()I"⟩, 81), (⟨"AirBedModel", "grown", "(III)V"⟩, 81), (⟨"AirBedModel", "signs", "()Z"⟩, 81), (⟨"AirBedModel", "bind", "(I)V"⟩, 81), (⟨"AirBedModel", "dropHeld", "()I"⟩, 81)]
theorem lw_r5 : ∀ q ∈ lw_privs_5, lw_okq q := List.forall_mem_cons.mpr ⟨lw_p64, List.forall_mem_cons.mpr ⟨lw_p65, List.forall_mem_cons.mpr ⟨lw_p66, List.forall_mem_cons.mpr ⟨lw_p67, List.forall_mem_cons.mpr ⟨lw_p68, List.forall_mem_cons.mpr ⟨lw_p69, List.forall_mem_cons.mpr ⟨lw_p70, List.forall_mem_cons.mpr ⟨lw_p71, List.forall_mem_cons.mpr ⟨lw_p72, List.forall_mem_cons.mpr ⟨lw_p73, List.forall_mem_cons.mpr ⟨lw_p74, List.forall_mem_cons.mpr ⟨lw_p75, List.forall_mem_cons.mpr ⟨lw_p76, List.forall_mem_cons.mpr ⟨lw_p77, List.forall_mem_cons.mpr ⟨lw_p78, List.forall_mem_cons.mpr ⟨lw_p79, fun _ h => absurd h List.not_mem_nil⟩⟩⟩⟩⟩⟩⟩⟩⟩⟩⟩⟩⟩⟩⟩⟩
theorem lw_p80 : lw_okq (⟨"AirBedModel", "isBlower", "(I)Z"⟩, 81) := ⟨⟨by decide +kernel, by decide +kernel⟩, List.mem_of_getElem? (i := 1235) (by decide +kernel), List.mem_of_getElem? (i := 1658) (by decide +kernel), List.mem_of_getElem? (i := 1659) (by decide +kernel)⟩
theorem lw_p81 : lw_okq (⟨"AirBedModel", "fails", "(I)I"⟩, 81) := ⟨⟨by decide +kernel, by decide +kernel⟩, List.mem_of_getElem? (i := 1235) (by decide +kernel), List.mem_of_getElem? (i := 1662) (by decide +kernel), List.mem_of_getElem? (i := 1663) (by decide +kernel)⟩
theorem lw_p82 : lw_okq (⟨"AirBedModel", "loadOf", "(II)I"⟩, 81) := ⟨⟨by decide +kernel, by decide +kernel⟩, List.mem_of_getElem? (i := 1235) (by decide +kernel), List.mem_of_getElem? (i := 1671) (by decide +kernel), List.mem_of_getElem? (i := 1672) (by decide +kernel)⟩
theorem lw_p83 : lw_okq (⟨"AirBedModel", "layNames", "(IIII)V"⟩, 81) := ⟨⟨by decide +kernel, by decide +kernel⟩, List.mem_of_getElem? (i := 1235) (by decide +kernel), List.mem_of_getElem? (i := 1675) (by decide +kernel), List.mem_of_getElem? (i := 1676) (by decide +kernel)⟩
theorem lw_p84 : lw_okq (⟨"AirBedModel", "boundLaw", "(III)I"⟩, 81) := ⟨⟨by decide +kernel, by decide +kernel⟩, List.mem_of_getElem? (i := 1235) (by decide +kernel), List.mem_of_getElem? (i := 1679) (by decide +kernel), List.mem_of_getElem? (i := 1680) (by decide +kernel)⟩
theorem lw_p85 : lw_okq (⟨"AirBedModel", "lawOf", "(I)J"⟩, 81) := ⟨⟨by decide +kernel, by decide +kernel⟩, List.mem_of_getElem? (i := 1235) (by decide +kernel), List.mem_of_getElem? (i := 1683) (by decide +kernel), List.mem_of_getElem? (i := 1684) (by decide +kernel)⟩
theorem lw_p86 : lw_okq (⟨"AirBedModel", "valueOf", "(I)J"⟩, 81) := ⟨⟨by decide +kernel, by decide +kernel⟩, List.mem_of_getElem? (i := 1235) (by decide +kernel), List.mem_of_getElem? (i := 1687) (by decide +kernel), List.mem_of_getElem? (i := 1688) (by decide +kernel)⟩
theorem lw_p87 : lw_okq (⟨"AirBedModel", "bounded", "(J)J"⟩, 81) := ⟨⟨by decide +kernel, by decide +kernel⟩, List.mem_of_getElem? (i := 1235) (by decide +kernel), List.mem_of_getElem? (i := 1691) (by decide +kernel), List.mem_of_getElem? (i := 1692) (by decide +kernel)⟩
theorem lw_p88 : lw_okq (⟨"AirBedModel", "times", "(JJ)J"⟩, 81) := ⟨⟨by decide +kernel, by decide +kernel⟩, List.mem_of_getElem? (i := 1235) (by decide +kernel), List.mem_of_getElem? (i := 1697) (by decide +kernel), List.mem_of_getElem? (i := 1698) (by decide +kernel)⟩
theorem lw_p89 : lw_okq (⟨"AirBedModel", "copyBed", "(II)V"⟩, 81) := ⟨⟨by decide +kernel, by decide +kernel⟩, List.mem_of_getElem? (i := 1235) (by decide +kernel), List.mem_of_getElem? (i := 1708) (by decide +kernel), List.mem_of_getElem? (i := 1709) (by decide +kernel)⟩
theorem lw_p90 : lw_okq (⟨"AirBedModel", "handsOver", "(II)Z"⟩, 81) := ⟨⟨by decide +kernel, by decide +kernel⟩, List.mem_of_getElem? (i := 1235) (by decide +kernel), List.mem_of_getElem? (i := 1712) (by decide +kernel), List.mem_of_getElem? (i := 1713) (by decide +kernel)⟩
theorem lw_p91 : lw_okq (⟨"AirBedModel", "aSecond", "(IZZ)V"⟩, 81) := ⟨⟨by decide +kernel, by decide +kernel⟩, List.mem_of_getElem? (i := 1235) (by decide +kernel), List.mem_of_getElem? (i := 1716) (by decide +kernel), List.mem_of_getElem? (i := 1717) (by decide +kernel)⟩
theorem lw_p92 : lw_okq (⟨"AirBedModel", "fullNext", "(IZZ)I"⟩, 81) := ⟨⟨by decide +kernel, by decide +kernel⟩, List.mem_of_getElem? (i := 1235) (by decide +kernel), List.mem_of_getElem? (i := 1720) (by decide +kernel), List.mem_of_getElem? (i := 1721) (by decide +kernel)⟩
theorem lw_p93 : lw_okq (⟨"AirBedModel", "leakOf", "()I"⟩, 81) := ⟨⟨by decide +kernel, by decide +kernel⟩, List.mem_of_getElem? (i := 1235) (by decide +kernel), List.mem_of_getElem? (i := 1724) (by decide +kernel), List.mem_of_getElem? (i := 1725) (by decide +kernel)⟩
theorem lw_p94 : lw_okq (⟨"AirBedModel", "isDizzy", "(II)Z"⟩, 81) := ⟨⟨by decide +kernel, by decide +kernel⟩, List.mem_of_getElem? (i := 1235) (by decide +kernel), List.mem_of_getElem? (i := 1731) (by decide +kernel), List.mem_of_getElem? (i := 1732) (by decide +kernel)⟩
theorem lw_p95 : lw_okq (⟨"AirBedModel", "rests", "(II)V"⟩, 81) := ⟨⟨by decide +kernel, by decide +kernel⟩, List.mem_of_getElem? (i := 1235) (by decide +kernel), List.mem_of_getElem? (i := 1735) (by decide +kernel), List.mem_of_getElem? (i := 1736) (by decide +kernel)⟩
def lw_privs_6 : List (MethodName × Nat) := [(⟨"AirBedModel", "isBlower", "(I)Z"⟩, 81), (⟨"AirBedModel", "fails", "(I)I"⟩, 81), (⟨"AirBedModel", "loadOf", "(II)I"⟩, 81), (⟨"AirBedModel", "layNames", "(IIII)V"⟩, 81), (⟨"AirBedModel", "boundLaw", "(III)I"⟩, 81), (⟨"AirBedModel", "lawOf", "(I)J"⟩, 81), (⟨"AirBedModel", "valueOf", "(I)J"⟩, 81), (⟨"AirBedModel", "bounded", "(J)J"⟩, 81), (⟨"AirBedModel", "times", "(JJ)J"⟩, 81), (⟨"AirBedModel", "copyBed", "(II)V"⟩, 81), (⟨"AirBedModel", "handsOver", "(II)Z"⟩, 81), (⟨"AirBedModel", "aSecond", "(IZZ)V"⟩, 81), (⟨"AirBedModel", "fullNext", "(IZZ)I"⟩, 81), (⟨"AirBedModel", "leakOf", "()I"⟩, 81), (⟨"AirBedModel", "isDizzy", "(II)Z"⟩, 81), (⟨"AirBedModel", "rests", "(II)V"⟩, 81)]
theorem lw_r6 : ∀ q ∈ lw_privs_6, lw_okq q := List.forall_mem_cons.mpr ⟨lw_p80, List.forall_mem_cons.mpr ⟨lw_p81, List.forall_mem_cons.mpr ⟨lw_p82, List.forall_mem_cons.mpr ⟨lw_p83, List.forall_mem_cons.mpr ⟨lw_p84, List.forall_mem_cons.mpr ⟨lw_p85, List.forall_mem_cons.mpr ⟨lw_p86, List.forall_mem_cons.mpr ⟨lw_p87, List.forall_mem_cons.mpr ⟨lw_p88, List.forall_mem_cons.mpr ⟨lw_p89, List.forall_mem_cons.mpr ⟨lw_p90, List.forall_mem_cons.mpr ⟨lw_p91, List.forall_mem_cons.mpr ⟨lw_p92, List.forall_mem_cons.mpr ⟨lw_p93, List.forall_mem_cons.mpr ⟨lw_p94, List.forall_mem_cons.mpr ⟨lw_p95, fun _ h => absurd h List.not_mem_nil⟩⟩⟩⟩⟩⟩⟩⟩⟩⟩⟩⟩⟩⟩⟩⟩
theorem lw_p96 : lw_okq (⟨"AirBedModel", "fills", "(II)V"⟩, 81) := ⟨⟨by decide +kernel, by decide +kernel⟩, List.mem_of_getElem? (i := 1235) (by decide +kernel), List.mem_of_getElem? (i := 1739) (by decide +kernel), List.mem_of_getElem? (i := 1740) (by decide +kernel)⟩
theorem lw_p97 : lw_okq (⟨"AirBedModel", "breathOf", "(II)I"⟩, 81) := ⟨⟨by decide +kernel, by decide +kernel⟩, List.mem_of_getElem? (i := 1235) (by decide +kernel), List.mem_of_getElem? (i := 1743) (by decide +kernel), List.mem_of_getElem? (i := 1744) (by decide +kernel)⟩
theorem lw_p98 : lw_okq (⟨"AirBedModel", "remember", "()V"⟩, 81) := ⟨⟨by decide +kernel, by decide +kernel⟩, List.mem_of_getElem? (i := 1235) (by decide +kernel), List.mem_of_getElem? (i := 1747) (by decide +kernel), List.mem_of_getElem? (i := 1748) (by decide +kernel)⟩
theorem lw_p99 : lw_okq (⟨"AirBedModel", "put", "([II)V"⟩, 81) := ⟨⟨by decide +kernel, by decide +kernel⟩, List.mem_of_getElem? (i := 1235) (by decide +kernel), List.mem_of_getElem? (i := 1751) (by decide +kernel), List.mem_of_getElem? (i := 1752) (by decide +kernel)⟩
theorem lw_p100 : lw_okq (⟨"AirBedModel", "goRounds", "()Z"⟩, 81) := ⟨⟨by decide +kernel, by decide +kernel⟩, List.mem_of_getElem? (i := 1235) (by decide +kernel), List.mem_of_getElem? (i := 1775) (by decide +kernel), List.mem_of_getElem? (i := 1776) (by decide +kernel)⟩
theorem lw_p101 : lw_okq (⟨"AirBedModel", "breathes", "(IZ)Z"⟩, 81) := ⟨⟨by decide +kernel, by decide +kernel⟩, List.mem_of_getElem? (i := 1235) (by decide +kernel), List.mem_of_getElem? (i := 1779) (by decide +kernel), List.mem_of_getElem? (i := 1780) (by decide +kernel)⟩
theorem lw_p102 : lw_okq (⟨"AirBedModel", "ticks", "(Z)Z"⟩, 81) := ⟨⟨by decide +kernel, by decide +kernel⟩, List.mem_of_getElem? (i := 1235) (by decide +kernel), List.mem_of_getElem? (i := 1783) (by decide +kernel), List.mem_of_getElem? (i := 1784) (by decide +kernel)⟩
theorem lw_p103 : lw_okq (⟨"AirBedModel", "layBest", "(I)V"⟩, 81) := ⟨⟨by decide +kernel, by decide +kernel⟩, List.mem_of_getElem? (i := 1235) (by decide +kernel), List.mem_of_getElem? (i := 1791) (by decide +kernel), List.mem_of_getElem? (i := 1792) (by decide +kernel)⟩
theorem lw_p104 : lw_okq (⟨"AirBedModel", "hands", "(II)V"⟩, 81) := ⟨⟨by decide +kernel, by decide +kernel⟩, List.mem_of_getElem? (i := 1235) (by decide +kernel), List.mem_of_getElem? (i := 1795) (by decide +kernel), List.mem_of_getElem? (i := 1796) (by decide +kernel)⟩
theorem lw_p105 : lw_okq (⟨"AirBedModel", "canBreathe", "(II)Z"⟩, 81) := ⟨⟨by decide +kernel, by decide +kernel⟩, List.mem_of_getElem? (i := 1235) (by decide +kernel), List.mem_of_getElem? (i := 1799) (by decide +kernel), List.mem_of_getElem? (i := 1800) (by decide +kernel)⟩
theorem lw_p106 : lw_okq (⟨"AirBedModel", "takeBest", "(IIIII)V"⟩, 81) := ⟨⟨by decide +kernel, by decide +kernel⟩, List.mem_of_getElem? (i := 1235) (by decide +kernel), List.mem_of_getElem? (i := 1803) (by decide +kernel), List.mem_of_getElem? (i := 1804) (by decide +kernel)⟩
theorem lw_p107 : lw_okq (⟨"AirBedModel", "secondTurns", "(II)V"⟩, 81) := ⟨⟨by decide +kernel, by decide +kernel⟩, List.mem_of_getElem? (i := 1235) (by decide +kernel), List.mem_of_getElem? (i := 1807) (by decide +kernel), List.mem_of_getElem? (i := 1808) (by decide +kernel)⟩
theorem lw_p108 : lw_okq (⟨"AirBedModel", "lastsBy", "(III)I"⟩, 81) := ⟨⟨by decide +kernel, by decide +kernel⟩, List.mem_of_getElem? (i := 1235) (by decide +kernel), List.mem_of_getElem? (i := 1815) (by decide +kernel), List.mem_of_getElem? (i := 1816) (by decide +kernel)⟩
theorem lw_p109 : lw_okq (⟨"AirBedModel", "layUps", "(IIII)V"⟩, 81) := ⟨⟨by decide +kernel, by decide +kernel⟩, List.mem_of_getElem? (i := 1235) (by decide +kernel), List.mem_of_getElem? (i := 1830) (by decide +kernel), List.mem_of_getElem? (i := 1831) (by decide +kernel)⟩
theorem lw_p110 : lw_okq (⟨"AirBedModel", "getsUp", "(III)Z"⟩, 81) := ⟨⟨by decide +kernel, by decide +kernel⟩, List.mem_of_getElem? (i := 1235) (by decide +kernel), List.mem_of_getElem? (i := 1834) (by decide +kernel), List.mem_of_getElem? (i := 1835) (by decide +kernel)⟩
theorem lw_p111 : lw_okq (⟨"AirBedModel", "ruleTime", "(I)I"⟩, 81) := ⟨⟨by decide +kernel, by decide +kernel⟩, List.mem_of_getElem? (i := 1235) (by decide +kernel), List.mem_of_getElem? (i := 1867) (by decide +kernel), List.mem_of_getElem? (i := 1868) (by decide +kernel)⟩
def lw_privs_7 : List (MethodName × Nat) := [(⟨"AirBedModel", "fills", "(II)V"⟩, 81), (⟨"AirBedModel", "breathOf", "(II)I"⟩, 81), (⟨"AirBedModel", "remember", "()V"⟩, 81), (⟨"AirBedModel", "put", "([II)V"⟩, 81), (⟨"AirBedModel", "goRounds", "()Z"⟩, 81), (⟨"AirBedModel", "breathes", "(IZ)Z"⟩, 81), (⟨"AirBedModel", "ticks", "(Z)Z"⟩, 81), (⟨"AirBedModel", "layBest", "(I)V"⟩, 81), (⟨"AirBedModel", "hands", "(II)V"⟩, 81), (⟨"AirBedModel", "canBreathe", "(II)Z"⟩, 81), (⟨"AirBedModel", "takeBest", "(IIIII)V"⟩, 81), (⟨"AirBedModel", "secondTurns", "(II)V"⟩, 81), (⟨"AirBedModel", "lastsBy", "(III)I"⟩, 81), (⟨"AirBedModel", "layUps", "(IIII)V"⟩, 81), (⟨"AirBedModel", "getsUp", "(III)Z"⟩, 81), (⟨"AirBedModel", "ruleTime", "(I)I"⟩, 81)]
theorem lw_r7 : ∀ q ∈ lw_privs_7, lw_okq q := List.forall_mem_cons.mpr ⟨lw_p96, List.forall_mem_cons.mpr ⟨lw_p97, List.forall_mem_cons.mpr ⟨lw_p98, List.forall_mem_cons.mpr ⟨lw_p99, List.forall_mem_cons.mpr ⟨lw_p100, List.forall_mem_cons.mpr ⟨lw_p101, List.forall_mem_cons.mpr ⟨lw_p102, List.forall_mem_cons.mpr ⟨lw_p103, List.forall_mem_cons.mpr ⟨lw_p104, List.forall_mem_cons.mpr ⟨lw_p105, List.forall_mem_cons.mpr ⟨lw_p106, List.forall_mem_cons.mpr ⟨lw_p107, List.forall_mem_cons.mpr ⟨lw_p108, List.forall_mem_cons.mpr ⟨lw_p109, List.forall_mem_cons.mpr ⟨lw_p110, List.forall_mem_cons.mpr ⟨lw_p111, fun _ h => absurd h List.not_mem_nil⟩⟩⟩⟩⟩⟩⟩⟩⟩⟩⟩⟩⟩⟩⟩⟩
theorem lw_p112 : lw_okq (⟨"AirBedModel", "nextBy", "(II)I"⟩, 81) := ⟨⟨by decide +kernel, by decide +kernel⟩, List.mem_of_getElem? (i := 1235) (by decide +kernel), List.mem_of_getElem? (i := 1871) (by decide +kernel), List.mem_of_getElem? (i := 1872) (by decide +kernel)⟩
theorem lw_p113 : lw_okq (⟨"AirBedModel", "noted", "(IIII)I"⟩, 81) := ⟨⟨by decide +kernel, by decide +kernel⟩, List.mem_of_getElem? (i := 1235) (by decide +kernel), List.mem_of_getElem? (i := 1883) (by decide +kernel), List.mem_of_getElem? (i := 1884) (by decide +kernel)⟩
theorem lw_p114 : lw_okq (⟨"AirBedModel", "knownBy", "()I"⟩, 81) := ⟨⟨by decide +kernel, by decide +kernel⟩, List.mem_of_getElem? (i := 1235) (by decide +kernel), List.mem_of_getElem? (i := 1899) (by decide +kernel), List.mem_of_getElem? (i := 1900) (by decide +kernel)⟩
theorem lw_p115 : lw_okq (⟨"AirBedModel", "isSo", "()Z"⟩, 81) := ⟨⟨by decide +kernel, by decide +kernel⟩, List.mem_of_getElem? (i := 1235) (by decide +kernel), List.mem_of_getElem? (i := 1903) (by decide +kernel), List.mem_of_getElem? (i := 1904) (by decide +kernel)⟩
theorem lw_p116 : lw_okq (⟨"AirBedModel", "take", "([II)V"⟩, 81) := ⟨⟨by decide +kernel, by decide +kernel⟩, List.mem_of_getElem? (i := 1235) (by decide +kernel), List.mem_of_getElem? (i := 1919) (by decide +kernel), List.mem_of_getElem? (i := 1920) (by decide +kernel)⟩
def lw_privs_8 : List (MethodName × Nat) := [(⟨"AirBedModel", "nextBy", "(II)I"⟩, 81), (⟨"AirBedModel", "noted", "(IIII)I"⟩, 81), (⟨"AirBedModel", "knownBy", "()I"⟩, 81), (⟨"AirBedModel", "isSo", "()Z"⟩, 81), (⟨"AirBedModel", "take", "([II)V"⟩, 81)]
theorem lw_r8 : ∀ q ∈ lw_privs_8, lw_okq q := List.forall_mem_cons.mpr ⟨lw_p112, List.forall_mem_cons.mpr ⟨lw_p113, List.forall_mem_cons.mpr ⟨lw_p114, List.forall_mem_cons.mpr ⟨lw_p115, List.forall_mem_cons.mpr ⟨lw_p116, fun _ h => absurd h List.not_mem_nil⟩⟩⟩⟩⟩
def lw_privs : List (MethodName × Nat) := lw_privs_1 ++ (lw_privs_2 ++ (lw_privs_3 ++ (lw_privs_4 ++ (lw_privs_5 ++ (lw_privs_6 ++ (lw_privs_7 ++ (lw_privs_8)))))))
def lw_tbl : List Cond := k2_sels lw_privs ++ tables_1
theorem lw_privs_ok : ∀ q ∈ lw_privs, lw_okq q := by
  show ∀ q ∈ lw_privs_1 ++ (lw_privs_2 ++ (lw_privs_3 ++ (lw_privs_4 ++ (lw_privs_5 ++ (lw_privs_6 ++ (lw_privs_7 ++ (lw_privs_8))))))), lw_okq q
  exact List.forall_mem_append.mpr ⟨lw_r1, List.forall_mem_append.mpr ⟨lw_r2, List.forall_mem_append.mpr ⟨lw_r3, List.forall_mem_append.mpr ⟨lw_r4, List.forall_mem_append.mpr ⟨lw_r5, List.forall_mem_append.mpr ⟨lw_r6, List.forall_mem_append.mpr ⟨lw_r7, lw_r8⟩⟩⟩⟩⟩⟩⟩
/-- the words of the tables that a callee may be given -/
def am_ts : List Cond := lw_tbl.filter goodWord
theorem am_ts_in {i : Nat} {w : Cond} (h : lw_tbl[i]? = some w) (hg : goodWord w = true) : w ∈ am_ts := List.mem_filter.mpr ⟨List.mem_of_getElem? h, hg⟩
theorem am_ts_good {w : Cond} (h : w ∈ am_ts) : goodWord w = true := (List.mem_filter.mp h).2
theorem am_ts_tbl {w : Cond} (h : w ∈ am_ts) : w ∈ lw_tbl := (List.mem_filter.mp h).1
end
section
/-! ===== THE SMALL MACHINE: what a method does, as a function of numbers. A cell is its number (the order of making), a heap a function of cell and place; a reference to cell i is .ref i, to the law's script .retAddr 0, to the words' text .retAddr 1. ===== -/
abbrev am_H : Type := Nat → Nat → Value
/-- a cell's kind: an object of class ci, an array of a type and a length -/
abbrev am_k : Type := Nat ⊕ (FieldType × Nat)
abbrev am_L : Type := List (Nat × Value)
/-- pc, length, instruction, three numbers, a constant -/
abbrev am_I : Type := Nat × Nat × Instr × (Nat × Nat × Nat) × Int
/-- (class number, name, bytes), (maxLocals, return type, parameters), (frames, locals, cells, slots), code -/
abbrev am_M : Type := (Nat × MethodName × ByteArray) × (Nat × Option FieldType × Nat) × (Nat × Nat × Nat × Nat) × List am_I
/-- code from here on, locals, stack, kinds, heap, cells and slots made -/
abbrev am_F : Type := List am_I × am_L × List Value × List am_k × am_H × Nat × Nat
abbrev am_O : Type := Option Value × List am_k × am_H
abbrev am_R : Type := Option (am_F ⊕ am_O)
/-- the program, the field types by class, the class names, the text of the words, the script -/
abbrev am_G : Type := (Nat → Option am_M) × (Nat → List FieldType) × (Nat → String) × (Nat → Int32) × Option (Nat × (Nat → Int32))
def am_up (h : am_H) (o k : Nat) (v : Value) : am_H := fun o' k' => cond (Nat.beq o' o && Nat.beq k' k) v (h o' k')
def am_mk (h : am_H) (o : Nat) (f : Nat → Value) : am_H := fun o' k' => cond (Nat.beq o' o) (f k') (h o' k')
def am_get : am_L → Nat → Option Value
  | [], _ => none
  | q :: l, k => cond (Nat.beq q.1 k) (some q.2) (am_get l k)
def am_set (ls : am_L) (k : Nat) (v : Value) : am_L := (k, v) :: ls.filter (fun q => !(q.1 == k) && !(q.1 + 1 == k && q.2.category == 2))
def am_set2 (ls : am_L) (k : Nat) (v : Value) : am_L := (k, v) :: ls.filter (fun q => !(q.1 == k) && (!(q.1 == k + 1) && !(q.1 + 1 == k && q.2.category == 2)))
/-- goes on at the next instruction -/
def am_nx (i : am_I) (cs : List am_I) (k : am_R) : am_R := match cs with
  | [] => none
  | j :: _ => cond (Nat.beq j.1 (i.1 + i.2.1)) k none
def am_go (i : am_I) (cs : List am_I) (ls : am_L) (st : List Value) (ks : List am_k) (h : am_H) (nc ns : Nat) : am_R := am_nx i cs (some (.inl (cs, ls, st, ks, h, nc, ns)))
/-- goes on at the a-th instruction of the method, whose pc must be t -/
def am_jp (M : am_M) (a : Nat) (t : Int) (ls : am_L) (st : List Value) (ks : List am_k) (h : am_H) (nc ns : Nat) : am_R := match M.2.2.2.drop a with
  | [] => none
  | j :: r => if (j.1 : Int) = t then some (.inl (j :: r, ls, st, ks, h, nc, ns)) else none
def am_seek : List am_I → Int → List am_I
  | [], _ => []
  | j :: r, t => if (j.1 : Int) = t then j :: r else am_seek r t
def am_sw (M : am_M) (t : Int) (ls : am_L) (st : List Value) (ks : List am_k) (h : am_H) (nc ns : Nat) : am_R := match am_seek M.2.2.2 t with
  | [] => none
  | j :: r => some (.inl (j :: r, ls, st, ks, h, nc, ns))
def am_br (M : am_M) (i : am_I) (cs : List am_I) (b : Bool) (off : Int) (ls : am_L) (st : List Value) (ks : List am_k) (h : am_H) (nc ns : Nat) : am_R :=
  cond b (am_jp M i.2.2.2.1.1 (i.1 + off) ls st ks h nc ns) (am_go i cs ls st ks h nc ns)
def am_cmp (c : ClassFile.Cond) (x y : Int32) : Bool := match c with
  | .eq => decide (x = y)
  | .ne => decide (¬ x = y)
  | .lt => decide (x < y)
  | .ge => decide (y ≤ x)
  | .gt => decide (y < x)
  | .le => decide (x ≤ y)
/-- may a field or answer of this type hold this value as it is -/
def am_fit (ty : FieldType) (v : Value) : Bool := match ty, v with
  | .int, .int _ => true
  | .boolean, .int x => decide (x = 0) || decide (x = 1)
  | .long, .long _ => true
  | .object _, .ref _ => true
  | .array _, .ref _ => true
  | _, _ => false
def am_ix (j : Int32) (n : Nat) (k : Nat → am_R) : am_R := if j < 0 ∨ n ≤ j.toNatClampNeg then none else k j.toNatClampNeg
def am_pushI (v : Value) (k : Value → am_R) : am_R := match v with
  | .int x => k (.int x)
  | _ => none
def am_pushL (v : Value) (k : Value → am_R) : am_R := match v with
  | .long x => k (.long x)
  | _ => none
def am_pushR (v : Value) (k : Value → am_R) : am_R := match v with
  | .ref x => k (.ref x)
  | _ => none
def am_cat (st : List Value) : Nat := (st.map fun v => v.category).sum
/-- a method's room -/
def am_rm (M : am_M) : Room := { frames := M.2.2.1.1, cells := M.2.2.1.2.2.1, slots := M.2.2.1.2.2.2, locals := M.2.2.1.2.1 }
abbrev am_rec : Type := Nat → List Value → List am_k → am_H → Option am_O
/-- the room, the stack below and the arguments fit -/
def am_okC (M M' : am_M) (as rest : List Value) (nc ns : Nat) : Bool :=
  Nat.ble (M'.2.2.1.1 + 1) M.2.2.1.1 && Nat.ble (8 + (M'.2.1.1 + 11) + M'.2.2.1.2.1) M.2.2.1.2.1 && Nat.ble (nc + M'.2.2.1.2.2.1) M.2.2.1.2.2.1 && Nat.ble (ns + M'.2.2.1.2.2.2) M.2.2.1.2.2.2
    && Nat.ble (am_cat rest) 8 && Nat.ble (am_cat as) M'.2.1.1
def am_calls (ex : Bool) (M M' : am_M) (a : Nat) (rc : am_rec) (i : am_I) (cs : List am_I) (ls : am_L) (as rest : List Value) (ks : List am_k) (h : am_H) (nc ns : Nat) : am_R :=
  cond (am_okC M M' as rest nc ns) (match rc a as ks h with
    | none => none
    | some (r, ks', h') => cond (!ex || Nat.beq ks'.length (ks.length + M'.2.2.1.2.2.1)) (am_go i cs ls (r.toList ++ rest) ks' h' (nc + M'.2.2.1.2.2.1) (ns + M'.2.2.1.2.2.2)) none) none
/-- a call on an object -/
def am_callV (ex : Bool) (G : am_G) (M : am_M) (rc : am_rec) (i : am_I) (cs : List am_I) (ls : am_L) (st : List Value) (ks : List am_k) (h : am_H) (nc ns : Nat) : am_R :=
  match G.1 i.2.2.2.1.1 with
  | none => none
  | some M' => match st.drop M'.2.1.2.2 with
    | .ref o :: rest => match ks[o]? with
      | some (.inl ci) => cond (Nat.beq ci M'.1.1 && Nat.beq (st.take M'.2.1.2.2).length M'.2.1.2.2) (am_calls ex M M' i.2.2.2.1.1 rc i cs ls (.ref o :: (st.take M'.2.1.2.2).reverse) rest ks h nc ns) none
      | _ => none
    | _ => none
def am_callS (ex : Bool) (G : am_G) (M : am_M) (rc : am_rec) (i : am_I) (cs : List am_I) (ls : am_L) (st : List Value) (ks : List am_k) (h : am_H) (nc ns : Nat) : am_R :=
  match G.1 i.2.2.2.1.1 with
  | none => none
  | some M' => cond (Nat.beq (st.take M'.2.1.2.2).length M'.2.1.2.2) (am_calls ex M M' i.2.2.2.1.1 rc i cs ls (st.take M'.2.1.2.2).reverse (st.drop M'.2.1.2.2) ks h nc ns) none
def am_math (M : am_M) (i : am_I) (cs : List am_I) (ls : am_L) (st : List Value) (ks : List am_k) (h : am_H) (nc ns : Nat) (g : Int32 → Int32 → Int32) : am_R := match st with
  | .int y :: .int x :: rest => cond (Nat.ble 1 M.2.2.1.1 && Nat.ble (am_cat rest + 13) M.2.2.1.2.1 && Nat.ble nc M.2.2.1.2.2.1 && Nat.ble ns M.2.2.1.2.2.2) (am_go i cs ls (.int (g x y) :: rest) ks h nc ns) none
  | _ => none
def am_new (G : am_G) (M : am_M) (ex : Bool) (i : am_I) (cs : List am_I) (ls : am_L) (st : List Value) (ks : List am_k) (h : am_H) (nc ns : Nat) : am_R :=
  cond (ex && Nat.ble (nc + 1) M.2.2.1.2.2.1 && Nat.ble (ns + (G.2.1 i.2.2.2.1.1).length) M.2.2.1.2.2.2)
    (am_go i cs ls (.ref ks.length :: st) (ks ++ [.inl i.2.2.2.1.1]) (am_mk h ks.length (fun j => defaultValue ((G.2.1 i.2.2.2.1.1).getD j .int))) (nc + 1) (ns + (G.2.1 i.2.2.2.1.1).length)) none
def am_newA (M : am_M) (ex : Bool) (ty : FieldType) (i : am_I) (cs : List am_I) (ls : am_L) (st : List Value) (ks : List am_k) (h : am_H) (nc ns : Nat) : am_R := match st with
  | .int n :: rest => if n < 0 then none else cond (ex && Nat.ble (nc + 1) M.2.2.1.2.2.1 && Nat.ble (ns + n.toNatClampNeg) M.2.2.1.2.2.2 && Nat.ble (n.toNatClampNeg * 8) 536870912)
      (am_go i cs ls (.ref ks.length :: rest) (ks ++ [.inr (ty, n.toNatClampNeg)]) (am_mk h ks.length (fun _ => defaultValue ty)) (nc + 1) (ns + n.toNatClampNeg)) none
  | _ => none
def am_ret (M : am_M) (v : Option Value) (ks : List am_k) (h : am_H) (nc ns : Nat) : Option am_O :=
  cond (Nat.ble nc M.2.2.1.2.2.1 && Nat.ble ns M.2.2.1.2.2.2) (some (v, ks, h)) none
/-- the method's end, if the instruction is one -/
def am_end (M : am_M) (f : am_F) : Option am_O := match f with
  | ([], _) => none
  | (i :: _, _, st, ks, h, nc, ns) => match i.2.2.1 with
    | .ireturn => match st with
      | [.int v] => match M.2.1.2.1 with
        | some ty => cond (am_fit ty (.int v)) (am_ret M (some (.int v)) ks h nc ns) none
        | none => none
      | _ => none
    | .lreturn => match st with
      | [.long v] => match M.2.1.2.1 with
        | some .long => am_ret M (some (.long v)) ks h nc ns
        | _ => none
      | _ => none
    | .return_ => match st with
      | [] => match M.2.1.2.1 with
        | none => am_ret M none ks h nc ns
        | _ => none
      | _ => none
    | _ => none
/-- reading an array's place -/
def am_ald (G : am_G) (ks : List am_k) (h : am_H) (a : Value) (j : Int32) (ty : FieldType) (k : Value → am_R) : am_R := match a with
  | .ref o => match ks[o]? with
    | some (.inr (t, n)) => cond (decide (t = ty)) (am_ix j n (fun q => k (h o q))) none
    | _ => none
  | .retAddr 0 => match G.2.2.2.2 with
    | some (L, xs) => cond (decide (ty = .int)) (am_ix j L (fun q => k (.int (xs q)))) none
    | none => none
  | _ => none
/-- writing it -/
def am_ast (ks : List am_k) (h : am_H) (a : Value) (j : Int32) (ty : FieldType) (v : Value) (k : am_H → am_R) : am_R := match a with
  | .ref o => match ks[o]? with
    | some (.inr (t, n)) => cond (decide (t = ty)) (am_ix j n (fun q => k (am_up h o q v))) none
    | _ => none
  | _ => none
def am_aald (ks : List am_k) (h : am_H) (o : Nat) (j : Int32) (k : Value → am_R) : am_R := match ks[o]? with
  | some (.inr (.object _, n)) => am_ix j n (fun q => k (h o q))
  | _ => none
def am_aast (G : am_G) (ks : List am_k) (h : am_H) (o : Nat) (j : Int32) (v : Nat) (k : am_H → am_R) : am_R := match ks[o]? with
  | some (.inr (.object C, n)) => match ks[v]? with
    | some (.inl ci) => cond (decide (G.2.2.1 ci = C)) (am_ix j n (fun q => k (am_up h o q (.ref v)))) none
    | _ => none
  | _ => none
def am_len (G : am_G) (ks : List am_k) (a : Value) (k : Value → am_R) : am_R := match a with
  | .ref o => match ks[o]? with
    | some (.inr (_, n)) => k (.int (Int32.ofNat n))
    | _ => none
  | .retAddr 0 => match G.2.2.2.2 with
    | some (L, _) => k (.int (Int32.ofNat L))
    | none => none
  | _ => none
/-- a sign of the words' text, which is 120 long -/
def am_text (G : am_G) (M : am_M) (i : am_I) (cs : List am_I) (ls : am_L) (st : List Value) (ks : List am_k) (h : am_H) (nc ns : Nat) (j : Int32) : am_R :=
  cond (Nat.ble 8 M.2.2.1.1 && Nat.ble (am_cat st) 8 && Nat.ble 200 M.2.2.1.2.1 && Nat.ble nc M.2.2.1.2.2.1 && Nat.ble ns M.2.2.1.2.2.2) (am_ix j 120 (fun q => am_go i cs ls (.int (G.2.2.2.1 q) :: st) ks h nc ns)) none
/-- one instruction: the frame behind it, or the method's end -/
def am_one (φ : Value → (Value → am_R) → am_R) (ex : Bool) (G : am_G) (rc : am_rec) (M : am_M) (f : am_F) : am_R := match f with
  | ([], _) => none
  | (i :: cs, ls, st, ks, h, nc, ns) => match i.2.2.1 with
    | .aload k => match am_get ls k with
      | some (.ref x) => am_go i cs ls (.ref x :: st) ks h nc ns
      | some (.retAddr x) => am_go i cs ls (.retAddr x :: st) ks h nc ns
      | _ => none
    | .aload_n k => match am_get ls k.val with
      | some (.ref x) => am_go i cs ls (.ref x :: st) ks h nc ns
      | some (.retAddr x) => am_go i cs ls (.retAddr x :: st) ks h nc ns
      | _ => none
    | .iload k => match am_get ls k with
      | some (.int x) => am_go i cs ls (.int x :: st) ks h nc ns
      | _ => none
    | .iload_n k => match am_get ls k.val with
      | some (.int x) => am_go i cs ls (.int x :: st) ks h nc ns
      | _ => none
    | .lload k => match am_get ls k with
      | some (.long x) => am_go i cs ls (.long x :: st) ks h nc ns
      | _ => none
    | .lload_n k => match am_get ls k.val with
      | some (.long x) => am_go i cs ls (.long x :: st) ks h nc ns
      | _ => none
    | .istore k => match st with
      | .int x :: st => cond (Nat.blt k M.2.1.1) (φ (.int x) (fun v => am_pushI v (fun v => am_go i cs (am_set ls k v) st ks h nc ns))) none
      | _ => none
    | .istore_n k => match st with
      | .int x :: st => cond (Nat.blt k.val M.2.1.1) (φ (.int x) (fun v => am_pushI v (fun v => am_go i cs (am_set ls k.val v) st ks h nc ns))) none
      | _ => none
    | .lstore k => match st with
      | .long x :: st => cond (Nat.blt (k + 1) M.2.1.1) (φ (.long x) (fun v => am_pushL v (fun v => am_go i cs (am_set2 ls k v) st ks h nc ns))) none
      | _ => none
    | .lstore_n k => match st with
      | .long x :: st => cond (Nat.blt (k.val + 1) M.2.1.1) (φ (.long x) (fun v => am_pushL v (fun v => am_go i cs (am_set2 ls k.val v) st ks h nc ns))) none
      | _ => none
    | .astore k => match st with
      | .ref x :: st => cond (Nat.blt k M.2.1.1) (am_go i cs (am_set ls k (.ref x)) st ks h nc ns) none
      | _ => none
    | .astore_n k => match st with
      | .ref x :: st => cond (Nat.blt k.val M.2.1.1) (am_go i cs (am_set ls k.val (.ref x)) st ks h nc ns) none
      | _ => none
    | .iinc k n => match am_get ls k with
      | some (.int x) => cond (Nat.blt k M.2.1.1) (φ (.int (x + Int32.ofInt n)) (fun v => am_pushI v (fun v => am_go i cs (am_set ls k v) st ks h nc ns))) none
      | _ => none
    | .iconst n => am_go i cs ls (.int (Int32.ofInt n) :: st) ks h nc ns
    | .bipush n => am_go i cs ls (.int (Int8.ofInt n).toInt32 :: st) ks h nc ns
    | .sipush n => am_go i cs ls (.int (Int16.ofInt n).toInt32 :: st) ks h nc ns
    | .lconst n => am_go i cs ls (.long (Int64.ofNat (n : Nat)) :: st) ks h nc ns
    | .ldc _ => match i.2.2.2.1.2.1 with
      | 0 => am_go i cs ls (.int (Int32.ofInt i.2.2.2.2) :: st) ks h nc ns
      | _ => am_go i cs ls (.retAddr 1 :: st) ks h nc ns
    | .ldc2_w _ => am_go i cs ls (.long (Int64.ofInt i.2.2.2.2) :: st) ks h nc ns
    | .dup => match st with
      | v :: st => cond (Nat.beq v.category 1) (am_go i cs ls (v :: v :: st) ks h nc ns) none
      | _ => none
    | .dup2 => match st with
      | v :: w :: st => cond (Nat.beq v.category 1 && Nat.beq w.category 1) (am_go i cs ls (v :: w :: v :: w :: st) ks h nc ns) none
      | _ => none
    | .pop => match st with
      | v :: st => cond (Nat.beq v.category 1) (am_go i cs ls st ks h nc ns) none
      | _ => none
    | .iadd => match st with
      | .int y :: .int x :: st => am_go i cs ls (.int (x + y) :: st) ks h nc ns
      | _ => none
    | .isub => match st with
      | .int y :: .int x :: st => am_go i cs ls (.int (x - y) :: st) ks h nc ns
      | _ => none
    | .imul => match st with
      | .int y :: .int x :: st => am_go i cs ls (.int (x * y) :: st) ks h nc ns
      | _ => none
    | .iand => match st with
      | .int y :: .int x :: st => am_go i cs ls (.int (x &&& y) :: st) ks h nc ns
      | _ => none
    | .ior => match st with
      | .int y :: .int x :: st => am_go i cs ls (.int (x ||| y) :: st) ks h nc ns
      | _ => none
    | .ishl => match st with
      | .int y :: .int x :: st => am_go i cs ls (.int (x <<< (y &&& 31)) :: st) ks h nc ns
      | _ => none
    | .ishr => match st with
      | .int y :: .int x :: st => am_go i cs ls (.int (x >>> (y &&& 31)) :: st) ks h nc ns
      | _ => none
    | .iushr => match st with
      | .int y :: .int x :: st => am_go i cs ls (.int (x.toUInt32 >>> (y.toUInt32 &&& Int32.toUInt32 31)).toInt32 :: st) ks h nc ns
      | _ => none
    | .idiv => match st with
      | .int y :: .int x :: st => if y = 0 then none else am_go i cs ls (.int (x / y) :: st) ks h nc ns
      | _ => none
    | .irem => match st with
      | .int y :: .int x :: st => if y = 0 then none else am_go i cs ls (.int (x - x / y * y) :: st) ks h nc ns
      | _ => none
    | .ladd => match st with
      | .long y :: .long x :: st => am_go i cs ls (.long (x + y) :: st) ks h nc ns
      | _ => none
    | .lsub => match st with
      | .long y :: .long x :: st => am_go i cs ls (.long (x - y) :: st) ks h nc ns
      | _ => none
    | .lmul => match st with
      | .long y :: .long x :: st => am_go i cs ls (.long (x * y) :: st) ks h nc ns
      | _ => none
    | .land => match st with
      | .long y :: .long x :: st => am_go i cs ls (.long (x &&& y) :: st) ks h nc ns
      | _ => none
    | .ldiv => match st with
      | .long y :: .long x :: st => if y = 0 then none else am_go i cs ls (.long (x / y) :: st) ks h nc ns
      | _ => none
    | .lrem => match st with
      | .long y :: .long x :: st => if y = 0 then none else am_go i cs ls (.long (x - x / y * y) :: st) ks h nc ns
      | _ => none
    | .lneg => match st with
      | .long x :: st => am_go i cs ls (.long (-x) :: st) ks h nc ns
      | _ => none
    | .lcmp => match st with
      | .long y :: .long x :: st => am_go i cs ls (.int (lg_cmp x y) :: st) ks h nc ns
      | _ => none
    | .i2l => match st with
      | .int x :: st => am_go i cs ls (.long x.toInt64 :: st) ks h nc ns
      | _ => none
    | .l2i => match st with
      | .long x :: st => am_go i cs ls (.int x.toInt32 :: st) ks h nc ns
      | _ => none
    | .goto off => am_jp M i.2.2.2.1.1 (i.1 + off) ls st ks h nc ns
    | .ifCond c off => match st with
      | .int x :: st => am_br M i cs (am_cmp c x 0) off ls st ks h nc ns
      | _ => none
    | .if_icmp c off => match st with
      | .int y :: .int x :: st => am_br M i cs (am_cmp c x y) off ls st ks h nc ns
      | _ => none
    | .tableswitch dflt lo hi offs => match st with
      | .int x :: st => if x.toInt < lo ∨ hi < x.toInt then am_sw M (i.1 + dflt) ls st ks h nc ns else match offs[(x.toInt - lo).toNat]? with
        | some off => am_sw M (i.1 + off) ls st ks h nc ns
        | none => none
      | _ => none
    | .getfield _ => match st with
      | .ref o :: st => match ks[o]? with
        | some (.inl ci) => cond (Nat.beq ci i.2.2.2.1.1) (am_go i cs ls (h o i.2.2.2.1.2.1 :: st) ks h nc ns) none
        | _ => none
      | _ => none
    | .putfield _ => match st with
      | v :: .ref o :: st => match ks[o]? with
        | some (.inl ci) => cond (Nat.beq ci i.2.2.2.1.1 && am_fit ((G.2.1 i.2.2.2.1.1).getD i.2.2.2.1.2.1 .int) v) (φ v (fun w => am_go i cs ls st ks (am_up h o i.2.2.2.1.2.1 w) nc ns)) none
        | _ => none
      | _ => none
    | .iaload => match st with
      | .int j :: a :: st => am_ald G ks h a j .int (fun v => am_pushI v (fun v => am_go i cs ls (v :: st) ks h nc ns))
      | _ => none
    | .baload => match st with
      | .int j :: .ref o :: st => am_ald G ks h (.ref o) j .boolean (fun v => am_pushI v (fun v => am_go i cs ls (v :: st) ks h nc ns))
      | _ => none
    | .laload => match st with
      | .int j :: .ref o :: st => am_ald G ks h (.ref o) j .long (fun v => am_pushL v (fun v => am_go i cs ls (v :: st) ks h nc ns))
      | _ => none
    | .aaload => match st with
      | .int j :: .ref o :: st => am_aald ks h o j (fun v => am_pushR v (fun v => am_go i cs ls (v :: st) ks h nc ns))
      | _ => none
    | .iastore => match st with
      | .int x :: .int j :: a :: st => φ (.int x) (fun v => am_pushI v (fun v => am_ast ks h a j .int v (fun h => am_go i cs ls st ks h nc ns)))
      | _ => none
    | .bastore => match st with
      | .int x :: .int j :: a :: st => cond (am_fit .boolean (.int x)) (φ (.int x) (fun v => am_pushI v (fun v => am_ast ks h a j .boolean v (fun h => am_go i cs ls st ks h nc ns)))) none
      | _ => none
    | .lastore => match st with
      | .long x :: .int j :: a :: st => φ (.long x) (fun v => am_pushL v (fun v => am_ast ks h a j .long v (fun h => am_go i cs ls st ks h nc ns)))
      | _ => none
    | .aastore => match st with
      | .ref v :: .int j :: .ref o :: st => am_aast G ks h o j v (fun h => am_go i cs ls st ks h nc ns)
      | _ => none
    | .arraylength => match st with
      | a :: st => am_len G ks a (fun v => am_go i cs ls (v :: st) ks h nc ns)
      | _ => none
    | .newarray t => am_newA M ex (Op.newarray.typeOf t) i cs ls st ks h nc ns
    | .anewarray _ => am_newA M ex (.object (G.2.2.1 i.2.2.2.1.1)) i cs ls st ks h nc ns
    | .new _ => am_new G M ex i cs ls st ks h nc ns
    | .invokespecial _ => match i.2.2.2.1.2.2 with
      | 0 => match st with
        | .ref _ :: st => cond (Nat.ble 1 M.2.2.1.1 && Nat.ble (am_cat st + 12) M.2.2.1.2.1) (am_go i cs ls st ks h nc ns) none
        | _ => none
      | _ => am_callV ex G M rc i cs ls st ks h nc ns
    | .invokevirtual _ => match i.2.2.2.1.2.2 with
      | 0 => match st with
        | .int j :: .retAddr 1 :: st => am_text G M i cs ls st ks h nc ns j
        | _ => none
      | _ => am_callV ex G M rc i cs ls st ks h nc ns
    | .invokestatic _ => match i.2.2.2.1.2.2 with
      | 0 => none
      | 1 => am_math M i cs ls st ks h nc ns (fun x y => if x < y then y else x)
      | 2 => am_math M i cs ls st ks h nc ns (fun x y => if y < x then y else x)
      | _ => am_callS ex G M rc i cs ls st ks h nc ns
    | _ => none
/-- what a callee sees: no script -/
def am_noS (G : am_G) : am_G := (G.1, G.2.1, G.2.2.1, G.2.2.2.1, none)
/-- a run: the number says how many instructions it may take, calls and all -/
noncomputable def am_run (φ : Value → (Value → am_R) → am_R) (ex : Bool) (n : Nat) : am_G → am_M → am_F → Option am_O :=
  Nat.rec (motive := fun _ => am_G → am_M → am_F → Option am_O) (fun _ _ _ => none)
    (fun _ ih G M f => match am_end M f with
      | some r => some r
      | none => match am_one φ ex G (fun a as ks h => match G.1 a with
          | none => none
          | some M' => ih (am_noS G) M' (M'.2.2.2, lv_args 0 as, [], ks, h, 0, 0)) M f with
        | some (.inl f') => ih G M f'
        | _ => none) n
end
section
/-! ===== WHAT THE SMALL MACHINE'S STATE SAYS OF THE TRUE ONE ===== -/
def am_c (B : Nat) (x : Nat → Nat) : Value → Value
  | .ref i => .ref (B + i)
  | .retAddr k => .ref (x k)
  | v => v
theorem am_c_cat (B : Nat) (x : Nat → Nat) (v : Value) : (am_c B x v).category = v.category := by cases v <;> rfl
def am_i : Value → Int32
  | .int x => x
  | _ => 0
def am_l : Value → Int64
  | .long x => x
  | _ => 0
def am_o (B : Nat) : Value → Option Nat
  | .ref i => some (B + i)
  | _ => none
def am_arr (B n : Nat) (ty : FieldType) (f : Nat → Value) : vp_A := match ty with
  | .long => (n, .inr (.inl (fun j => am_l (f j))))
  | .object _ => (n, .inr (.inr (.inr (.inr (fun j => am_o B (f j))))))
  | _ => (n, .inl (fun j => am_i (f j)))
theorem am_arr_1 (B n : Nat) (ty : FieldType) (f : Nat → Value) : (am_arr B n ty f).1 = n := by cases ty <;> rfl
def am_N (cl : List vw_C) (ci : Nat) : Nat := match cl[ci]? with
  | some r => r.2.2
  | none => 0
def am_E (cl : List vw_C) (B : Nat) (x : Nat → Nat) (ca : ClassId) (k : am_k) (f : Nat → Value) : va_E := match k with
  | .inl ci => .inr (ci, (List.range (am_N cl ci)).map (fun j => am_c B x (f j)))
  | .inr q => .inl (ca, am_arr B q.2 q.1 f)
def am_W (cl : List vw_C) (B : Nat) (x : Nat → Nat) (dA : Nat → ClassId) (ks : List am_k) (h : am_H) : va_W := ks.mapIdx (fun i k => (B + i, am_E cl B x (dA i) k (h i)))
theorem am_W_at {cl : List vw_C} {B : Nat} {x : Nat → Nat} {dA : Nat → ClassId} {ks : List am_k} {h : am_H} (i : Nat) : (am_W cl B x dA ks h)[i]? = (ks[i]?).map (fun k => (B + i, am_E cl B x (dA i) k (h i))) := by
  simp [am_W, List.getElem?_mapIdx]
theorem am_W_some {cl : List vw_C} {B : Nat} {x : Nat → Nat} {dA : Nat → ClassId} {ks : List am_k} {h : am_H} {i : Nat} {k : am_k} (hk : ks[i]? = some k) : (am_W cl B x dA ks h)[i]? = some (B + i, am_E cl B x (dA i) k (h i)) := by
  rw [am_W_at, hk]; rfl
theorem am_W_D {cl : List vw_C} {B : Nat} {x : Nat → Nat} {dA : Nat → ClassId} {ks : List am_k} {h : am_H} : va_D (fun q => B ≤ q) (am_W cl B x dA ks h) := by
  refine ⟨fun i j p q hi hj hpq => ?_, fun i q hi => ?_⟩
  · rw [am_W_at] at hi hj
    obtain ⟨a, -, rfl⟩ := Option.map_eq_some_iff.mp hi
    obtain ⟨b, -, rfl⟩ := Option.map_eq_some_iff.mp hj
    have : B + i = B + j := hpq
    omega
  · rw [am_W_at] at hi
    obtain ⟨a, -, rfl⟩ := Option.map_eq_some_iff.mp hi
    exact Nat.le_add_right B i
theorem am_beq {a b : Nat} : Nat.beq a b = true ↔ a = b := ⟨Nat.eq_of_beq_eq_true, fun h => by subst h; exact Nat.beq_refl a⟩
theorem am_up_self (h : am_H) (o k : Nat) (v : Value) : am_up h o k v o k = v := by simp [am_up]
theorem am_up_same (h : am_H) (o k k' : Nat) (v : Value) (hk : k' ≠ k) : am_up h o k v o k' = h o k' := by
  have : Nat.beq k' k = false := by cases hq : Nat.beq k' k with
    | false => rfl
    | true => exact absurd (Nat.eq_of_beq_eq_true hq) hk
  simp [am_up, this]
theorem am_up_other (h : am_H) (o k o' : Nat) (v : Value) (ho : o' ≠ o) : am_up h o k v o' = h o' := by
  have : Nat.beq o' o = false := by cases hq : Nat.beq o' o with
    | false => rfl
    | true => exact absurd (Nat.eq_of_beq_eq_true hq) ho
  funext k'
  simp [am_up, this]
/-- a field is written -/
theorem am_W_put {cl : List vw_C} {B : Nat} {x : Nat → Nat} {dA : Nat → ClassId} {ks : List am_k} {h : am_H} {o ci k : Nat} {v : Value} (hk : ks[o]? = some (.inl ci)) (hn : k < am_N cl ci) :
    (am_W cl B x dA ks h).set o (B + o, .inr (ci, ((List.range (am_N cl ci)).map (fun j => am_c B x (h o j))).set k (am_c B x v))) = am_W cl B x dA ks (am_up h o k v) := by
  have hlt : o < (am_W cl B x dA ks h).length := (List.getElem?_eq_some_iff.mp (am_W_some (cl := cl) (B := B) (x := x) (dA := dA) (h := h) hk)).1
  refine List.ext_getElem? fun i => ?_
  by_cases hi : i = o
  · subst hi
    rw [List.getElem?_set_self hlt, am_W_some hk]
    show some (B + i, Sum.inr (ci, _)) = some (B + i, Sum.inr (ci, _))
    congr 4
    refine List.ext_getElem? fun j => ?_
    by_cases hj : j = k
    · subst hj
      rw [List.getElem?_set_self (by simpa using hn)]
      simp [hn, am_up_self]
    · rw [List.getElem?_set_ne (Ne.symm hj)]
      simp only [List.getElem?_map]
      by_cases hjn : j < am_N cl ci
      · simp [hjn, am_up_same _ _ _ _ _ hj]
      · simp [hjn]
  · rw [List.getElem?_set_ne (Ne.symm hi), am_W_at, am_W_at, am_up_other _ _ _ _ _ hi]
/-- an array's place is written -/
theorem am_W_ast {cl : List vw_C} {B : Nat} {x : Nat → Nat} {dA : Nat → ClassId} {ks : List am_k} {h : am_H} {o n k : Nat} {ty : FieldType} {v : Value} {a : vp_A} (hk : ks[o]? = some (.inr (ty, n))) (ha : a = am_arr B n ty (am_up h o k v o)) :
    (am_W cl B x dA ks h).set o (B + o, .inl (dA o, a)) = am_W cl B x dA ks (am_up h o k v) := by
  have hlt : o < (am_W cl B x dA ks h).length := (List.getElem?_eq_some_iff.mp (am_W_some (cl := cl) (B := B) (x := x) (dA := dA) (h := h) hk)).1
  refine List.ext_getElem? fun i => ?_
  by_cases hi : i = o
  · subst hi
    rw [List.getElem?_set_self hlt, am_W_some hk, ha]
    rfl
  · rw [List.getElem?_set_ne (Ne.symm hi), am_W_at, am_W_at, am_up_other _ _ _ _ _ hi]
theorem am_mk_self (h : am_H) (o : Nat) (f : Nat → Value) : am_mk h o f o = f := by funext k; simp [am_mk]
theorem am_mk_other (h : am_H) (o o' : Nat) (f : Nat → Value) (ho : o' ≠ o) : am_mk h o f o' = h o' := by
  have : Nat.beq o' o = false := by cases hq : Nat.beq o' o with
    | false => rfl
    | true => exact absurd (Nat.eq_of_beq_eq_true hq) ho
  funext k'
  simp [am_mk, this]
/-- a cell is made -/
theorem am_W_new {cl : List vw_C} {B : Nat} {x : Nat → Nat} {dA : Nat → ClassId} {ks : List am_k} {h : am_H} {k : am_k} {f : Nat → Value} {ca : ClassId} :
    am_W cl B x dA ks h ++ [(B + ks.length, am_E cl B x ca k f)] = am_W cl B x (fun i => if i = ks.length then ca else dA i) (ks ++ [k]) (am_mk h ks.length f) := by
  have hl : (am_W cl B x dA ks h).length = ks.length := by simp [am_W]
  refine List.ext_getElem? fun i => ?_
  rw [am_W_at]
  by_cases hi : i < ks.length
  · rw [List.getElem?_append_left (by omega), List.getElem?_append_left hi, am_W_at, am_mk_other _ _ _ _ (by omega : i ≠ ks.length), if_neg (by omega)]
  · rw [List.getElem?_append_right (by omega), List.getElem?_append_right (by omega), hl]
    by_cases hz : i = ks.length
    · subst hz
      simp [am_mk_self]
    · have : ¬ i - ks.length = 0 := by omega
      have h1 : ([(B + ks.length, am_E cl B x ca k f)] : va_W)[i - ks.length]? = none := by
        rw [List.getElem?_eq_none_iff]; simp; omega
      have h2 : ([k] : List am_k)[i - ks.length]? = none := by
        rw [List.getElem?_eq_none_iff]; simp; omega
      rw [h1, h2]; rfl
/-- the true heap holds the small machine's -/
def am_Wd (D : va_G) (cl : List vw_C) (B : Nat) (x : Nat → Nat) (ex : Bool) (dA : Nat → ClassId) (ks : List am_k) (h : am_H) (n : Nat) (U : State) (H : Heap) : Prop :=
  va_P D cl (am_W cl B x dA ks h) H ∧ (∀ (i : Nat) (ty : FieldType) (k : Nat), ks[i]? = some (.inr (ty, k)) → ArrOfT U (dA i) ty ∧ va_RA U (dA i) ty) ∧ (ex = true → n = B + ks.length)
def am_Rel (D : va_G) (cl : List vw_C) (B : Nat) (x : Nat → Nat) (ex : Bool) (ks : List am_k) (h : am_H) (n : Nat) (U : State) (H : Heap) : Prop :=
  va_K D cl [] U ∧ ∃ dA, am_Wd D cl B x ex dA ks h n U H
theorem am_Rel.moved {D : va_G} {cl : List vw_C} {B : Nat} {x : Nat → Nat} {ex : Bool} {ks : List am_k} {h : am_H} {n : Nat} {u U : State} {H : Heap} (hvm : u.vm.Alike U.vm) (hR : am_Rel D cl B x ex ks h n u H) : am_Rel D cl B x ex ks h n U H := by
  obtain ⟨hK, dA, h1, h2, h3⟩ := hR
  exact ⟨va_K.moved hvm hK, dA, h1, fun i ty k hi => ⟨arrOfT_moved hvm (h2 i ty k hi).1, (h2 i ty k hi).2.moved hvm⟩, h3⟩
theorem am_get_mem {k : Nat} {v : Value} : ∀ {ls : am_L}, am_get ls k = some v → (k, v) ∈ ls
  | [], h => by cases h
  | q :: l, h => by
    unfold am_get at h
    cases hb : Nat.beq q.1 k with
    | true =>
      rw [hb] at h
      cases h
      have := Nat.eq_of_beq_eq_true hb
      subst this
      exact List.mem_cons_self
    | false =>
      rw [hb] at h
      exact List.mem_cons_of_mem _ (am_get_mem h)
/-- the locals as the true machine has them -/
def am_ls (B : Nat) (x : Nat → Nat) (ls : am_L) : am_L := ls.map (fun q => (q.1, am_c B x q.2))
theorem am_ls_get {B : Nat} {x : Nat → Nat} {ls : am_L} {L : Array Slot} {nL k : Nat} {v : Value} (h : lv_has L nL (am_ls B x ls)) (hg : am_get ls k = some v) : L[k]? = some (.val (am_c B x v)) :=
  h.2.2 (k, am_c B x v) (List.mem_map.mpr ⟨(k, v), am_get_mem hg, rfl⟩)
theorem am_ls_set {B : Nat} {x : Nat → Nat} {ls : am_L} {k : Nat} {v : Value} : (k, am_c B x v) :: (am_ls B x ls).filter (fun q => !(q.1 == k) && !(q.1 + 1 == k && q.2.category == 2)) = am_ls B x (am_set ls k v) := by
  unfold am_ls am_set
  rw [List.map_cons, List.filter_map]
  congr 3
  funext q
  simp [am_c_cat]
theorem am_ls_set2 {B : Nat} {x : Nat → Nat} {ls : am_L} {k : Nat} {v : Value} : (k, am_c B x v) :: (am_ls B x ls).filter (fun q => !(q.1 == k) && (!(q.1 == k + 1) && !(q.1 + 1 == k && q.2.category == 2))) = am_ls B x (am_set2 ls k v) := by
  unfold am_ls am_set2
  rw [List.map_cons, List.filter_map]
  congr 3
  funext q
  simp [am_c_cat]
theorem am_cat_map (B : Nat) (x : Nat → Nat) (st : List Value) : ((st.map (am_c B x)).map fun v => v.category).sum = am_cat st := by
  unfold am_cat
  rw [List.map_map]
  congr 2
  funext v
  exact am_c_cat B x v
theorem am_fit_ok {B : Nat} {x : Nat → Nat} {ty : FieldType} {v : Value} (h : am_fit ty v = true) : narrow ty (am_c B x v) = am_c B x v ∧ fits ty (am_c B x v) = true := by
  unfold am_fit at h
  split at h
  · exact ⟨rfl, rfl⟩
  · simp only [Bool.or_eq_true, decide_eq_true_eq] at h
    rcases h with rfl | rfl <;> exact ⟨rfl, rfl⟩
  · exact ⟨rfl, rfl⟩
  · exact ⟨rfl, rfl⟩
  · exact ⟨rfl, rfl⟩
  · cases h
end
section
/-! ===== ONE INSTRUCTION OF THE SMALL MACHINE IS ONE OF THE TRUE ONE ===== -/
/-- what the tables and the frame say of a method that runs -/
def am_C (p : Program) (s : State) (m : MethodId) (args : Array Value) (meth : Method) (c : Code) (M : am_M) : Prop :=
  p.tables.exec = Jvm.exec ∧ c.code = M.1.2.2 ∧ c.maxLocals = M.2.1.1 ∧ meth.sig.returnType = M.2.1.2.1 ∧ s.vm.findClass M.1.2.1.cls = some m.cls ∧ (∀ w ∈ am_ts, w.before args s = true) ∧ meth.locks = false ∧ meth.name = M.1.2.1.name
def am_Wf (p : Program) (l : Launch) (e : Env) (R : Room) (s : State) (m : MethodId) (args : Array Value) (below : List Frame) (meth : Method) (c : Code) (D : va_G) (cl : List vw_C) (B : Nat) (x : Nat → Nat) (ex : Bool) (nL : Nat) (Q : State → Prop) (f : am_F) : Prop :=
  ∀ (H : Heap) (locs : List Loc) (L : Array Slot) (j : am_I) (r : List am_I), f.1 = j :: r → am_Rel D cl B x ex f.2.2.2.1 f.2.2.2.2.1 (s.heap.size + f.2.2.2.2.2.1) s H → va_S (fun q => B ≤ q) s.heap H locs → lv_has L nL (am_ls B x f.2.1) →
    W p l e R s m args below meth c H locs f.2.2.2.2.2.1 f.2.2.2.2.2.2 Q (F0 m j.1 L (f.2.2.1.map (am_c B x)))
section AMS
variable {p : Program} {l : Launch} {e : Env} {R : Room} {s : State} {m : MethodId} {args : Array Value} {below : List Frame} {meth : Method} {c : Code} {D : va_G} {cl : List vw_C} {B : Nat} {x : Nat → Nat} {ex : Bool} {nL : Nat} {Q : State → Prop} {M : am_M} {f' : am_F}
variable {pc len : Nat} {ins : Instr} {an : Nat × Nat × Nat} {v0 : Int} {cs : List am_I} {ls : am_L} {st : List Value} {ks : List am_k} {h : am_H} {nc ns : Nat} {G : am_G} {rc : am_rec}
/-- goes on behind an instruction -/
theorem am_go_use {i : am_I} (hgo : am_go i cs ls st ks h nc ns = some (.inl f')) (hW : am_Wf p l e R s m args below meth c D cl B x ex nL Q f') : ∀ (H : Heap) (locs : List Loc) (L : Array Slot), am_Rel D cl B x ex ks h (s.heap.size + nc) s H → va_S (fun q => B ≤ q) s.heap H locs → lv_has L nL (am_ls B x ls) →
    W p l e R s m args below meth c H locs nc ns Q (F0 m (i.1 + i.2.1) L (st.map (am_c B x))) := by
  unfold am_go am_nx at hgo
  split at hgo
  · cases hgo
  · rename_i j r
    cases hb : Nat.beq j.1 (i.1 + i.2.1) with
    | false => rw [hb] at hgo; cases hgo
    | true =>
      rw [hb] at hgo
      cases hgo
      intro H locs L hR hS hl
      have := hW H locs L j r rfl hR hS hl
      rw [Nat.eq_of_beq_eq_true hb] at this
      exact this
theorem am_go_inl {i : am_I} {o : am_O} (hgo : am_go i cs ls st ks h nc ns = some (.inr o)) : False := by
  unfold am_go am_nx at hgo
  split at hgo
  · cases hgo
  · rename_i j r
    cases hb : Nat.beq j.1 (i.1 + i.2.1) with
    | false => rw [hb] at hgo; cases hgo
    | true => rw [hb] at hgo; cases hgo
theorem am_jp_use {a : Nat} {t : Int} (hgo : am_jp M a t ls st ks h nc ns = some (.inl f')) (hW : am_Wf p l e R s m args below meth c D cl B x ex nL Q f') : ∃ tgt : Nat, t = (tgt : Int) ∧ ∀ (H : Heap) (locs : List Loc) (L : Array Slot), am_Rel D cl B x ex ks h (s.heap.size + nc) s H → va_S (fun q => B ≤ q) s.heap H locs → lv_has L nL (am_ls B x ls) →
    W p l e R s m args below meth c H locs nc ns Q (F0 m tgt L (st.map (am_c B x))) := by
  unfold am_jp at hgo
  split at hgo
  · cases hgo
  · rename_i j r _
    split at hgo
    · rename_i hj
      cases hgo
      exact ⟨j.1, hj.symm, fun H locs L hR hS hl => hW H locs L j r rfl hR hS hl⟩
    · cases hgo
theorem am_seek_use {t : Int} : ∀ {cd : List am_I} {j : am_I} {r : List am_I}, am_seek cd t = j :: r → (j.1 : Int) = t
  | [], _, _, h => by cases h
  | i :: cd, j, r, h => by
    unfold am_seek at h
    split at h
    · rename_i hi
      cases h
      exact hi
    · exact am_seek_use h
theorem am_sw_use {t : Int} (hgo : am_sw M t ls st ks h nc ns = some (.inl f')) (hW : am_Wf p l e R s m args below meth c D cl B x ex nL Q f') : ∃ tgt : Nat, t = (tgt : Int) ∧ ∀ (H : Heap) (locs : List Loc) (L : Array Slot), am_Rel D cl B x ex ks h (s.heap.size + nc) s H → va_S (fun q => B ≤ q) s.heap H locs → lv_has L nL (am_ls B x ls) →
    W p l e R s m args below meth c H locs nc ns Q (F0 m tgt L (st.map (am_c B x))) := by
  unfold am_sw at hgo
  split at hgo
  · cases hgo
  · rename_i j r hsk
    cases hgo
    exact ⟨j.1, (am_seek_use hsk).symm, fun H locs L hR hS hl => hW H locs L j r rfl hR hS hl⟩
abbrev am_φ : Value → (Value → am_R) → am_R := fun v k => k v
theorem am_s_iadd (C : am_C p s m args meth c M) (hd : decode M.1.2.2 pc = .ok (.iadd, 1))
    (hone : am_one am_φ ex G rc M ((pc, 1, .iadd, an, v0) :: cs, ls, st, ks, h, nc, ns) = some (.inl f')) (hW : am_Wf p l e R s m args below meth c D cl B x ex M.2.1.1 Q f') : am_Wf p l e R s m args below meth c D cl B x ex M.2.1.1 Q ((pc, 1, .iadd, an, v0) :: cs, ls, st, ks, h, nc, ns) := by
  obtain ⟨hx, hb, hml, hr, hown, hts, hlk, hnm⟩ := C
  simp only [am_one] at hone
  split at hone
  · rename_i b a st0
    intro H locs L j r hj hR hS hl
    cases hj
    show W p l e R s m args below meth c H locs nc ns Q (F0 m pc L (.int b :: .int a :: st0.map (am_c B x)))
    exact lv_iadd hx hb hd (am_go_use hone hW H locs L hR hS hl)
  · cases hone
theorem am_s_isub (C : am_C p s m args meth c M) (hd : decode M.1.2.2 pc = .ok (.isub, 1))
    (hone : am_one am_φ ex G rc M ((pc, 1, .isub, an, v0) :: cs, ls, st, ks, h, nc, ns) = some (.inl f')) (hW : am_Wf p l e R s m args below meth c D cl B x ex M.2.1.1 Q f') : am_Wf p l e R s m args below meth c D cl B x ex M.2.1.1 Q ((pc, 1, .isub, an, v0) :: cs, ls, st, ks, h, nc, ns) := by
  obtain ⟨hx, hb, hml, hr, hown, hts, hlk, hnm⟩ := C
  simp only [am_one] at hone
  split at hone
  · rename_i b a st0
    intro H locs L j r hj hR hS hl
    cases hj
    show W p l e R s m args below meth c H locs nc ns Q (F0 m pc L (.int b :: .int a :: st0.map (am_c B x)))
    exact lv_isub hx hb hd (am_go_use hone hW H locs L hR hS hl)
  · cases hone
theorem am_s_imul (C : am_C p s m args meth c M) (hd : decode M.1.2.2 pc = .ok (.imul, 1))
    (hone : am_one am_φ ex G rc M ((pc, 1, .imul, an, v0) :: cs, ls, st, ks, h, nc, ns) = some (.inl f')) (hW : am_Wf p l e R s m args below meth c D cl B x ex M.2.1.1 Q f') : am_Wf p l e R s m args below meth c D cl B x ex M.2.1.1 Q ((pc, 1, .imul, an, v0) :: cs, ls, st, ks, h, nc, ns) := by
  obtain ⟨hx, hb, hml, hr, hown, hts, hlk, hnm⟩ := C
  simp only [am_one] at hone
  split at hone
  · rename_i b a st0
    intro H locs L j r hj hR hS hl
    cases hj
    show W p l e R s m args below meth c H locs nc ns Q (F0 m pc L (.int b :: .int a :: st0.map (am_c B x)))
    exact lv_imul hx hb hd (am_go_use hone hW H locs L hR hS hl)
  · cases hone
theorem am_s_iand (C : am_C p s m args meth c M) (hd : decode M.1.2.2 pc = .ok (.iand, 1))
    (hone : am_one am_φ ex G rc M ((pc, 1, .iand, an, v0) :: cs, ls, st, ks, h, nc, ns) = some (.inl f')) (hW : am_Wf p l e R s m args below meth c D cl B x ex M.2.1.1 Q f') : am_Wf p l e R s m args below meth c D cl B x ex M.2.1.1 Q ((pc, 1, .iand, an, v0) :: cs, ls, st, ks, h, nc, ns) := by
  obtain ⟨hx, hb, hml, hr, hown, hts, hlk, hnm⟩ := C
  simp only [am_one] at hone
  split at hone
  · rename_i b a st0
    intro H locs L j r hj hR hS hl
    cases hj
    show W p l e R s m args below meth c H locs nc ns Q (F0 m pc L (.int b :: .int a :: st0.map (am_c B x)))
    exact lv_iand hx hb hd (am_go_use hone hW H locs L hR hS hl)
  · cases hone
theorem am_s_ior (C : am_C p s m args meth c M) (hd : decode M.1.2.2 pc = .ok (.ior, 1))
    (hone : am_one am_φ ex G rc M ((pc, 1, .ior, an, v0) :: cs, ls, st, ks, h, nc, ns) = some (.inl f')) (hW : am_Wf p l e R s m args below meth c D cl B x ex M.2.1.1 Q f') : am_Wf p l e R s m args below meth c D cl B x ex M.2.1.1 Q ((pc, 1, .ior, an, v0) :: cs, ls, st, ks, h, nc, ns) := by
  obtain ⟨hx, hb, hml, hr, hown, hts, hlk, hnm⟩ := C
  simp only [am_one] at hone
  split at hone
  · rename_i b a st0
    intro H locs L j r hj hR hS hl
    cases hj
    show W p l e R s m args below meth c H locs nc ns Q (F0 m pc L (.int b :: .int a :: st0.map (am_c B x)))
    exact lv_ior hx hb hd (am_go_use hone hW H locs L hR hS hl)
  · cases hone
theorem am_s_ishl (C : am_C p s m args meth c M) (hd : decode M.1.2.2 pc = .ok (.ishl, 1))
    (hone : am_one am_φ ex G rc M ((pc, 1, .ishl, an, v0) :: cs, ls, st, ks, h, nc, ns) = some (.inl f')) (hW : am_Wf p l e R s m args below meth c D cl B x ex M.2.1.1 Q f') : am_Wf p l e R s m args below meth c D cl B x ex M.2.1.1 Q ((pc, 1, .ishl, an, v0) :: cs, ls, st, ks, h, nc, ns) := by
  obtain ⟨hx, hb, hml, hr, hown, hts, hlk, hnm⟩ := C
  simp only [am_one] at hone
  split at hone
  · rename_i b a st0
    intro H locs L j r hj hR hS hl
    cases hj
    show W p l e R s m args below meth c H locs nc ns Q (F0 m pc L (.int b :: .int a :: st0.map (am_c B x)))
    exact lv_ishl hx hb hd (am_go_use hone hW H locs L hR hS hl)
  · cases hone
theorem am_s_ishr (C : am_C p s m args meth c M) (hd : decode M.1.2.2 pc = .ok (.ishr, 1))
    (hone : am_one am_φ ex G rc M ((pc, 1, .ishr, an, v0) :: cs, ls, st, ks, h, nc, ns) = some (.inl f')) (hW : am_Wf p l e R s m args below meth c D cl B x ex M.2.1.1 Q f') : am_Wf p l e R s m args below meth c D cl B x ex M.2.1.1 Q ((pc, 1, .ishr, an, v0) :: cs, ls, st, ks, h, nc, ns) := by
  obtain ⟨hx, hb, hml, hr, hown, hts, hlk, hnm⟩ := C
  simp only [am_one] at hone
  split at hone
  · rename_i b a st0
    intro H locs L j r hj hR hS hl
    cases hj
    show W p l e R s m args below meth c H locs nc ns Q (F0 m pc L (.int b :: .int a :: st0.map (am_c B x)))
    exact lv_ishr hx hb hd (am_go_use hone hW H locs L hR hS hl)
  · cases hone
theorem am_s_ladd (C : am_C p s m args meth c M) (hd : decode M.1.2.2 pc = .ok (.ladd, 1))
    (hone : am_one am_φ ex G rc M ((pc, 1, .ladd, an, v0) :: cs, ls, st, ks, h, nc, ns) = some (.inl f')) (hW : am_Wf p l e R s m args below meth c D cl B x ex M.2.1.1 Q f') : am_Wf p l e R s m args below meth c D cl B x ex M.2.1.1 Q ((pc, 1, .ladd, an, v0) :: cs, ls, st, ks, h, nc, ns) := by
  obtain ⟨hx, hb, hml, hr, hown, hts, hlk, hnm⟩ := C
  simp only [am_one] at hone
  split at hone
  · rename_i b a st0
    intro H locs L j r hj hR hS hl
    cases hj
    show W p l e R s m args below meth c H locs nc ns Q (F0 m pc L (.long b :: .long a :: st0.map (am_c B x)))
    exact lv_ladd hx hb hd (am_go_use hone hW H locs L hR hS hl)
  · cases hone
theorem am_s_lsub (C : am_C p s m args meth c M) (hd : decode M.1.2.2 pc = .ok (.lsub, 1))
    (hone : am_one am_φ ex G rc M ((pc, 1, .lsub, an, v0) :: cs, ls, st, ks, h, nc, ns) = some (.inl f')) (hW : am_Wf p l e R s m args below meth c D cl B x ex M.2.1.1 Q f') : am_Wf p l e R s m args below meth c D cl B x ex M.2.1.1 Q ((pc, 1, .lsub, an, v0) :: cs, ls, st, ks, h, nc, ns) := by
  obtain ⟨hx, hb, hml, hr, hown, hts, hlk, hnm⟩ := C
  simp only [am_one] at hone
  split at hone
  · rename_i b a st0
    intro H locs L j r hj hR hS hl
    cases hj
    show W p l e R s m args below meth c H locs nc ns Q (F0 m pc L (.long b :: .long a :: st0.map (am_c B x)))
    exact lv_lsub hx hb hd (am_go_use hone hW H locs L hR hS hl)
  · cases hone
theorem am_s_lmul (C : am_C p s m args meth c M) (hd : decode M.1.2.2 pc = .ok (.lmul, 1))
    (hone : am_one am_φ ex G rc M ((pc, 1, .lmul, an, v0) :: cs, ls, st, ks, h, nc, ns) = some (.inl f')) (hW : am_Wf p l e R s m args below meth c D cl B x ex M.2.1.1 Q f') : am_Wf p l e R s m args below meth c D cl B x ex M.2.1.1 Q ((pc, 1, .lmul, an, v0) :: cs, ls, st, ks, h, nc, ns) := by
  obtain ⟨hx, hb, hml, hr, hown, hts, hlk, hnm⟩ := C
  simp only [am_one] at hone
  split at hone
  · rename_i b a st0
    intro H locs L j r hj hR hS hl
    cases hj
    show W p l e R s m args below meth c H locs nc ns Q (F0 m pc L (.long b :: .long a :: st0.map (am_c B x)))
    exact lv_lmul hx hb hd (am_go_use hone hW H locs L hR hS hl)
  · cases hone
theorem am_s_land (C : am_C p s m args meth c M) (hd : decode M.1.2.2 pc = .ok (.land, 1))
    (hone : am_one am_φ ex G rc M ((pc, 1, .land, an, v0) :: cs, ls, st, ks, h, nc, ns) = some (.inl f')) (hW : am_Wf p l e R s m args below meth c D cl B x ex M.2.1.1 Q f') : am_Wf p l e R s m args below meth c D cl B x ex M.2.1.1 Q ((pc, 1, .land, an, v0) :: cs, ls, st, ks, h, nc, ns) := by
  obtain ⟨hx, hb, hml, hr, hown, hts, hlk, hnm⟩ := C
  simp only [am_one] at hone
  split at hone
  · rename_i b a st0
    intro H locs L j r hj hR hS hl
    cases hj
    show W p l e R s m args below meth c H locs nc ns Q (F0 m pc L (.long b :: .long a :: st0.map (am_c B x)))
    exact lv_land hx hb hd (am_go_use hone hW H locs L hR hS hl)
  · cases hone
theorem am_s_iushr (C : am_C p s m args meth c M) (hd : decode M.1.2.2 pc = .ok (.iushr, 1))
    (hone : am_one am_φ ex G rc M ((pc, 1, .iushr, an, v0) :: cs, ls, st, ks, h, nc, ns) = some (.inl f')) (hW : am_Wf p l e R s m args below meth c D cl B x ex M.2.1.1 Q f') : am_Wf p l e R s m args below meth c D cl B x ex M.2.1.1 Q ((pc, 1, .iushr, an, v0) :: cs, ls, st, ks, h, nc, ns) := by
  obtain ⟨hx, hb, hml, hr, hown, hts, hlk, hnm⟩ := C
  simp only [am_one] at hone
  split at hone
  · rename_i b a st0
    intro H locs L j r hj hR hS hl
    cases hj
    show W p l e R s m args below meth c H locs nc ns Q (F0 m pc L (.int b :: .int a :: st0.map (am_c B x)))
    exact lv_iushr hx hb hd rfl (am_go_use hone hW H locs L hR hS hl)
  · cases hone
theorem am_s_lcmp (C : am_C p s m args meth c M) (hd : decode M.1.2.2 pc = .ok (.lcmp, 1))
    (hone : am_one am_φ ex G rc M ((pc, 1, .lcmp, an, v0) :: cs, ls, st, ks, h, nc, ns) = some (.inl f')) (hW : am_Wf p l e R s m args below meth c D cl B x ex M.2.1.1 Q f') : am_Wf p l e R s m args below meth c D cl B x ex M.2.1.1 Q ((pc, 1, .lcmp, an, v0) :: cs, ls, st, ks, h, nc, ns) := by
  obtain ⟨hx, hb, hml, hr, hown, hts, hlk, hnm⟩ := C
  simp only [am_one] at hone
  split at hone
  · rename_i b a st0
    intro H locs L j r hj hR hS hl
    cases hj
    show W p l e R s m args below meth c H locs nc ns Q (F0 m pc L (.long b :: .long a :: st0.map (am_c B x)))
    exact W.lcmp hx hb hd (am_go_use hone hW H locs L hR hS hl)
  · cases hone
theorem am_s_idiv (C : am_C p s m args meth c M) (hd : decode M.1.2.2 pc = .ok (.idiv, 1))
    (hone : am_one am_φ ex G rc M ((pc, 1, .idiv, an, v0) :: cs, ls, st, ks, h, nc, ns) = some (.inl f')) (hW : am_Wf p l e R s m args below meth c D cl B x ex M.2.1.1 Q f') : am_Wf p l e R s m args below meth c D cl B x ex M.2.1.1 Q ((pc, 1, .idiv, an, v0) :: cs, ls, st, ks, h, nc, ns) := by
  obtain ⟨hx, hb, hml, hr, hown, hts, hlk, hnm⟩ := C
  simp only [am_one] at hone
  split at hone
  · rename_i b a st0
    split at hone
    · cases hone
    rename_i hne
    intro H locs L j r hj hR hS hl
    cases hj
    show W p l e R s m args below meth c H locs nc ns Q (F0 m pc L (.int b :: .int a :: st0.map (am_c B x)))
    exact lv_idiv hx hb hd hne (am_go_use hone hW H locs L hR hS hl)
  · cases hone
theorem am_s_irem (C : am_C p s m args meth c M) (hd : decode M.1.2.2 pc = .ok (.irem, 1))
    (hone : am_one am_φ ex G rc M ((pc, 1, .irem, an, v0) :: cs, ls, st, ks, h, nc, ns) = some (.inl f')) (hW : am_Wf p l e R s m args below meth c D cl B x ex M.2.1.1 Q f') : am_Wf p l e R s m args below meth c D cl B x ex M.2.1.1 Q ((pc, 1, .irem, an, v0) :: cs, ls, st, ks, h, nc, ns) := by
  obtain ⟨hx, hb, hml, hr, hown, hts, hlk, hnm⟩ := C
  simp only [am_one] at hone
  split at hone
  · rename_i b a st0
    split at hone
    · cases hone
    rename_i hne
    intro H locs L j r hj hR hS hl
    cases hj
    show W p l e R s m args below meth c H locs nc ns Q (F0 m pc L (.int b :: .int a :: st0.map (am_c B x)))
    exact lv_irem hx hb hd hne (am_go_use hone hW H locs L hR hS hl)
  · cases hone
theorem am_s_ldiv (C : am_C p s m args meth c M) (hd : decode M.1.2.2 pc = .ok (.ldiv, 1))
    (hone : am_one am_φ ex G rc M ((pc, 1, .ldiv, an, v0) :: cs, ls, st, ks, h, nc, ns) = some (.inl f')) (hW : am_Wf p l e R s m args below meth c D cl B x ex M.2.1.1 Q f') : am_Wf p l e R s m args below meth c D cl B x ex M.2.1.1 Q ((pc, 1, .ldiv, an, v0) :: cs, ls, st, ks, h, nc, ns) := by
  obtain ⟨hx, hb, hml, hr, hown, hts, hlk, hnm⟩ := C
  simp only [am_one] at hone
  split at hone
  · rename_i b a st0
    split at hone
    · cases hone
    rename_i hne
    intro H locs L j r hj hR hS hl
    cases hj
    show W p l e R s m args below meth c H locs nc ns Q (F0 m pc L (.long b :: .long a :: st0.map (am_c B x)))
    exact lv_ldiv hx hb hd hne (am_go_use hone hW H locs L hR hS hl)
  · cases hone
theorem am_s_lrem (C : am_C p s m args meth c M) (hd : decode M.1.2.2 pc = .ok (.lrem, 1))
    (hone : am_one am_φ ex G rc M ((pc, 1, .lrem, an, v0) :: cs, ls, st, ks, h, nc, ns) = some (.inl f')) (hW : am_Wf p l e R s m args below meth c D cl B x ex M.2.1.1 Q f') : am_Wf p l e R s m args below meth c D cl B x ex M.2.1.1 Q ((pc, 1, .lrem, an, v0) :: cs, ls, st, ks, h, nc, ns) := by
  obtain ⟨hx, hb, hml, hr, hown, hts, hlk, hnm⟩ := C
  simp only [am_one] at hone
  split at hone
  · rename_i b a st0
    split at hone
    · cases hone
    rename_i hne
    intro H locs L j r hj hR hS hl
    cases hj
    show W p l e R s m args below meth c H locs nc ns Q (F0 m pc L (.long b :: .long a :: st0.map (am_c B x)))
    exact lv_lrem hx hb hd hne (am_go_use hone hW H locs L hR hS hl)
  · cases hone
theorem am_s_lneg (C : am_C p s m args meth c M) (hd : decode M.1.2.2 pc = .ok (.lneg, 1))
    (hone : am_one am_φ ex G rc M ((pc, 1, .lneg, an, v0) :: cs, ls, st, ks, h, nc, ns) = some (.inl f')) (hW : am_Wf p l e R s m args below meth c D cl B x ex M.2.1.1 Q f') : am_Wf p l e R s m args below meth c D cl B x ex M.2.1.1 Q ((pc, 1, .lneg, an, v0) :: cs, ls, st, ks, h, nc, ns) := by
  obtain ⟨hx, hb, hml, hr, hown, hts, hlk, hnm⟩ := C
  simp only [am_one] at hone
  split at hone
  · rename_i a st0
    intro H locs L j r hj hR hS hl
    cases hj
    show W p l e R s m args below meth c H locs nc ns Q (F0 m pc L (.long a :: st0.map (am_c B x)))
    exact lv_lneg hx hb hd (am_go_use hone hW H locs L hR hS hl)
  · cases hone
theorem am_s_i2l (C : am_C p s m args meth c M) (hd : decode M.1.2.2 pc = .ok (.i2l, 1))
    (hone : am_one am_φ ex G rc M ((pc, 1, .i2l, an, v0) :: cs, ls, st, ks, h, nc, ns) = some (.inl f')) (hW : am_Wf p l e R s m args below meth c D cl B x ex M.2.1.1 Q f') : am_Wf p l e R s m args below meth c D cl B x ex M.2.1.1 Q ((pc, 1, .i2l, an, v0) :: cs, ls, st, ks, h, nc, ns) := by
  obtain ⟨hx, hb, hml, hr, hown, hts, hlk, hnm⟩ := C
  simp only [am_one] at hone
  split at hone
  · rename_i a st0
    intro H locs L j r hj hR hS hl
    cases hj
    show W p l e R s m args below meth c H locs nc ns Q (F0 m pc L (.int a :: st0.map (am_c B x)))
    exact lv_i2l hx hb hd rfl (am_go_use hone hW H locs L hR hS hl)
  · cases hone
theorem am_s_l2i (C : am_C p s m args meth c M) (hd : decode M.1.2.2 pc = .ok (.l2i, 1))
    (hone : am_one am_φ ex G rc M ((pc, 1, .l2i, an, v0) :: cs, ls, st, ks, h, nc, ns) = some (.inl f')) (hW : am_Wf p l e R s m args below meth c D cl B x ex M.2.1.1 Q f') : am_Wf p l e R s m args below meth c D cl B x ex M.2.1.1 Q ((pc, 1, .l2i, an, v0) :: cs, ls, st, ks, h, nc, ns) := by
  obtain ⟨hx, hb, hml, hr, hown, hts, hlk, hnm⟩ := C
  simp only [am_one] at hone
  split at hone
  · rename_i a st0
    intro H locs L j r hj hR hS hl
    cases hj
    show W p l e R s m args below meth c H locs nc ns Q (F0 m pc L (.long a :: st0.map (am_c B x)))
    exact lv_l2i hx hb hd rfl (am_go_use hone hW H locs L hR hS hl)
  · cases hone
theorem am_s_iconst {k : Int} (C : am_C p s m args meth c M) (hd : decode M.1.2.2 pc = .ok (.iconst k, 1))
    (hone : am_one am_φ ex G rc M ((pc, 1, .iconst k, an, v0) :: cs, ls, st, ks, h, nc, ns) = some (.inl f')) (hW : am_Wf p l e R s m args below meth c D cl B x ex M.2.1.1 Q f') : am_Wf p l e R s m args below meth c D cl B x ex M.2.1.1 Q ((pc, 1, .iconst k, an, v0) :: cs, ls, st, ks, h, nc, ns) := by
  obtain ⟨hx, hb, hml, hr, hown, hts, hlk, hnm⟩ := C
  simp only [am_one] at hone
  intro H locs L j r hj hR hS hl
  cases hj
  show W p l e R s m args below meth c H locs nc ns Q (F0 m pc L (st.map (am_c B x)))
  exact lv_iconst hx hb hd rfl (am_go_use hone hW H locs L hR hS hl)
theorem am_s_bipush {k : Int} (C : am_C p s m args meth c M) (hd : decode M.1.2.2 pc = .ok (.bipush k, 2))
    (hone : am_one am_φ ex G rc M ((pc, 2, .bipush k, an, v0) :: cs, ls, st, ks, h, nc, ns) = some (.inl f')) (hW : am_Wf p l e R s m args below meth c D cl B x ex M.2.1.1 Q f') : am_Wf p l e R s m args below meth c D cl B x ex M.2.1.1 Q ((pc, 2, .bipush k, an, v0) :: cs, ls, st, ks, h, nc, ns) := by
  obtain ⟨hx, hb, hml, hr, hown, hts, hlk, hnm⟩ := C
  simp only [am_one] at hone
  intro H locs L j r hj hR hS hl
  cases hj
  show W p l e R s m args below meth c H locs nc ns Q (F0 m pc L (st.map (am_c B x)))
  exact lv_bipush hx hb hd rfl (am_go_use hone hW H locs L hR hS hl)
theorem am_s_sipush {k : Int} (C : am_C p s m args meth c M) (hd : decode M.1.2.2 pc = .ok (.sipush k, 3))
    (hone : am_one am_φ ex G rc M ((pc, 3, .sipush k, an, v0) :: cs, ls, st, ks, h, nc, ns) = some (.inl f')) (hW : am_Wf p l e R s m args below meth c D cl B x ex M.2.1.1 Q f') : am_Wf p l e R s m args below meth c D cl B x ex M.2.1.1 Q ((pc, 3, .sipush k, an, v0) :: cs, ls, st, ks, h, nc, ns) := by
  obtain ⟨hx, hb, hml, hr, hown, hts, hlk, hnm⟩ := C
  simp only [am_one] at hone
  intro H locs L j r hj hR hS hl
  cases hj
  show W p l e R s m args below meth c H locs nc ns Q (F0 m pc L (st.map (am_c B x)))
  exact lv_sipush hx hb hd rfl (am_go_use hone hW H locs L hR hS hl)
theorem am_s_lconst {k : Fin 2} (C : am_C p s m args meth c M) (hd : decode M.1.2.2 pc = .ok (.lconst k, 1))
    (hone : am_one am_φ ex G rc M ((pc, 1, .lconst k, an, v0) :: cs, ls, st, ks, h, nc, ns) = some (.inl f')) (hW : am_Wf p l e R s m args below meth c D cl B x ex M.2.1.1 Q f') : am_Wf p l e R s m args below meth c D cl B x ex M.2.1.1 Q ((pc, 1, .lconst k, an, v0) :: cs, ls, st, ks, h, nc, ns) := by
  obtain ⟨hx, hb, hml, hr, hown, hts, hlk, hnm⟩ := C
  simp only [am_one] at hone
  intro H locs L j r hj hR hS hl
  cases hj
  show W p l e R s m args below meth c H locs nc ns Q (F0 m pc L (st.map (am_c B x)))
  exact lv_lconst hx hb hd rfl (am_go_use hone hW H locs L hR hS hl)
theorem am_s_ldc {k : Nat} (C : am_C p s m args meth c M) (hd : decode M.1.2.2 pc = .ok (.ldc k, 2)) (h0 : an.2.1 = 0) (hw : Cond.constant M.1.2.1.cls k (Int32.ofInt v0) ∈ am_ts)
    (hone : am_one am_φ ex G rc M ((pc, 2, .ldc k, an, v0) :: cs, ls, st, ks, h, nc, ns) = some (.inl f')) (hW : am_Wf p l e R s m args below meth c D cl B x ex M.2.1.1 Q f') : am_Wf p l e R s m args below meth c D cl B x ex M.2.1.1 Q ((pc, 2, .ldc k, an, v0) :: cs, ls, st, ks, h, nc, ns) := by
  obtain ⟨hx, hb, hml, hr, hown, hts, hlk, hnm⟩ := C
  simp only [am_one] at hone
  rw [h0] at hone
  intro H locs L j r hj hR hS hl
  cases hj
  show W p l e R s m args below meth c H locs nc ns Q (F0 m pc L (st.map (am_c B x)))
  exact lv_ldc hx hb hown (hts _ hw) hd (am_go_use hone hW H locs L hR hS hl)
theorem am_s_ldc2 {k : Nat} (C : am_C p s m args meth c M) (hd : decode M.1.2.2 pc = .ok (.ldc2_w k, 3)) (hw : Cond.constantLong M.1.2.1.cls k (Int64.ofInt v0) ∈ am_ts)
    (hone : am_one am_φ ex G rc M ((pc, 3, .ldc2_w k, an, v0) :: cs, ls, st, ks, h, nc, ns) = some (.inl f')) (hW : am_Wf p l e R s m args below meth c D cl B x ex M.2.1.1 Q f') : am_Wf p l e R s m args below meth c D cl B x ex M.2.1.1 Q ((pc, 3, .ldc2_w k, an, v0) :: cs, ls, st, ks, h, nc, ns) := by
  obtain ⟨hx, hb, hml, hr, hown, hts, hlk, hnm⟩ := C
  simp only [am_one] at hone
  intro H locs L j r hj hR hS hl
  cases hj
  show W p l e R s m args below meth c H locs nc ns Q (F0 m pc L (st.map (am_c B x)))
  exact lv_ldc2 hx hb hown (hts _ hw) hd (am_go_use hone hW H locs L hR hS hl)
theorem am_s_iload {k : Nat} (C : am_C p s m args meth c M) (hd : decode M.1.2.2 pc = .ok (.iload k, 2))
    (hone : am_one am_φ ex G rc M ((pc, 2, .iload k, an, v0) :: cs, ls, st, ks, h, nc, ns) = some (.inl f')) (hW : am_Wf p l e R s m args below meth c D cl B x ex M.2.1.1 Q f') : am_Wf p l e R s m args below meth c D cl B x ex M.2.1.1 Q ((pc, 2, .iload k, an, v0) :: cs, ls, st, ks, h, nc, ns) := by
  obtain ⟨hx, hb, hml, hr, hown, hts, hlk, hnm⟩ := C
  simp only [am_one] at hone
  split at hone
  · rename_i a hg
    intro H locs L j r hj hR hS hl
    cases hj
    show W p l e R s m args below meth c H locs nc ns Q (F0 m pc L (st.map (am_c B x)))
    exact lv_iload (x := a) hx hb hd (am_ls_get hl hg) (am_go_use hone hW H locs L hR hS hl)
  · cases hone
theorem am_s_iload_n {k : Fin 4} (C : am_C p s m args meth c M) (hd : decode M.1.2.2 pc = .ok (.iload_n k, 1))
    (hone : am_one am_φ ex G rc M ((pc, 1, .iload_n k, an, v0) :: cs, ls, st, ks, h, nc, ns) = some (.inl f')) (hW : am_Wf p l e R s m args below meth c D cl B x ex M.2.1.1 Q f') : am_Wf p l e R s m args below meth c D cl B x ex M.2.1.1 Q ((pc, 1, .iload_n k, an, v0) :: cs, ls, st, ks, h, nc, ns) := by
  obtain ⟨hx, hb, hml, hr, hown, hts, hlk, hnm⟩ := C
  simp only [am_one] at hone
  split at hone
  · rename_i a hg
    intro H locs L j r hj hR hS hl
    cases hj
    show W p l e R s m args below meth c H locs nc ns Q (F0 m pc L (st.map (am_c B x)))
    exact lv_iload_n (x := a) hx hb hd rfl (am_ls_get hl hg) (am_go_use hone hW H locs L hR hS hl)
  · cases hone
theorem am_s_lload {k : Nat} (C : am_C p s m args meth c M) (hd : decode M.1.2.2 pc = .ok (.lload k, 2))
    (hone : am_one am_φ ex G rc M ((pc, 2, .lload k, an, v0) :: cs, ls, st, ks, h, nc, ns) = some (.inl f')) (hW : am_Wf p l e R s m args below meth c D cl B x ex M.2.1.1 Q f') : am_Wf p l e R s m args below meth c D cl B x ex M.2.1.1 Q ((pc, 2, .lload k, an, v0) :: cs, ls, st, ks, h, nc, ns) := by
  obtain ⟨hx, hb, hml, hr, hown, hts, hlk, hnm⟩ := C
  simp only [am_one] at hone
  split at hone
  · rename_i a hg
    intro H locs L j r hj hR hS hl
    cases hj
    show W p l e R s m args below meth c H locs nc ns Q (F0 m pc L (st.map (am_c B x)))
    exact lv_lload (x := a) hx hb hd (am_ls_get hl hg) (am_go_use hone hW H locs L hR hS hl)
  · cases hone
theorem am_s_lload_n {k : Fin 4} (C : am_C p s m args meth c M) (hd : decode M.1.2.2 pc = .ok (.lload_n k, 1))
    (hone : am_one am_φ ex G rc M ((pc, 1, .lload_n k, an, v0) :: cs, ls, st, ks, h, nc, ns) = some (.inl f')) (hW : am_Wf p l e R s m args below meth c D cl B x ex M.2.1.1 Q f') : am_Wf p l e R s m args below meth c D cl B x ex M.2.1.1 Q ((pc, 1, .lload_n k, an, v0) :: cs, ls, st, ks, h, nc, ns) := by
  obtain ⟨hx, hb, hml, hr, hown, hts, hlk, hnm⟩ := C
  simp only [am_one] at hone
  split at hone
  · rename_i a hg
    intro H locs L j r hj hR hS hl
    cases hj
    show W p l e R s m args below meth c H locs nc ns Q (F0 m pc L (st.map (am_c B x)))
    exact lv_lload_n (x := a) hx hb hd rfl (am_ls_get hl hg) (am_go_use hone hW H locs L hR hS hl)
  · cases hone
theorem am_s_aload {k : Nat} (C : am_C p s m args meth c M) (hd : decode M.1.2.2 pc = .ok (.aload k, 2))
    (hone : am_one am_φ ex G rc M ((pc, 2, .aload k, an, v0) :: cs, ls, st, ks, h, nc, ns) = some (.inl f')) (hW : am_Wf p l e R s m args below meth c D cl B x ex M.2.1.1 Q f') : am_Wf p l e R s m args below meth c D cl B x ex M.2.1.1 Q ((pc, 2, .aload k, an, v0) :: cs, ls, st, ks, h, nc, ns) := by
  obtain ⟨hx, hb, hml, hr, hown, hts, hlk, hnm⟩ := C
  simp only [am_one] at hone
  split at hone
  · rename_i a hg
    intro H locs L j r hj hR hS hl
    cases hj
    show W p l e R s m args below meth c H locs nc ns Q (F0 m pc L (st.map (am_c B x)))
    exact lv_aload (x := B + a) hx hb hd (am_ls_get hl hg) (am_go_use hone hW H locs L hR hS hl)
  · rename_i a hg
    intro H locs L j r hj hR hS hl
    cases hj
    show W p l e R s m args below meth c H locs nc ns Q (F0 m pc L (st.map (am_c B x)))
    exact lv_aload (x := x a) hx hb hd (am_ls_get hl hg) (am_go_use hone hW H locs L hR hS hl)
  · cases hone
theorem am_s_aload_n {k : Fin 4} (C : am_C p s m args meth c M) (hd : decode M.1.2.2 pc = .ok (.aload_n k, 1))
    (hone : am_one am_φ ex G rc M ((pc, 1, .aload_n k, an, v0) :: cs, ls, st, ks, h, nc, ns) = some (.inl f')) (hW : am_Wf p l e R s m args below meth c D cl B x ex M.2.1.1 Q f') : am_Wf p l e R s m args below meth c D cl B x ex M.2.1.1 Q ((pc, 1, .aload_n k, an, v0) :: cs, ls, st, ks, h, nc, ns) := by
  obtain ⟨hx, hb, hml, hr, hown, hts, hlk, hnm⟩ := C
  simp only [am_one] at hone
  split at hone
  · rename_i a hg
    intro H locs L j r hj hR hS hl
    cases hj
    show W p l e R s m args below meth c H locs nc ns Q (F0 m pc L (st.map (am_c B x)))
    exact lv_aload_n (x := B + a) hx hb hd rfl (am_ls_get hl hg) (am_go_use hone hW H locs L hR hS hl)
  · rename_i a hg
    intro H locs L j r hj hR hS hl
    cases hj
    show W p l e R s m args below meth c H locs nc ns Q (F0 m pc L (st.map (am_c B x)))
    exact lv_aload_n (x := x a) hx hb hd rfl (am_ls_get hl hg) (am_go_use hone hW H locs L hR hS hl)
  · cases hone
theorem am_s_istore {k : Nat} (C : am_C p s m args meth c M) (hd : decode M.1.2.2 pc = .ok (.istore k, 2))
    (hone : am_one am_φ ex G rc M ((pc, 2, .istore k, an, v0) :: cs, ls, st, ks, h, nc, ns) = some (.inl f')) (hW : am_Wf p l e R s m args below meth c D cl B x ex M.2.1.1 Q f') : am_Wf p l e R s m args below meth c D cl B x ex M.2.1.1 Q ((pc, 2, .istore k, an, v0) :: cs, ls, st, ks, h, nc, ns) := by
  obtain ⟨hx, hb, hml, hr, hown, hts, hlk, hnm⟩ := C
  simp only [am_one] at hone
  split at hone
  · rename_i a st0
    cases hlt : Nat.blt k M.2.1.1 with
    | false => rw [hlt] at hone; cases hone
    | true =>
    rw [hlt] at hone
    simp only [cond_true, am_pushI, am_pushL] at hone
    intro H locs L j r hj hR hS hl
    cases hj
    show W p l e R s m args below meth c H locs nc ns Q (F0 m pc L (.int a :: st0.map (am_c B x)))
    exact lv_istore hx hb hd hl (Nat.le_of_ble_eq_true hlt) (am_ls_set (v := .int a)) (fun L hl => am_go_use hone hW H locs L hR hS hl)
  · cases hone
theorem am_s_istore_n {k : Fin 4} (C : am_C p s m args meth c M) (hd : decode M.1.2.2 pc = .ok (.istore_n k, 1))
    (hone : am_one am_φ ex G rc M ((pc, 1, .istore_n k, an, v0) :: cs, ls, st, ks, h, nc, ns) = some (.inl f')) (hW : am_Wf p l e R s m args below meth c D cl B x ex M.2.1.1 Q f') : am_Wf p l e R s m args below meth c D cl B x ex M.2.1.1 Q ((pc, 1, .istore_n k, an, v0) :: cs, ls, st, ks, h, nc, ns) := by
  obtain ⟨hx, hb, hml, hr, hown, hts, hlk, hnm⟩ := C
  simp only [am_one] at hone
  split at hone
  · rename_i a st0
    cases hlt : Nat.blt k.val M.2.1.1 with
    | false => rw [hlt] at hone; cases hone
    | true =>
    rw [hlt] at hone
    simp only [cond_true, am_pushI, am_pushL] at hone
    intro H locs L j r hj hR hS hl
    cases hj
    show W p l e R s m args below meth c H locs nc ns Q (F0 m pc L (.int a :: st0.map (am_c B x)))
    exact lv_istore_n hx hb hd rfl hl (Nat.le_of_ble_eq_true hlt) (am_ls_set (v := .int a)) (fun L hl => am_go_use hone hW H locs L hR hS hl)
  · cases hone
theorem am_s_lstore {k : Nat} (C : am_C p s m args meth c M) (hd : decode M.1.2.2 pc = .ok (.lstore k, 2))
    (hone : am_one am_φ ex G rc M ((pc, 2, .lstore k, an, v0) :: cs, ls, st, ks, h, nc, ns) = some (.inl f')) (hW : am_Wf p l e R s m args below meth c D cl B x ex M.2.1.1 Q f') : am_Wf p l e R s m args below meth c D cl B x ex M.2.1.1 Q ((pc, 2, .lstore k, an, v0) :: cs, ls, st, ks, h, nc, ns) := by
  obtain ⟨hx, hb, hml, hr, hown, hts, hlk, hnm⟩ := C
  simp only [am_one] at hone
  split at hone
  · rename_i a st0
    cases hlt : Nat.blt (k + 1) M.2.1.1 with
    | false => rw [hlt] at hone; cases hone
    | true =>
    rw [hlt] at hone
    simp only [cond_true, am_pushI, am_pushL] at hone
    intro H locs L j r hj hR hS hl
    cases hj
    show W p l e R s m args below meth c H locs nc ns Q (F0 m pc L (.long a :: st0.map (am_c B x)))
    exact lv_lstore hx hb hd hl (Nat.le_of_ble_eq_true hlt) (am_ls_set2 (v := .long a)) (fun L hl => am_go_use hone hW H locs L hR hS hl)
  · cases hone
theorem am_s_lstore_n {k : Fin 4} (C : am_C p s m args meth c M) (hd : decode M.1.2.2 pc = .ok (.lstore_n k, 1))
    (hone : am_one am_φ ex G rc M ((pc, 1, .lstore_n k, an, v0) :: cs, ls, st, ks, h, nc, ns) = some (.inl f')) (hW : am_Wf p l e R s m args below meth c D cl B x ex M.2.1.1 Q f') : am_Wf p l e R s m args below meth c D cl B x ex M.2.1.1 Q ((pc, 1, .lstore_n k, an, v0) :: cs, ls, st, ks, h, nc, ns) := by
  obtain ⟨hx, hb, hml, hr, hown, hts, hlk, hnm⟩ := C
  simp only [am_one] at hone
  split at hone
  · rename_i a st0
    cases hlt : Nat.blt (k.val + 1) M.2.1.1 with
    | false => rw [hlt] at hone; cases hone
    | true =>
    rw [hlt] at hone
    simp only [cond_true, am_pushI, am_pushL] at hone
    intro H locs L j r hj hR hS hl
    cases hj
    show W p l e R s m args below meth c H locs nc ns Q (F0 m pc L (.long a :: st0.map (am_c B x)))
    exact lv_lstore_n hx hb hd rfl hl (Nat.le_of_ble_eq_true hlt) (am_ls_set2 (v := .long a)) (fun L hl => am_go_use hone hW H locs L hR hS hl)
  · cases hone
theorem am_s_astore {k : Nat} (C : am_C p s m args meth c M) (hd : decode M.1.2.2 pc = .ok (.astore k, 2))
    (hone : am_one am_φ ex G rc M ((pc, 2, .astore k, an, v0) :: cs, ls, st, ks, h, nc, ns) = some (.inl f')) (hW : am_Wf p l e R s m args below meth c D cl B x ex M.2.1.1 Q f') : am_Wf p l e R s m args below meth c D cl B x ex M.2.1.1 Q ((pc, 2, .astore k, an, v0) :: cs, ls, st, ks, h, nc, ns) := by
  obtain ⟨hx, hb, hml, hr, hown, hts, hlk, hnm⟩ := C
  simp only [am_one] at hone
  split at hone
  · rename_i a st0
    cases hlt : Nat.blt k M.2.1.1 with
    | false => rw [hlt] at hone; cases hone
    | true =>
    rw [hlt] at hone
    simp only [cond_true, am_pushI, am_pushL] at hone
    intro H locs L j r hj hR hS hl
    cases hj
    show W p l e R s m args below meth c H locs nc ns Q (F0 m pc L (.ref (B + a) :: st0.map (am_c B x)))
    exact lv_astore hx hb hd hl (Nat.le_of_ble_eq_true hlt) (am_ls_set (v := .ref a)) (fun L hl => am_go_use hone hW H locs L hR hS hl)
  · cases hone
theorem am_s_astore_n {k : Fin 4} (C : am_C p s m args meth c M) (hd : decode M.1.2.2 pc = .ok (.astore_n k, 1))
    (hone : am_one am_φ ex G rc M ((pc, 1, .astore_n k, an, v0) :: cs, ls, st, ks, h, nc, ns) = some (.inl f')) (hW : am_Wf p l e R s m args below meth c D cl B x ex M.2.1.1 Q f') : am_Wf p l e R s m args below meth c D cl B x ex M.2.1.1 Q ((pc, 1, .astore_n k, an, v0) :: cs, ls, st, ks, h, nc, ns) := by
  obtain ⟨hx, hb, hml, hr, hown, hts, hlk, hnm⟩ := C
  simp only [am_one] at hone
  split at hone
  · rename_i a st0
    cases hlt : Nat.blt k.val M.2.1.1 with
    | false => rw [hlt] at hone; cases hone
    | true =>
    rw [hlt] at hone
    simp only [cond_true, am_pushI, am_pushL] at hone
    intro H locs L j r hj hR hS hl
    cases hj
    show W p l e R s m args below meth c H locs nc ns Q (F0 m pc L (.ref (B + a) :: st0.map (am_c B x)))
    exact lv_astore_n hx hb hd rfl hl (Nat.le_of_ble_eq_true hlt) (am_ls_set (v := .ref a)) (fun L hl => am_go_use hone hW H locs L hR hS hl)
  · cases hone
theorem am_s_iinc {k : Nat} {n : Int} (C : am_C p s m args meth c M) (hd : decode M.1.2.2 pc = .ok (.iinc k n, 3))
    (hone : am_one am_φ ex G rc M ((pc, 3, .iinc k n, an, v0) :: cs, ls, st, ks, h, nc, ns) = some (.inl f')) (hW : am_Wf p l e R s m args below meth c D cl B x ex M.2.1.1 Q f') : am_Wf p l e R s m args below meth c D cl B x ex M.2.1.1 Q ((pc, 3, .iinc k n, an, v0) :: cs, ls, st, ks, h, nc, ns) := by
  obtain ⟨hx, hb, hml, hr, hown, hts, hlk, hnm⟩ := C
  simp only [am_one] at hone
  split at hone
  · rename_i a hg
    cases hlt : Nat.blt k M.2.1.1 with
    | false => rw [hlt] at hone; cases hone
    | true =>
    rw [hlt] at hone
    simp only [cond_true, am_pushI, am_pushL] at hone
    intro H locs L j r hj hR hS hl
    cases hj
    show W p l e R s m args below meth c H locs nc ns Q (F0 m pc L (st.map (am_c B x)))
    obtain ⟨q, hq⟩ := List.getElem?_of_mem (List.mem_map.mpr ⟨(k, .int a), am_get_mem hg, rfl⟩ : (k, am_c B x (.int a)) ∈ am_ls B x ls)
    exact lv_iinc hx hb hd hl hq rfl (Nat.le_of_ble_eq_true hlt) (am_ls_set (v := .int (a + Int32.ofInt n))) (fun L hl => am_go_use hone hW H locs L hR hS hl)
  · cases hone
theorem am_s_dup (C : am_C p s m args meth c M) (hd : decode M.1.2.2 pc = .ok (.dup, 1))
    (hone : am_one am_φ ex G rc M ((pc, 1, .dup, an, v0) :: cs, ls, st, ks, h, nc, ns) = some (.inl f')) (hW : am_Wf p l e R s m args below meth c D cl B x ex M.2.1.1 Q f') : am_Wf p l e R s m args below meth c D cl B x ex M.2.1.1 Q ((pc, 1, .dup, an, v0) :: cs, ls, st, ks, h, nc, ns) := by
  obtain ⟨hx, hb, hml, hr, hown, hts, hlk, hnm⟩ := C
  simp only [am_one] at hone
  split at hone
  · rename_i a st0
    cases hlt : Nat.beq a.category 1 with
    | false => rw [hlt] at hone; cases hone
    | true =>
    rw [hlt] at hone
    simp only [cond_true, am_pushI, am_pushL] at hone
    intro H locs L j r hj hR hS hl
    cases hj
    show W p l e R s m args below meth c H locs nc ns Q (F0 m pc L (am_c B x a :: st0.map (am_c B x)))
    exact lv_dup hx hb hd (by rw [am_c_cat]; exact Nat.eq_of_beq_eq_true hlt) (am_go_use hone hW H locs L hR hS hl)
  · cases hone
theorem am_s_pop (C : am_C p s m args meth c M) (hd : decode M.1.2.2 pc = .ok (.pop, 1))
    (hone : am_one am_φ ex G rc M ((pc, 1, .pop, an, v0) :: cs, ls, st, ks, h, nc, ns) = some (.inl f')) (hW : am_Wf p l e R s m args below meth c D cl B x ex M.2.1.1 Q f') : am_Wf p l e R s m args below meth c D cl B x ex M.2.1.1 Q ((pc, 1, .pop, an, v0) :: cs, ls, st, ks, h, nc, ns) := by
  obtain ⟨hx, hb, hml, hr, hown, hts, hlk, hnm⟩ := C
  simp only [am_one] at hone
  split at hone
  · rename_i a st0
    cases hlt : Nat.beq a.category 1 with
    | false => rw [hlt] at hone; cases hone
    | true =>
    rw [hlt] at hone
    simp only [cond_true, am_pushI, am_pushL] at hone
    intro H locs L j r hj hR hS hl
    cases hj
    show W p l e R s m args below meth c H locs nc ns Q (F0 m pc L (am_c B x a :: st0.map (am_c B x)))
    exact lv_pop hx hb hd (by rw [am_c_cat]; exact Nat.eq_of_beq_eq_true hlt) (am_go_use hone hW H locs L hR hS hl)
  · cases hone
theorem am_s_dup2 (C : am_C p s m args meth c M) (hd : decode M.1.2.2 pc = .ok (.dup2, 1))
    (hone : am_one am_φ ex G rc M ((pc, 1, .dup2, an, v0) :: cs, ls, st, ks, h, nc, ns) = some (.inl f')) (hW : am_Wf p l e R s m args below meth c D cl B x ex M.2.1.1 Q f') : am_Wf p l e R s m args below meth c D cl B x ex M.2.1.1 Q ((pc, 1, .dup2, an, v0) :: cs, ls, st, ks, h, nc, ns) := by
  obtain ⟨hx, hb, hml, hr, hown, hts, hlk, hnm⟩ := C
  simp only [am_one] at hone
  split at hone
  · rename_i a b st0
    cases hlt : (Nat.beq a.category 1 && Nat.beq b.category 1) with
    | false => rw [hlt] at hone; cases hone
    | true =>
    rw [hlt] at hone
    simp only [cond_true, am_pushI, am_pushL] at hone
    simp only [Bool.and_eq_true] at hlt
    intro H locs L j r hj hR hS hl
    cases hj
    show W p l e R s m args below meth c H locs nc ns Q (F0 m pc L (am_c B x a :: am_c B x b :: st0.map (am_c B x)))
    exact lv_dup2_11 hx hb hd (by rw [am_c_cat]; exact Nat.eq_of_beq_eq_true hlt.1) (by rw [am_c_cat]; exact Nat.eq_of_beq_eq_true hlt.2) (am_go_use hone hW H locs L hR hS hl)
  · cases hone
theorem am_s_goto {off : Int} (C : am_C p s m args meth c M) (hd : decode M.1.2.2 pc = .ok (.goto off, 3))
    (hone : am_one am_φ ex G rc M ((pc, 3, .goto off, an, v0) :: cs, ls, st, ks, h, nc, ns) = some (.inl f')) (hW : am_Wf p l e R s m args below meth c D cl B x ex M.2.1.1 Q f') : am_Wf p l e R s m args below meth c D cl B x ex M.2.1.1 Q ((pc, 3, .goto off, an, v0) :: cs, ls, st, ks, h, nc, ns) := by
  obtain ⟨hx, hb, hml, hr, hown, hts, hlk, hnm⟩ := C
  simp only [am_one] at hone
  obtain ⟨tgt, ht, K⟩ := am_jp_use hone hW
  intro H locs L j r hj hR hS hl
  cases hj
  exact lv_goto hx hb hd ht (K H locs L hR hS hl)
theorem am_s_if_eq {off : Int} (C : am_C p s m args meth c M) (hd : decode M.1.2.2 pc = .ok (.ifCond .eq off, 3)) (hof : 0 ≤ (pc : Int) + off)
    (hone : am_one am_φ ex G rc M ((pc, 3, .ifCond .eq off, an, v0) :: cs, ls, st, ks, h, nc, ns) = some (.inl f')) (hW : am_Wf p l e R s m args below meth c D cl B x ex M.2.1.1 Q f') : am_Wf p l e R s m args below meth c D cl B x ex M.2.1.1 Q ((pc, 3, .ifCond .eq off, an, v0) :: cs, ls, st, ks, h, nc, ns) := by
  obtain ⟨hx, hb, hml, hr, hown, hts, hlk, hnm⟩ := C
  simp only [am_one] at hone
  split at hone
  · rename_i a st0
    simp only [am_br, am_cmp] at hone
    obtain ⟨tg, htg⟩ : ∃ tg : Nat, (pc : Int) + off = (tg : Int) := ⟨((pc : Int) + off).toNat, (Int.toNat_of_nonneg hof).symm⟩
    intro H locs L j r hj hR hS hl
    cases hj
    show W p l e R s m args below meth c H locs nc ns Q (F0 m pc L (.int a :: st0.map (am_c B x)))
    by_cases hc : a = 0
    · rw [decide_eq_true hc] at hone
      obtain ⟨tgt, ht, K⟩ := am_jp_use hone hW
      exact lv_if_eq hx hb hd ht (fun _ => K H locs L hR hS hl) (fun hz => absurd hc hz)
    · rw [decide_eq_false hc] at hone
      exact lv_if_eq hx hb hd htg (fun hz => absurd hz hc) (fun _ => (am_go_use hone hW H locs L hR hS hl))
  · cases hone
theorem am_s_icmp_eq {off : Int} (C : am_C p s m args meth c M) (hd : decode M.1.2.2 pc = .ok (.if_icmp .eq off, 3)) (hof : 0 ≤ (pc : Int) + off)
    (hone : am_one am_φ ex G rc M ((pc, 3, .if_icmp .eq off, an, v0) :: cs, ls, st, ks, h, nc, ns) = some (.inl f')) (hW : am_Wf p l e R s m args below meth c D cl B x ex M.2.1.1 Q f') : am_Wf p l e R s m args below meth c D cl B x ex M.2.1.1 Q ((pc, 3, .if_icmp .eq off, an, v0) :: cs, ls, st, ks, h, nc, ns) := by
  obtain ⟨hx, hb, hml, hr, hown, hts, hlk, hnm⟩ := C
  simp only [am_one] at hone
  split at hone
  · rename_i b a st0
    simp only [am_br, am_cmp] at hone
    obtain ⟨tg, htg⟩ : ∃ tg : Nat, (pc : Int) + off = (tg : Int) := ⟨((pc : Int) + off).toNat, (Int.toNat_of_nonneg hof).symm⟩
    intro H locs L j r hj hR hS hl
    cases hj
    show W p l e R s m args below meth c H locs nc ns Q (F0 m pc L (.int b :: .int a :: st0.map (am_c B x)))
    by_cases hc : a = b
    · rw [decide_eq_true hc] at hone
      obtain ⟨tgt, ht, K⟩ := am_jp_use hone hW
      exact lv_icmp_eq hx hb hd ht (fun _ => K H locs L hR hS hl) (fun hz => absurd hc hz)
    · rw [decide_eq_false hc] at hone
      exact lv_icmp_eq hx hb hd htg (fun hz => absurd hz hc) (fun _ => (am_go_use hone hW H locs L hR hS hl))
  · cases hone
theorem am_s_if_ne {off : Int} (C : am_C p s m args meth c M) (hd : decode M.1.2.2 pc = .ok (.ifCond .ne off, 3)) (hof : 0 ≤ (pc : Int) + off)
    (hone : am_one am_φ ex G rc M ((pc, 3, .ifCond .ne off, an, v0) :: cs, ls, st, ks, h, nc, ns) = some (.inl f')) (hW : am_Wf p l e R s m args below meth c D cl B x ex M.2.1.1 Q f') : am_Wf p l e R s m args below meth c D cl B x ex M.2.1.1 Q ((pc, 3, .ifCond .ne off, an, v0) :: cs, ls, st, ks, h, nc, ns) := by
  obtain ⟨hx, hb, hml, hr, hown, hts, hlk, hnm⟩ := C
  simp only [am_one] at hone
  split at hone
  · rename_i a st0
    simp only [am_br, am_cmp] at hone
    obtain ⟨tg, htg⟩ : ∃ tg : Nat, (pc : Int) + off = (tg : Int) := ⟨((pc : Int) + off).toNat, (Int.toNat_of_nonneg hof).symm⟩
    intro H locs L j r hj hR hS hl
    cases hj
    show W p l e R s m args below meth c H locs nc ns Q (F0 m pc L (.int a :: st0.map (am_c B x)))
    by_cases hc : ¬ a = 0
    · rw [decide_eq_true hc] at hone
      obtain ⟨tgt, ht, K⟩ := am_jp_use hone hW
      exact lv_if_ne hx hb hd ht (fun _ => K H locs L hR hS hl) (fun hz => absurd hz hc)
    · have hc2 := Classical.not_not.mp hc
      rw [decide_eq_false hc] at hone
      exact lv_if_ne hx hb hd htg (fun hz => absurd hz hc) (fun _ => (am_go_use hone hW H locs L hR hS hl))
  · cases hone
theorem am_s_icmp_ne {off : Int} (C : am_C p s m args meth c M) (hd : decode M.1.2.2 pc = .ok (.if_icmp .ne off, 3)) (hof : 0 ≤ (pc : Int) + off)
    (hone : am_one am_φ ex G rc M ((pc, 3, .if_icmp .ne off, an, v0) :: cs, ls, st, ks, h, nc, ns) = some (.inl f')) (hW : am_Wf p l e R s m args below meth c D cl B x ex M.2.1.1 Q f') : am_Wf p l e R s m args below meth c D cl B x ex M.2.1.1 Q ((pc, 3, .if_icmp .ne off, an, v0) :: cs, ls, st, ks, h, nc, ns) := by
  obtain ⟨hx, hb, hml, hr, hown, hts, hlk, hnm⟩ := C
  simp only [am_one] at hone
  split at hone
  · rename_i b a st0
    simp only [am_br, am_cmp] at hone
    obtain ⟨tg, htg⟩ : ∃ tg : Nat, (pc : Int) + off = (tg : Int) := ⟨((pc : Int) + off).toNat, (Int.toNat_of_nonneg hof).symm⟩
    intro H locs L j r hj hR hS hl
    cases hj
    show W p l e R s m args below meth c H locs nc ns Q (F0 m pc L (.int b :: .int a :: st0.map (am_c B x)))
    by_cases hc : ¬ a = b
    · rw [decide_eq_true hc] at hone
      obtain ⟨tgt, ht, K⟩ := am_jp_use hone hW
      exact lv_icmp_ne hx hb hd ht (fun _ => K H locs L hR hS hl) (fun hz => absurd hz hc)
    · have hc2 := Classical.not_not.mp hc
      rw [decide_eq_false hc] at hone
      exact lv_icmp_ne hx hb hd htg (fun hz => absurd hz hc) (fun _ => (am_go_use hone hW H locs L hR hS hl))
  · cases hone
theorem am_s_if_lt {off : Int} (C : am_C p s m args meth c M) (hd : decode M.1.2.2 pc = .ok (.ifCond .lt off, 3)) (hof : 0 ≤ (pc : Int) + off)
    (hone : am_one am_φ ex G rc M ((pc, 3, .ifCond .lt off, an, v0) :: cs, ls, st, ks, h, nc, ns) = some (.inl f')) (hW : am_Wf p l e R s m args below meth c D cl B x ex M.2.1.1 Q f') : am_Wf p l e R s m args below meth c D cl B x ex M.2.1.1 Q ((pc, 3, .ifCond .lt off, an, v0) :: cs, ls, st, ks, h, nc, ns) := by
  obtain ⟨hx, hb, hml, hr, hown, hts, hlk, hnm⟩ := C
  simp only [am_one] at hone
  split at hone
  · rename_i a st0
    simp only [am_br, am_cmp] at hone
    obtain ⟨tg, htg⟩ : ∃ tg : Nat, (pc : Int) + off = (tg : Int) := ⟨((pc : Int) + off).toNat, (Int.toNat_of_nonneg hof).symm⟩
    intro H locs L j r hj hR hS hl
    cases hj
    show W p l e R s m args below meth c H locs nc ns Q (F0 m pc L (.int a :: st0.map (am_c B x)))
    by_cases hc : a < 0
    · rw [decide_eq_true hc] at hone
      obtain ⟨tgt, ht, K⟩ := am_jp_use hone hW
      exact lv_if_lt hx hb hd ht (fun _ => K H locs L hR hS hl) (fun hz => absurd hc hz)
    · rw [decide_eq_false hc] at hone
      exact lv_if_lt hx hb hd htg (fun hz => absurd hz hc) (fun _ => (am_go_use hone hW H locs L hR hS hl))
  · cases hone
theorem am_s_icmp_lt {off : Int} (C : am_C p s m args meth c M) (hd : decode M.1.2.2 pc = .ok (.if_icmp .lt off, 3)) (hof : 0 ≤ (pc : Int) + off)
    (hone : am_one am_φ ex G rc M ((pc, 3, .if_icmp .lt off, an, v0) :: cs, ls, st, ks, h, nc, ns) = some (.inl f')) (hW : am_Wf p l e R s m args below meth c D cl B x ex M.2.1.1 Q f') : am_Wf p l e R s m args below meth c D cl B x ex M.2.1.1 Q ((pc, 3, .if_icmp .lt off, an, v0) :: cs, ls, st, ks, h, nc, ns) := by
  obtain ⟨hx, hb, hml, hr, hown, hts, hlk, hnm⟩ := C
  simp only [am_one] at hone
  split at hone
  · rename_i b a st0
    simp only [am_br, am_cmp] at hone
    obtain ⟨tg, htg⟩ : ∃ tg : Nat, (pc : Int) + off = (tg : Int) := ⟨((pc : Int) + off).toNat, (Int.toNat_of_nonneg hof).symm⟩
    intro H locs L j r hj hR hS hl
    cases hj
    show W p l e R s m args below meth c H locs nc ns Q (F0 m pc L (.int b :: .int a :: st0.map (am_c B x)))
    by_cases hc : a < b
    · rw [decide_eq_true hc] at hone
      obtain ⟨tgt, ht, K⟩ := am_jp_use hone hW
      exact lv_icmp_lt hx hb hd ht (fun _ => K H locs L hR hS hl) (fun hz => absurd hc hz)
    · rw [decide_eq_false hc] at hone
      exact lv_icmp_lt hx hb hd htg (fun hz => absurd hz hc) (fun _ => (am_go_use hone hW H locs L hR hS hl))
  · cases hone
theorem am_s_if_ge {off : Int} (C : am_C p s m args meth c M) (hd : decode M.1.2.2 pc = .ok (.ifCond .ge off, 3)) (hof : 0 ≤ (pc : Int) + off)
    (hone : am_one am_φ ex G rc M ((pc, 3, .ifCond .ge off, an, v0) :: cs, ls, st, ks, h, nc, ns) = some (.inl f')) (hW : am_Wf p l e R s m args below meth c D cl B x ex M.2.1.1 Q f') : am_Wf p l e R s m args below meth c D cl B x ex M.2.1.1 Q ((pc, 3, .ifCond .ge off, an, v0) :: cs, ls, st, ks, h, nc, ns) := by
  obtain ⟨hx, hb, hml, hr, hown, hts, hlk, hnm⟩ := C
  simp only [am_one] at hone
  split at hone
  · rename_i a st0
    simp only [am_br, am_cmp] at hone
    obtain ⟨tg, htg⟩ : ∃ tg : Nat, (pc : Int) + off = (tg : Int) := ⟨((pc : Int) + off).toNat, (Int.toNat_of_nonneg hof).symm⟩
    intro H locs L j r hj hR hS hl
    cases hj
    show W p l e R s m args below meth c H locs nc ns Q (F0 m pc L (.int a :: st0.map (am_c B x)))
    by_cases hc : 0 ≤ a
    · rw [decide_eq_true hc] at hone
      obtain ⟨tgt, ht, K⟩ := am_jp_use hone hW
      exact lv_if_ge hx hb hd ht (fun _ => K H locs L hR hS hl) (fun hz => absurd hc hz)
    · rw [decide_eq_false hc] at hone
      exact lv_if_ge hx hb hd htg (fun hz => absurd hz hc) (fun _ => (am_go_use hone hW H locs L hR hS hl))
  · cases hone
theorem am_s_icmp_ge {off : Int} (C : am_C p s m args meth c M) (hd : decode M.1.2.2 pc = .ok (.if_icmp .ge off, 3)) (hof : 0 ≤ (pc : Int) + off)
    (hone : am_one am_φ ex G rc M ((pc, 3, .if_icmp .ge off, an, v0) :: cs, ls, st, ks, h, nc, ns) = some (.inl f')) (hW : am_Wf p l e R s m args below meth c D cl B x ex M.2.1.1 Q f') : am_Wf p l e R s m args below meth c D cl B x ex M.2.1.1 Q ((pc, 3, .if_icmp .ge off, an, v0) :: cs, ls, st, ks, h, nc, ns) := by
  obtain ⟨hx, hb, hml, hr, hown, hts, hlk, hnm⟩ := C
  simp only [am_one] at hone
  split at hone
  · rename_i b a st0
    simp only [am_br, am_cmp] at hone
    obtain ⟨tg, htg⟩ : ∃ tg : Nat, (pc : Int) + off = (tg : Int) := ⟨((pc : Int) + off).toNat, (Int.toNat_of_nonneg hof).symm⟩
    intro H locs L j r hj hR hS hl
    cases hj
    show W p l e R s m args below meth c H locs nc ns Q (F0 m pc L (.int b :: .int a :: st0.map (am_c B x)))
    by_cases hc : b ≤ a
    · rw [decide_eq_true hc] at hone
      obtain ⟨tgt, ht, K⟩ := am_jp_use hone hW
      exact lv_icmp_ge hx hb hd ht (fun _ => K H locs L hR hS hl) (fun hz => absurd hc hz)
    · rw [decide_eq_false hc] at hone
      exact lv_icmp_ge hx hb hd htg (fun hz => absurd hz hc) (fun _ => (am_go_use hone hW H locs L hR hS hl))
  · cases hone
theorem am_s_if_gt {off : Int} (C : am_C p s m args meth c M) (hd : decode M.1.2.2 pc = .ok (.ifCond .gt off, 3)) (hof : 0 ≤ (pc : Int) + off)
    (hone : am_one am_φ ex G rc M ((pc, 3, .ifCond .gt off, an, v0) :: cs, ls, st, ks, h, nc, ns) = some (.inl f')) (hW : am_Wf p l e R s m args below meth c D cl B x ex M.2.1.1 Q f') : am_Wf p l e R s m args below meth c D cl B x ex M.2.1.1 Q ((pc, 3, .ifCond .gt off, an, v0) :: cs, ls, st, ks, h, nc, ns) := by
  obtain ⟨hx, hb, hml, hr, hown, hts, hlk, hnm⟩ := C
  simp only [am_one] at hone
  split at hone
  · rename_i a st0
    simp only [am_br, am_cmp] at hone
    obtain ⟨tg, htg⟩ : ∃ tg : Nat, (pc : Int) + off = (tg : Int) := ⟨((pc : Int) + off).toNat, (Int.toNat_of_nonneg hof).symm⟩
    intro H locs L j r hj hR hS hl
    cases hj
    show W p l e R s m args below meth c H locs nc ns Q (F0 m pc L (.int a :: st0.map (am_c B x)))
    by_cases hc : 0 < a
    · rw [decide_eq_true hc] at hone
      obtain ⟨tgt, ht, K⟩ := am_jp_use hone hW
      exact lv_if_gt hx hb hd ht (fun _ => K H locs L hR hS hl) (fun hz => absurd hc hz)
    · rw [decide_eq_false hc] at hone
      exact lv_if_gt hx hb hd htg (fun hz => absurd hz hc) (fun _ => (am_go_use hone hW H locs L hR hS hl))
  · cases hone
theorem am_s_icmp_gt {off : Int} (C : am_C p s m args meth c M) (hd : decode M.1.2.2 pc = .ok (.if_icmp .gt off, 3)) (hof : 0 ≤ (pc : Int) + off)
    (hone : am_one am_φ ex G rc M ((pc, 3, .if_icmp .gt off, an, v0) :: cs, ls, st, ks, h, nc, ns) = some (.inl f')) (hW : am_Wf p l e R s m args below meth c D cl B x ex M.2.1.1 Q f') : am_Wf p l e R s m args below meth c D cl B x ex M.2.1.1 Q ((pc, 3, .if_icmp .gt off, an, v0) :: cs, ls, st, ks, h, nc, ns) := by
  obtain ⟨hx, hb, hml, hr, hown, hts, hlk, hnm⟩ := C
  simp only [am_one] at hone
  split at hone
  · rename_i b a st0
    simp only [am_br, am_cmp] at hone
    obtain ⟨tg, htg⟩ : ∃ tg : Nat, (pc : Int) + off = (tg : Int) := ⟨((pc : Int) + off).toNat, (Int.toNat_of_nonneg hof).symm⟩
    intro H locs L j r hj hR hS hl
    cases hj
    show W p l e R s m args below meth c H locs nc ns Q (F0 m pc L (.int b :: .int a :: st0.map (am_c B x)))
    by_cases hc : b < a
    · rw [decide_eq_true hc] at hone
      obtain ⟨tgt, ht, K⟩ := am_jp_use hone hW
      exact lv_icmp_gt hx hb hd ht (fun _ => K H locs L hR hS hl) (fun hz => absurd hc hz)
    · rw [decide_eq_false hc] at hone
      exact lv_icmp_gt hx hb hd htg (fun hz => absurd hz hc) (fun _ => (am_go_use hone hW H locs L hR hS hl))
  · cases hone
theorem am_s_if_le {off : Int} (C : am_C p s m args meth c M) (hd : decode M.1.2.2 pc = .ok (.ifCond .le off, 3)) (hof : 0 ≤ (pc : Int) + off)
    (hone : am_one am_φ ex G rc M ((pc, 3, .ifCond .le off, an, v0) :: cs, ls, st, ks, h, nc, ns) = some (.inl f')) (hW : am_Wf p l e R s m args below meth c D cl B x ex M.2.1.1 Q f') : am_Wf p l e R s m args below meth c D cl B x ex M.2.1.1 Q ((pc, 3, .ifCond .le off, an, v0) :: cs, ls, st, ks, h, nc, ns) := by
  obtain ⟨hx, hb, hml, hr, hown, hts, hlk, hnm⟩ := C
  simp only [am_one] at hone
  split at hone
  · rename_i a st0
    simp only [am_br, am_cmp] at hone
    obtain ⟨tg, htg⟩ : ∃ tg : Nat, (pc : Int) + off = (tg : Int) := ⟨((pc : Int) + off).toNat, (Int.toNat_of_nonneg hof).symm⟩
    intro H locs L j r hj hR hS hl
    cases hj
    show W p l e R s m args below meth c H locs nc ns Q (F0 m pc L (.int a :: st0.map (am_c B x)))
    by_cases hc : a ≤ 0
    · rw [decide_eq_true hc] at hone
      obtain ⟨tgt, ht, K⟩ := am_jp_use hone hW
      exact lv_if_le hx hb hd ht (fun _ => K H locs L hR hS hl) (fun hz => absurd hc hz)
    · rw [decide_eq_false hc] at hone
      exact lv_if_le hx hb hd htg (fun hz => absurd hz hc) (fun _ => (am_go_use hone hW H locs L hR hS hl))
  · cases hone
theorem am_s_icmp_le {off : Int} (C : am_C p s m args meth c M) (hd : decode M.1.2.2 pc = .ok (.if_icmp .le off, 3)) (hof : 0 ≤ (pc : Int) + off)
    (hone : am_one am_φ ex G rc M ((pc, 3, .if_icmp .le off, an, v0) :: cs, ls, st, ks, h, nc, ns) = some (.inl f')) (hW : am_Wf p l e R s m args below meth c D cl B x ex M.2.1.1 Q f') : am_Wf p l e R s m args below meth c D cl B x ex M.2.1.1 Q ((pc, 3, .if_icmp .le off, an, v0) :: cs, ls, st, ks, h, nc, ns) := by
  obtain ⟨hx, hb, hml, hr, hown, hts, hlk, hnm⟩ := C
  simp only [am_one] at hone
  split at hone
  · rename_i b a st0
    simp only [am_br, am_cmp] at hone
    obtain ⟨tg, htg⟩ : ∃ tg : Nat, (pc : Int) + off = (tg : Int) := ⟨((pc : Int) + off).toNat, (Int.toNat_of_nonneg hof).symm⟩
    intro H locs L j r hj hR hS hl
    cases hj
    show W p l e R s m args below meth c H locs nc ns Q (F0 m pc L (.int b :: .int a :: st0.map (am_c B x)))
    by_cases hc : a ≤ b
    · rw [decide_eq_true hc] at hone
      obtain ⟨tgt, ht, K⟩ := am_jp_use hone hW
      exact lv_icmp_le hx hb hd ht (fun _ => K H locs L hR hS hl) (fun hz => absurd hc hz)
    · rw [decide_eq_false hc] at hone
      exact lv_icmp_le hx hb hd htg (fun hz => absurd hz hc) (fun _ => (am_go_use hone hW H locs L hR hS hl))
  · cases hone
theorem am_s_tsw {dflt lo hi : Int} {offs : Array Int} (C : am_C p s m args meth c M) (hd : decode M.1.2.2 pc = .ok (.tableswitch dflt lo hi offs, len))
    (hone : am_one am_φ ex G rc M ((pc, len, .tableswitch dflt lo hi offs, an, v0) :: cs, ls, st, ks, h, nc, ns) = some (.inl f')) (hW : am_Wf p l e R s m args below meth c D cl B x ex M.2.1.1 Q f') : am_Wf p l e R s m args below meth c D cl B x ex M.2.1.1 Q ((pc, len, .tableswitch dflt lo hi offs, an, v0) :: cs, ls, st, ks, h, nc, ns) := by
  obtain ⟨hx, hb, hml, hr, hown, hts, hlk, hnm⟩ := C
  simp only [am_one] at hone
  split at hone
  · rename_i a st0
    split at hone
    · rename_i hc
      obtain ⟨tgt, ht, K⟩ := am_sw_use hone hW
      intro H locs L j r hj hR hS hl
      cases hj
      exact lv_tableOut (x := a) hx hb hd hc ht (K H locs L hR hS hl)
    · rename_i hc
      split at hone
      · rename_i off ho
        obtain ⟨tgt, ht, K⟩ := am_sw_use hone hW
        intro H locs L j r hj hR hS hl
        cases hj
        exact lv_tableIn (x := a) hx hb hd (fun z => hc (Or.inl z)) (fun z => hc (Or.inr z)) ho ht (K H locs L hR hS hl)
      · cases hone
  · cases hone
end AMS
end
section
/-! ===== FIELDS, ARRAYS, MAKING ===== -/
/-- the class table and the machine's own tables agree, and the words of each class are there -/
def am_okG (cl : List vw_C) (G : am_G) : Prop := ∀ (ci : Nat) (r : vw_C), cl[ci]? = some r →
  (G.2.1 ci).length = r.2.2 ∧ G.2.2.1 ci = r.1 ∧ (∀ k, k < r.2.2 → parseFieldDescriptor (r.2.1 k).2.2.1 = some ((G.2.1 ci).getD k .int)) ∧ (∀ a, a < r.2.2 → ∀ b, b < r.2.2 → a ≠ b → (r.2.1 a).2.1 ≠ (r.2.1 b).2.1) ∧ (∀ w ∈ u_ws r.1 r.2.1 r.2.2, w ∈ am_ts) ∧ Cond.instantiable r.1 r.2.2 ∈ am_ts ∧ Cond.initialized r.1 ∈ am_ts
/-- the script, as the frame's start has it -/
def am_scr (G : am_G) (B : Nat) (x : Nat → Nat) (s : State) : Prop := ∀ (L : Nat) (xs : Nat → Int32), G.2.2.2.2 = some (L, xs) → va_X (x 0) L xs s s.heap ∧ x 0 < s.heap.size ∧ ¬ B ≤ x 0
/-- a field's link: plain, or of a nest mate -/
def am_fl (own : String) (idx : Nat) (q : String × String × String × Bool) : Prop := Cond.fieldLink own idx q.1 q.2.1 q.2.2.1 ∈ am_ts ∨ ∃ host, Cond.fieldLinkNest own idx q.1 q.2.1 q.2.2.1 host ∈ am_ts
theorem am_N_of {cl : List vw_C} {ci : Nat} {r : vw_C} (hc : cl[ci]? = some r) : am_N cl ci = r.2.2 := by simp [am_N, hc]
theorem am_ix_use {j : Int32} {n : Nat} {k : Nat → am_R} {o : am_F ⊕ am_O} (h : am_ix j n k = some o) : vp_in j n ∧ k j.toNatClampNeg = some o := by
  unfold am_ix at h
  split at h
  · cases h
  · rename_i hc
    exact ⟨hc, h⟩
theorem am_ald_use {G : am_G} {ks : List am_k} {h : am_H} {a : Value} {j : Int32} {ty : FieldType} {k : Value → am_R} {o : am_F ⊕ am_O} (hh : am_ald G ks h a j ty k = some o) :
    (∃ (q n : Nat), a = .ref q ∧ ks[q]? = some (.inr (ty, n)) ∧ vp_in j n ∧ k (h q j.toNatClampNeg) = some o) ∨ (∃ (L : Nat) (xs : Nat → Int32), a = .retAddr 0 ∧ G.2.2.2.2 = some (L, xs) ∧ ty = .int ∧ vp_in j L ∧ k (.int (xs j.toNatClampNeg)) = some o) := by
  unfold am_ald at hh
  split at hh
  · rename_i q
    split at hh
    · rename_i t n hks
      cases hd : decide (t = ty) with
      | false => rw [hd] at hh; cases hh
      | true =>
        rw [hd] at hh
        rw [cond_true] at hh
        have := of_decide_eq_true hd
        subst this
        obtain ⟨h1, h2⟩ := am_ix_use hh
        exact Or.inl ⟨q, n, rfl, hks, h1, h2⟩
    · cases hh
  · split at hh
    · rename_i L xs hs
      cases hd : decide (ty = .int) with
      | false => rw [hd] at hh; cases hh
      | true =>
        rw [hd, cond_true] at hh
        obtain ⟨h1, h2⟩ := am_ix_use hh
        exact Or.inr ⟨L, xs, rfl, hs, of_decide_eq_true hd, h1, h2⟩
    · cases hh
  · cases hh
theorem am_ast_use {ks : List am_k} {h : am_H} {a : Value} {j : Int32} {ty : FieldType} {v : Value} {k : am_H → am_R} {o : am_F ⊕ am_O} (hh : am_ast ks h a j ty v k = some o) :
    ∃ (q n : Nat), a = .ref q ∧ ks[q]? = some (.inr (ty, n)) ∧ vp_in j n ∧ k (am_up h q j.toNatClampNeg v) = some o := by
  unfold am_ast at hh
  split at hh
  · rename_i q
    split at hh
    · rename_i t n hks
      cases hd : decide (t = ty) with
      | false => rw [hd] at hh; cases hh
      | true =>
        rw [hd] at hh
        rw [cond_true] at hh
        have := of_decide_eq_true hd
        subst this
        obtain ⟨h1, h2⟩ := am_ix_use hh
        exact ⟨q, n, rfl, hks, h1, h2⟩
    · cases hh
  · cases hh
section AMH
variable {p : Program} {l : Launch} {e : Env} {R : Room} {s : State} {m : MethodId} {args : Array Value} {below : List Frame} {meth : Method} {c : Code} {D : va_G} {cl : List vw_C} {B : Nat} {x : Nat → Nat} {ex : Bool} {nL : Nat} {Q : State → Prop} {M : am_M} {f' : am_F}
variable {pc len : Nat} {ins : Instr} {an : Nat × Nat × Nat} {v0 : Int} {cs : List am_I} {ls : am_L} {st : List Value} {ks : List am_k} {h : am_H} {nc ns : Nat} {G : am_G} {rc : am_rec}
theorem am_s_getfield {idx : Nat} {r : vw_C} (C : am_C p s m args meth c M) (hG : am_okG cl G) (hd : decode M.1.2.2 pc = .ok (.getfield idx, 3)) (hc : cl[an.1]? = some r) (hk : an.2.1 < r.2.2) (hl : am_fl M.1.2.1.cls idx (r.2.1 an.2.1))
    (hone : am_one am_φ ex G rc M ((pc, 3, .getfield idx, an, v0) :: cs, ls, st, ks, h, nc, ns) = some (.inl f')) (hW : am_Wf p l e R s m args below meth c D cl B x ex M.2.1.1 Q f') : am_Wf p l e R s m args below meth c D cl B x ex M.2.1.1 Q ((pc, 3, .getfield idx, an, v0) :: cs, ls, st, ks, h, nc, ns) := by
  obtain ⟨hx, hb, hml, hr, hown, hts, hlk, hnm⟩ := C
  obtain ⟨g1, g2, g3, g4, g5, g6, g7⟩ := hG _ _ hc
  simp only [am_one] at hone
  split at hone
  · rename_i o st0
    split at hone
    · rename_i ci hks
      cases hci : Nat.beq ci an.1 with
      | false => rw [hci] at hone; cases hone
      | true =>
      rw [hci] at hone
      have hci := Nat.eq_of_beq_eq_true hci
      subst hci
      intro H locs L j r' hj hR hS hlv
      cases hj
      obtain ⟨hK, dA, hP, hA, hz⟩ := hR
      have he := am_W_some (cl := cl) (B := B) (x := x) (dA := dA) (h := h) hks
      have hv : ((List.range (am_N cl an.1)).map (fun j => am_c B x (h o j)))[an.2.1]? = some (am_c B x (h o an.2.1)) := by
        rw [am_N_of hc]; simp [hk]
      rcases hl with hl | ⟨host, hl⟩
      · exact va_get (C := r.1) (T := r.2.1) (N := r.2.2) hx hb hts g5 hown hK hP o he hc an.2.1 hk (hts _ hl) (fun _ h9 => h9) hv hd (am_go_use hone hW H locs L ⟨hK, dA, hP, hA, hz⟩ hS hlv)
      · exact va_getN (C := r.1) (T := r.2.1) (N := r.2.2) hx hb hts g5 hown hK hP o he hc an.2.1 hk (hts _ hl) (fun _ h9 => h9) hv hd (am_go_use hone hW H locs L ⟨hK, dA, hP, hA, hz⟩ hS hlv)
    · cases hone
  · cases hone
theorem am_s_putfield {idx : Nat} {r : vw_C} (C : am_C p s m args meth c M) (hG : am_okG cl G) (hd : decode M.1.2.2 pc = .ok (.putfield idx, 3)) (hc : cl[an.1]? = some r) (hk : an.2.1 < r.2.2)
    (hl : ((r.2.1 an.2.1).2.2.2 = false ∧ am_fl M.1.2.1.cls idx (r.2.1 an.2.1)) ∨ ((r.2.1 an.2.1).2.2.2 = true ∧ Cond.fieldLink M.1.2.1.cls idx (r.2.1 an.2.1).1 (r.2.1 an.2.1).2.1 (r.2.1 an.2.1).2.2.1 ∈ am_ts ∧ M.1.2.1.name = "<init>" ∧ (r.2.1 an.2.1).1 = M.1.2.1.cls))
    (hone : am_one am_φ ex G rc M ((pc, 3, .putfield idx, an, v0) :: cs, ls, st, ks, h, nc, ns) = some (.inl f')) (hW : am_Wf p l e R s m args below meth c D cl B x ex M.2.1.1 Q f') : am_Wf p l e R s m args below meth c D cl B x ex M.2.1.1 Q ((pc, 3, .putfield idx, an, v0) :: cs, ls, st, ks, h, nc, ns) := by
  obtain ⟨hx, hb, hml, hr, hown, hts, hlk, hnm⟩ := C
  obtain ⟨g1, g2, g3, g4, g5, g6, g7⟩ := hG _ _ hc
  simp only [am_one] at hone
  split at hone
  · rename_i v o st0
    split at hone
    · rename_i ci hks
      cases hci : (Nat.beq ci an.1 && am_fit ((G.2.1 an.1).getD an.2.1 .int) v) with
      | false => rw [hci] at hone; cases hone
      | true =>
      rw [hci] at hone
      simp only [Bool.and_eq_true] at hci
      obtain ⟨hci, hft⟩ := hci
      have hci := Nat.eq_of_beq_eq_true hci
      subst hci
      obtain ⟨f1, f2⟩ := am_fit_ok (B := B) (x := x) hft
      intro H locs L j r' hj hR hS hlv
      cases hj
      obtain ⟨hK, dA, hP, hA, hz⟩ := hR
      have he := am_W_some (cl := cl) (B := B) (x := x) (dA := dA) (h := h) hks
      have hkk : an.2.1 < am_N cl an.1 := by rw [am_N_of hc]; exact hk
      have hlen : an.2.1 < ((List.range (am_N cl an.1)).map (fun j => am_c B x (h o j))).length := by simpa using hkk
      have K : ∀ (H1 : Heap) (locs1 : List Loc), va_P D cl ((am_W cl B x dA ks h).set o (B + o, .inr (an.1, ((List.range (am_N cl an.1)).map (fun j => am_c B x (h o j))).set an.2.1 (am_c B x v)))) H1 → va_D (fun q => B ≤ q) ((am_W cl B x dA ks h).set o (B + o, .inr (an.1, ((List.range (am_N cl an.1)).map (fun j => am_c B x (h o j))).set an.2.1 (am_c B x v)))) → va_S (fun q => B ≤ q) s.heap H1 locs1 → W p l e R s m args below meth c H1 locs1 nc ns Q (F0 m (pc + 3) L (st0.map (am_c B x))) := by
        intro H1 locs1 q1 q2 q3
        rw [am_W_put hks hkk] at q1
        exact am_go_use hone hW H1 locs1 L ⟨hK, dA, q1, hA, hz⟩ q3 hlv
      have g3' := g3 an.2.1 hk
      rcases hl with ⟨hfin, hl | ⟨host, hl⟩⟩ | ⟨hfin, hl, hni, hdec⟩
      · exact va_put (C := r.1) (T := r.2.1) (N := r.2.2) hx hb hts g5 (fun k => (G.2.1 an.1).getD k .int) g3 g4 hown hK hP am_W_D hS o he hc an.2.1 hk (hts _ hl) (fun _ h9 => h9) hfin g3' f1 f2 hlen hd K
      · exact va_putN (C := r.1) (T := r.2.1) (N := r.2.2) hx hb hts g5 (fun k => (G.2.1 an.1).getD k .int) g3 g4 hown hK hP am_W_D hS o he hc an.2.1 hk (hts _ hl) (fun _ h9 => h9) hfin g3' f1 f2 hlen hd K
      · exact va_putF (C := r.1) (T := r.2.1) (N := r.2.2) hx hb hts g5 (fun k => (G.2.1 an.1).getD k .int) g3 g4 hown hK hP am_W_D hS o he hc an.2.1 hk (hts _ hl) (fun _ h9 => h9) hfin (hnm.trans hni) hdec g3' f1 f2 hlen hd K
    · cases hone
  · cases hone
end AMH
end
section
/-! ===== ARRAYS, AND WHAT IS MADE ===== -/
theorem am_K1 {D : va_G} {cl : List vw_C} {U : State} {ca : ClassId} {ty : FieldType} (hK : va_K D cl [] U) (h : ArrOfT U ca ty ∧ va_RA U ca ty) : va_K D cl [(ca, ty)] U := by
  refine ⟨hK.1, fun k q hq => ?_⟩
  have hz : k < 1 := (List.getElem?_eq_some_iff.mp hq).1
  rw [show k = 0 by omega] at hq
  cases hq
  exact h
theorem am_upd_i (h : am_H) (q k : Nat) (v : Int32) : upd (fun j => am_i (h q j)) k v = fun j => am_i (am_up h q k (.int v) q j) := by
  funext j
  by_cases hj : j = k
  · subst hj; simp [upd, am_up_self, am_i]
  · simp [upd, hj, am_up_same _ _ _ _ _ hj]
theorem am_upd_l (h : am_H) (q k : Nat) (v : Int64) : vp_updL (fun j => am_l (h q j)) k v = fun j => am_l (am_up h q k (.long v) q j) := by
  funext j
  by_cases hj : j = k
  · subst hj; simp [vp_updL, am_up_self, am_l]
  · simp [vp_updL, hj, am_up_same _ _ _ _ _ hj]
theorem am_upd_o (B : Nat) (h : am_H) (q k v : Nat) : va_up (fun j => am_o B (h q j)) k (some (B + v)) = fun j => am_o B (am_up h q k (.ref v) q j) := by
  funext j
  by_cases hj : j = k
  · subst hj; simp [va_up, am_up_self, am_o]
  · simp [va_up, hj, am_up_same _ _ _ _ _ hj]
theorem am_nar_b {v : Int32} (h : am_fit .boolean (.int v) = true) : vp_nar .boolean v = v := by
  have : v = 0 ∨ v = 1 := by simpa [am_fit] using h
  rcases this with rfl | rfl <;> rfl
theorem am_lo {D : va_G} {cl : List vw_C} {B : Nat} {x : Nat → Nat} {dA : Nat → ClassId} {ks : List am_k} {h : am_H} {H : Heap} (hP : va_P D cl (am_W cl B x dA ks h) H) (hB : B ≤ H.size) : B + ks.length ≤ H.size := by
  by_cases hk : ks.length = 0
  · omega
  · have hlt : ks.length - 1 < ks.length := by omega
    have := (hP (ks.length - 1) _ (am_W_some (List.getElem?_eq_getElem hlt))).lt
    have h2 : B + (ks.length - 1) < H.size := this
    omega
section AMA
variable {p : Program} {l : Launch} {e : Env} {R : Room} {s : State} {m : MethodId} {args : Array Value} {below : List Frame} {meth : Method} {c : Code} {D : va_G} {cl : List vw_C} {B : Nat} {x : Nat → Nat} {ex : Bool} {nL : Nat} {Q : State → Prop} {M : am_M} {f' : am_F}
variable {pc len : Nat} {ins : Instr} {an : Nat × Nat × Nat} {v0 : Int} {cs : List am_I} {ls : am_L} {st : List Value} {ks : List am_k} {h : am_H} {nc ns : Nat} {G : am_G} {rc : am_rec}
theorem am_size {H : Heap} {locs : List Loc} {g : JFrame} (kk : H.size ≤ s.heap.size + nc → W p l e R s m args below meth c H locs nc ns Q g) : W p l e R s m args below meth c H locs nc ns Q g := by
  intro T hT X
  have hs : T.heap.size ≤ s.heap.size + nc := X.same.2.2.1
  rw [hT] at hs
  exact kk hs T hT X
theorem am_s_iaload (C : am_C p s m args meth c M) (hscr : am_scr G B x s) (hd : decode M.1.2.2 pc = .ok (.iaload, 1))
    (hone : am_one am_φ ex G rc M ((pc, 1, .iaload, an, v0) :: cs, ls, st, ks, h, nc, ns) = some (.inl f')) (hW : am_Wf p l e R s m args below meth c D cl B x ex M.2.1.1 Q f') : am_Wf p l e R s m args below meth c D cl B x ex M.2.1.1 Q ((pc, 1, .iaload, an, v0) :: cs, ls, st, ks, h, nc, ns) := by
  obtain ⟨hx, hb, hml, hr, hown, hts, hlk, hnm⟩ := C
  simp only [am_one] at hone
  split at hone
  · rename_i j a st0
    rcases am_ald_use hone with ⟨q, n, rfl, hks, hin, hk⟩ | ⟨L0, xs, rfl, hs, -, hin, hk⟩
    · unfold am_pushI at hk
      split at hk
      · rename_i y hy
        intro H locs L i r hj hR hS hl
        cases hj
        obtain ⟨hK, dA, hP, hA, hz⟩ := hR
        have he := am_W_some (cl := cl) (B := B) (x := x) (dA := dA) (h := h) hks
        refine va_iald (n := n) (f := fun j => am_i (h q j)) hx hb (am_K1 hK (hA q .int n hks)) hP q 0 he rfl hin hd ?_
        have h1 : am_i (h q j.toNatClampNeg) = y := by rw [hy]; rfl
        show W p l e R s m args below meth c H locs nc ns Q (F0 m (pc + 1) L (.int (am_i (h q j.toNatClampNeg)) :: st0.map (am_c B x)))
        rw [h1]
        exact am_go_use hk hW H locs L ⟨hK, dA, hP, hA, hz⟩ hS hl
      · cases hk
    · intro H locs L i r hj hR hS hl
      cases hj
      obtain ⟨s1, s2, s3⟩ := hscr L0 xs hs
      exact va_sld hx hb s1 s2 s3 hS hin hd (am_go_use hk hW H locs L hR hS hl)
  · cases hone
theorem am_s_baload (C : am_C p s m args meth c M) (hd : decode M.1.2.2 pc = .ok (.baload, 1))
    (hone : am_one am_φ ex G rc M ((pc, 1, .baload, an, v0) :: cs, ls, st, ks, h, nc, ns) = some (.inl f')) (hW : am_Wf p l e R s m args below meth c D cl B x ex M.2.1.1 Q f') : am_Wf p l e R s m args below meth c D cl B x ex M.2.1.1 Q ((pc, 1, .baload, an, v0) :: cs, ls, st, ks, h, nc, ns) := by
  obtain ⟨hx, hb, hml, hr, hown, hts, hlk, hnm⟩ := C
  simp only [am_one] at hone
  split at hone
  · rename_i j o st0
    rcases am_ald_use hone with ⟨q, n, hq, hks, hin, hk⟩ | ⟨L0, xs, hq, hs, -, hin, hk⟩
    · cases hq
      unfold am_pushI at hk
      split at hk
      · rename_i y hy
        intro H locs L i r hj hR hS hl
        cases hj
        obtain ⟨hK, dA, hP, hA, hz⟩ := hR
        have he := am_W_some (cl := cl) (B := B) (x := x) (dA := dA) (h := h) hks
        refine va_zald (n := n) (f := fun j => am_i (h o j)) hx hb (am_K1 hK (hA o .boolean n hks)) hP o 0 he rfl hin hd ?_
        have h1 : am_i (h o j.toNatClampNeg) = y := by rw [hy]; rfl
        show W p l e R s m args below meth c H locs nc ns Q (F0 m (pc + 1) L (.int (am_i (h o j.toNatClampNeg)) :: st0.map (am_c B x)))
        rw [h1]
        exact am_go_use hk hW H locs L ⟨hK, dA, hP, hA, hz⟩ hS hl
      · cases hk
    · cases hq
  · cases hone
theorem am_s_laload (C : am_C p s m args meth c M) (hd : decode M.1.2.2 pc = .ok (.laload, 1))
    (hone : am_one am_φ ex G rc M ((pc, 1, .laload, an, v0) :: cs, ls, st, ks, h, nc, ns) = some (.inl f')) (hW : am_Wf p l e R s m args below meth c D cl B x ex M.2.1.1 Q f') : am_Wf p l e R s m args below meth c D cl B x ex M.2.1.1 Q ((pc, 1, .laload, an, v0) :: cs, ls, st, ks, h, nc, ns) := by
  obtain ⟨hx, hb, hml, hr, hown, hts, hlk, hnm⟩ := C
  simp only [am_one] at hone
  split at hone
  · rename_i j o st0
    rcases am_ald_use hone with ⟨q, n, hq, hks, hin, hk⟩ | ⟨L0, xs, hq, hs, -, hin, hk⟩
    · cases hq
      unfold am_pushL at hk
      split at hk
      · rename_i y hy
        intro H locs L i r hj hR hS hl
        cases hj
        obtain ⟨hK, dA, hP, hA, hz⟩ := hR
        have he := am_W_some (cl := cl) (B := B) (x := x) (dA := dA) (h := h) hks
        refine va_lald (n := n) (f := fun j => am_l (h o j)) hx hb (am_K1 hK (hA o .long n hks)) hP o 0 he rfl hin hd ?_
        have h1 : am_l (h o j.toNatClampNeg) = y := by rw [hy]; rfl
        show W p l e R s m args below meth c H locs nc ns Q (F0 m (pc + 1) L (.long (am_l (h o j.toNatClampNeg)) :: st0.map (am_c B x)))
        rw [h1]
        exact am_go_use hk hW H locs L ⟨hK, dA, hP, hA, hz⟩ hS hl
      · cases hk
    · cases hq
  · cases hone
theorem am_s_aaload (C : am_C p s m args meth c M) (hd : decode M.1.2.2 pc = .ok (.aaload, 1))
    (hone : am_one am_φ ex G rc M ((pc, 1, .aaload, an, v0) :: cs, ls, st, ks, h, nc, ns) = some (.inl f')) (hW : am_Wf p l e R s m args below meth c D cl B x ex M.2.1.1 Q f') : am_Wf p l e R s m args below meth c D cl B x ex M.2.1.1 Q ((pc, 1, .aaload, an, v0) :: cs, ls, st, ks, h, nc, ns) := by
  obtain ⟨hx, hb, hml, hr, hown, hts, hlk, hnm⟩ := C
  simp only [am_one] at hone
  split at hone
  · rename_i j o st0
    unfold am_aald at hone
    split at hone
    · rename_i C0 n hks
      obtain ⟨hin, hk⟩ := am_ix_use hone
      simp only [am_pushR] at hk
      split at hk
      · rename_i y hy
        intro H locs L i r hj hR hS hl
        cases hj
        obtain ⟨hK, dA, hP, hA, hz⟩ := hR
        have he := am_W_some (cl := cl) (B := B) (x := x) (dA := dA) (h := h) hks
        refine va_aldq (n := n) (f := fun j => am_o B (h o j)) hx hb (am_K1 hK (hA o _ n hks)) hP o 0 he rfl hin hd ?_
        have h1 : va_rf (am_o B (h o j.toNatClampNeg)) = .ref (B + y) := by rw [hy]; rfl
        show W p l e R s m args below meth c H locs nc ns Q (F0 m (pc + 1) L (va_rf (am_o B (h o j.toNatClampNeg)) :: st0.map (am_c B x)))
        rw [h1]
        exact am_go_use hk hW H locs L ⟨hK, dA, hP, hA, hz⟩ hS hl
      · cases hk
    · cases hone
  · cases hone
theorem am_s_iastore (C : am_C p s m args meth c M) (hd : decode M.1.2.2 pc = .ok (.iastore, 1))
    (hone : am_one am_φ ex G rc M ((pc, 1, .iastore, an, v0) :: cs, ls, st, ks, h, nc, ns) = some (.inl f')) (hW : am_Wf p l e R s m args below meth c D cl B x ex M.2.1.1 Q f') : am_Wf p l e R s m args below meth c D cl B x ex M.2.1.1 Q ((pc, 1, .iastore, an, v0) :: cs, ls, st, ks, h, nc, ns) := by
  obtain ⟨hx, hb, hml, hr, hown, hts, hlk, hnm⟩ := C
  simp only [am_one] at hone
  split at hone
  · rename_i y j a st0
    simp only [am_φ, am_pushI, am_pushL] at hone
    obtain ⟨q, n, rfl, hks, hin, hk⟩ := am_ast_use hone
    intro H locs L i r hj hR hS hl
    cases hj
    obtain ⟨hK, dA, hP, hA, hz⟩ := hR
    have he := am_W_some (cl := cl) (B := B) (x := x) (dA := dA) (h := h) hks
    refine va_iast (n := n) (f := fun j => am_i (h q j)) hx hb (am_K1 hK (hA q .int n hks)) hP am_W_D hS q 0 he rfl hin hd (fun H1 locs1 q1 q2 q3 => ?_)
    rw [am_W_ast (k := j.toNatClampNeg) (v := .int y) hks (by rw [am_upd_i]; rfl)] at q1
    exact am_go_use hk hW H1 locs1 L ⟨hK, dA, q1, hA, hz⟩ q3 hl
  · cases hone
theorem am_s_bastore (C : am_C p s m args meth c M) (hd : decode M.1.2.2 pc = .ok (.bastore, 1))
    (hone : am_one am_φ ex G rc M ((pc, 1, .bastore, an, v0) :: cs, ls, st, ks, h, nc, ns) = some (.inl f')) (hW : am_Wf p l e R s m args below meth c D cl B x ex M.2.1.1 Q f') : am_Wf p l e R s m args below meth c D cl B x ex M.2.1.1 Q ((pc, 1, .bastore, an, v0) :: cs, ls, st, ks, h, nc, ns) := by
  obtain ⟨hx, hb, hml, hr, hown, hts, hlk, hnm⟩ := C
  simp only [am_one] at hone
  split at hone
  · rename_i y j a st0
    cases hfb : am_fit .boolean (.int y) with
    | false => rw [hfb] at hone; cases hone
    | true =>
    rw [hfb, cond_true] at hone
    simp only [am_φ, am_pushI, am_pushL] at hone
    obtain ⟨q, n, rfl, hks, hin, hk⟩ := am_ast_use hone
    intro H locs L i r hj hR hS hl
    cases hj
    obtain ⟨hK, dA, hP, hA, hz⟩ := hR
    have he := am_W_some (cl := cl) (B := B) (x := x) (dA := dA) (h := h) hks
    refine va_zast (n := n) (f := fun j => am_i (h q j)) hx hb (am_K1 hK (hA q .boolean n hks)) hP am_W_D hS q 0 he rfl hin hd (fun H1 locs1 q1 q2 q3 => ?_)
    rw [am_nar_b hfb, am_W_ast (k := j.toNatClampNeg) (v := .int y) hks (by rw [am_upd_i]; rfl)] at q1
    exact am_go_use hk hW H1 locs1 L ⟨hK, dA, q1, hA, hz⟩ q3 hl
  · cases hone
theorem am_s_lastore (C : am_C p s m args meth c M) (hd : decode M.1.2.2 pc = .ok (.lastore, 1))
    (hone : am_one am_φ ex G rc M ((pc, 1, .lastore, an, v0) :: cs, ls, st, ks, h, nc, ns) = some (.inl f')) (hW : am_Wf p l e R s m args below meth c D cl B x ex M.2.1.1 Q f') : am_Wf p l e R s m args below meth c D cl B x ex M.2.1.1 Q ((pc, 1, .lastore, an, v0) :: cs, ls, st, ks, h, nc, ns) := by
  obtain ⟨hx, hb, hml, hr, hown, hts, hlk, hnm⟩ := C
  simp only [am_one] at hone
  split at hone
  · rename_i y j a st0
    simp only [am_φ, am_pushI, am_pushL] at hone
    obtain ⟨q, n, rfl, hks, hin, hk⟩ := am_ast_use hone
    intro H locs L i r hj hR hS hl
    cases hj
    obtain ⟨hK, dA, hP, hA, hz⟩ := hR
    have he := am_W_some (cl := cl) (B := B) (x := x) (dA := dA) (h := h) hks
    refine va_last (n := n) (f := fun j => am_l (h q j)) hx hb (am_K1 hK (hA q .long n hks)) hP am_W_D hS q 0 he rfl hin hd (fun H1 locs1 q1 q2 q3 => ?_)
    rw [am_W_ast (k := j.toNatClampNeg) (v := .long y) hks (by rw [am_upd_l]; rfl)] at q1
    exact am_go_use hk hW H1 locs1 L ⟨hK, dA, q1, hA, hz⟩ q3 hl
  · cases hone
theorem am_s_aastore (C : am_C p s m args meth c M) (hG : am_okG cl G) (hd : decode M.1.2.2 pc = .ok (.aastore, 1))
    (hone : am_one am_φ ex G rc M ((pc, 1, .aastore, an, v0) :: cs, ls, st, ks, h, nc, ns) = some (.inl f')) (hW : am_Wf p l e R s m args below meth c D cl B x ex M.2.1.1 Q f') : am_Wf p l e R s m args below meth c D cl B x ex M.2.1.1 Q ((pc, 1, .aastore, an, v0) :: cs, ls, st, ks, h, nc, ns) := by
  obtain ⟨hx, hb, hml, hr, hown, hts, hlk, hnm⟩ := C
  simp only [am_one] at hone
  split at hone
  · rename_i v j o st0
    unfold am_aast at hone
    split at hone
    · rename_i C0 n hks
      split at hone
      · rename_i ci hkv
        cases hdc : decide (G.2.2.1 ci = C0) with
        | false => rw [hdc] at hone; cases hone
        | true =>
        rw [hdc, cond_true] at hone
        obtain ⟨hin, hk⟩ := am_ix_use hone
        intro H locs L i r hj hR hS hl
        cases hj
        obtain ⟨hK, dA, hP, hA, hz⟩ := hR
        have he := am_W_some (cl := cl) (B := B) (x := x) (dA := dA) (h := h) hks
        have hev := am_W_some (cl := cl) (B := B) (x := x) (dA := dA) (h := h) hkv
        obtain ⟨rr, hcc, -⟩ := hP v _ hev
        have hcc : cl[ci]? = some rr := hcc
        have hnm2 := (hG ci rr hcc).2.1
        have hC0 : C0 = rr.1 := (of_decide_eq_true hdc).symm.trans hnm2
        subst hC0
        refine va_astq (n := n) (f := fun j => am_o B (h o j)) hx hb (am_K1 hK (hA o _ n hks)) hP am_W_D hS o 0 v ci he rfl hev hcc hin hd (fun H1 locs1 q1 q2 q3 => ?_)
        rw [am_W_ast (k := j.toNatClampNeg) (v := .ref v) hks (by rw [am_upd_o]; rfl)] at q1
        exact am_go_use hk hW H1 locs1 L ⟨hK, dA, q1, hA, hz⟩ q3 hl
      · cases hone
    · cases hone
  · cases hone
theorem am_s_arraylength (C : am_C p s m args meth c M) (hscr : am_scr G B x s) (hd : decode M.1.2.2 pc = .ok (.arraylength, 1))
    (hone : am_one am_φ ex G rc M ((pc, 1, .arraylength, an, v0) :: cs, ls, st, ks, h, nc, ns) = some (.inl f')) (hW : am_Wf p l e R s m args below meth c D cl B x ex M.2.1.1 Q f') : am_Wf p l e R s m args below meth c D cl B x ex M.2.1.1 Q ((pc, 1, .arraylength, an, v0) :: cs, ls, st, ks, h, nc, ns) := by
  obtain ⟨hx, hb, hml, hr, hown, hts, hlk, hnm⟩ := C
  simp only [am_one] at hone
  split at hone
  · rename_i a st0
    unfold am_len at hone
    split at hone
    · rename_i o
      split at hone
      · rename_i ty n hks
        intro H locs L i r hj hR hS hl
        cases hj
        obtain ⟨hK, dA, hP, hA, hz⟩ := hR
        have he := am_W_some (cl := cl) (B := B) (x := x) (dA := dA) (h := h) hks
        exact va_alen hx hb (am_K1 hK (hA o ty n hks)) hP o 0 he rfl (by rw [am_arr_1]) hd (am_go_use hone hW H locs L ⟨hK, dA, hP, hA, hz⟩ hS hl)
      · cases hone
    · split at hone
      · rename_i L0 xs hs
        intro H locs L i r hj hR hS hl
        cases hj
        obtain ⟨s1, s2, s3⟩ := hscr L0 xs hs
        exact va_slen hx hb s1 s2 s3 hS hd (am_go_use hone hW H locs L hR hS hl)
      · cases hone
    · cases hone
  · cases hone
theorem am_cell_new (cA : ClassId) (B n : Nat) (ty : FieldType) (hty : ty = .int ∨ ty = .boolean ∨ ty = .long ∨ ∃ C, ty = .object C) : vp_cell cA (am_arr B n ty (fun _ => defaultValue ty)) = arrV cA n (fun _ => defaultValue ty) := by
  rcases hty with rfl | rfl | rfl | ⟨C, rfl⟩ <;> rfl
/-- behind a making: the new cell stands at the end -/
theorem am_Rel_new {H H1 : Heap} {locs : List Loc} {k : am_k} {f : Nat → Value} {ca : ClassId} {dA : Nat → ClassId} (hB : B ≤ s.heap.size) (hS : va_S (fun q => B ≤ q) s.heap H locs) (hK : va_K D cl [] s) (hP : va_P D cl (am_W cl B x dA ks h) H)
    (hA : ∀ (i : Nat) (ty : FieldType) (n : Nat), ks[i]? = some (.inr (ty, n)) → ArrOfT s (dA i) ty ∧ va_RA s (dA i) ty) (hz : ex = true → s.heap.size + nc = B + ks.length) (hH : H.size = B + ks.length) (z1 : H1.size = H.size + 1) (o1 : ∀ q, q < H.size → H1[q]? = H[q]?)
    (hk : va_at D cl (B + ks.length, am_E cl B x ca k f) H1) (ha : ∀ (ty : FieldType) (n : Nat), k = .inr (ty, n) → ArrOfT s ca ty ∧ va_RA s ca ty) :
    am_Rel D cl B x ex (ks ++ [k]) (am_mk h ks.length f) (s.heap.size + (nc + 1)) s H1 ∧ va_S (fun q => B ≤ q) s.heap H1 locs := by
  refine ⟨⟨hK, fun i => if i = ks.length then ca else dA i, ?_, ?_, ?_⟩, ?_⟩
  · rw [← am_W_new]
    refine (hP.kept (fun i q hq => o1 q.1 (hP i q hq).lt)).app (fun i q hq => ?_)
    have hz : i < 1 := (List.getElem?_eq_some_iff.mp hq).1
    rw [show i = 0 by omega] at hq
    cases hq
    exact hk
  · intro i ty n hi
    by_cases hl : i < ks.length
    · rw [List.getElem?_append_left hl] at hi
      have h9 := hA i ty n hi
      simp only [show ¬ i = ks.length by omega, if_false]
      exact h9
    · rw [List.getElem?_append_right (by omega)] at hi
      have hz : i - ks.length < 1 := (List.getElem?_eq_some_iff.mp hi).1
      have hi0 : i = ks.length := by omega
      subst hi0
      rw [Nat.sub_self] at hi
      have h9 := ha ty n (Option.some.inj hi)
      simp only [if_true]
      exact h9
  · intro h9
    have := hz h9
    rw [List.length_append, List.length_singleton]
    omega
  · exact ⟨Nat.le_trans hS.1 (by omega), fun q h1 h2 => (o1 q (Nat.lt_of_lt_of_le h1 hS.1)).trans (hS.2.1 q h1 h2), hS.2.2⟩
theorem am_s_newarray {t : ArrayType} (C : am_C p s m args meth c M) (hRm : R = am_rm M) (hB : B ≤ s.heap.size) (hw : Cond.arrayClass (Op.newarray.typeOf t) ∈ am_ts) (hty : Op.newarray.typeOf t = .int ∨ Op.newarray.typeOf t = .boolean ∨ Op.newarray.typeOf t = .long) (hd : decode M.1.2.2 pc = .ok (.newarray t, 2))
    (hone : am_one am_φ ex G rc M ((pc, 2, .newarray t, an, v0) :: cs, ls, st, ks, h, nc, ns) = some (.inl f')) (hW : am_Wf p l e R s m args below meth c D cl B x ex M.2.1.1 Q f') : am_Wf p l e R s m args below meth c D cl B x ex M.2.1.1 Q ((pc, 2, .newarray t, an, v0) :: cs, ls, st, ks, h, nc, ns) := by
  obtain ⟨hx, hb, hml, hr, hown, hts, hlk, hnm⟩ := C
  simp only [am_one, am_newA] at hone
  split at hone
  · rename_i n st0
    split at hone
    · cases hone
    rename_i hn
    cases hcc : (ex && Nat.ble (nc + 1) M.2.2.1.2.2.1 && Nat.ble (ns + n.toNatClampNeg) M.2.2.1.2.2.2 && Nat.ble (n.toNatClampNeg * 8) 536870912) with
    | false => rw [hcc] at hone; cases hone
    | true =>
    rw [hcc, cond_true] at hone
    simp only [Bool.and_eq_true] at hcc
    obtain ⟨⟨⟨c1, c2⟩, c3⟩, c4⟩ := hcc
    have c2 := Nat.le_of_ble_eq_true c2
    have c3 := Nat.le_of_ble_eq_true c3
    have c4 := Nat.le_of_ble_eq_true c4
    intro H locs L i r hj hR hS hl
    cases hj
    obtain ⟨hK, dA, hP, hA, hz⟩ := hR
    refine am_size (fun hsz => ?_)
    have hz1 : s.heap.size + nc = B + ks.length := hz c1
    have hlo := am_lo hP (Nat.le_trans hB hS.1)
    have hH : H.size = B + ks.length := Nat.le_antisymm (by rw [← hz1]; exact hsz) hlo
    have hby : n.toNatClampNeg * componentBytes (Op.newarray.typeOf t) ≤ 536870912 := by
      rcases hty with h9 | h9 | h9 <;> rw [h9] <;> simp only [componentBytes] <;> omega
    refine va_newaK (g := F0 m pc L (.int n :: st0.map (am_c B x))) hx hb (hts _ hw) rfl hd rfl hn rfl hby (by rw [hRm]; exact c2) (by rw [hRm]; exact c3) hH (fun H1 cA e1 z1 o1 hAr hNm => ?_)
    have hrel := am_Rel_new (nc := nc) (ex := ex) (H1 := H1) (k := .inr (Op.newarray.typeOf t, n.toNatClampNeg)) (f := fun _ => defaultValue (Op.newarray.typeOf t)) (ca := cA) hB hS hK hP hA hz hH (by rw [z1, hH]) (fun q hq => o1 q (by omega))
      (by show H1[B + ks.length]? = some (vp_cell cA (am_arr B n.toNatClampNeg (Op.newarray.typeOf t) (fun _ => defaultValue (Op.newarray.typeOf t)))); rw [am_cell_new _ _ _ _ (by rcases hty with h9 | h9 | h9 <;> simp [h9])]; exact e1)
      (fun ty n h9 => by cases h9; exact ⟨hAr, by cases t <;> exact hNm⟩)
    exact am_go_use hone hW H1 locs L hrel.1 hrel.2 hl
  · cases hone
theorem am_s_anewarray {idx : Nat} {r0 : vw_C} (C : am_C p s m args meth c M) (hG : am_okG cl G) (hRm : R = am_rm M) (hB : B ≤ s.heap.size) (hc0 : cl[an.1]? = some r0) (hw : Cond.classLink M.1.2.1.cls idx r0.1 ∈ am_ts) (hw2 : Cond.arrayOver (.object r0.1) ∈ am_ts) (hd : decode M.1.2.2 pc = .ok (.anewarray idx, 3))
    (hone : am_one am_φ ex G rc M ((pc, 3, .anewarray idx, an, v0) :: cs, ls, st, ks, h, nc, ns) = some (.inl f')) (hW : am_Wf p l e R s m args below meth c D cl B x ex M.2.1.1 Q f') : am_Wf p l e R s m args below meth c D cl B x ex M.2.1.1 Q ((pc, 3, .anewarray idx, an, v0) :: cs, ls, st, ks, h, nc, ns) := by
  obtain ⟨hx, hb, hml, hr, hown, hts, hlk, hnm⟩ := C
  simp only [am_one, am_newA] at hone
  rw [(hG _ _ hc0).2.1] at hone
  split at hone
  · rename_i n st0
    split at hone
    · cases hone
    rename_i hn
    cases hcc : (ex && Nat.ble (nc + 1) M.2.2.1.2.2.1 && Nat.ble (ns + n.toNatClampNeg) M.2.2.1.2.2.2 && Nat.ble (n.toNatClampNeg * 8) 536870912) with
    | false => rw [hcc] at hone; cases hone
    | true =>
    rw [hcc, cond_true] at hone
    simp only [Bool.and_eq_true] at hcc
    obtain ⟨⟨⟨c1, c2⟩, c3⟩, c4⟩ := hcc
    have c2 := Nat.le_of_ble_eq_true c2
    have c3 := Nat.le_of_ble_eq_true c3
    have c4 := Nat.le_of_ble_eq_true c4
    intro H locs L i r hj hR hS hl
    cases hj
    obtain ⟨hK, dA, hP, hA, hz⟩ := hR
    refine am_size (fun hsz => ?_)
    have hz1 : s.heap.size + nc = B + ks.length := hz c1
    have hlo := am_lo hP (Nat.le_trans hB hS.1)
    have hH : H.size = B + ks.length := Nat.le_antisymm (by rw [← hz1]; exact hsz) hlo
    refine W.anew (g := F0 m pc L (.int n :: st0.map (am_c B x))) hx hb hown (hts _ hw) (hts _ hw2) rfl hd rfl hn (by omega) (by rw [hRm]; exact c2) (by rw [hRm]; exact c3) (fun cA kA comp f1 f2 f3 f4 => ?_)
    generalize hH1 : H.push ({ cls := cA, slots := Array.replicate n.toNatClampNeg .null, vm := .none } : Cell) = H1
    have z1 : H1.size = H.size + 1 := by rw [← hH1, Array.size_push]
    have e1 : H1[H.size]? = some (arrV cA n.toNatClampNeg (fun _ => .null)) := by rw [← hH1, Array.getElem?_push_size, ← arrV_new]
    have o1 : ∀ q : Nat, q < H.size → H1[q]? = H[q]? := fun q hq => by rw [← hH1, Array.getElem?_push, if_neg (Nat.ne_of_lt hq)]
    have hAr : ArrOfT s cA (.object r0.1) := fun N z => ⟨(fun k h => by cases h), kA, f2, comp, f3⟩
    have hrel := am_Rel_new (nc := nc) (ex := ex) (H1 := H1) (k := .inr (.object r0.1, n.toNatClampNeg)) (f := fun _ => defaultValue (.object r0.1)) (ca := cA) hB hS hK hP hA hz hH z1 o1
      (by show H1[B + ks.length]? = some (vp_cell cA (am_arr B n.toNatClampNeg (.object r0.1) (fun _ => defaultValue (.object r0.1)))); rw [am_cell_new _ _ _ _ (by simp), ← hH]; exact e1)
      (fun ty n h9 => by cases h9; exact ⟨hAr, kA, comp, f2, f3, f4, f1⟩)
    have hK2 : W p l e R s m args below meth c H1 locs (nc + 1) (ns + n.toNatClampNeg) Q (F0 m (pc + 3) L (.ref (B + ks.length) :: st0.map (am_c B x))) := am_go_use hone hW H1 locs L hrel.1 hrel.2 hl
    rw [← hH] at hK2
    exact hK2
  · cases hone
theorem am_s_new {idx : Nat} {r0 : vw_C} (C : am_C p s m args meth c M) (hG : am_okG cl G) (hRm : R = am_rm M) (hB : B ≤ s.heap.size) (hc0 : cl[an.1]? = some r0) (hw : Cond.classLink M.1.2.1.cls idx r0.1 ∈ am_ts) (hd : decode M.1.2.2 pc = .ok (.new idx, 3))
    (hone : am_one am_φ ex G rc M ((pc, 3, .new idx, an, v0) :: cs, ls, st, ks, h, nc, ns) = some (.inl f')) (hW : am_Wf p l e R s m args below meth c D cl B x ex M.2.1.1 Q f') : am_Wf p l e R s m args below meth c D cl B x ex M.2.1.1 Q ((pc, 3, .new idx, an, v0) :: cs, ls, st, ks, h, nc, ns) := by
  obtain ⟨hx, hb, hml, hr, hown, hts, hlk, hnm⟩ := C
  obtain ⟨g1, g2, g3, g4, g5, g6, g7⟩ := hG _ _ hc0
  simp only [am_one, am_new] at hone
  rw [g1] at hone
  cases hcc : (ex && Nat.ble (nc + 1) M.2.2.1.2.2.1 && Nat.ble (ns + r0.2.2) M.2.2.1.2.2.2) with
  | false => rw [hcc] at hone; cases hone
  | true =>
  rw [hcc, cond_true] at hone
  simp only [Bool.and_eq_true] at hcc
  obtain ⟨⟨c1, c2⟩, c3⟩ := hcc
  have c2 := Nat.le_of_ble_eq_true c2
  have c3 := Nat.le_of_ble_eq_true c3
  intro H locs L i r hj hR hS hl
  cases hj
  obtain ⟨hK, dA, hP, hA, hz⟩ := hR
  refine am_size (fun hsz => ?_)
  have hz1 : s.heap.size + nc = B + ks.length := hz c1
  have hlo := am_lo hP (Nat.le_trans hB hS.1)
  have hH : H.size = B + ks.length := Nat.le_antisymm (by rw [← hz1]; exact hsz) hlo
  have hKn := hK.1 an.1 _ hc0
  refine W.newcK (g := F0 m pc L (st.map (am_c B x))) hx hb hown (hts _ hw) (hts _ g6) (hts _ g7) rfl hd (by rw [hRm]; exact c2) (by rw [hRm]; exact c3) hKn.2.1 hH (fun H1 kC hkC e1 z1 o1 => ?_)
  have hrel := am_Rel_new (nc := nc) (ex := ex) (H1 := H1) (k := .inl an.1) (f := fun j => defaultValue ((G.2.1 an.1).getD j .int)) (ca := 0) hB hS hK hP hA hz hH (by rw [z1, hH]) (fun q hq => o1 q (by omega))
    ⟨r0, hc0, (u_born (fun k => (G.2.1 an.1).getD k .int) hts g5 hKn hkC e1 g3).to (fun j hj => by
      have hN := am_N_of hc0
      rw [hN]
      simp only [vp_V]
      rw [List.getD_eq_getElem?_getD]
      simp [hj]
      cases ((G.2.1 an.1)[j]?.getD .int) <;> rfl)⟩
    (fun ty n h9 => by cases h9)
  exact am_go_use hone hW H1 locs L hrel.1 hrel.2 hl
end AMA
end
section
/-! ===== CALLS ===== -/
def am_ws (M : am_M) : List Cond := Cond.code M.1.2.1 M.1.2.2 M.2.1.1 M.2.1.2.1 :: am_ts
/-- what is said of old cells (the words' text): it hangs on the tables and on cells below B alone -/
def am_TXm (B : Nat) (TX : State → Prop) : Prop := ∀ U U' : State, U.vm.Alike U'.vm → (∀ q, q < B → U'.heap[q]? = U.heap[q]?) → TX U → TX U'
def am_Pc (D : va_G) (cl : List vw_C) (B : Nat) (x : Nat → Nat) (ex : Bool) (TX : State → Prop) (as : List Value) (ks : List am_k) (h : am_H) : Array Value → State → Prop :=
  va_Pc (as.map (am_c B x)) (fun U => am_Rel D cl B x ex ks h U.heap.size U U.heap ∧ B ≤ U.heap.size ∧ TX U)
def am_Qc (D : va_G) (cl : List vw_C) (B : Nat) (x : Nat → Nat) (ex : Bool) (r : am_O) : Array Value → State → Outcome → State → Prop := fun _ st oc t =>
  oc = .returned (r.1.map (am_c B x)) ∧ am_Rel D cl B x ex r.2.1 r.2.2 (B + r.2.1.length) t t.heap ∧ va_F (fun q => B ≤ q) st t
/-- a method's contract at one heap and one list of arguments -/
def am_Met (l : Launch) (D : va_G) (cl : List vw_C) (B : Nat) (x : Nat → Nat) (ex : Bool) (TX : State → Prop) (M : am_M) (as : List Value) (ks : List am_k) (h : am_H) (r : am_O) : Prop :=
  Met l M.1.2.1 (am_ws M) (am_rm M) (am_Pc D cl B x ex TX as ks h) (am_Qc D cl B x ex r) M.2.2.1.2.2.1 M.2.2.1.2.2.2 (fun q => B ≤ q)
/-- what the tables say of a method that is called -/
def am_okM (G : am_G) (M : am_M) : Prop := Cond.code M.1.2.1 M.1.2.2 M.2.1.1 M.2.1.2.1 ∈ am_ts ∧ Cond.initialized M.1.2.1.cls ∈ am_ts ∧ (M.1.2.1.cls ≠ "java/lang/invoke/MethodHandle" ∧ M.1.2.1.cls ≠ "java/lang/invoke/VarHandle" ∧ (parseMethodDescriptor M.1.2.1.desc).map (fun d => d.parameters.length) = some M.2.1.2.2) ∧ plainName M.1.2.1.cls = true ∧ G.2.2.1 M.1.1 = M.1.2.1.cls
def am_ml (own : String) (idx : Nat) (y : MethodName) : Prop := Cond.methodLink own idx y ∈ am_ts ∨ ∃ host, Cond.methodLinkNest own idx y host ∈ am_ts
theorem am_good {ws : List Cond} (h : ∀ w ∈ ws, w ∈ am_ts) : GoodIn am_ts ws := fun w hw => ⟨h w hw, good_of_word (am_ts_good (h w hw))⟩
theorem am_Pc_blind {D : va_G} {cl : List vw_C} {B : Nat} {x : Nat → Nat} {ex : Bool} {TX : State → Prop} {as : List Value} {ks : List am_k} {h : am_H} (hTm : am_TXm B TX) : FrameBlind (am_Pc D cl B x ex TX as ks h) := by
  intro a U g mk q
  obtain ⟨q0, qR, qB, qT⟩ := q
  exact ⟨q0, am_Rel.moved (u := U) (U := U.calling g mk a) (Vm.Alike.refl U.vm) qR, qB, hTm U (U.calling g mk a) (Vm.Alike.refl U.vm) (fun _ _ => rfl) qT⟩
section AMC
variable {p : Program} {l : Launch} {e : Env} {R : Room} {s : State} {m : MethodId} {args : Array Value} {below : List Frame} {meth : Method} {c : Code} {D : va_G} {cl : List vw_C} {B : Nat} {x : Nat → Nat} {ex : Bool} {nL : Nat} {Q : State → Prop} {M M' : am_M} {f' : am_F}
variable {pc len : Nat} {ins : Instr} {an : Nat × Nat × Nat} {v0 : Int} {cs : List am_I} {ls : am_L} {st : List Value} {ks : List am_k} {h : am_H} {nc ns : Nat} {G : am_G} {rc : am_rec} {TX : State → Prop}
theorem am_call_use {H : Heap} {locs : List Loc} {L : Array Slot} {st0 rest : List Value} {r : am_O} {mc ms : Nat} {a : Array Value} (hr : va_Run p l e R s m args below meth c H locs nc ns mc ms (F0 m pc L st0) rest (am_Qc D cl B x ex r a) (fun q => B ≤ q)) (hS : va_S (fun q => B ≤ q) s.heap H locs)
    (kk : ∀ (H1 : Heap) (locs1 : List Loc), am_Rel D cl B x ex r.2.1 r.2.2 (B + r.2.1.length) s H1 → va_S (fun q => B ≤ q) s.heap H1 locs1 → W p l e R s m args below meth c H1 locs1 (nc + mc) (ns + ms) Q (F0 m (pc + 3) L ((r.1.map (am_c B x)).toList ++ rest))) : W p l e R s m args below meth c H locs nc ns Q (F0 m pc L st0) := by
  intro T hT X
  obtain ⟨v, st₀, t, T', L', h0, X', hL, e1, e2, ⟨hv, hrel, hz, hk⟩, st⟩ := hr T hT X
  cases hv
  rw [h0] at hz hk
  have hal : t.vm.Alike s.vm := by rw [← e2]; exact (X'.warmed.alike).symm
  have hrel2 := am_Rel.moved hal hrel
  rw [← e1] at hrel2 hz hk
  obtain ⟨t2, a1, b1⟩ := kk T'.heap (locs ++ L') hrel2 ⟨Nat.le_trans hS.1 hz, fun q h1 h2 => by rw [hk q (Nat.lt_of_lt_of_le h1 hS.1) h2]; exact hS.2.1 q h1 h2, fun q hq => by
      rcases List.mem_append.mp hq with h | h
      · exact hS.2.2 q h
      · exact hL q h⟩ T' rfl X'
  exact ⟨t2, st t2 a1, b1⟩
/-- the parts of a call that went on -/
theorem am_calls_use {a : Nat} {i : am_I} {as rest : List Value} {o : am_F ⊕ am_O} (hh : am_calls ex M M' a rc i cs ls as rest ks h nc ns = some o) : am_okC M M' as rest nc ns = true ∧ ∃ r : am_O, rc a as ks h = some r ∧ (ex = true → r.2.1.length = ks.length + M'.2.2.1.2.2.1) ∧ am_go i cs ls (r.1.toList ++ rest) r.2.1 r.2.2 (nc + M'.2.2.1.2.2.1) (ns + M'.2.2.1.2.2.2) = some o := by
  unfold am_calls at hh
  cases hok : am_okC M M' as rest nc ns with
  | false => rw [hok] at hh; cases hh
  | true =>
  rw [hok, cond_true] at hh
  split at hh
  · cases hh
  · rename_i r ks' h' hrc
    cases hq : (!ex || Nat.beq ks'.length (ks.length + M'.2.2.1.2.2.1)) with
    | false => rw [hq] at hh; cases hh
    | true =>
    rw [hq, cond_true] at hh
    refine ⟨rfl, (r, ks', h'), hrc, fun hex => ?_, hh⟩
    subst hex
    exact Nat.eq_of_beq_eq_true (by simpa using hq)
theorem am_okC_use {as rest : List Value} (hh : am_okC M M' as rest nc ns = true) : (am_rm M').frames + 1 ≤ (am_rm M).frames ∧ 8 + (M'.2.1.1 + 11) + (am_rm M').locals ≤ (am_rm M).locals ∧ nc + M'.2.2.1.2.2.1 ≤ (am_rm M).cells ∧ ns + M'.2.2.1.2.2.2 ≤ (am_rm M).slots ∧ am_cat rest ≤ 8 ∧ am_cat as ≤ M'.2.1.1 := by
  simp only [am_okC, Bool.and_eq_true] at hh
  obtain ⟨⟨⟨⟨⟨h1, h2⟩, h3⟩, h4⟩, h5⟩, h6⟩ := hh
  exact ⟨Nat.le_of_ble_eq_true h1, Nat.le_of_ble_eq_true h2, Nat.le_of_ble_eq_true h3, Nat.le_of_ble_eq_true h4, Nat.le_of_ble_eq_true h5, Nat.le_of_ble_eq_true h6⟩
theorem am_pre_heap {H : Heap} {U : State} (hU : U.heap = H) (hal : s.vm.Alike U.vm) (hR : am_Rel D cl B x ex ks h (s.heap.size + nc) s H) (hB : B ≤ s.heap.size) {locs : List Loc} (hS0 : va_S (fun q => B ≤ q) s.heap H locs) (hsz : H.size ≤ s.heap.size + nc) (hTm : am_TXm B TX) (hT : TX s) : am_Rel D cl B x ex ks h U.heap.size U U.heap ∧ B ≤ U.heap.size ∧ TX U := by
  have hS := hS0.1
  refine ⟨am_Rel.moved hal ?_, by rw [hU]; omega, hTm s U hal (fun q hq => by rw [hU]; exact hS0.2.1 q (Nat.lt_of_lt_of_le hq hB) (Nat.not_le.mpr hq)) hT⟩
  rw [hU]
  obtain ⟨hK, dA, hP, hA, hz⟩ := hR
  refine ⟨hK, dA, hP, hA, fun hex => ?_⟩
  have := hz hex
  have hlo := am_lo hP (Nat.le_trans hB hS)
  omega
theorem am_map_rev (B : Nat) (x : Nat → Nat) (as : List Value) : (as.reverse.map (am_c B x)) = (as.map (am_c B x)).reverse := by rw [List.map_reverse]
/-- a call on an object, but for the kind of the call -/
theorem am_callV_use {i : am_I} (C : am_C p s m args meth c M) (hG : am_okG cl G) (hRm : R = am_rm M) (hB : B ≤ s.heap.size) (hTm : am_TXm B TX) (hT : TX s) (hM : ∀ M', G.1 i.2.2.2.1.1 = some M' → am_okM G M')
    (hrec : ∀ (a : Nat) (M' : am_M) (as : List Value) (ks : List am_k) (h : am_H) (r : am_O), G.1 a = some M' → am_cat as ≤ M'.2.1.1 → rc a as ks h = some r → am_Met l D cl B x ex TX M' as ks h r)
    (hlen3 : i.2.1 = 3) (hone : am_callV ex G M rc i cs ls st ks h nc ns = some (.inl f')) (hW : am_Wf p l e R s m args below meth c D cl B x ex M.2.1.1 Q f')
    (hrun : ∀ (M' : am_M) (H : Heap) (locs : List Loc) (L : Array Slot) (o : Nat) (As rest : List Value) (Pc : Array Value → State → Prop) (Qc : Array Value → State → Outcome → State → Prop), G.1 i.2.2.2.1.1 = some M' → Met l M'.1.2.1 (am_ws M') (am_rm M') Pc Qc M'.2.2.1.2.2.1 M'.2.2.1.2.2.2 (fun q => B ≤ q) → FrameBlind Pc →
      (∃ cellB : Cell, H[B + o]? = some cellB ∧ cellB.vm.isStatics = false ∧ s.vm.findClass M'.1.2.1.cls = some cellB.cls) → (∀ U : State, U.heap = H → s.WarmedH U.vm → Pc (Value.ref (B + o) :: As).toArray U) → As.length = M'.2.1.2.2 → L.size = M.2.1.1 →
      (st.map (am_c B x)) = As.reverse ++ .ref (B + o) :: rest → 2 * (F0 m i.1 L (st.map (am_c B x))).monitorRoom + (rest.map fun v => v.category).sum ≤ 8 → ((am_rm M').frames + 1 ≤ (am_rm M).frames ∧ 8 + (M'.2.1.1 + 11) + (am_rm M').locals ≤ (am_rm M).locals) → (nc + M'.2.2.1.2.2.1 ≤ (am_rm M).cells ∧ ns + M'.2.2.1.2.2.2 ≤ (am_rm M).slots) →
      va_Run p l e R s m args below meth c H locs nc ns M'.2.2.1.2.2.1 M'.2.2.1.2.2.2 (F0 m i.1 L (st.map (am_c B x))) rest (Qc (Value.ref (B + o) :: As).toArray) (fun q => B ≤ q)) : am_Wf p l e R s m args below meth c D cl B x ex M.2.1.1 Q (i :: cs, ls, st, ks, h, nc, ns) := by
  obtain ⟨hx, hb, hml, hr, hown, hts, hlk, hnm⟩ := C
  unfold am_callV at hone
  split at hone
  · cases hone
  rename_i M' hM'
  obtain ⟨m1, m2, m3, m4, m5⟩ := hM M' hM'
  split at hone
  · rename_i o rest hst
    split at hone
    · rename_i ci hks
      cases hcc : (Nat.beq ci M'.1.1 && Nat.beq (st.take M'.2.1.2.2).length M'.2.1.2.2) with
      | false => rw [hcc] at hone; cases hone
      | true =>
      rw [hcc, cond_true] at hone
      simp only [Bool.and_eq_true] at hcc
      obtain ⟨c1, c2⟩ := hcc
      have c1 := Nat.eq_of_beq_eq_true c1
      have c2 := Nat.eq_of_beq_eq_true c2
      subst c1
      obtain ⟨hok, r, hrc, hlen, hgo⟩ := am_calls_use hone
      obtain ⟨k1, k2, k3, k4, k5, k6⟩ := am_okC_use hok
      have hmet := hrec _ _ _ _ _ _ hM' k6 hrc
      have hst2 : st = st.take M'.2.1.2.2 ++ .ref o :: rest := by rw [← hst]; exact (List.take_append_drop _ _).symm
      generalize hA0 : st.take M'.2.1.2.2 = As at hst2 c2 hrc hmet k6
      intro H locs L j r' hj hR hS hl
      cases hj
      refine am_size (fun hsz => ?_)
      have hRel := hR
      obtain ⟨hK, dA, hP, hA, hz⟩ := hR
      have he := am_W_some (cl := cl) (B := B) (x := x) (dA := dA) (h := h) hks
      obtain ⟨rr, hcl, -⟩ := hP o _ he
      have hcl : cl[M'.1.1]? = some rr := hcl
      have hrr : rr.1 = M'.1.2.1.cls := ((hG _ _ hcl).2.1).symm.trans m5
      have hrcv := va_recv hK hP hcl he
      rw [hrr] at hrcv
      have hstk : (st.map (am_c B x)) = ((As.reverse).map (am_c B x)).reverse ++ .ref (B + o) :: rest.map (am_c B x) := by
        rw [hst2, List.map_append, am_map_rev, List.reverse_reverse]; rfl
      have hPre : ∀ U : State, U.heap = H → s.WarmedH U.vm → am_Pc D cl B x ex TX (.ref o :: As.reverse) ks h (Value.ref (B + o) :: (As.reverse).map (am_c B x)).toArray U := fun U hU hWm => ⟨rfl, am_pre_heap hU hWm.alike hRel hB hS hsz hTm hT⟩
      have hn : ((As.reverse).map (am_c B x)).length = M'.2.1.2.2 := by rw [List.length_map, List.length_reverse]; exact c2
      have hW8 : 2 * (F0 m i.1 L (st.map (am_c B x))).monitorRoom + ((rest.map (am_c B x)).map fun v => v.category).sum ≤ 8 := lv_room (by rw [am_cat_map]; exact k5)
      refine am_call_use (hrun M' H locs L o _ _ _ _ hM' hmet (am_Pc_blind hTm) hrcv hPre hn hl.1 hstk hW8 ⟨k1, k2⟩ ⟨k3, k4⟩) hS ?_
      intro H1 locs1 q1 q2
      have h1 := am_go_use hgo hW H1 locs1 L ⟨q1.1, q1.2.choose, q1.2.choose_spec.1, q1.2.choose_spec.2.1, fun hex => by have := hz hex; have h8 := hlen hex; rw [h8]; have h7 : s.heap.size + nc = B + ks.length := this; omega⟩ q2 hl
      have h2 : ((r.1.toList ++ rest).map (am_c B x)) = (r.1.map (am_c B x)).toList ++ rest.map (am_c B x) := by
        rw [List.map_append]
        cases r.1 <;> rfl
      rw [h2, hlen3] at h1
      exact h1
    · cases hone
  · cases hone
theorem am_callS_use {i : am_I} (C : am_C p s m args meth c M) (hRm : R = am_rm M) (hB : B ≤ s.heap.size) (hTm : am_TXm B TX) (hT : TX s)
    (hrec : ∀ (a : Nat) (M' : am_M) (as : List Value) (ks : List am_k) (h : am_H) (r : am_O), G.1 a = some M' → am_cat as ≤ M'.2.1.1 → rc a as ks h = some r → am_Met l D cl B x ex TX M' as ks h r)
    (hlen3 : i.2.1 = 3) (hone : am_callS ex G M rc i cs ls st ks h nc ns = some (.inl f')) (hW : am_Wf p l e R s m args below meth c D cl B x ex M.2.1.1 Q f')
    (hrun : ∀ (M' : am_M) (H : Heap) (locs : List Loc) (L : Array Slot) (As rest : List Value) (Pc : Array Value → State → Prop) (Qc : Array Value → State → Outcome → State → Prop), G.1 i.2.2.2.1.1 = some M' → Met l M'.1.2.1 (am_ws M') (am_rm M') Pc Qc M'.2.2.1.2.2.1 M'.2.2.1.2.2.2 (fun q => B ≤ q) → FrameBlind Pc →
      (∀ U : State, U.heap = H → s.WarmedH U.vm → Pc As.toArray U) → As.length = M'.2.1.2.2 → L.size = M.2.1.1 →
      (st.map (am_c B x)) = As.reverse ++ rest → 2 * (F0 m i.1 L (st.map (am_c B x))).monitorRoom + (rest.map fun v => v.category).sum ≤ 8 → ((am_rm M').frames + 1 ≤ (am_rm M).frames ∧ 8 + (M'.2.1.1 + 11) + (am_rm M').locals ≤ (am_rm M).locals) → (nc + M'.2.2.1.2.2.1 ≤ (am_rm M).cells ∧ ns + M'.2.2.1.2.2.2 ≤ (am_rm M).slots) →
      va_Run p l e R s m args below meth c H locs nc ns M'.2.2.1.2.2.1 M'.2.2.1.2.2.2 (F0 m i.1 L (st.map (am_c B x))) rest (Qc As.toArray) (fun q => B ≤ q)) : am_Wf p l e R s m args below meth c D cl B x ex M.2.1.1 Q (i :: cs, ls, st, ks, h, nc, ns) := by
  obtain ⟨hx, hb, hml, hr, hown, hts, hlk, hnm⟩ := C
  unfold am_callS at hone
  split at hone
  · cases hone
  rename_i M' hM'
  cases hcc : Nat.beq (st.take M'.2.1.2.2).length M'.2.1.2.2 with
  | false => rw [hcc] at hone; cases hone
  | true =>
  rw [hcc, cond_true] at hone
  have c2 := Nat.eq_of_beq_eq_true hcc
  obtain ⟨hok, r, hrc, hlen, hgo⟩ := am_calls_use hone
  obtain ⟨k1, k2, k3, k4, k5, k6⟩ := am_okC_use hok
  have hmet := hrec _ _ _ _ _ _ hM' k6 hrc
  have hst2 : st = st.take M'.2.1.2.2 ++ st.drop M'.2.1.2.2 := (List.take_append_drop _ _).symm
  generalize hA0 : st.take M'.2.1.2.2 = As at hst2 c2 hrc hmet k6
  generalize hB0 : st.drop M'.2.1.2.2 = rest at hst2 k5 hgo
  intro H locs L j r' hj hR hS hl
  cases hj
  refine am_size (fun hsz => ?_)
  have hRel := hR
  obtain ⟨hK, dA, hP, hA, hz⟩ := hR
  have hstk : (st.map (am_c B x)) = ((As.reverse).map (am_c B x)).reverse ++ rest.map (am_c B x) := by
    rw [hst2, List.map_append, am_map_rev, List.reverse_reverse]
  have hPre : ∀ U : State, U.heap = H → s.WarmedH U.vm → am_Pc D cl B x ex TX As.reverse ks h ((As.reverse).map (am_c B x)).toArray U := fun U hU hWm => ⟨rfl, am_pre_heap hU hWm.alike hRel hB hS hsz hTm hT⟩
  have hn : ((As.reverse).map (am_c B x)).length = M'.2.1.2.2 := by rw [List.length_map, List.length_reverse]; exact c2
  have hW8 : 2 * (F0 m i.1 L (st.map (am_c B x))).monitorRoom + ((rest.map (am_c B x)).map fun v => v.category).sum ≤ 8 := lv_room (by rw [am_cat_map]; exact k5)
  refine am_call_use (hrun M' H locs L _ _ _ _ hM' hmet (am_Pc_blind hTm) hPre hn hl.1 hstk hW8 ⟨k1, k2⟩ ⟨k3, k4⟩) hS ?_
  intro H1 locs1 q1 q2
  have h1 := am_go_use hgo hW H1 locs1 L ⟨q1.1, q1.2.choose, q1.2.choose_spec.1, q1.2.choose_spec.2.1, fun hex => by have := hz hex; have h8 := hlen hex; rw [h8]; have h7 : s.heap.size + nc = B + ks.length := this; omega⟩ q2 hl
  have h2 : ((r.1.toList ++ rest).map (am_c B x)) = (r.1.map (am_c B x)).toList ++ rest.map (am_c B x) := by
    rw [List.map_append]
    cases r.1 <;> rfl
  rw [h2, hlen3] at h1
  exact h1
theorem am_ws_good {w : Cond} (m1 : Cond.code M'.1.2.1 M'.1.2.2 M'.2.1.1 M'.2.1.2.1 ∈ am_ts) (hw : w ∈ am_ws M') : w ∈ am_ts := by
  simp only [am_ws, List.mem_cons] at hw
  rcases hw with rfl | hw
  · exact m1
  · exact hw
theorem am_s_virtual {idx : Nat} (C : am_C p s m args meth c M) (hG : am_okG cl G) (hRm : R = am_rm M) (hB : B ≤ s.heap.size) (hTm : am_TXm B TX) (hT : TX s) (hk0 : an.2.2 ≠ 0) (hd : decode M.1.2.2 pc = .ok (.invokevirtual idx, 3))
    (hM : ∀ M', G.1 an.1 = some M' → am_okM G M' ∧ Cond.instanceMethod M'.1.2.1 ∈ am_ts ∧ Cond.selects M'.1.2.1.cls M'.1.2.1 M'.1.2.1 ∈ am_ts ∧ am_ml M.1.2.1.cls idx M'.1.2.1)
    (hrec : ∀ (a : Nat) (M' : am_M) (as : List Value) (ks : List am_k) (h : am_H) (r : am_O), G.1 a = some M' → am_cat as ≤ M'.2.1.1 → rc a as ks h = some r → am_Met l D cl B x ex TX M' as ks h r)
    (hone : am_one am_φ ex G rc M ((pc, 3, .invokevirtual idx, an, v0) :: cs, ls, st, ks, h, nc, ns) = some (.inl f')) (hW : am_Wf p l e R s m args below meth c D cl B x ex M.2.1.1 Q f') : am_Wf p l e R s m args below meth c D cl B x ex M.2.1.1 Q ((pc, 3, .invokevirtual idx, an, v0) :: cs, ls, st, ks, h, nc, ns) := by
  have C0 := C
  obtain ⟨hx, hb, hml, hr, hown, hts, hlk, hnm⟩ := C
  simp only [am_one] at hone
  refine am_callV_use C0 hG hRm hB hTm hT (fun M' h9 => (hM M' h9).1) hrec rfl hone hW ?_
  intro M' H locs L o As rest Pc Qc hM' hmet hbl hrcv hPre hn hsz hstk hW8 hR1 hR2
  obtain ⟨⟨m1, m2, m3, m4, m5⟩, m6, m7, m8⟩ := hM M' hM'
  subst hRm
  rcases m8 with m8 | ⟨host, m8⟩
  · refine va_runV (own := M.1.2.1.cls) (C := M'.1.2.1.cls) (Ts := am_ts) (cc := M.1.2.2) (nL := M.2.1.1) ⟨hx, hb, hml, hown, hts⟩ hmet (cwV M'.2.1.2.2 hts (am_good (fun w hw => ?_)) rfl rfl rfl ⟨rfl, m3⟩ hR1) ⟨hbl, hrcv, hPre⟩ rfl hn hsz hstk hW8 hd hR2
    simp only [wsV, List.mem_append, List.mem_cons, List.not_mem_nil, or_false] at hw
    rcases hw with (rfl | rfl | rfl | rfl) | hw
    · exact m8
    · exact m6
    · exact m7
    · exact m2
    · exact am_ws_good m1 hw
  · exact va_runVN (own := M.1.2.1.cls) (C := M'.1.2.1.cls) (Ts := am_ts) (cc := M.1.2.2) (nL := M.2.1.1) ⟨hx, hb, hml, hown, hts⟩ hmet ⟨va_cnB M'.2.1.2.2 hts (am_good (fun w hw => am_ws_good m1 hw)) rfl rfl rfl (hts _ m8) (hts _ m2) m3 hR1, hts _ m6, hts _ m7⟩ ⟨hbl, hrcv, hPre⟩ rfl hn hsz hstk hW8 hd hR2
theorem am_s_special {idx : Nat} (C : am_C p s m args meth c M) (hG : am_okG cl G) (hRm : R = am_rm M) (hB : B ≤ s.heap.size) (hTm : am_TXm B TX) (hT : TX s) (hk0 : an.2.2 ≠ 0) (hd : decode M.1.2.2 pc = .ok (.invokespecial idx, 3))
    (hM : ∀ M', G.1 an.1 = some M' → am_okM G M' ∧ Cond.instanceMethod M'.1.2.1 ∈ am_ts ∧ (M'.1.2.1.name = "<init>" ∧ M'.2.1.2.1 = none) ∧ am_ml M.1.2.1.cls idx M'.1.2.1)
    (hrec : ∀ (a : Nat) (M' : am_M) (as : List Value) (ks : List am_k) (h : am_H) (r : am_O), G.1 a = some M' → am_cat as ≤ M'.2.1.1 → rc a as ks h = some r → am_Met l D cl B x ex TX M' as ks h r)
    (hone : am_one am_φ ex G rc M ((pc, 3, .invokespecial idx, an, v0) :: cs, ls, st, ks, h, nc, ns) = some (.inl f')) (hW : am_Wf p l e R s m args below meth c D cl B x ex M.2.1.1 Q f') : am_Wf p l e R s m args below meth c D cl B x ex M.2.1.1 Q ((pc, 3, .invokespecial idx, an, v0) :: cs, ls, st, ks, h, nc, ns) := by
  have C0 := C
  obtain ⟨hx, hb, hml, hr, hown, hts, hlk, hnm⟩ := C
  simp only [am_one] at hone
  refine am_callV_use C0 hG hRm hB hTm hT (fun M' h9 => (hM M' h9).1) hrec rfl hone hW ?_
  intro M' H locs L o As rest Pc Qc hM' hmet hbl hrcv hPre hn hsz hstk hW8 hR1 hR2
  obtain ⟨⟨m1, m2, m3, m4, m5⟩, m6, ⟨m7, m9⟩, m8⟩ := hM M' hM'
  subst hRm
  rcases m8 with m8 | ⟨host, m8⟩
  · exact va_runI (own := M.1.2.1.cls) (Ts := am_ts) (cc := M.1.2.2) (nL := M.2.1.1) ⟨hx, hb, hml, hown, hts⟩ hmet (cwI (bytes := M'.1.2.2) (maxL := M'.2.1.1) (ws' := am_ts) M'.2.1.2.2 hts (am_good (fun w hw => am_ws_good m1 hw)) (by rw [am_ws, m9]) rfl rfl (hts _ m2) (hts _ m8) (hts _ m6) m7 m3 hR1) ⟨hbl, hPre⟩ rfl hn hsz hstk hW8 hd hR2
  · exact va_runIN (own := M.1.2.1.cls) (Ts := am_ts) (cc := M.1.2.2) (nL := M.2.1.1) ⟨hx, hb, hml, hown, hts⟩ hmet ⟨va_cnB (bytes := M'.1.2.2) (maxL := M'.2.1.1) (ws' := am_ts) M'.2.1.2.2 hts (am_good (fun w hw => am_ws_good m1 hw)) (by rw [am_ws, m9]) rfl rfl (hts _ m8) (hts _ m2) m3 hR1, m7, hts _ m6⟩ ⟨hbl, hPre⟩ rfl hn hsz hstk hW8 hd hR2
theorem am_s_static {idx k : Nat} (C : am_C p s m args meth c M) (hRm : R = am_rm M) (hB : B ≤ s.heap.size) (hTm : am_TXm B TX) (hT : TX s) (hk0 : an.2.2 = k + 3) (hd : decode M.1.2.2 pc = .ok (.invokestatic idx, 3))
    (hM : ∀ M', G.1 an.1 = some M' → am_okM G M' ∧ Cond.static M'.1.2.1 ∈ am_ts ∧ ((M'.1.2.1.cls = M.1.2.1.cls ∧ Cond.methodLink M.1.2.1.cls idx M'.1.2.1 ∈ am_ts) ∨ ∃ host, Cond.methodLinkNest M.1.2.1.cls idx M'.1.2.1 host ∈ am_ts))
    (hrec : ∀ (a : Nat) (M' : am_M) (as : List Value) (ks : List am_k) (h : am_H) (r : am_O), G.1 a = some M' → am_cat as ≤ M'.2.1.1 → rc a as ks h = some r → am_Met l D cl B x ex TX M' as ks h r)
    (hone : am_one am_φ ex G rc M ((pc, 3, .invokestatic idx, an, v0) :: cs, ls, st, ks, h, nc, ns) = some (.inl f')) (hW : am_Wf p l e R s m args below meth c D cl B x ex M.2.1.1 Q f') : am_Wf p l e R s m args below meth c D cl B x ex M.2.1.1 Q ((pc, 3, .invokestatic idx, an, v0) :: cs, ls, st, ks, h, nc, ns) := by
  have C0 := C
  obtain ⟨hx, hb, hml, hr, hown, hts, hlk, hnm⟩ := C
  simp only [am_one, hk0] at hone
  refine am_callS_use C0 hRm hB hTm hT hrec rfl hone hW ?_
  intro M' H locs L As rest Pc Qc hM' hmet hbl hPre hn hsz hstk hW8 hR1 hR2
  obtain ⟨⟨m1, m2, m3, m4, m5⟩, m6, m8⟩ := hM M' hM'
  subst hRm
  rcases m8 with ⟨m7, m8⟩ | ⟨host, m8⟩
  · refine va_runS (own := M.1.2.1.cls) (Ts := am_ts) (cc := M.1.2.2) (nL := M.2.1.1) ⟨hx, hb, hml, hown, hts⟩ hmet (cwS M'.2.1.2.2 hts (am_good (fun w hw => ?_)) rfl rfl rfl ⟨m7, m3⟩ hR1) ⟨hbl, hPre⟩ rfl hn hsz hstk hW8 hd hR2
    simp only [wsS, List.mem_append, List.mem_cons, List.not_mem_nil, or_false] at hw
    rcases hw with (rfl | rfl | rfl) | hw
    · exact m8
    · exact m6
    · rw [← m7]; exact m2
    · exact am_ws_good m1 hw
  · exact va_runSN (own := M.1.2.1.cls) (Ts := am_ts) (cc := M.1.2.2) (nL := M.2.1.1) ⟨hx, hb, hml, hown, hts⟩ hmet ⟨va_cnB M'.2.1.2.2 hts (am_good (fun w hw => am_ws_good m1 hw)) rfl rfl rfl (hts _ m8) (hts _ m2) m3 hR1, hts _ m6, trivial⟩ ⟨hbl, hPre⟩ rfl hn hsz hstk hW8 hd hR2
theorem am_s_objInit {idx : Nat} (C : am_C p s m args meth c M) (hRm : R = am_rm M) (hk0 : an.2.2 = 0) (hw : Cond.methodLink M.1.2.1.cls idx Lib.objectInit ∈ am_ts) (hw2 : Cond.instanceMethod Lib.objectInit ∈ am_ts) (hw3 : Cond.code Lib.objectInit ⟨#[0xb1]⟩ 1 none ∈ am_ts) (hd : decode M.1.2.2 pc = .ok (.invokespecial idx, 3))
    (hone : am_one am_φ ex G rc M ((pc, 3, .invokespecial idx, an, v0) :: cs, ls, st, ks, h, nc, ns) = some (.inl f')) (hW : am_Wf p l e R s m args below meth c D cl B x ex M.2.1.1 Q f') : am_Wf p l e R s m args below meth c D cl B x ex M.2.1.1 Q ((pc, 3, .invokespecial idx, an, v0) :: cs, ls, st, ks, h, nc, ns) := by
  obtain ⟨hx, hb, hml, hr, hown, hts, hlk, hnm⟩ := C
  simp only [am_one, hk0] at hone
  split at hone
  · rename_i o st0
    cases hcc : (Nat.ble 1 M.2.2.1.1 && Nat.ble (am_cat st0 + 12) M.2.2.1.2.1) with
    | false => rw [hcc] at hone; cases hone
    | true =>
    rw [hcc, cond_true] at hone
    simp only [Bool.and_eq_true] at hcc
    intro H locs L j r hj hR hS hl
    cases hj
    subst hRm
    refine W.objInit (g := F0 m pc L (.ref (B + o) :: st0.map (am_c B x))) hx hb hown (hts _ hw) (hts _ hw2) (hts _ hw3) rfl (hl.1.trans hml.symm) rfl hd (Nat.le_of_ble_eq_true hcc.1) ?_ (am_go_use hone hW H locs L hR hS hl)
    have h1 := Nat.le_of_ble_eq_true hcc.2
    have h2 := am_cat_map B x st0
    have h3 : 2 * (F0 m pc L (.ref (B + o) :: st0.map (am_c B x))).monitorRoom = 0 := rfl
    have h4 : (am_rm M).locals = M.2.2.1.2.1 := rfl
    omega
  · cases hone
theorem am_s_max {idx : Nat} (C : am_C p s m args meth c M) (hRm : R = am_rm M) (hk0 : an.2.2 = 1) (hw : Cond.methodLink M.1.2.1.cls idx Lib.Math.max.name ∈ am_ts) (hw2 : Cond.static Lib.Math.max.name ∈ am_ts) (hw3 : Cond.initialized "java/lang/Math" ∈ am_ts) (hw4 : Cond.code Lib.Math.max.name Lib.Math.max.code 2 (some .int) ∈ am_ts) (hd : decode M.1.2.2 pc = .ok (.invokestatic idx, 3))
    (hone : am_one am_φ ex G rc M ((pc, 3, .invokestatic idx, an, v0) :: cs, ls, st, ks, h, nc, ns) = some (.inl f')) (hW : am_Wf p l e R s m args below meth c D cl B x ex M.2.1.1 Q f') : am_Wf p l e R s m args below meth c D cl B x ex M.2.1.1 Q ((pc, 3, .invokestatic idx, an, v0) :: cs, ls, st, ks, h, nc, ns) := by
  obtain ⟨hx, hb, hml, hr, hown, hts, hlk, hnm⟩ := C
  simp only [am_one, hk0, am_math] at hone
  split at hone
  · rename_i b a st0
    cases hcc : (Nat.ble 1 M.2.2.1.1 && Nat.ble (am_cat st0 + 13) M.2.2.1.2.1 && Nat.ble nc M.2.2.1.2.2.1 && Nat.ble ns M.2.2.1.2.2.2) with
    | false => rw [hcc] at hone; cases hone
    | true =>
    rw [hcc, cond_true] at hone
    simp only [Bool.and_eq_true] at hcc
    obtain ⟨⟨⟨c1, c2⟩, c3⟩, c4⟩ := hcc
    intro H locs L j r hj hR hS hl
    cases hj
    subst hRm
    exact va_mmax (ls := L) hx hb (hml.trans hl.1.symm) hown (hts _ hw) (hts _ hw2) (hts _ hw3) (hts _ hw4) (Nat.le_of_ble_eq_true c1) (by rw [am_cat_map]; exact Nat.le_of_ble_eq_true c2) (Nat.le_of_ble_eq_true c3) (Nat.le_of_ble_eq_true c4) hd (am_go_use hone hW H locs L hR hS hl)
  · cases hone
theorem am_s_min {idx : Nat} (C : am_C p s m args meth c M) (hRm : R = am_rm M) (hk0 : an.2.2 = 2) (hw : Cond.methodLink M.1.2.1.cls idx Lib.Math.min.name ∈ am_ts) (hw2 : Cond.static Lib.Math.min.name ∈ am_ts) (hw3 : Cond.initialized "java/lang/Math" ∈ am_ts) (hw4 : Cond.code Lib.Math.min.name Lib.Math.min.code 2 (some .int) ∈ am_ts) (hd : decode M.1.2.2 pc = .ok (.invokestatic idx, 3))
    (hone : am_one am_φ ex G rc M ((pc, 3, .invokestatic idx, an, v0) :: cs, ls, st, ks, h, nc, ns) = some (.inl f')) (hW : am_Wf p l e R s m args below meth c D cl B x ex M.2.1.1 Q f') : am_Wf p l e R s m args below meth c D cl B x ex M.2.1.1 Q ((pc, 3, .invokestatic idx, an, v0) :: cs, ls, st, ks, h, nc, ns) := by
  obtain ⟨hx, hb, hml, hr, hown, hts, hlk, hnm⟩ := C
  simp only [am_one, hk0, am_math] at hone
  split at hone
  · rename_i b a st0
    cases hcc : (Nat.ble 1 M.2.2.1.1 && Nat.ble (am_cat st0 + 13) M.2.2.1.2.1 && Nat.ble nc M.2.2.1.2.2.1 && Nat.ble ns M.2.2.1.2.2.2) with
    | false => rw [hcc] at hone; cases hone
    | true =>
    rw [hcc, cond_true] at hone
    simp only [Bool.and_eq_true] at hcc
    obtain ⟨⟨⟨c1, c2⟩, c3⟩, c4⟩ := hcc
    intro H locs L j r hj hR hS hl
    cases hj
    subst hRm
    exact va_mmin (ls := L) hx hb (hml.trans hl.1.symm) hown (hts _ hw) (hts _ hw2) (hts _ hw3) (hts _ hw4) (Nat.le_of_ble_eq_true c1) (by rw [am_cat_map]; exact Nat.le_of_ble_eq_true c2) (Nat.le_of_ble_eq_true c3) (Nat.le_of_ble_eq_true c4) hd (am_go_use hone hW H locs L hR hS hl)
  · cases hone
end AMC
end
section
/-! ===== A RUN OF THE SMALL MACHINE IS ONE OF THE TRUE ONE ===== -/
def am_charAt : MethodName := ⟨"java/lang/String", "charAt", "(I)C"⟩
/-- what a program must show of an instruction -/
def am_okI (cl : List vw_C) (G : am_G) (M : am_M) (i : am_I) : Prop := decode M.1.2.2 i.1 = .ok (i.2.2.1, i.2.1) ∧ match i.2.2.1 with
  | .aload _ | .iload _ | .lload _ | .istore _ | .lstore _ | .astore _ | .bipush _ => i.2.1 = 2
  | .iinc _ _ | .sipush _ | .goto _ => i.2.1 = 3
  | .ifCond _ off | .if_icmp _ off => i.2.1 = 3 ∧ 0 ≤ (i.1 : Int) + off
  | .tableswitch _ _ _ _ => True
  | .ldc k => i.2.1 = 2 ∧ ((i.2.2.2.1.2.1 = 0 ∧ Cond.constant M.1.2.1.cls k (Int32.ofInt i.2.2.2.2) ∈ am_ts) ∨ (i.2.2.2.1.2.1 ≠ 0 ∧ ∃ tx, Cond.stringRef M.1.2.1.cls k tx ∈ am_ts))
  | .ldc2_w k => i.2.1 = 3 ∧ Cond.constantLong M.1.2.1.cls k (Int64.ofInt i.2.2.2.2) ∈ am_ts
  | .getfield idx => i.2.1 = 3 ∧ ∃ r, cl[i.2.2.2.1.1]? = some r ∧ i.2.2.2.1.2.1 < r.2.2 ∧ am_fl M.1.2.1.cls idx (r.2.1 i.2.2.2.1.2.1)
  | .putfield idx => i.2.1 = 3 ∧ ∃ r, cl[i.2.2.2.1.1]? = some r ∧ i.2.2.2.1.2.1 < r.2.2 ∧ (((r.2.1 i.2.2.2.1.2.1).2.2.2 = false ∧ am_fl M.1.2.1.cls idx (r.2.1 i.2.2.2.1.2.1)) ∨ ((r.2.1 i.2.2.2.1.2.1).2.2.2 = true ∧ Cond.fieldLink M.1.2.1.cls idx (r.2.1 i.2.2.2.1.2.1).1 (r.2.1 i.2.2.2.1.2.1).2.1 (r.2.1 i.2.2.2.1.2.1).2.2.1 ∈ am_ts ∧ M.1.2.1.name = "<init>" ∧ (r.2.1 i.2.2.2.1.2.1).1 = M.1.2.1.cls))
  | .newarray t => i.2.1 = 2 ∧ Cond.arrayClass (Op.newarray.typeOf t) ∈ am_ts ∧ (Op.newarray.typeOf t = .int ∨ Op.newarray.typeOf t = .boolean ∨ Op.newarray.typeOf t = .long)
  | .anewarray idx => i.2.1 = 3 ∧ ∃ r, cl[i.2.2.2.1.1]? = some r ∧ Cond.classLink M.1.2.1.cls idx r.1 ∈ am_ts ∧ Cond.arrayOver (.object r.1) ∈ am_ts
  | .new idx => i.2.1 = 3 ∧ ∃ r, cl[i.2.2.2.1.1]? = some r ∧ Cond.classLink M.1.2.1.cls idx r.1 ∈ am_ts
  | .invokespecial idx => i.2.1 = 3 ∧ ((i.2.2.2.1.2.2 = 0 ∧ Cond.methodLink M.1.2.1.cls idx Lib.objectInit ∈ am_ts ∧ Cond.instanceMethod Lib.objectInit ∈ am_ts ∧ Cond.code Lib.objectInit ⟨#[0xb1]⟩ 1 none ∈ am_ts) ∨ (i.2.2.2.1.2.2 ≠ 0 ∧ ∀ M', G.1 i.2.2.2.1.1 = some M' → am_okM G M' ∧ Cond.instanceMethod M'.1.2.1 ∈ am_ts ∧ (M'.1.2.1.name = "<init>" ∧ M'.2.1.2.1 = none) ∧ am_ml M.1.2.1.cls idx M'.1.2.1))
  | .invokevirtual idx => i.2.1 = 3 ∧ ((i.2.2.2.1.2.2 = 0 ∧ Cond.methodLink M.1.2.1.cls idx am_charAt ∈ am_ts) ∨ (i.2.2.2.1.2.2 ≠ 0 ∧ ∀ M', G.1 i.2.2.2.1.1 = some M' → am_okM G M' ∧ Cond.instanceMethod M'.1.2.1 ∈ am_ts ∧ Cond.selects M'.1.2.1.cls M'.1.2.1 M'.1.2.1 ∈ am_ts ∧ am_ml M.1.2.1.cls idx M'.1.2.1))
  | .invokestatic idx => i.2.1 = 3 ∧ ((i.2.2.2.1.2.2 = 1 ∧ Cond.methodLink M.1.2.1.cls idx Lib.Math.max.name ∈ am_ts ∧ Cond.static Lib.Math.max.name ∈ am_ts ∧ Cond.initialized "java/lang/Math" ∈ am_ts ∧ Cond.code Lib.Math.max.name Lib.Math.max.code 2 (some .int) ∈ am_ts)
      ∨ (i.2.2.2.1.2.2 = 2 ∧ Cond.methodLink M.1.2.1.cls idx Lib.Math.min.name ∈ am_ts ∧ Cond.static Lib.Math.min.name ∈ am_ts ∧ Cond.initialized "java/lang/Math" ∈ am_ts ∧ Cond.code Lib.Math.min.name Lib.Math.min.code 2 (some .int) ∈ am_ts)
      ∨ ((∃ k, i.2.2.2.1.2.2 = k + 3) ∧ ∀ M', G.1 i.2.2.2.1.1 = some M' → am_okM G M' ∧ Cond.static M'.1.2.1 ∈ am_ts ∧ ((M'.1.2.1.cls = M.1.2.1.cls ∧ Cond.methodLink M.1.2.1.cls idx M'.1.2.1 ∈ am_ts) ∨ ∃ host, Cond.methodLinkNest M.1.2.1.cls idx M'.1.2.1 host ∈ am_ts)))
  | _ => i.2.1 = 1
/-- the words' text: its constant is pushed, its signs are read -/
def am_TxA (p : Program) (l : Launch) (e : Env) (R : Room) (s : State) (m : MethodId) (args : Array Value) (below : List Frame) (meth : Method) (c : Code) (M : am_M) (x : Nat → Nat) : Prop :=
  ∀ (idx pc : Nat) (tx : String), decode M.1.2.2 pc = .ok (.ldc idx, 2) → Cond.stringRef M.1.2.1.cls idx tx ∈ am_ts → ∀ (Q : State → Prop) (H : Heap) (locs : List Loc) (L : Array Slot) (st : List Value) (nc ns : Nat),
    W p l e R s m args below meth c H locs nc ns Q (F0 m (pc + 2) L (.ref (x 1) :: st)) → W p l e R s m args below meth c H locs nc ns Q (F0 m pc L st)
def am_TxB (p : Program) (l : Launch) (e : Env) (R : Room) (s : State) (m : MethodId) (args : Array Value) (below : List Frame) (meth : Method) (c : Code) (M : am_M) (B : Nat) (x : Nat → Nat) (tx : Nat → Int32) : Prop :=
  ∀ (idx pc : Nat), decode M.1.2.2 pc = .ok (.invokevirtual idx, 3) → Cond.methodLink M.1.2.1.cls idx am_charAt ∈ am_ts → ∀ (Q : State → Prop) (H : Heap) (locs : List Loc) (L : Array Slot) (st : List Value) (nc ns : Nat) (j : Int32),
    8 ≤ R.frames → (st.map fun v => v.category).sum ≤ 8 → 200 ≤ R.locals → nc ≤ R.cells → ns ≤ R.slots → vp_in j 120 → L.size = M.2.1.1 → va_S (fun q => B ≤ q) s.heap H locs →
    (∀ (H1 : Heap) (locs1 : List Loc), (∀ q : Nat, H1[q]? = H[q]?) → va_S (fun q => B ≤ q) s.heap H1 locs1 → W p l e R s m args below meth c H1 locs1 nc ns Q (F0 m (pc + 3) L (.int (tx j.toNatClampNeg) :: st))) → W p l e R s m args below meth c H locs nc ns Q (F0 m pc L (.int j :: .ref (x 1) :: st))
def am_TxOK (l : Launch) (B : Nat) (x : Nat → Nat) (tx : Nat → Int32) (TX : State → Prop) : Prop :=
  ∀ (p : Program) (e : Env) (s : State) (m : MethodId) (args : Array Value) (below : List Frame) (meth : Method) (c : Code) (M : am_M), am_C p s m args meth c M → TX s → B ≤ s.heap.size → am_TxA p l e (am_rm M) s m args below meth c M x ∧ am_TxB p l e (am_rm M) s m args below meth c M B x tx
section AMR
variable {p : Program} {l : Launch} {e : Env} {R : Room} {s : State} {m : MethodId} {args : Array Value} {below : List Frame} {meth : Method} {c : Code} {D : va_G} {cl : List vw_C} {B : Nat} {x : Nat → Nat} {ex : Bool} {nL : Nat} {Q : State → Prop} {M M' : am_M} {f' : am_F}
variable {pc len : Nat} {ins : Instr} {an : Nat × Nat × Nat} {v0 : Int} {cs : List am_I} {ls : am_L} {st : List Value} {ks : List am_k} {h : am_H} {nc ns : Nat} {G : am_G} {rc : am_rec} {TX : State → Prop}
theorem am_s_ldcS {k : Nat} (hT : am_TxA p l e R s m args below meth c M x) (h0 : an.2.1 ≠ 0) {tx : String} (hw : Cond.stringRef M.1.2.1.cls k tx ∈ am_ts) (hd : decode M.1.2.2 pc = .ok (.ldc k, 2))
    (hone : am_one am_φ ex G rc M ((pc, 2, .ldc k, an, v0) :: cs, ls, st, ks, h, nc, ns) = some (.inl f')) (hW : am_Wf p l e R s m args below meth c D cl B x ex M.2.1.1 Q f') : am_Wf p l e R s m args below meth c D cl B x ex M.2.1.1 Q ((pc, 2, .ldc k, an, v0) :: cs, ls, st, ks, h, nc, ns) := by
  simp only [am_one] at hone
  intro H locs L j r hj hR hS hl
  cases hj
  exact hT k pc tx hd hw Q H locs L _ nc ns (am_go_use hone hW H locs L hR hS hl)
theorem am_s_charAt {idx : Nat} (hT : am_TxB p l e R s m args below meth c M B x G.2.2.2.1) (hRm : R = am_rm M) (h0 : an.2.2 = 0) (hw : Cond.methodLink M.1.2.1.cls idx am_charAt ∈ am_ts) (hd : decode M.1.2.2 pc = .ok (.invokevirtual idx, 3))
    (hone : am_one am_φ ex G rc M ((pc, 3, .invokevirtual idx, an, v0) :: cs, ls, st, ks, h, nc, ns) = some (.inl f')) (hW : am_Wf p l e R s m args below meth c D cl B x ex M.2.1.1 Q f') : am_Wf p l e R s m args below meth c D cl B x ex M.2.1.1 Q ((pc, 3, .invokevirtual idx, an, v0) :: cs, ls, st, ks, h, nc, ns) := by
  simp only [am_one, h0] at hone
  split at hone
  · rename_i j st0
    unfold am_text at hone
    cases hcc : (Nat.ble 8 M.2.2.1.1 && Nat.ble (am_cat st0) 8 && Nat.ble 200 M.2.2.1.2.1 && Nat.ble nc M.2.2.1.2.2.1 && Nat.ble ns M.2.2.1.2.2.2) with
    | false => rw [hcc] at hone; cases hone
    | true =>
    rw [hcc, cond_true] at hone
    simp only [Bool.and_eq_true] at hcc
    obtain ⟨⟨⟨⟨c1, c2⟩, c3⟩, c4⟩, c5⟩ := hcc
    obtain ⟨hin, hk⟩ := am_ix_use hone
    intro H locs L i r hj hR hS hl
    cases hj
    subst hRm
    refine hT idx pc hd hw Q H locs L _ nc ns j (Nat.le_of_ble_eq_true c1) (by rw [am_cat_map]; exact Nat.le_of_ble_eq_true c2) (Nat.le_of_ble_eq_true c3) (Nat.le_of_ble_eq_true c4) (Nat.le_of_ble_eq_true c5) hin hl.1 hS (fun H1 locs1 hsame hS1 => ?_)
    obtain ⟨hK, dA, hP, hA⟩ := hR
    exact am_go_use hk hW H1 locs1 L ⟨hK, dA, hP.kept (fun k q _ => hsame q.1), hA⟩ hS1 hl
  · cases hone
theorem am_step {i : am_I} (C : am_C p s m args meth c M) (hG : am_okG cl G) (hRm : R = am_rm M) (hB : B ≤ s.heap.size) (hTm : am_TXm B TX) (hT : TX s) (hTA : am_TxA p l e R s m args below meth c M x) (hTB : am_TxB p l e R s m args below meth c M B x G.2.2.2.1) (hscr : am_scr G B x s)
    (hrec : ∀ (a : Nat) (M' : am_M) (as : List Value) (ks : List am_k) (h : am_H) (r : am_O), G.1 a = some M' → am_cat as ≤ M'.2.1.1 → rc a as ks h = some r → am_Met l D cl B x ex TX M' as ks h r)
    (hi : am_okI cl G M i) (hone : am_one am_φ ex G rc M (i :: cs, ls, st, ks, h, nc, ns) = some (.inl f')) (hW : am_Wf p l e R s m args below meth c D cl B x ex M.2.1.1 Q f') : am_Wf p l e R s m args below meth c D cl B x ex M.2.1.1 Q (i :: cs, ls, st, ks, h, nc, ns) := by
  obtain ⟨pc, len, ins, an, v0⟩ := i
  obtain ⟨hd, hi⟩ := hi
  dsimp only at hd hi
  cases ins with
  | aload k => dsimp only at hi; subst hi; exact am_s_aload C hd hone hW
  | iload k => dsimp only at hi; subst hi; exact am_s_iload C hd hone hW
  | lload k => dsimp only at hi; subst hi; exact am_s_lload C hd hone hW
  | istore k => dsimp only at hi; subst hi; exact am_s_istore C hd hone hW
  | lstore k => dsimp only at hi; subst hi; exact am_s_lstore C hd hone hW
  | astore k => dsimp only at hi; subst hi; exact am_s_astore C hd hone hW
  | bipush k => dsimp only at hi; subst hi; exact am_s_bipush C hd hone hW
  | iinc k n => dsimp only at hi; subst hi; exact am_s_iinc C hd hone hW
  | sipush k => dsimp only at hi; subst hi; exact am_s_sipush C hd hone hW
  | goto k => dsimp only at hi; subst hi; exact am_s_goto C hd hone hW
  | ifCond cn off =>
    obtain ⟨hi, hof⟩ := hi
    subst hi
    cases cn with
    | eq => exact am_s_if_eq C hd hof hone hW
    | ne => exact am_s_if_ne C hd hof hone hW
    | lt => exact am_s_if_lt C hd hof hone hW
    | ge => exact am_s_if_ge C hd hof hone hW
    | gt => exact am_s_if_gt C hd hof hone hW
    | le => exact am_s_if_le C hd hof hone hW
  | if_icmp cn off =>
    obtain ⟨hi, hof⟩ := hi
    subst hi
    cases cn with
    | eq => exact am_s_icmp_eq C hd hof hone hW
    | ne => exact am_s_icmp_ne C hd hof hone hW
    | lt => exact am_s_icmp_lt C hd hof hone hW
    | ge => exact am_s_icmp_ge C hd hof hone hW
    | gt => exact am_s_icmp_gt C hd hof hone hW
    | le => exact am_s_icmp_le C hd hof hone hW
  | tableswitch d lo hh offs => exact am_s_tsw C hd hone hW
  | ldc k =>
    obtain ⟨hi, hc⟩ := hi
    subst hi
    rcases hc with ⟨h0, hw⟩ | ⟨h0, tx, hw⟩
    · exact am_s_ldc C hd h0 hw hone hW
    · exact am_s_ldcS hTA h0 hw hd hone hW
  | ldc2_w k =>
    obtain ⟨hi, hw⟩ := hi
    subst hi
    exact am_s_ldc2 C hd hw hone hW
  | getfield k =>
    obtain ⟨hi, r, h1, h2, h3⟩ := hi
    subst hi
    exact am_s_getfield C hG hd h1 h2 h3 hone hW
  | putfield k =>
    obtain ⟨hi, r, h1, h2, h3⟩ := hi
    subst hi
    exact am_s_putfield C hG hd h1 h2 h3 hone hW
  | newarray t =>
    obtain ⟨hi, h1, h2⟩ := hi
    subst hi
    exact am_s_newarray C hRm hB h1 h2 hd hone hW
  | anewarray t =>
    obtain ⟨hi, r, h1, h2, h3⟩ := hi
    subst hi
    exact am_s_anewarray C hG hRm hB h1 h2 h3 hd hone hW
  | new t =>
    obtain ⟨hi, r, h1, h2⟩ := hi
    subst hi
    exact am_s_new C hG hRm hB h1 h2 hd hone hW
  | invokespecial k =>
    obtain ⟨hi, hc⟩ := hi
    subst hi
    rcases hc with ⟨h0, h1, h2, h3⟩ | ⟨h0, h1⟩
    · exact am_s_objInit C hRm h0 h1 h2 h3 hd hone hW
    · exact am_s_special C hG hRm hB hTm hT h0 hd h1 hrec hone hW
  | invokevirtual k =>
    obtain ⟨hi, hc⟩ := hi
    subst hi
    rcases hc with ⟨h0, h1⟩ | ⟨h0, h1⟩
    · exact am_s_charAt hTB hRm h0 h1 hd hone hW
    · exact am_s_virtual C hG hRm hB hTm hT h0 hd h1 hrec hone hW
  | invokestatic k =>
    obtain ⟨hi, hc⟩ := hi
    subst hi
    rcases hc with ⟨h0, h1, h2, h3, h4⟩ | ⟨h0, h1, h2, h3, h4⟩ | ⟨⟨k0, h0⟩, h1⟩
    · exact am_s_max C hRm h0 h1 h2 h3 h4 hd hone hW
    · exact am_s_min C hRm h0 h1 h2 h3 h4 hd hone hW
    · exact am_s_static C hRm hB hTm hT h0 hd h1 hrec hone hW
  | aload_n k => dsimp only at hi; subst hi; exact am_s_aload_n C hd hone hW
  | iload_n k => dsimp only at hi; subst hi; exact am_s_iload_n C hd hone hW
  | lload_n k => dsimp only at hi; subst hi; exact am_s_lload_n C hd hone hW
  | istore_n k => dsimp only at hi; subst hi; exact am_s_istore_n C hd hone hW
  | lstore_n k => dsimp only at hi; subst hi; exact am_s_lstore_n C hd hone hW
  | astore_n k => dsimp only at hi; subst hi; exact am_s_astore_n C hd hone hW
  | iconst k => dsimp only at hi; subst hi; exact am_s_iconst C hd hone hW
  | lconst k => dsimp only at hi; subst hi; exact am_s_lconst C hd hone hW
  | dup => dsimp only at hi; subst hi; exact am_s_dup C hd hone hW
  | dup2 => dsimp only at hi; subst hi; exact am_s_dup2 C hd hone hW
  | pop => dsimp only at hi; subst hi; exact am_s_pop C hd hone hW
  | iadd => dsimp only at hi; subst hi; exact am_s_iadd C hd hone hW
  | isub => dsimp only at hi; subst hi; exact am_s_isub C hd hone hW
  | imul => dsimp only at hi; subst hi; exact am_s_imul C hd hone hW
  | iand => dsimp only at hi; subst hi; exact am_s_iand C hd hone hW
  | ior => dsimp only at hi; subst hi; exact am_s_ior C hd hone hW
  | ishl => dsimp only at hi; subst hi; exact am_s_ishl C hd hone hW
  | ishr => dsimp only at hi; subst hi; exact am_s_ishr C hd hone hW
  | iushr => dsimp only at hi; subst hi; exact am_s_iushr C hd hone hW
  | idiv => dsimp only at hi; subst hi; exact am_s_idiv C hd hone hW
  | irem => dsimp only at hi; subst hi; exact am_s_irem C hd hone hW
  | ladd => dsimp only at hi; subst hi; exact am_s_ladd C hd hone hW
  | lsub => dsimp only at hi; subst hi; exact am_s_lsub C hd hone hW
  | lmul => dsimp only at hi; subst hi; exact am_s_lmul C hd hone hW
  | land => dsimp only at hi; subst hi; exact am_s_land C hd hone hW
  | ldiv => dsimp only at hi; subst hi; exact am_s_ldiv C hd hone hW
  | lrem => dsimp only at hi; subst hi; exact am_s_lrem C hd hone hW
  | lneg => dsimp only at hi; subst hi; exact am_s_lneg C hd hone hW
  | lcmp => dsimp only at hi; subst hi; exact am_s_lcmp C hd hone hW
  | i2l => dsimp only at hi; subst hi; exact am_s_i2l C hd hone hW
  | l2i => dsimp only at hi; subst hi; exact am_s_l2i C hd hone hW
  | iaload => dsimp only at hi; subst hi; exact am_s_iaload C hscr hd hone hW
  | baload => dsimp only at hi; subst hi; exact am_s_baload C hd hone hW
  | laload => dsimp only at hi; subst hi; exact am_s_laload C hd hone hW
  | aaload => dsimp only at hi; subst hi; exact am_s_aaload C hd hone hW
  | iastore => dsimp only at hi; subst hi; exact am_s_iastore C hd hone hW
  | bastore => dsimp only at hi; subst hi; exact am_s_bastore C hd hone hW
  | lastore => dsimp only at hi; subst hi; exact am_s_lastore C hd hone hW
  | aastore => dsimp only at hi; subst hi; exact am_s_aastore C hG hd hone hW
  | arraylength => dsimp only at hi; subst hi; exact am_s_arraylength C hscr hd hone hW
  | _ => simp [am_one] at hone
/-- the end of a method -/
theorem am_fin {i : am_I} {r : am_O} (C : am_C p s m args meth c M) (hi : am_okI cl G M i) (hend : am_end M (i :: cs, ls, st, ks, h, nc, ns) = some r) :
    am_Wf p l e R s m args below meth c D cl B x ex M.2.1.1 (MQ below (am_Qc D cl B x ex r) args s M.2.2.1.2.2.1 M.2.2.1.2.2.2 (fun q => B ≤ q)) (i :: cs, ls, st, ks, h, nc, ns) := by
  obtain ⟨pc, len, ins, an, v0⟩ := i
  obtain ⟨hx, hb, hml, hr, hown, hts, hlk, hnm⟩ := C
  obtain ⟨hd, hi⟩ := hi
  dsimp only at hd hi
  have key : ∀ (v : Option Value), am_ret M v ks h nc ns = some r → r = (v, ks, h) ∧ nc ≤ M.2.2.1.2.2.1 ∧ ns ≤ M.2.2.1.2.2.2 := by
    intro v hv
    unfold am_ret at hv
    cases h2 : (Nat.ble nc M.2.2.1.2.2.1 && Nat.ble ns M.2.2.1.2.2.2) with
    | false => rw [h2] at hv; cases hv
    | true =>
      rw [h2, cond_true] at hv
      simp only [Bool.and_eq_true] at h2
      exact ⟨(Option.some.inj hv).symm, Nat.le_of_ble_eq_true h2.1, Nat.le_of_ble_eq_true h2.2⟩
  have post : ∀ (H : Heap) (locs : List Loc) (t : State), am_Rel D cl B x ex ks h (s.heap.size + nc) s H → t.heap = H → s.WarmedH t.vm → am_Rel D cl B x ex ks h (B + ks.length) t t.heap := by
    intro H locs t hR ht hWm
    refine am_Rel.moved hWm.alike ?_
    rw [ht]
    obtain ⟨hK, dA, hP, hA, hz⟩ := hR
    exact ⟨hK, dA, hP, hA, fun _ => rfl⟩
  cases ins with
  | ireturn =>
    dsimp only at hi
    subst hi
    simp only [am_end] at hend
    split at hend
    · rename_i v
      split at hend
      · rename_i ty hty
        cases h1 : am_fit ty (.int v) with
        | false => rw [h1] at hend; cases hend
        | true =>
          rw [h1, cond_true] at hend
          obtain ⟨rfl, k1, k2⟩ := key _ hend
          intro H locs L j r' hj hR hS hl
          cases hj
          refine W.widen k1 k2 ?_
          exact W.zret (v := v) hx hb (hr.trans hty) (am_fit_ok (B := 0) (x := fun _ => 0) h1).1 (fun t ht hWm => ⟨rfl, post H locs t hR ht hWm, hS.F ht⟩) hS.2.2 hd
      · cases hend
    · cases hend
  | lreturn =>
    dsimp only at hi
    subst hi
    simp only [am_end] at hend
    split at hend
    · rename_i v
      split at hend
      · rename_i hty
        obtain ⟨rfl, k1, k2⟩ := key _ hend
        intro H locs L j r' hj hR hS hl
        cases hj
        refine W.widen k1 k2 ?_
        exact W.lret (v := v) hx hb (hr.trans hty) (fun t ht hWm => ⟨rfl, post H locs t hR ht hWm, hS.F ht⟩) hS.2.2 hd
      · cases hend
    · cases hend
  | return_ =>
    dsimp only at hi
    subst hi
    simp only [am_end] at hend
    split at hend
    · split at hend
      · rename_i hty
        obtain ⟨rfl, k1, k2⟩ := key _ hend
        intro H locs L j r' hj hR hS hl
        cases hj
        refine W.widen k1 k2 ?_
        exact W.vret hx hb (hr.trans hty) (fun t ht hWm => ⟨rfl, post H locs t hR ht hWm, hS.F ht⟩) hS.2.2 hd
      · cases hend
    · cases hend
  | _ => simp [am_end] at hend
/-- what a program must show: of every method -/
def am_okP (cl : List vw_C) (G : am_G) : Prop := ∀ (a : Nat) (M : am_M), G.1 a = some M → am_okM G M ∧ (∀ i ∈ M.2.2.2, am_okI cl G M i) ∧ (M.2.2.2.head?.map (fun i => i.1)) = some 0
theorem am_lv_args (B : Nat) (x : Nat → Nat) : ∀ (as : List Value) (k : Nat), lv_args k (as.map (am_c B x)) = am_ls B x (lv_args k as)
  | [], _ => rfl
  | v :: as, k => by
    show (k, am_c B x v) :: lv_args (if (am_c B x v).category = 2 then k + 2 else k + 1) (as.map (am_c B x)) = (k, am_c B x v) :: am_ls B x (lv_args (if v.category = 2 then k + 2 else k + 1) as)
    rw [am_c_cat, am_lv_args B x as]
theorem am_lg_len : ∀ (as : List Value), (lg_sl as).length = am_cat as
  | [] => rfl
  | v :: as => by
    have ih := am_lg_len as
    have h1 : lg_sl (v :: as) = (if v.category = 2 then [Slot.val v, Slot.second] else [Slot.val v]) ++ lg_sl as := rfl
    have h2 : am_cat (v :: as) = v.category + am_cat as := by simp [am_cat]
    rw [h1, List.length_append, ih, h2]
    cases v <;> rfl
theorem am_seek_sub {t : Int} : ∀ {cd : List am_I} {i : am_I}, i ∈ am_seek cd t → i ∈ cd
  | [], _, h => by cases h
  | j :: cd, i, h => by
    unfold am_seek at h
    split at h
    · exact h
    · exact List.mem_cons_of_mem _ (am_seek_sub h)
end AMR
end
section
/-! ===== WHERE AN INSTRUCTION GOES ON: in the method's own code ===== -/
def am_sub (K : List am_I → Prop) (r : am_R) : Prop := ∀ f', r = some (.inl f') → K f'.1
section AMQ
variable {K : List am_I → Prop} {ex : Bool} {G : am_G} {rc : am_rec} {M M' : am_M} {i : am_I} {cs : List am_I} {ls : am_L} {st : List Value} {ks : List am_k} {h : am_H} {nc ns : Nat}
theorem am_sub_none : am_sub K none := fun _ h => by cases h
theorem am_sub_go {ls : am_L} {st : List Value} {ks : List am_k} {h : am_H} {nc ns : Nat} (hK : K cs) : am_sub K (am_go i cs ls st ks h nc ns) := by
  intro f' hf
  unfold am_go am_nx at hf
  split at hf
  · cases hf
  · rename_i j r
    cases hb : Nat.beq j.1 (i.1 + i.2.1) with
    | false => rw [hb] at hf; cases hf
    | true => rw [hb] at hf; cases hf; exact hK
theorem am_sub_cond {b : Bool} {r : am_R} (h : am_sub K r) : am_sub K (cond b r none) := by
  cases b
  · exact am_sub_none
  · exact h
theorem am_sub_ite {p : Prop} [Decidable p] {r : am_R} (h : am_sub K r) : am_sub K (if p then none else r) := by
  split
  · exact am_sub_none
  · exact h
theorem am_sub_jp {a : Nat} {t : Int} (hK : ∀ a, K (M.2.2.2.drop a)) : am_sub K (am_jp M a t ls st ks h nc ns) := by
  intro f' hf
  unfold am_jp at hf
  split at hf
  · cases hf
  · rename_i j r hd
    split at hf
    · cases hf
      have := hK a
      rw [hd] at this
      exact this
    · cases hf
theorem am_sub_sw {t : Int} (hK : ∀ t, K (am_seek M.2.2.2 t)) : am_sub K (am_sw M t ls st ks h nc ns) := by
  intro f' hf
  unfold am_sw at hf
  split at hf
  · cases hf
  · rename_i j r hd
    cases hf
    have := hK t
    rw [hd] at this
    exact this
theorem am_sub_br {b : Bool} {off : Int} {st : List Value} (h1 : K cs) (h2 : ∀ a, K (M.2.2.2.drop a)) : am_sub K (am_br M i cs b off ls st ks h nc ns) := by
  unfold am_br
  cases b
  · exact am_sub_go h1
  · exact am_sub_jp h2
theorem am_sub_ix {j : Int32} {n : Nat} {k : Nat → am_R} (h : ∀ q, am_sub K (k q)) : am_sub K (am_ix j n k) := am_sub_ite (h _)
theorem am_sub_pI {v : Value} {k : Value → am_R} (h : ∀ v, am_sub K (k v)) : am_sub K (am_pushI v k) := by
  unfold am_pushI; split
  · exact h _
  · exact am_sub_none
theorem am_sub_pL {v : Value} {k : Value → am_R} (h : ∀ v, am_sub K (k v)) : am_sub K (am_pushL v k) := by
  unfold am_pushL; split
  · exact h _
  · exact am_sub_none
theorem am_sub_pR {v : Value} {k : Value → am_R} (h : ∀ v, am_sub K (k v)) : am_sub K (am_pushR v k) := by
  unfold am_pushR; split
  · exact h _
  · exact am_sub_none
theorem am_sub_ald {a : Value} {j : Int32} {ty : FieldType} {k : Value → am_R} (hk : ∀ v, am_sub K (k v)) : am_sub K (am_ald G ks h a j ty k) := by
  unfold am_ald; split
  · split
    · exact am_sub_cond (am_sub_ix (fun _ => hk _))
    · exact am_sub_none
  · split
    · exact am_sub_cond (am_sub_ix (fun _ => hk _))
    · exact am_sub_none
  · exact am_sub_none
theorem am_sub_ast {a : Value} {j : Int32} {ty : FieldType} {v : Value} {k : am_H → am_R} (hk : ∀ v, am_sub K (k v)) : am_sub K (am_ast ks h a j ty v k) := by
  unfold am_ast; split
  · split
    · exact am_sub_cond (am_sub_ix (fun _ => hk _))
    · exact am_sub_none
  · exact am_sub_none
theorem am_sub_aald {o : Nat} {j : Int32} {k : Value → am_R} (hk : ∀ v, am_sub K (k v)) : am_sub K (am_aald ks h o j k) := by
  unfold am_aald; split
  · exact am_sub_ix (fun _ => hk _)
  · exact am_sub_none
theorem am_sub_aast {o v : Nat} {j : Int32} {k : am_H → am_R} (hk : ∀ v, am_sub K (k v)) : am_sub K (am_aast G ks h o j v k) := by
  unfold am_aast; split
  · split
    · exact am_sub_cond (am_sub_ix (fun _ => hk _))
    · exact am_sub_none
  · exact am_sub_none
theorem am_sub_len {a : Value} {k : Value → am_R} (hk : ∀ v, am_sub K (k v)) : am_sub K (am_len G ks a k) := by
  unfold am_len; split
  · split
    · exact hk _
    · exact am_sub_none
  · split
    · exact hk _
    · exact am_sub_none
  · exact am_sub_none
theorem am_sub_text {j : Int32} {st : List Value} (hK : K cs) : am_sub K (am_text G M i cs ls st ks h nc ns j) := am_sub_cond (am_sub_ix (fun _ => am_sub_go hK))
theorem am_sub_math {g : Int32 → Int32 → Int32} (hK : K cs) : am_sub K (am_math M i cs ls st ks h nc ns g) := by
  unfold am_math; split
  · exact am_sub_cond (am_sub_go hK)
  · exact am_sub_none
theorem am_sub_new (hK : K cs) : am_sub K (am_new G M ex i cs ls st ks h nc ns) := am_sub_cond (am_sub_go hK)
theorem am_sub_newA {ty : FieldType} (hK : K cs) : am_sub K (am_newA M ex ty i cs ls st ks h nc ns) := by
  unfold am_newA; split
  · exact am_sub_ite (am_sub_cond (am_sub_go hK))
  · exact am_sub_none
theorem am_sub_calls {a : Nat} {as rest : List Value} (hK : K cs) : am_sub K (am_calls ex M M' a rc i cs ls as rest ks h nc ns) := by
  unfold am_calls
  refine am_sub_cond ?_
  split
  · exact am_sub_none
  · exact am_sub_cond (am_sub_go hK)
theorem am_sub_callV (hK : K cs) : am_sub K (am_callV ex G M rc i cs ls st ks h nc ns) := by
  unfold am_callV; split
  · exact am_sub_none
  · split
    · split
      · exact am_sub_cond (am_sub_calls hK)
      · exact am_sub_none
    · exact am_sub_none
theorem am_sub_callS (hK : K cs) : am_sub K (am_callS ex G M rc i cs ls st ks h nc ns) := by
  unfold am_callS; split
  · exact am_sub_none
  · exact am_sub_cond (am_sub_calls hK)
set_option maxHeartbeats 4000000 in
theorem am_one_sub (h1 : K cs) (h2 : ∀ a, K (M.2.2.2.drop a)) (h3 : ∀ t, K (am_seek M.2.2.2 t)) : am_sub K (am_one am_φ ex G rc M (i :: cs, ls, st, ks, h, nc, ns)) := by
  obtain ⟨pc, len, ins, an, v0⟩ := i
  cases ins <;> (simp only [am_one]) <;> (repeat' (first | with_reducible exact am_sub_none | with_reducible exact am_sub_go h1 | with_reducible exact am_sub_jp h2 | with_reducible exact am_sub_sw h3 | with_reducible exact am_sub_br h1 h2 | with_reducible exact am_sub_callV h1 | with_reducible exact am_sub_callS h1 | with_reducible exact am_sub_math h1 | with_reducible exact am_sub_new h1 | with_reducible exact am_sub_newA h1 | with_reducible exact am_sub_text h1 | with_reducible refine am_sub_cond ?_ | with_reducible refine am_sub_ite ?_ | with_reducible refine am_sub_pI (fun v => ?_) | with_reducible refine am_sub_pL (fun v => ?_) | with_reducible refine am_sub_pR (fun v => ?_) | with_reducible refine am_sub_ald (fun v => ?_) | with_reducible refine am_sub_ast (fun v => ?_) | with_reducible refine am_sub_aald (fun v => ?_) | with_reducible refine am_sub_aast (fun v => ?_) | with_reducible refine am_sub_len (fun v => ?_) | dsimp only [am_φ] | split))
end AMQ
/-! ===== THE CONTRACT OUT OF A RUN ===== -/
theorem am_met_of {l : Launch} {D : va_G} {cl : List vw_C} {B : Nat} {x : Nat → Nat} {ex : Bool} {TX : State → Prop} {G : am_G} {M : am_M} {as : List Value} {ks : List am_k} {h : am_H} {r : am_O} (hok : am_okM G M) (hhd : (M.2.2.2.head?.map (fun i => i.1)) = some 0) (hcat : am_cat as ≤ M.2.1.1)
    (hW : ∀ (p : Program) (e : Env) (s : State) (m : MethodId) (args : Array Value) (below : List Frame) (meth : Method) (c : Code), am_C p s m args meth c M → TX s → B ≤ s.heap.size → am_Wf p l e (am_rm M) s m args below meth c D cl B x ex M.2.1.1 (MQ below (am_Qc D cl B x ex r) args s M.2.2.1.2.2.1 M.2.2.1.2.2.2 (fun q => B ≤ q)) (M.2.2.2, lv_args 0 as, [], ks, h, 0, 0)) : am_Met l D cl B x ex TX M as ks h r := by
  obtain ⟨m1, m2, m3, m4, m5⟩ := hok
  refine Met.ofW (cc := M.1.2.2) (maxL := M.2.1.1) (ret := M.2.1.2.1) m4 rfl ?_
  intro p e s m args below meth c s₁ Bd hml hv
  obtain ⟨rfl, hrel, hB, hT⟩ := hv
  have hts := atoms_spec (ws := am_ws M) Bd.pre
  have C : am_C p s m (as.map (am_c B x)).toArray meth c M := ⟨Bd.exec, Bd.bytes, hml, Bd.returns, findClass_of_methodNamed Bd.named, fun w hw => hts w (List.mem_cons_of_mem _ hw), Bd.notSynchronized, (name_of_methodNamed Bd.named Bd.method).1⟩
  have hl := lv_entry (as.map (am_c B x)) (n := M.2.1.1) (by rw [am_lg_len]; exact Nat.le_trans (Nat.le_of_eq (by rw [am_cat, am_cat_map])) hcat)
  rw [lg_entry_eq]
  rw [am_lv_args] at hl
  cases hcd : M.2.2.2 with
  | nil => rw [hcd] at hhd; cases hhd
  | cons j rr =>
    rw [hcd] at hhd
    have hj : j.1 = 0 := Option.some.inj hhd
    have h1 := hW p e s m (as.map (am_c B x)).toArray below meth c C hT hB s.heap [] _ j rr hcd hrel va_S.rf hl
    rw [hj] at h1
    exact h1
set_option maxHeartbeats 4000000 in
theorem am_run_ok {l : Launch} {D : va_G} {cl : List vw_C} {B : Nat} {x : Nat → Nat} {ex : Bool} {TX : State → Prop} {tx : Nat → Int32} (hTm : am_TXm B TX) (hTx : am_TxOK l B x tx TX) :
    ∀ (n : Nat) (G : am_G) (M : am_M) (f : am_F) (r : am_O), am_okG cl G → am_okP cl G → G.2.2.2.1 = tx → (∀ i ∈ f.1, am_okI cl G M i) → (∀ i ∈ M.2.2.2, am_okI cl G M i) → am_run am_φ ex n G M f = some r →
      ∀ (p : Program) (e : Env) (s : State) (m : MethodId) (args : Array Value) (below : List Frame) (meth : Method) (c : Code), am_C p s m args meth c M → am_scr G B x s → TX s → B ≤ s.heap.size →
        am_Wf p l e (am_rm M) s m args below meth c D cl B x ex M.2.1.1 (MQ below (am_Qc D cl B x ex r) args s M.2.2.1.2.2.1 M.2.2.1.2.2.2 (fun q => B ≤ q)) f := by
  intro n
  induction n with
  | zero => intro G M f r _ _ _ _ _ h; cases h
  | succ n ih =>
    intro G M f r hG hP htx hf hM hrun p e s m args below meth c C hscr hT hB
    obtain ⟨fc, ls, st, ks, h, nc, ns⟩ := f
    cases fc with
    | nil => intro H locs L j r' hj; cases hj
    | cons i cs =>
    have hun : am_run am_φ ex (n + 1) G M (i :: cs, ls, st, ks, h, nc, ns) = (match am_end M (i :: cs, ls, st, ks, h, nc, ns) with
      | some r => some r
      | none => match am_one am_φ ex G (fun a as ks h => match G.1 a with
          | none => none
          | some M' => am_run am_φ ex n (am_noS G) M' (M'.2.2.2, lv_args 0 as, [], ks, h, 0, 0)) M (i :: cs, ls, st, ks, h, nc, ns) with
        | some (.inl f') => am_run am_φ ex n G M f'
        | _ => none) := rfl
    rw [hun] at hrun
    have hi : am_okI cl G M i := hf i List.mem_cons_self
    split at hrun
    · rename_i r0 hend
      cases hrun
      exact am_fin C hi hend
    · split at hrun
      · rename_i f' hone
        obtain ⟨hTA, hTB⟩ := hTx p e s m args below meth c M C hT hB
        refine am_step C hG rfl hB hTm hT hTA (by rw [htx]; exact hTB) hscr ?_ hi hone ?_
        · intro a M' as ks h r hM' hcat hrc
          rw [hM'] at hrc
          dsimp only at hrc
          obtain ⟨q1, q2, q3⟩ := hP a M' hM'
          refine am_met_of (G := G) q1 q3 hcat ?_
          intro p e s m args below meth c C hT hB
          exact ih (am_noS G) M' _ r hG hP htx q2 q2 hrc p e s m args below meth c C (fun L xs h9 => by cases h9) hT hB
        · refine ih G M f' r hG hP htx ?_ hM hrun p e s m args below meth c C hscr hT hB
          exact am_one_sub (K := fun l => ∀ i ∈ l, am_okI cl G M i) (fun j hj => hf j (List.mem_cons_of_mem _ hj)) (fun a j hj => hM j (List.mem_of_mem_drop hj)) (fun t j hj => hM j (am_seek_sub hj)) f' hone
      · cases hrun
/-- a method's contract, for every heap and arguments at which the small machine comes to an end -/
theorem am_met {l : Launch} {D : va_G} {cl : List vw_C} {B : Nat} {x : Nat → Nat} {ex : Bool} {TX : State → Prop} (hTm : am_TXm B TX) {G : am_G} (hTx : am_TxOK l B x G.2.2.2.1 TX) (hG : am_okG cl G) (hP : am_okP cl G) {a n : Nat} {M : am_M} {as : List Value} {ks : List am_k} {h : am_H} {r : am_O} (hM : G.1 a = some M) (hcat : am_cat as ≤ M.2.1.1)
    (hrun : am_run am_φ ex n (am_noS G) M (M.2.2.2, lv_args 0 as, [], ks, h, 0, 0) = some r) : am_Met l D cl B x ex TX M as ks h r := by
  obtain ⟨q1, q2, q3⟩ := hP a M hM
  refine am_met_of (G := G) q1 q3 hcat ?_
  intro p e s m args below meth c C hT hB
  exact am_run_ok hTm hTx n (am_noS G) M _ r hG hP rfl q2 q2 hrun p e s m args below meth c C (fun L xs h9 => by cases h9) hT hB
end
