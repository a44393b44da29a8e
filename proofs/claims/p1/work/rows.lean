section
-- ===== PART A: goes FIRST, ahead of the names: the tables' words, and 'selects' of the private methods out of them =====
/-- a private method of a class that the tables say can be made, by its rows of tables_1 -/
def lw_okq (q : MethodName × Nat) : Prop := (q.1.cls ≠ "java/lang/invoke/MethodHandle" ∧ q.1.cls ≠ "java/lang/invoke/VarHandle") ∧ Cond.instantiable q.1.cls q.2 ∈ tables_1 ∧ Cond.privateMethod q.1 ∈ tables_1 ∧ Cond.instanceMethod q.1 ∈ tables_1
theorem lw_p0 : lw_okq (⟨"AirBed", "putFour", "(I)V"⟩, 16) := ⟨⟨by decide +kernel, by decide +kernel⟩, List.mem_of_getElem? (i := 25) (by decide +kernel), List.mem_of_getElem? (i := 598) (by decide +kernel), List.mem_of_getElem? (i := 599) (by decide +kernel)⟩
theorem lw_p1 : lw_okq (⟨"AirBed$Reader", "advance", "()V"⟩, 15) := ⟨⟨by decide +kernel, by decide +kernel⟩, List.mem_of_getElem? (i := 243) (by decide +kernel), List.mem_of_getElem? (i := 611) (by decide +kernel), List.mem_of_getElem? (i := 612) (by decide +kernel)⟩
theorem lw_p2 : lw_okq (⟨"AirBed$Reader", "advanceWord", "()V"⟩, 15) := ⟨⟨by decide +kernel, by decide +kernel⟩, List.mem_of_getElem? (i := 243) (by decide +kernel), List.mem_of_getElem? (i := 618) (by decide +kernel), List.mem_of_getElem? (i := 619) (by decide +kernel)⟩
theorem lw_p3 : lw_okq (⟨"AirBed$Reader", "advanceNumber", "()V"⟩, 15) := ⟨⟨by decide +kernel, by decide +kernel⟩, List.mem_of_getElem? (i := 243) (by decide +kernel), List.mem_of_getElem? (i := 625) (by decide +kernel), List.mem_of_getElem? (i := 626) (by decide +kernel)⟩
theorem lw_p4 : lw_okq (⟨"AirBed$Reader", "advanceSign", "()V"⟩, 15) := ⟨⟨by decide +kernel, by decide +kernel⟩, List.mem_of_getElem? (i := 243) (by decide +kernel), List.mem_of_getElem? (i := 633) (by decide +kernel), List.mem_of_getElem? (i := 634) (by decide +kernel)⟩
theorem lw_p5 : lw_okq (⟨"AirBed$Reader", "follows", "(C)Z"⟩, 15) := ⟨⟨by decide +kernel, by decide +kernel⟩, List.mem_of_getElem? (i := 243) (by decide +kernel), List.mem_of_getElem? (i := 637) (by decide +kernel), List.mem_of_getElem? (i := 638) (by decide +kernel)⟩
theorem lw_p6 : lw_okq (⟨"AirBed$Reader", "readLine", "()V"⟩, 15) := ⟨⟨by decide +kernel, by decide +kernel⟩, List.mem_of_getElem? (i := 243) (by decide +kernel), List.mem_of_getElem? (i := 641) (by decide +kernel), List.mem_of_getElem? (i := 642) (by decide +kernel)⟩
theorem lw_p7 : lw_okq (⟨"AirBed$Reader", "readBed", "()V"⟩, 15) := ⟨⟨by decide +kernel, by decide +kernel⟩, List.mem_of_getElem? (i := 243) (by decide +kernel), List.mem_of_getElem? (i := 645) (by decide +kernel), List.mem_of_getElem? (i := 646) (by decide +kernel)⟩
theorem lw_p8 : lw_okq (⟨"AirBed$Reader", "tellOnce", "(I)V"⟩, 15) := ⟨⟨by decide +kernel, by decide +kernel⟩, List.mem_of_getElem? (i := 243) (by decide +kernel), List.mem_of_getElem? (i := 649) (by decide +kernel), List.mem_of_getElem? (i := 650) (by decide +kernel)⟩
theorem lw_p9 : lw_okq (⟨"AirBed$Reader", "fail", "(I)V"⟩, 15) := ⟨⟨by decide +kernel, by decide +kernel⟩, List.mem_of_getElem? (i := 243) (by decide +kernel), List.mem_of_getElem? (i := 653) (by decide +kernel), List.mem_of_getElem? (i := 654) (by decide +kernel)⟩
theorem lw_p10 : lw_okq (⟨"AirBed$Reader", "readNumber", "(II)I"⟩, 15) := ⟨⟨by decide +kernel, by decide +kernel⟩, List.mem_of_getElem? (i := 243) (by decide +kernel), List.mem_of_getElem? (i := 657) (by decide +kernel), List.mem_of_getElem? (i := 658) (by decide +kernel)⟩
theorem lw_p11 : lw_okq (⟨"AirBed$Reader", "readBlower", "()V"⟩, 15) := ⟨⟨by decide +kernel, by decide +kernel⟩, List.mem_of_getElem? (i := 243) (by decide +kernel), List.mem_of_getElem? (i := 661) (by decide +kernel), List.mem_of_getElem? (i := 662) (by decide +kernel)⟩
theorem lw_p12 : lw_okq (⟨"AirBed$Reader", "tellOneMore", "(II)Z"⟩, 15) := ⟨⟨by decide +kernel, by decide +kernel⟩, List.mem_of_getElem? (i := 243) (by decide +kernel), List.mem_of_getElem? (i := 665) (by decide +kernel), List.mem_of_getElem? (i := 666) (by decide +kernel)⟩
theorem lw_p13 : lw_okq (⟨"AirBed$Reader", "isOwnWord", "()Z"⟩, 15) := ⟨⟨by decide +kernel, by decide +kernel⟩, List.mem_of_getElem? (i := 243) (by decide +kernel), List.mem_of_getElem? (i := 669) (by decide +kernel), List.mem_of_getElem? (i := 670) (by decide +kernel)⟩
theorem lw_p14 : lw_okq (⟨"AirBed$Reader", "readTurn", "()V"⟩, 15) := ⟨⟨by decide +kernel, by decide +kernel⟩, List.mem_of_getElem? (i := 243) (by decide +kernel), List.mem_of_getElem? (i := 677) (by decide +kernel), List.mem_of_getElem? (i := 678) (by decide +kernel)⟩
theorem lw_p15 : lw_okq (⟨"AirBed$Reader", "readPump", "()V"⟩, 15) := ⟨⟨by decide +kernel, by decide +kernel⟩, List.mem_of_getElem? (i := 243) (by decide +kernel), List.mem_of_getElem? (i := 681) (by decide +kernel), List.mem_of_getElem? (i := 682) (by decide +kernel)⟩
def lw_privs_1 : List (MethodName × Nat) := [(⟨"AirBed", "putFour", "(I)V"⟩, 16), (⟨"AirBed$Reader", "advance", "()V"⟩, 15), (⟨"AirBed$Reader", "advanceWord", "()V"⟩, 15), (⟨"AirBed$Reader", "advanceNumber", "()V"⟩, 15), (⟨"AirBed$Reader", "advanceSign", "()V"⟩, 15), (⟨"AirBed$Reader", "follows", "(C)Z"⟩, 15), (⟨"AirBed$Reader", "readLine", "()V"⟩, 15), (⟨"AirBed$Reader", "readBed", "()V"⟩, 15), (⟨"AirBed$Reader", "tellOnce", "(I)V"⟩, 15), (⟨"AirBed$Reader", "fail", "(I)V"⟩, 15), (⟨"AirBed$Reader", "readNumber", "(II)I"⟩, 15), (⟨"AirBed$Reader", "readBlower", "()V"⟩, 15), (⟨"AirBed$Reader", "tellOneMore", "(II)Z"⟩, 15), (⟨"AirBed$Reader", "isOwnWord", "()Z"⟩, 15), (⟨"AirBed$Reader", "readTurn", "()V"⟩, 15), (⟨"AirBed$Reader", "readPump", "()V"⟩, 15)]
theorem lw_r1 : ∀ q ∈ lw_privs_1, lw_okq q := List.forall_mem_cons.mpr ⟨lw_p0, List.forall_mem_cons.mpr ⟨lw_p1, List.forall_mem_cons.mpr ⟨lw_p2, List.forall_mem_cons.mpr ⟨lw_p3, List.forall_mem_cons.mpr ⟨lw_p4, List.forall_mem_cons.mpr ⟨lw_p5, List.forall_mem_cons.mpr ⟨lw_p6, List.forall_mem_cons.mpr ⟨lw_p7, List.forall_mem_cons.mpr ⟨lw_p8, List.forall_mem_cons.mpr ⟨lw_p9, List.forall_mem_cons.mpr ⟨lw_p10, List.forall_mem_cons.mpr ⟨lw_p11, List.forall_mem_cons.mpr ⟨lw_p12, List.forall_mem_cons.mpr ⟨lw_p13, List.forall_mem_cons.mpr ⟨lw_p14, List.forall_mem_cons.mpr ⟨lw_p15, fun _ h => absurd h List.not_mem_nil⟩⟩⟩⟩⟩⟩⟩⟩⟩⟩⟩⟩⟩⟩⟩⟩
theorem lw_p16 : lw_okq (⟨"AirBed$Reader", "readLeak", "()V"⟩, 15) := ⟨⟨by decide +kernel, by decide +kernel⟩, List.mem_of_getElem? (i := 243) (by decide +kernel), List.mem_of_getElem? (i := 685) (by decide +kernel), List.mem_of_getElem? (i := 686) (by decide +kernel)⟩
theorem lw_p17 : lw_okq (⟨"AirBed$Reader", "readTrial", "()V"⟩, 15) := ⟨⟨by decide +kernel, by decide +kernel⟩, List.mem_of_getElem? (i := 243) (by decide +kernel), List.mem_of_getElem? (i := 689) (by decide +kernel), List.mem_of_getElem? (i := 690) (by decide +kernel)⟩
theorem lw_p18 : lw_okq (⟨"AirBed$Reader", "readSlip", "()V"⟩, 15) := ⟨⟨by decide +kernel, by decide +kernel⟩, List.mem_of_getElem? (i := 243) (by decide +kernel), List.mem_of_getElem? (i := 697) (by decide +kernel), List.mem_of_getElem? (i := 698) (by decide +kernel)⟩
theorem lw_p19 : lw_okq (⟨"AirBed$Reader", "readSeed", "()V"⟩, 15) := ⟨⟨by decide +kernel, by decide +kernel⟩, List.mem_of_getElem? (i := 243) (by decide +kernel), List.mem_of_getElem? (i := 701) (by decide +kernel), List.mem_of_getElem? (i := 702) (by decide +kernel)⟩
theorem lw_p20 : lw_okq (⟨"AirBed$Reader", "readLaw", "()V"⟩, 15) := ⟨⟨by decide +kernel, by decide +kernel⟩, List.mem_of_getElem? (i := 243) (by decide +kernel), List.mem_of_getElem? (i := 706) (by decide +kernel), List.mem_of_getElem? (i := 707) (by decide +kernel)⟩
theorem lw_p21 : lw_okq (⟨"AirBed$Reader", "readJoin", "()I"⟩, 15) := ⟨⟨by decide +kernel, by decide +kernel⟩, List.mem_of_getElem? (i := 243) (by decide +kernel), List.mem_of_getElem? (i := 714) (by decide +kernel), List.mem_of_getElem? (i := 715) (by decide +kernel)⟩
theorem lw_p22 : lw_okq (⟨"AirBed$Reader", "isMark", "(C)Z"⟩, 15) := ⟨⟨by decide +kernel, by decide +kernel⟩, List.mem_of_getElem? (i := 243) (by decide +kernel), List.mem_of_getElem? (i := 718) (by decide +kernel), List.mem_of_getElem? (i := 719) (by decide +kernel)⟩
theorem lw_p23 : lw_okq (⟨"AirBed$Reader", "settleDownTo", "(I)V"⟩, 15) := ⟨⟨by decide +kernel, by decide +kernel⟩, List.mem_of_getElem? (i := 243) (by decide +kernel), List.mem_of_getElem? (i := 722) (by decide +kernel), List.mem_of_getElem? (i := 723) (by decide +kernel)⟩
theorem lw_p24 : lw_okq (⟨"AirBed$Reader", "countKnot", "()V"⟩, 15) := ⟨⟨by decide +kernel, by decide +kernel⟩, List.mem_of_getElem? (i := 243) (by decide +kernel), List.mem_of_getElem? (i := 736) (by decide +kernel), List.mem_of_getElem? (i := 737) (by decide +kernel)⟩
theorem lw_p25 : lw_okq (⟨"AirBed$Reader", "hold", "(I)V"⟩, 15) := ⟨⟨by decide +kernel, by decide +kernel⟩, List.mem_of_getElem? (i := 243) (by decide +kernel), List.mem_of_getElem? (i := 740) (by decide +kernel), List.mem_of_getElem? (i := 741) (by decide +kernel)⟩
theorem lw_p26 : lw_okq (⟨"AirBed$Reader", "readValue", "(I)I"⟩, 15) := ⟨⟨by decide +kernel, by decide +kernel⟩, List.mem_of_getElem? (i := 243) (by decide +kernel), List.mem_of_getElem? (i := 744) (by decide +kernel), List.mem_of_getElem? (i := 745) (by decide +kernel)⟩
theorem lw_p27 : lw_okq (⟨"AirBed$Reader", "readEnd", "()V"⟩, 15) := ⟨⟨by decide +kernel, by decide +kernel⟩, List.mem_of_getElem? (i := 243) (by decide +kernel), List.mem_of_getElem? (i := 752) (by decide +kernel), List.mem_of_getElem? (i := 753) (by decide +kernel)⟩
theorem lw_p28 : lw_okq (⟨"AirBed", "isBlower", "(I)Z"⟩, 16) := ⟨⟨by decide +kernel, by decide +kernel⟩, List.mem_of_getElem? (i := 25) (by decide +kernel), List.mem_of_getElem? (i := 827) (by decide +kernel), List.mem_of_getElem? (i := 828) (by decide +kernel)⟩
theorem lw_p29 : lw_okq (⟨"AirBed$Sim", "sinceAt", "(II)I"⟩, 7) := ⟨⟨by decide +kernel, by decide +kernel⟩, List.mem_of_getElem? (i := 442) (by decide +kernel), List.mem_of_getElem? (i := 839) (by decide +kernel), List.mem_of_getElem? (i := 840) (by decide +kernel)⟩
theorem lw_p30 : lw_okq (⟨"AirBed$Sim", "fillBy", "(I)V"⟩, 7) := ⟨⟨by decide +kernel, by decide +kernel⟩, List.mem_of_getElem? (i := 442) (by decide +kernel), List.mem_of_getElem? (i := 872) (by decide +kernel), List.mem_of_getElem? (i := 873) (by decide +kernel)⟩
theorem lw_p31 : lw_okq (⟨"AirBed", "settle", "()I"⟩, 16) := ⟨⟨by decide +kernel, by decide +kernel⟩, List.mem_of_getElem? (i := 25) (by decide +kernel), List.mem_of_getElem? (i := 876) (by decide +kernel), List.mem_of_getElem? (i := 877) (by decide +kernel)⟩
def lw_privs_2 : List (MethodName × Nat) := [(⟨"AirBed$Reader", "readLeak", "()V"⟩, 15), (⟨"AirBed$Reader", "readTrial", "()V"⟩, 15), (⟨"AirBed$Reader", "readSlip", "()V"⟩, 15), (⟨"AirBed$Reader", "readSeed", "()V"⟩, 15), (⟨"AirBed$Reader", "readLaw", "()V"⟩, 15), (⟨"AirBed$Reader", "readJoin", "()I"⟩, 15), (⟨"AirBed$Reader", "isMark", "(C)Z"⟩, 15), (⟨"AirBed$Reader", "settleDownTo", "(I)V"⟩, 15), (⟨"AirBed$Reader", "countKnot", "()V"⟩, 15), (⟨"AirBed$Reader", "hold", "(I)V"⟩, 15), (⟨"AirBed$Reader", "readValue", "(I)I"⟩, 15), (⟨"AirBed$Reader", "readEnd", "()V"⟩, 15), (⟨"AirBed", "isBlower", "(I)Z"⟩, 16), (⟨"AirBed$Sim", "sinceAt", "(II)I"⟩, 7), (⟨"AirBed$Sim", "fillBy", "(I)V"⟩, 7), (⟨"AirBed", "settle", "()I"⟩, 16)]
theorem lw_r2 : ∀ q ∈ lw_privs_2, lw_okq q := List.forall_mem_cons.mpr ⟨lw_p16, List.forall_mem_cons.mpr ⟨lw_p17, List.forall_mem_cons.mpr ⟨lw_p18, List.forall_mem_cons.mpr ⟨lw_p19, List.forall_mem_cons.mpr ⟨lw_p20, List.forall_mem_cons.mpr ⟨lw_p21, List.forall_mem_cons.mpr ⟨lw_p22, List.forall_mem_cons.mpr ⟨lw_p23, List.forall_mem_cons.mpr ⟨lw_p24, List.forall_mem_cons.mpr ⟨lw_p25, List.forall_mem_cons.mpr ⟨lw_p26, List.forall_mem_cons.mpr ⟨lw_p27, List.forall_mem_cons.mpr ⟨lw_p28, List.forall_mem_cons.mpr ⟨lw_p29, List.forall_mem_cons.mpr ⟨lw_p30, List.forall_mem_cons.mpr ⟨lw_p31, fun _ h => absurd h List.not_mem_nil⟩⟩⟩⟩⟩⟩⟩⟩⟩⟩⟩⟩⟩⟩⟩⟩
theorem lw_p32 : lw_okq (⟨"AirBed$Rules", "goRounds", "()V"⟩, 3) := ⟨⟨by decide +kernel, by decide +kernel⟩, List.mem_of_getElem? (i := 482) (by decide +kernel), List.mem_of_getElem? (i := 914) (by decide +kernel), List.mem_of_getElem? (i := 915) (by decide +kernel)⟩
theorem lw_p33 : lw_okq (⟨"AirBed$Rules", "goByRule", "(I)V"⟩, 3) := ⟨⟨by decide +kernel, by decide +kernel⟩, List.mem_of_getElem? (i := 482) (by decide +kernel), List.mem_of_getElem? (i := 941) (by decide +kernel), List.mem_of_getElem? (i := 942) (by decide +kernel)⟩
theorem lw_p34 : lw_okq (⟨"AirBed$Rules", "strongest", "()I"⟩, 3) := ⟨⟨by decide +kernel, by decide +kernel⟩, List.mem_of_getElem? (i := 482) (by decide +kernel), List.mem_of_getElem? (i := 945) (by decide +kernel), List.mem_of_getElem? (i := 946) (by decide +kernel)⟩
theorem lw_p35 : lw_okq (⟨"AirBed$Rules", "isStronger", "(II)Z"⟩, 3) := ⟨⟨by decide +kernel, by decide +kernel⟩, List.mem_of_getElem? (i := 482) (by decide +kernel), List.mem_of_getElem? (i := 950) (by decide +kernel), List.mem_of_getElem? (i := 951) (by decide +kernel)⟩
theorem lw_p36 : lw_okq (⟨"AirBed$Rules", "firstAwake", "(I)I"⟩, 3) := ⟨⟨by decide +kernel, by decide +kernel⟩, List.mem_of_getElem? (i := 482) (by decide +kernel), List.mem_of_getElem? (i := 958) (by decide +kernel), List.mem_of_getElem? (i := 959) (by decide +kernel)⟩
theorem lw_p37 : lw_okq (⟨"AirBed$Best", "offer", "(LAirBed$State;IIIII)V"⟩, 4) := ⟨⟨by decide +kernel, by decide +kernel⟩, List.mem_of_getElem? (i := 500) (by decide +kernel), List.mem_of_getElem? (i := 976) (by decide +kernel), List.mem_of_getElem? (i := 977) (by decide +kernel)⟩
theorem lw_p38 : lw_okq (⟨"AirBed$Best", "tryBehind", "(III)V"⟩, 4) := ⟨⟨by decide +kernel, by decide +kernel⟩, List.mem_of_getElem? (i := 500) (by decide +kernel), List.mem_of_getElem? (i := 980) (by decide +kernel), List.mem_of_getElem? (i := 981) (by decide +kernel)⟩
theorem lw_p39 : lw_okq (⟨"AirBed", "secondsAbove", "(III)I"⟩, 16) := ⟨⟨by decide +kernel, by decide +kernel⟩, List.mem_of_getElem? (i := 25) (by decide +kernel), List.mem_of_getElem? (i := 988) (by decide +kernel), List.mem_of_getElem? (i := 989) (by decide +kernel)⟩
theorem lw_p40 : lw_okq (⟨"AirBed", "timesUp", "(IIII)I"⟩, 16) := ⟨⟨by decide +kernel, by decide +kernel⟩, List.mem_of_getElem? (i := 25) (by decide +kernel), List.mem_of_getElem? (i := 1003) (by decide +kernel), List.mem_of_getElem? (i := 1004) (by decide +kernel)⟩
theorem lw_p41 : lw_okq (⟨"AirBed", "mustRise", "(III)Z"⟩, 16) := ⟨⟨by decide +kernel, by decide +kernel⟩, List.mem_of_getElem? (i := 25) (by decide +kernel), List.mem_of_getElem? (i := 1007) (by decide +kernel), List.mem_of_getElem? (i := 1008) (by decide +kernel)⟩
theorem lw_p42 : lw_okq (⟨"AirBed$Search", "findNext", "(LAirBed$Plan;)Z"⟩, 4) := ⟨⟨by decide +kernel, by decide +kernel⟩, List.mem_of_getElem? (i := 520) (by decide +kernel), List.mem_of_getElem? (i := 1037) (by decide +kernel), List.mem_of_getElem? (i := 1038) (by decide +kernel)⟩
theorem lw_p43 : lw_okq (⟨"AirBed", "isRule", "(I)Z"⟩, 16) := ⟨⟨by decide +kernel, by decide +kernel⟩, List.mem_of_getElem? (i := 25) (by decide +kernel), List.mem_of_getElem? (i := 1061) (by decide +kernel), List.mem_of_getElem? (i := 1062) (by decide +kernel)⟩
theorem lw_p44 : lw_okq (⟨"AirBed", "fitsLeak", "(I)Z"⟩, 16) := ⟨⟨by decide +kernel, by decide +kernel⟩, List.mem_of_getElem? (i := 25) (by decide +kernel), List.mem_of_getElem? (i := 1097) (by decide +kernel), List.mem_of_getElem? (i := 1098) (by decide +kernel)⟩
theorem lw_p45 : lw_okq (⟨"AirBed", "wouldBeSeen", "(II)Z"⟩, 16) := ⟨⟨by decide +kernel, by decide +kernel⟩, List.mem_of_getElem? (i := 25) (by decide +kernel), List.mem_of_getElem? (i := 1106) (by decide +kernel), List.mem_of_getElem? (i := 1107) (by decide +kernel)⟩
theorem lw_p46 : lw_okq (⟨"java/lang/Throwable", "fillInStackTrace", "(I)Ljava/lang/Throwable;"⟩, 6) := ⟨⟨by decide +kernel, by decide +kernel⟩, List.mem_of_getElem? (i := 1186) (by decide +kernel), List.mem_of_getElem? (i := 1184) (by decide +kernel), List.mem_of_getElem? (i := 1185) (by decide +kernel)⟩
theorem lw_p47 : lw_okq (⟨"AirBedModel", "plain", "()V"⟩, 81) := ⟨⟨by decide +kernel, by decide +kernel⟩, List.mem_of_getElem? (i := 1235) (by decide +kernel), List.mem_of_getElem? (i := 1241) (by decide +kernel), List.mem_of_getElem? (i := 1242) (by decide +kernel)⟩
def lw_privs_3 : List (MethodName × Nat) := [(⟨"AirBed$Rules", "goRounds", "()V"⟩, 3), (⟨"AirBed$Rules", "goByRule", "(I)V"⟩, 3), (⟨"AirBed$Rules", "strongest", "()I"⟩, 3), (⟨"AirBed$Rules", "isStronger", "(II)Z"⟩, 3), (⟨"AirBed$Rules", "firstAwake", "(I)I"⟩, 3), (⟨"AirBed$Best", "offer", "(LAirBed$State;IIIII)V"⟩, 4), (⟨"AirBed$Best", "tryBehind", "(III)V"⟩, 4), (⟨"AirBed", "secondsAbove", "(III)I"⟩, 16), (⟨"AirBed", "timesUp", "(IIII)I"⟩, 16), (⟨"AirBed", "mustRise", "(III)Z"⟩, 16), (⟨"AirBed$Search", "findNext", "(LAirBed$Plan;)Z"⟩, 4), (⟨"AirBed", "isRule", "(I)Z"⟩, 16), (⟨"AirBed", "fitsLeak", "(I)Z"⟩, 16), (⟨"AirBed", "wouldBeSeen", "(II)Z"⟩, 16), (⟨"java/lang/Throwable", "fillInStackTrace", "(I)Ljava/lang/Throwable;"⟩, 6), (⟨"AirBedModel", "plain", "()V"⟩, 81)]
theorem lw_r3 : ∀ q ∈ lw_privs_3, lw_okq q := List.forall_mem_cons.mpr ⟨lw_p32, List.forall_mem_cons.mpr ⟨lw_p33, List.forall_mem_cons.mpr ⟨lw_p34, List.forall_mem_cons.mpr ⟨lw_p35, List.forall_mem_cons.mpr ⟨lw_p36, List.forall_mem_cons.mpr ⟨lw_p37, List.forall_mem_cons.mpr ⟨lw_p38, List.forall_mem_cons.mpr ⟨lw_p39, List.forall_mem_cons.mpr ⟨lw_p40, List.forall_mem_cons.mpr ⟨lw_p41, List.forall_mem_cons.mpr ⟨lw_p42, List.forall_mem_cons.mpr ⟨lw_p43, List.forall_mem_cons.mpr ⟨lw_p44, List.forall_mem_cons.mpr ⟨lw_p45, List.forall_mem_cons.mpr ⟨lw_p46, List.forall_mem_cons.mpr ⟨lw_p47, fun _ h => absurd h List.not_mem_nil⟩⟩⟩⟩⟩⟩⟩⟩⟩⟩⟩⟩⟩⟩⟩⟩
theorem lw_p48 : lw_okq (⟨"AirBedModel", "keepText", "()V"⟩, 81) := ⟨⟨by decide +kernel, by decide +kernel⟩, List.mem_of_getElem? (i := 1235) (by decide +kernel), List.mem_of_getElem? (i := 1245) (by decide +kernel), List.mem_of_getElem? (i := 1246) (by decide +kernel)⟩
theorem lw_p49 : lw_okq (⟨"AirBedModel", "begin", "()V"⟩, 81) := ⟨⟨by decide +kernel, by decide +kernel⟩, List.mem_of_getElem? (i := 1235) (by decide +kernel), List.mem_of_getElem? (i := 1252) (by decide +kernel), List.mem_of_getElem? (i := 1253) (by decide +kernel)⟩
theorem lw_p50 : lw_okq (⟨"AirBedModel", "atFirst", "(I)V"⟩, 81) := ⟨⟨by decide +kernel, by decide +kernel⟩, List.mem_of_getElem? (i := 1235) (by decide +kernel), List.mem_of_getElem? (i := 1256) (by decide +kernel), List.mem_of_getElem? (i := 1257) (by decide +kernel)⟩
theorem lw_p51 : lw_okq (⟨"AirBedModel", "number1", "(I)I"⟩, 81) := ⟨⟨by decide +kernel, by decide +kernel⟩, List.mem_of_getElem? (i := 1235) (by decide +kernel), List.mem_of_getElem? (i := 1260) (by decide +kernel), List.mem_of_getElem? (i := 1261) (by decide +kernel)⟩
theorem lw_p52 : lw_okq (⟨"AirBedModel", "token", "()V"⟩, 81) := ⟨⟨by decide +kernel, by decide +kernel⟩, List.mem_of_getElem? (i := 1235) (by decide +kernel), List.mem_of_getElem? (i := 1524) (by decide +kernel), List.mem_of_getElem? (i := 1525) (by decide +kernel)⟩
theorem lw_p53 : lw_okq (⟨"AirBedModel", "isSmall", "(I)Z"⟩, 81) := ⟨⟨by decide +kernel, by decide +kernel⟩, List.mem_of_getElem? (i := 1235) (by decide +kernel), List.mem_of_getElem? (i := 1528) (by decide +kernel), List.mem_of_getElem? (i := 1529) (by decide +kernel)⟩
theorem lw_p54 : lw_okq (⟨"AirBedModel", "wordAt", "(II)I"⟩, 81) := ⟨⟨by decide +kernel, by decide +kernel⟩, List.mem_of_getElem? (i := 1235) (by decide +kernel), List.mem_of_getElem? (i := 1532) (by decide +kernel), List.mem_of_getElem? (i := 1533) (by decide +kernel)⟩
theorem lw_p55 : lw_okq (⟨"AirBedModel", "packed", "(II)I"⟩, 81) := ⟨⟨by decide +kernel, by decide +kernel⟩, List.mem_of_getElem? (i := 1235) (by decide +kernel), List.mem_of_getElem? (i := 1536) (by decide +kernel), List.mem_of_getElem? (i := 1537) (by decide +kernel)⟩
theorem lw_p56 : lw_okq (⟨"AirBedModel", "isDigit", "(I)Z"⟩, 81) := ⟨⟨by decide +kernel, by decide +kernel⟩, List.mem_of_getElem? (i := 1235) (by decide +kernel), List.mem_of_getElem? (i := 1540) (by decide +kernel), List.mem_of_getElem? (i := 1541) (by decide +kernel)⟩
theorem lw_p57 : lw_okq (⟨"AirBedModel", "signToken", "()V"⟩, 81) := ⟨⟨by decide +kernel, by decide +kernel⟩, List.mem_of_getElem? (i := 1235) (by decide +kernel), List.mem_of_getElem? (i := 1545) (by decide +kernel), List.mem_of_getElem? (i := 1546) (by decide +kernel)⟩
theorem lw_p58 : lw_okq (⟨"AirBedModel", "lineRead", "()Z"⟩, 81) := ⟨⟨by decide +kernel, by decide +kernel⟩, List.mem_of_getElem? (i := 1235) (by decide +kernel), List.mem_of_getElem? (i := 1549) (by decide +kernel), List.mem_of_getElem? (i := 1550) (by decide +kernel)⟩
theorem lw_p59 : lw_okq (⟨"AirBedModel", "wrong", "(I)Z"⟩, 81) := ⟨⟨by decide +kernel, by decide +kernel⟩, List.mem_of_getElem? (i := 1235) (by decide +kernel), List.mem_of_getElem? (i := 1553) (by decide +kernel), List.mem_of_getElem? (i := 1554) (by decide +kernel)⟩
theorem lw_p60 : lw_okq (⟨"AirBedModel", "bedLine", "()Z"⟩, 81) := ⟨⟨by decide +kernel, by decide +kernel⟩, List.mem_of_getElem? (i := 1235) (by decide +kernel), List.mem_of_getElem? (i := 1557) (by decide +kernel), List.mem_of_getElem? (i := 1558) (by decide +kernel)⟩
theorem lw_p61 : lw_okq (⟨"AirBedModel", "isOnce", "(I)Z"⟩, 81) := ⟨⟨by decide +kernel, by decide +kernel⟩, List.mem_of_getElem? (i := 1235) (by decide +kernel), List.mem_of_getElem? (i := 1561) (by decide +kernel), List.mem_of_getElem? (i := 1562) (by decide +kernel)⟩
theorem lw_p62 : lw_okq (⟨"AirBedModel", "number", "(II)Z"⟩, 81) := ⟨⟨by decide +kernel, by decide +kernel⟩, List.mem_of_getElem? (i := 1235) (by decide +kernel), List.mem_of_getElem? (i := 1565) (by decide +kernel), List.mem_of_getElem? (i := 1566) (by decide +kernel)⟩
theorem lw_p63 : lw_okq (⟨"AirBedModel", "blowerLine", "()Z"⟩, 81) := ⟨⟨by decide +kernel, by decide +kernel⟩, List.mem_of_getElem? (i := 1235) (by decide +kernel), List.mem_of_getElem? (i := 1572) (by decide +kernel), List.mem_of_getElem? (i := 1573) (by decide +kernel)⟩
def lw_privs_4 : List (MethodName × Nat) := [(⟨"AirBedModel", "keepText", "()V"⟩, 81), (⟨"AirBedModel", "begin", "()V"⟩, 81), (⟨"AirBedModel", "atFirst", "(I)V"⟩, 81), (⟨"AirBedModel", "number1", "(I)I"⟩, 81), (⟨"AirBedModel", "token", "()V"⟩, 81), (⟨"AirBedModel", "isSmall", "(I)Z"⟩, 81), (⟨"AirBedModel", "wordAt", "(II)I"⟩, 81), (⟨"AirBedModel", "packed", "(II)I"⟩, 81), (⟨"AirBedModel", "isDigit", "(I)Z"⟩, 81), (⟨"AirBedModel", "signToken", "()V"⟩, 81), (⟨"AirBedModel", "lineRead", "()Z"⟩, 81), (⟨"AirBedModel", "wrong", "(I)Z"⟩, 81), (⟨"AirBedModel", "bedLine", "()Z"⟩, 81), (⟨"AirBedModel", "isOnce", "(I)Z"⟩, 81), (⟨"AirBedModel", "number", "(II)Z"⟩, 81), (⟨"AirBedModel", "blowerLine", "()Z"⟩, 81)]
theorem lw_r4 : ∀ q ∈ lw_privs_4, lw_okq q := List.forall_mem_cons.mpr ⟨lw_p48, List.forall_mem_cons.mpr ⟨lw_p49, List.forall_mem_cons.mpr ⟨lw_p50, List.forall_mem_cons.mpr ⟨lw_p51, List.forall_mem_cons.mpr ⟨lw_p52, List.forall_mem_cons.mpr ⟨lw_p53, List.forall_mem_cons.mpr ⟨lw_p54, List.forall_mem_cons.mpr ⟨lw_p55, List.forall_mem_cons.mpr ⟨lw_p56, List.forall_mem_cons.mpr ⟨lw_p57, List.forall_mem_cons.mpr ⟨lw_p58, List.forall_mem_cons.mpr ⟨lw_p59, List.forall_mem_cons.mpr ⟨lw_p60, List.forall_mem_cons.mpr ⟨lw_p61, List.forall_mem_cons.mpr ⟨lw_p62, List.forall_mem_cons.mpr ⟨lw_p63, fun _ h => absurd h List.not_mem_nil⟩⟩⟩⟩⟩⟩⟩⟩⟩⟩⟩⟩⟩⟩⟩⟩
theorem lw_p64 : lw_okq (⟨"AirBedModel", "newName", "([III)Z"⟩, 81) := ⟨⟨by decide +kernel, by decide +kernel⟩, List.mem_of_getElem? (i := 1235) (by decide +kernel), List.mem_of_getElem? (i := 1576) (by decide +kernel), List.mem_of_getElem? (i := 1577) (by decide +kernel)⟩
theorem lw_p65 : lw_okq (⟨"AirBedModel", "turnLine", "()Z"⟩, 81) := ⟨⟨by decide +kernel, by decide +kernel⟩, List.mem_of_getElem? (i := 1235) (by decide +kernel), List.mem_of_getElem? (i := 1583) (by decide +kernel), List.mem_of_getElem? (i := 1584) (by decide +kernel)⟩
theorem lw_p66 : lw_okq (⟨"AirBedModel", "pumpLine", "()Z"⟩, 81) := ⟨⟨by decide +kernel, by decide +kernel⟩, List.mem_of_getElem? (i := 1235) (by decide +kernel), List.mem_of_getElem? (i := 1587) (by decide +kernel), List.mem_of_getElem? (i := 1588) (by decide +kernel)⟩
theorem lw_p67 : lw_okq (⟨"AirBedModel", "leakLine", "()Z"⟩, 81) := ⟨⟨by decide +kernel, by decide +kernel⟩, List.mem_of_getElem? (i := 1235) (by decide +kernel), List.mem_of_getElem? (i := 1591) (by decide +kernel), List.mem_of_getElem? (i := 1592) (by decide +kernel)⟩
theorem lw_p68 : lw_okq (⟨"AirBedModel", "trialLine", "()Z"⟩, 81) := ⟨⟨by decide +kernel, by decide +kernel⟩, List.mem_of_getElem? (i := 1235) (by decide +kernel), List.mem_of_getElem? (i := 1595) (by decide +kernel), List.mem_of_getElem? (i := 1596) (by decide +kernel)⟩
theorem lw_p69 : lw_okq (⟨"AirBedModel", "sumRead", "()Z"⟩, 81) := ⟨⟨by decide +kernel, by decide +kernel⟩, List.mem_of_getElem? (i := 1235) (by decide +kernel), List.mem_of_getElem? (i := 1599) (by decide +kernel), List.mem_of_getElem? (i := 1600) (by decide +kernel)⟩
theorem lw_p70 : lw_okq (⟨"AirBedModel", "isSign", "(I)Z"⟩, 81) := ⟨⟨by decide +kernel, by decide +kernel⟩, List.mem_of_getElem? (i := 1235) (by decide +kernel), List.mem_of_getElem? (i := 1603) (by decide +kernel), List.mem_of_getElem? (i := 1604) (by decide +kernel)⟩
theorem lw_p71 : lw_okq (⟨"AirBedModel", "leafRead", "()Z"⟩, 81) := ⟨⟨by decide +kernel, by decide +kernel⟩, List.mem_of_getElem? (i := 1235) (by decide +kernel), List.mem_of_getElem? (i := 1607) (by decide +kernel), List.mem_of_getElem? (i := 1608) (by decide +kernel)⟩
theorem lw_p72 : lw_okq (⟨"AirBedModel", "waitsFor", "(I)V"⟩, 81) := ⟨⟨by decide +kernel, by decide +kernel⟩, List.mem_of_getElem? (i := 1235) (by decide +kernel), List.mem_of_getElem? (i := 1611) (by decide +kernel), List.mem_of_getElem? (i := 1612) (by decide +kernel)⟩
theorem lw_p73 : lw_okq (⟨"AirBedModel", "isKey", "(I)Z"⟩, 81) := ⟨⟨by decide +kernel, by decide +kernel⟩, List.mem_of_getElem? (i := 1235) (by decide +kernel), List.mem_of_getElem? (i := 1615) (by decide +kernel), List.mem_of_getElem? (i := 1616) (by decide +kernel)⟩
theorem lw_p74 : lw_okq (⟨"AirBedModel", "isCounted", "()Z"⟩, 81) := ⟨⟨by decide +kernel, by decide +kernel⟩, List.mem_of_getElem? (i := 1235) (by decide +kernel), List.mem_of_getElem? (i := 1619) (by decide +kernel), List.mem_of_getElem? (i := 1620) (by decide +kernel)⟩
theorem lw_p75 : lw_okq (⟨"AirBedModel", "nameMet", "()I"⟩, 81) := ⟨⟨by decide +kernel, by decide +kernel⟩, List.mem_of_getElem? (i := 1235) (by decide +kernel), List.mem_of_getElem? (i := 1623) (by decide +kernel), List.mem_of_getElem? (i := 1624) (by decide +kernel)⟩
theorem lw_p76 : lw_okq (⟨"AirBedModel", "grown", "(III)V"⟩, 81) := ⟨⟨by decide +kernel, by decide +kernel⟩, List.mem_of_getElem? (i := 1235) (by decide +kernel), List.mem_of_getElem? (i := 1627) (by decide +kernel), List.mem_of_getElem? (i := 1628) (by decide +kernel)⟩
theorem lw_p77 : lw_okq (⟨"AirBedModel", "signs", "()Z"⟩, 81) := ⟨⟨by decide +kernel, by decide +kernel⟩, List.mem_of_getElem? (i := 1235) (by decide +kernel), List.mem_of_getElem? (i := 1631) (by decide +kernel), List.mem_of_getElem? (i := 1632) (by decide +kernel)⟩
theorem lw_p78 : lw_okq (⟨"AirBedModel", "bind", "(I)V"⟩, 81) := ⟨⟨by decide +kernel, by decide +kernel⟩, List.mem_of_getElem? (i := 1235) (by decide +kernel), List.mem_of_getElem? (i := 1635) (by decide +kernel), List.mem_of_getElem? (i := 1636) (by decide +kernel)⟩
theorem lw_p79 : lw_okq (⟨"AirBedModel", "dropHeld", "()I"⟩, 81) := ⟨⟨by decide +kernel, by decide +kernel⟩, List.mem_of_getElem? (i := 1235) (by decide +kernel), List.mem_of_getElem? (i := 1642) (by decide +kernel), List.mem_of_getElem? (i := 1643) (by decide +kernel)⟩
def lw_privs_5 : List (MethodName × Nat) := [(⟨"AirBedModel", "newName", "([III)Z"⟩, 81), (⟨"AirBedModel", "turnLine", "()Z"⟩, 81), (⟨"AirBedModel", "pumpLine", "()Z"⟩, 81), (⟨"AirBedModel", "leakLine", "()Z"⟩, 81), (⟨"AirBedModel", "trialLine", "()Z"⟩, 81), (⟨"AirBedModel", "sumRead", "()Z"⟩, 81), (⟨"AirBedModel", "isSign", "(I)Z"⟩, 81), (⟨"AirBedModel", "leafRead", "()Z"⟩, 81), (⟨"AirBedModel", "waitsFor", "(I)V"⟩, 81), (⟨"AirBedModel", "isKey", "(I)Z"⟩, 81), (⟨"AirBedModel", "isCounted", "()Z"⟩, 81), (⟨"AirBedModel", "nameMet", "()I"⟩, 81), (⟨"AirBedModel", "grown", "(III)V"⟩, 81), (⟨"AirBedModel", "signs", "()Z"⟩, 81), (⟨"AirBedModel", "bind", "(I)V"⟩, 81), (⟨"AirBedModel", "dropHeld", "()I"⟩, 81)]
theorem lw_r5 : ∀ q ∈ lw_privs_5, lw_okq q := List.forall_mem_cons.mpr ⟨lw_p64, List.forall_mem_cons.mpr ⟨lw_p65, List.forall_mem_cons.mpr ⟨lw_p66, List.forall_mem_cons.mpr ⟨lw_p67, List.forall_mem_cons.mpr ⟨lw_p68, List.forall_mem_cons.mpr ⟨lw_p69, List.forall_mem_cons.mpr ⟨lw_p70, List.forall_mem_cons.mpr ⟨lw_p71, List.forall_mem_cons.mpr ⟨lw_p72, List.forall_mem_cons.mpr ⟨lw_p73, List.forall_mem_cons.mpr ⟨lw_p74, List.forall_mem_cons.mpr ⟨lw_p75, List.forall_mem_cons.mpr ⟨lw_p76, List.forall_mem_cons.mpr ⟨lw_p77, List.forall_mem_cons.mpr ⟨lw_p78, List.forall_mem_cons.mpr ⟨lw_p79, fun _ h => absurd h List.not_mem_nil⟩⟩⟩⟩⟩⟩⟩⟩⟩⟩⟩⟩⟩⟩⟩⟩
theorem lw_p80 : lw_okq (⟨"AirBedModel", "isBlower", "(I)Z"⟩, 81) := ⟨⟨by decide +kernel, by decide +kernel⟩, List.mem_of_getElem? (i := 1235) (by decide +kernel), List.mem_of_getElem? (i := 1658) (by decide +kernel), List.mem_of_getElem? (i := 1659) (by decide +kernel)⟩
theorem lw_p81 : lw_okq (⟨"AirBedModel", "fails", "(I)I"⟩, 81) := ⟨⟨by decide +kernel, by decide +kernel⟩, List.mem_of_getElem? (i := 1235) (by decide +kernel), List.mem_of_getElem? (i := 1662) (by decide +kernel), List.mem_of_getElem? (i := 1663) (by decide +kernel)⟩
theorem lw_p82 : lw_okq (⟨"AirBedModel", "loadOf", "(II)I"⟩, 81) := ⟨⟨by decide +kernel, by decide +kernel⟩, List.mem_of_getElem? (i := 1235) (by decide +kernel), List.mem_of_getElem? (i := 1671) (by decide +kernel), List.mem_of_getElem? (i := 1672) (by decide +kernel)⟩
theorem lw_p83 : lw_okq (⟨"AirBedModel", "layNames", "(IIII)V"⟩, 81) := ⟨⟨by decide +kernel, by decide +kernel⟩, List.mem_of_getElem? (i := 1235) (by decide +kernel), List.mem_of_getElem? (i := 1675) (by decide +kernel), List.mem_of_getElem? (i := 1676) (by decide +kernel)⟩
theorem lw_p84 : lw_okq (⟨"AirBedModel", "boundLaw", "(III)I"⟩, 81) := ⟨⟨by decide +kernel, by decide +kernel⟩, List.mem_of_getElem? (i := 1235) (by decide +kernel), List.mem_of_getElem? (i := 1679) (by decide +kernel), List.mem_of_getElem? (i := 1680) (by decide +kernel)⟩
theorem lw_p85 : lw_okq (⟨"AirBedModel", "lawOf", "(I)J"⟩, 81) := ⟨⟨by decide +kernel, by decide +kernel⟩, List.mem_of_getElem? (i := 1235) (by decide +kernel), List.mem_of_getElem? (i := 1683) (by decide +kernel), List.mem_of_getElem? (i := 1684) (by decide +kernel)⟩
theorem lw_p86 : lw_okq (⟨"AirBedModel", "valueOf", "(I)J"⟩, 81) := ⟨⟨by decide +kernel, by decide +kernel⟩, List.mem_of_getElem? (i := 1235) (by decide +kernel), List.mem_of_getElem? (i := 1687) (by decide +kernel), List.mem_of_getElem? (i := 1688) (by decide +kernel)⟩
theorem lw_p87 : lw_okq (⟨"AirBedModel", "bounded", "(J)J"⟩, 81) := ⟨⟨by decide +kernel, by decide +kernel⟩, List.mem_of_getElem? (i := 1235) (by decide +kernel), List.mem_of_getElem? (i := 1691) (by decide +kernel), List.mem_of_getElem? (i := 1692) (by decide +kernel)⟩
theorem lw_p88 : lw_okq (⟨"AirBedModel", "times", "(JJ)J"⟩, 81) := ⟨⟨by decide +kernel, by decide +kernel⟩, List.mem_of_getElem? (i := 1235) (by decide +kernel), List.mem_of_getElem? (i := 1697) (by decide +kernel), List.mem_of_getElem? (i := 1698) (by decide +kernel)⟩
theorem lw_p89 : lw_okq (⟨"AirBedModel", "copyBed", "(II)V"⟩, 81) := ⟨⟨by decide +kernel, by decide +kernel⟩, List.mem_of_getElem? (i := 1235) (by decide +kernel), List.mem_of_getElem? (i := 1708) (by decide +kernel), List.mem_of_getElem? (i := 1709) (by decide +kernel)⟩
theorem lw_p90 : lw_okq (⟨"AirBedModel", "handsOver", "(II)Z"⟩, 81) := ⟨⟨by decide +kernel, by decide +kernel⟩, List.mem_of_getElem? (i := 1235) (by decide +kernel), List.mem_of_getElem? (i := 1712) (by decide +kernel), List.mem_of_getElem? (i := 1713) (by decide +kernel)⟩
theorem lw_p91 : lw_okq (⟨"AirBedModel", "aSecond", "(IZZ)V"⟩, 81) := ⟨⟨by decide +kernel, by decide +kernel⟩, List.mem_of_getElem? (i := 1235) (by decide +kernel), List.mem_of_getElem? (i := 1716) (by decide +kernel), List.mem_of_getElem? (i := 1717) (by decide +kernel)⟩
theorem lw_p92 : lw_okq (⟨"AirBedModel", "fullNext", "(IZZ)I"⟩, 81) := ⟨⟨by decide +kernel, by decide +kernel⟩, List.mem_of_getElem? (i := 1235) (by decide +kernel), List.mem_of_getElem? (i := 1720) (by decide +kernel), List.mem_of_getElem? (i := 1721) (by decide +kernel)⟩
theorem lw_p93 : lw_okq (⟨"AirBedModel", "leakOf", "()I"⟩, 81) := ⟨⟨by decide +kernel, by decide +kernel⟩, List.mem_of_getElem? (i := 1235) (by decide +kernel), List.mem_of_getElem? (i := 1724) (by decide +kernel), List.mem_of_getElem? (i := 1725) (by decide +kernel)⟩
theorem lw_p94 : lw_okq (⟨"AirBedModel", "isDizzy", "(II)Z"⟩, 81) := ⟨⟨by decide +kernel, by decide +kernel⟩, List.mem_of_getElem? (i := 1235) (by decide +kernel), List.mem_of_getElem? (i := 1731) (by decide +kernel), List.mem_of_getElem? (i := 1732) (by decide +kernel)⟩
theorem lw_p95 : lw_okq (⟨"AirBedModel", "rests", "(II)V"⟩, 81) := ⟨⟨by decide +kernel, by decide +kernel⟩, List.mem_of_getElem? (i := 1235) (by decide +kernel), List.mem_of_getElem? (i := 1735) (by decide +kernel), List.mem_of_getElem? (i := 1736) (by decide +kernel)⟩
def lw_privs_6 : List (MethodName × Nat) := [(⟨"AirBedModel", "isBlower", "(I)Z"⟩, 81), (⟨"AirBedModel", "fails", "(I)I"⟩, 81), (⟨"AirBedModel", "loadOf", "(II)I"⟩, 81), (⟨"AirBedModel", "layNames", "(IIII)V"⟩, 81), (⟨"AirBedModel", "boundLaw", "(III)I"⟩, 81), (⟨"AirBedModel", "lawOf", "(I)J"⟩, 81), (⟨"AirBedModel", "valueOf", "(I)J"⟩, 81), (⟨"AirBedModel", "bounded", "(J)J"⟩, 81), (⟨"AirBedModel", "times", "(JJ)J"⟩, 81), (⟨"AirBedModel", "copyBed", "(II)V"⟩, 81), (⟨"AirBedModel", "handsOver", "(II)Z"⟩, 81), (⟨"AirBedModel", "aSecond", "(IZZ)V"⟩, 81), (⟨"AirBedModel", "fullNext", "(IZZ)I"⟩, 81), (⟨"AirBedModel", "leakOf", "()I"⟩, 81), (⟨"AirBedModel", "isDizzy", "(II)Z"⟩, 81), (⟨"AirBedModel", "rests", "(II)V"⟩, 81)]
theorem lw_r6 : ∀ q ∈ lw_privs_6, lw_okq q := List.forall_mem_cons.mpr ⟨lw_p80, List.forall_mem_cons.mpr ⟨lw_p81, List.forall_mem_cons.mpr ⟨lw_p82, List.forall_mem_cons.mpr ⟨lw_p83, List.forall_mem_cons.mpr ⟨lw_p84, List.forall_mem_cons.mpr ⟨lw_p85, List.forall_mem_cons.mpr ⟨lw_p86, List.forall_mem_cons.mpr ⟨lw_p87, List.forall_mem_cons.mpr ⟨lw_p88, List.forall_mem_cons.mpr ⟨lw_p89, List.forall_mem_cons.mpr ⟨lw_p90, List.forall_mem_cons.mpr ⟨lw_p91, List.forall_mem_cons.mpr ⟨lw_p92, List.forall_mem_cons.mpr ⟨lw_p93, List.forall_mem_cons.mpr ⟨lw_p94, List.forall_mem_cons.mpr ⟨lw_p95, fun _ h => absurd h List.not_mem_nil⟩⟩⟩⟩⟩⟩⟩⟩⟩⟩⟩⟩⟩⟩⟩⟩
theorem lw_p96 : lw_okq (⟨"AirBedModel", "fills", "(II)V"⟩, 81) := ⟨⟨by decide +kernel, by decide +kernel⟩, List.mem_of_getElem? (i := 1235) (by decide +kernel), List.mem_of_getElem? (i := 1739) (by decide +kernel), List.mem_of_getElem? (i := 1740) (by decide +kernel)⟩
theorem lw_p97 : lw_okq (⟨"AirBedModel", "breathOf", "(II)I"⟩, 81) := ⟨⟨by decide +kernel, by decide +kernel⟩, List.mem_of_getElem? (i := 1235) (by decide +kernel), List.mem_of_getElem? (i := 1743) (by decide +kernel), List.mem_of_getElem? (i := 1744) (by decide +kernel)⟩
theorem lw_p98 : lw_okq (⟨"AirBedModel", "remember", "()V"⟩, 81) := ⟨⟨by decide +kernel, by decide +kernel⟩, List.mem_of_getElem? (i := 1235) (by decide +kernel), List.mem_of_getElem? (i := 1747) (by decide +kernel), List.mem_of_getElem? (i := 1748) (by decide +kernel)⟩
theorem lw_p99 : lw_okq (⟨"AirBedModel", "put", "([II)V"⟩, 81) := ⟨⟨by decide +kernel, by decide +kernel⟩, List.mem_of_getElem? (i := 1235) (by decide +kernel), List.mem_of_getElem? (i := 1751) (by decide +kernel), List.mem_of_getElem? (i := 1752) (by decide +kernel)⟩
theorem lw_p100 : lw_okq (⟨"AirBedModel", "goRounds", "()Z"⟩, 81) := ⟨⟨by decide +kernel, by decide +kernel⟩, List.mem_of_getElem? (i := 1235) (by decide +kernel), List.mem_of_getElem? (i := 1775) (by decide +kernel), List.mem_of_getElem? (i := 1776) (by decide +kernel)⟩
theorem lw_p101 : lw_okq (⟨"AirBedModel", "breathes", "(IZ)Z"⟩, 81) := ⟨⟨by decide +kernel, by decide +kernel⟩, List.mem_of_getElem? (i := 1235) (by decide +kernel), List.mem_of_getElem? (i := 1779) (by decide +kernel), List.mem_of_getElem? (i := 1780) (by decide +kernel)⟩
theorem lw_p102 : lw_okq (⟨"AirBedModel", "ticks", "(Z)Z"⟩, 81) := ⟨⟨by decide +kernel, by decide +kernel⟩, List.mem_of_getElem? (i := 1235) (by decide +kernel), List.mem_of_getElem? (i := 1783) (by decide +kernel), List.mem_of_getElem? (i := 1784) (by decide +kernel)⟩
theorem lw_p103 : lw_okq (⟨"AirBedModel", "layBest", "(I)V"⟩, 81) := ⟨⟨by decide +kernel, by decide +kernel⟩, List.mem_of_getElem? (i := 1235) (by decide +kernel), List.mem_of_getElem? (i := 1791) (by decide +kernel), List.mem_of_getElem? (i := 1792) (by decide +kernel)⟩
theorem lw_p104 : lw_okq (⟨"AirBedModel", "hands", "(II)V"⟩, 81) := ⟨⟨by decide +kernel, by decide +kernel⟩, List.mem_of_getElem? (i := 1235) (by decide +kernel), List.mem_of_getElem? (i := 1795) (by decide +kernel), List.mem_of_getElem? (i := 1796) (by decide +kernel)⟩
theorem lw_p105 : lw_okq (⟨"AirBedModel", "canBreathe", "(II)Z"⟩, 81) := ⟨⟨by decide +kernel, by decide +kernel⟩, List.mem_of_getElem? (i := 1235) (by decide +kernel), List.mem_of_getElem? (i := 1799) (by decide +kernel), List.mem_of_getElem? (i := 1800) (by decide +kernel)⟩
theorem lw_p106 : lw_okq (⟨"AirBedModel", "takeBest", "(IIIII)V"⟩, 81) := ⟨⟨by decide +kernel, by decide +kernel⟩, List.mem_of_getElem? (i := 1235) (by decide +kernel), List.mem_of_getElem? (i := 1803) (by decide +kernel), List.mem_of_getElem? (i := 1804) (by decide +kernel)⟩
theorem lw_p107 : lw_okq (⟨"AirBedModel", "secondTurns", "(II)V"⟩, 81) := ⟨⟨by decide +kernel, by decide +kernel⟩, List.mem_of_getElem? (i := 1235) (by decide +kernel), List.mem_of_getElem? (i := 1807) (by decide +kernel), List.mem_of_getElem? (i := 1808) (by decide +kernel)⟩
theorem lw_p108 : lw_okq (⟨"AirBedModel", "lastsBy", "(III)I"⟩, 81) := ⟨⟨by decide +kernel, by decide +kernel⟩, List.mem_of_getElem? (i := 1235) (by decide +kernel), List.mem_of_getElem? (i := 1815) (by decide +kernel), List.mem_of_getElem? (i := 1816) (by decide +kernel)⟩
theorem lw_p109 : lw_okq (⟨"AirBedModel", "layUps", "(IIII)V"⟩, 81) := ⟨⟨by decide +kernel, by decide +kernel⟩, List.mem_of_getElem? (i := 1235) (by decide +kernel), List.mem_of_getElem? (i := 1830) (by decide +kernel), List.mem_of_getElem? (i := 1831) (by decide +kernel)⟩
theorem lw_p110 : lw_okq (⟨"AirBedModel", "getsUp", "(III)Z"⟩, 81) := ⟨⟨by decide +kernel, by decide +kernel⟩, List.mem_of_getElem? (i := 1235) (by decide +kernel), List.mem_of_getElem? (i := 1834) (by decide +kernel), List.mem_of_getElem? (i := 1835) (by decide +kernel)⟩
theorem lw_p111 : lw_okq (⟨"AirBedModel", "ruleTime", "(I)I"⟩, 81) := ⟨⟨by decide +kernel, by decide +kernel⟩, List.mem_of_getElem? (i := 1235) (by decide +kernel), List.mem_of_getElem? (i := 1867) (by decide +kernel), List.mem_of_getElem? (i := 1868) (by decide +kernel)⟩
def lw_privs_7 : List (MethodName × Nat) := [(⟨"AirBedModel", "fills", "(II)V"⟩, 81), (⟨"AirBedModel", "breathOf", "(II)I"⟩, 81), (⟨"AirBedModel", "remember", "()V"⟩, 81), (⟨"AirBedModel", "put", "([II)V"⟩, 81), (⟨"AirBedModel", "goRounds", "()Z"⟩, 81), (⟨"AirBedModel", "breathes", "(IZ)Z"⟩, 81), (⟨"AirBedModel", "ticks", "(Z)Z"⟩, 81), (⟨"AirBedModel", "layBest", "(I)V"⟩, 81), (⟨"AirBedModel", "hands", "(II)V"⟩, 81), (⟨"AirBedModel", "canBreathe", "(II)Z"⟩, 81), (⟨"AirBedModel", "takeBest", "(IIIII)V"⟩, 81), (⟨"AirBedModel", "secondTurns", "(II)V"⟩, 81), (⟨"AirBedModel", "lastsBy", "(III)I"⟩, 81), (⟨"AirBedModel", "layUps", "(IIII)V"⟩, 81), (⟨"AirBedModel", "getsUp", "(III)Z"⟩, 81), (⟨"AirBedModel", "ruleTime", "(I)I"⟩, 81)]
theorem lw_r7 : ∀ q ∈ lw_privs_7, lw_okq q := List.forall_mem_cons.mpr ⟨lw_p96, List.forall_mem_cons.mpr ⟨lw_p97, List.forall_mem_cons.mpr ⟨lw_p98, List.forall_mem_cons.mpr ⟨lw_p99, List.forall_mem_cons.mpr ⟨lw_p100, List.forall_mem_cons.mpr ⟨lw_p101, List.forall_mem_cons.mpr ⟨lw_p102, List.forall_mem_cons.mpr ⟨lw_p103, List.forall_mem_cons.mpr ⟨lw_p104, List.forall_mem_cons.mpr ⟨lw_p105, List.forall_mem_cons.mpr ⟨lw_p106, List.forall_mem_cons.mpr ⟨lw_p107, List.forall_mem_cons.mpr ⟨lw_p108, List.forall_mem_cons.mpr ⟨lw_p109, List.forall_mem_cons.mpr ⟨lw_p110, List.forall_mem_cons.mpr ⟨lw_p111, fun _ h => absurd h List.not_mem_nil⟩⟩⟩⟩⟩⟩⟩⟩⟩⟩⟩⟩⟩⟩⟩⟩
theorem lw_p112 : lw_okq (⟨"AirBedModel", "nextBy", "(II)I"⟩, 81) := ⟨⟨by decide +kernel, by decide +kernel⟩, List.mem_of_getElem? (i := 1235) (by decide +kernel), List.mem_of_getElem? (i := 1871) (by decide +kernel), List.mem_of_getElem? (i := 1872) (by decide +kernel)⟩
theorem lw_p113 : lw_okq (⟨"AirBedModel", "noted", "(IIII)I"⟩, 81) := ⟨⟨by decide +kernel, by decide +kernel⟩, List.mem_of_getElem? (i := 1235) (by decide +kernel), List.mem_of_getElem? (i := 1883) (by decide +kernel), List.mem_of_getElem? (i := 1884) (by decide +kernel)⟩
theorem lw_p114 : lw_okq (⟨"AirBedModel", "knownBy", "()I"⟩, 81) := ⟨⟨by decide +kernel, by decide +kernel⟩, List.mem_of_getElem? (i := 1235) (by decide +kernel), List.mem_of_getElem? (i := 1899) (by decide +kernel), List.mem_of_getElem? (i := 1900) (by decide +kernel)⟩
theorem lw_p115 : lw_okq (⟨"AirBedModel", "isSo", "()Z"⟩, 81) := ⟨⟨by decide +kernel, by decide +kernel⟩, List.mem_of_getElem? (i := 1235) (by decide +kernel), List.mem_of_getElem? (i := 1903) (by decide +kernel), List.mem_of_getElem? (i := 1904) (by decide +kernel)⟩
theorem lw_p116 : lw_okq (⟨"AirBedModel", "take", "([II)V"⟩, 81) := ⟨⟨by decide +kernel, by decide +kernel⟩, List.mem_of_getElem? (i := 1235) (by decide +kernel), List.mem_of_getElem? (i := 1919) (by decide +kernel), List.mem_of_getElem? (i := 1920) (by decide +kernel)⟩
def lw_privs_8 : List (MethodName × Nat) := [(⟨"AirBedModel", "nextBy", "(II)I"⟩, 81), (⟨"AirBedModel", "noted", "(IIII)I"⟩, 81), (⟨"AirBedModel", "knownBy", "()I"⟩, 81), (⟨"AirBedModel", "isSo", "()Z"⟩, 81), (⟨"AirBedModel", "take", "([II)V"⟩, 81)]
theorem lw_r8 : ∀ q ∈ lw_privs_8, lw_okq q := List.forall_mem_cons.mpr ⟨lw_p112, List.forall_mem_cons.mpr ⟨lw_p113, List.forall_mem_cons.mpr ⟨lw_p114, List.forall_mem_cons.mpr ⟨lw_p115, List.forall_mem_cons.mpr ⟨lw_p116, fun _ h => absurd h List.not_mem_nil⟩⟩⟩⟩⟩
def lw_privs : List (MethodName × Nat) := lw_privs_1 ++ (lw_privs_2 ++ (lw_privs_3 ++ (lw_privs_4 ++ (lw_privs_5 ++ (lw_privs_6 ++ (lw_privs_7 ++ (lw_privs_8)))))))
def lw_tbl : List Cond := k2_sels lw_privs ++ tables_1
theorem lw_privs_ok : ∀ q ∈ lw_privs, lw_okq q := by
  show ∀ q ∈ lw_privs_1 ++ (lw_privs_2 ++ (lw_privs_3 ++ (lw_privs_4 ++ (lw_privs_5 ++ (lw_privs_6 ++ (lw_privs_7 ++ (lw_privs_8))))))), lw_okq q
  exact List.forall_mem_append.mpr ⟨lw_r1, List.forall_mem_append.mpr ⟨lw_r2, List.forall_mem_append.mpr ⟨lw_r3, List.forall_mem_append.mpr ⟨lw_r4, List.forall_mem_append.mpr ⟨lw_r5, List.forall_mem_append.mpr ⟨lw_r6, List.forall_mem_append.mpr ⟨lw_r7, lw_r8⟩⟩⟩⟩⟩⟩⟩
/-- the words of the tables that a callee may be given -/
def am_ts : List Cond := lw_tbl.filter goodWord
theorem am_ts_in {i : Nat} {w : Cond} (h : lw_tbl[i]? = some w) (hg : goodWord w = true) : w ∈ am_ts := List.mem_filter.mpr ⟨List.mem_of_getElem? h, hg⟩
theorem am_ts_good {w : Cond} (h : w ∈ am_ts) : goodWord w = true := (List.mem_filter.mp h).2
theorem am_ts_tbl {w : Cond} (h : w ∈ am_ts) : w ∈ lw_tbl := (List.mem_filter.mp h).1
/-- the words that a callee can't be given: they come by what stands beside the heap -/
def am_nest : Cond → Bool
  | .fieldLinkNest .. => true
  | .methodLinkNest .. => true
  | .arrayOver (.object _) => true
  | _ => false
def am_tn : List Cond := lw_tbl.filter am_nest
theorem am_tn_in {i : Nat} {w : Cond} (h : lw_tbl[i]? = some w) (hg : am_nest w = true) : w ∈ am_tn := List.mem_filter.mpr ⟨List.mem_of_getElem? h, hg⟩
theorem am_tn_tbl {w : Cond} (h : w ∈ am_tn) : w ∈ lw_tbl := (List.mem_filter.mp h).1
theorem am_tn_nest {w : Cond} (h : w ∈ am_tn) : am_nest w = true := (List.mem_filter.mp h).2
end
section
/-! ===== BEGIN words of one list among another's, by their places ===== -/
theorem goodIn_r {big : List Cond} (ws : List Cond) (ps : List Nat) (hp : ws = ps.filterMap (fun i => big[i]?)) (h : ws.all goodWord = true) : GoodIn big ws := by
  intro w hw
  have h1 := List.all_eq_true.mp h w hw
  rw [hp] at hw
  obtain ⟨i, -, hi⟩ := List.mem_filterMap.mp hw
  have hm : w ∈ big := by first | exact List.mem_of_getElem? hi | exact List.getElem?_mem hi
  exact ⟨hm, good_of_word h1⟩
theorem goodIn_app {big a b : List Cond} (ha : GoodIn big a) (hb : GoodIn big b) : GoodIn big (a ++ b) := fun w h => (List.mem_append.mp h).elim (ha w) (hb w)
theorem goodIn_ca {big a b : List Cond} {c : Cond} (ha : GoodIn big (c :: a)) (hb : GoodIn big b) : GoodIn big (c :: (a ++ b)) := fun w h => (List.mem_cons.mp h).elim (fun e => ha w (List.mem_cons.mpr (Or.inl e))) (fun h => (List.mem_append.mp h).elim (fun h => ha w (List.mem_cons.mpr (Or.inr h))) (hb w))
theorem goodIn_sub {big ws : List Cond} (hm : ∀ w ∈ ws, w ∈ big) (h : ws.all goodWord = true) : GoodIn big ws := fun w hw => ⟨hm w hw, good_of_word (List.all_eq_true.mp h w hw)⟩
/-! ===== END ===== -/

/-! ===== BEGIN exceptions that leave a method, and their catching by the caller (launches without stack traces) ===== -/
section VXA
/-! The laws vx_back, vx_callV, vx_callS, vx_callSW, vx_throw0, vx_throwS follow proofs of the library, with one case more: JvmDerived/Free/Laws.lean (Back.of_free), Shelf42/LK1.lean (callV, callS), Shelf/KitTraced.lean (throwNew0V, throwNewS). -/
/-- where a method has thrown q: the class by its name, the cell, what was written, the world -/
def vx_T (XC : String → State → State → Prop) (st : State) (q : Addr) (t : State) (mc ms : Nat) (free : Addr → Prop) : Prop :=
  ∃ (E : String) (ce : Cell) (L : List Loc), XC E st t ∧ t.heap[q]? = some ce ∧ ce.vm = .none ∧ st.vm.findClass E = some ce.cls ∧ st.WarmedH t.vm ∧ st.sameButNew ({ t with vm := st.vm } : State) L mc ms ∧ ∀ z ∈ L, free z.base
def vx_Q (Qc : Array Value → State → Outcome → State → Prop) (XC : String → State → State → Prop) (mc ms : Nat) (free : Addr → Prop) : Array Value → State → Outcome → State → Prop := fun a st o t =>
  (Qc a st o t ∧ ∃ L, FrameEnd st o t L mc ms ∧ ∀ q ∈ L, free q.base) ∨ ∃ q, o = .threw q ∧ vx_T XC st q t mc ms free
/-- a callee that returns or throws -/
def vx_Met (l : Launch) (y : MethodName) (ws : List Cond) (rm : Room) (Pc : Array Value → State → Prop) (Qc : Array Value → State → Outcome → State → Prop) (XC : String → State → State → Prop) (mc ms : Nat) (free : Addr → Prop) : Prop :=
  MetFree l y (headSpec ws rm) Pc (fun _ _ _ _ _ => True) (vx_Q Qc XC mc ms free)
def vx_Post (XC : String → State → State → Prop) (mc ms : Nat) (free : Addr → Prop) : Pt → Array Value → Addr → Pt → Prop := fun A a q B =>
  ∃ (g : JFrame) (mk : MethodId) (t : State) (L : List Loc) (E : String) (ce : Cell), B.U.heap = t.heap ∧ B.U.vm = t.vm ∧ XC E (A.U.calling g mk a) t ∧ t.heap[q]? = some ce ∧ ce.vm = .none ∧ A.U.vm.findClass E = some ce.cls ∧ B.locs = A.locs ++ L ∧ (∀ z ∈ L, free z.base) ∧ B.cells = A.cells + mc ∧ B.slots = A.slots + ms
def vx_Back (l : Launch) (R : Room) (p : Program) (e : Env) (below : List Frame) (s : State) (sargs : Array Value) (y : MethodName) (len W9 : Nat)
    (Pre : Pt → Array Value → Prop) (Post : Pt → Array Value → Option Value → Pt → Prop) (PostX : Pt → Array Value → Addr → Pt → Prop) : Prop :=
  ∀ (m : MethodId) (meth : Method) (c : Code) (A : Pt) (g : JFrame) (ig : Instr) (mk : MethodId) (a : Array Value),
    Stand p l e R s m sargs below meth c A.U A.locs A.cells A.slots → g.method = m → g.locals.size = c.maxLocals → decode c.code g.pc = .ok (ig, len) →
    2 * g.monitorRoom + (g.stack.map fun v => v.category).sum ≤ W9 → A.U.methodNamed? y = some mk → Pre A a →
    (∃ (v : Option Value) (B : Pt), Stand p l e R s m sargs below meth c B.U B.locs B.cells B.slots ∧ Post A a v B ∧
      Steps p.tables e below (doInvoke e (A.U.setTop g) [] mk a).1 (B.U.setTop { g with pc := g.pc + len, stack := v.toList ++ g.stack })) ∨
    (∃ (q : Addr) (B : Pt), Stand p l e R s m sargs below meth c B.U B.locs B.cells B.slots ∧ PostX A a q B ∧
      Steps p.tables e below (doInvoke e (A.U.setTop g) [] mk a).1 ((B.U.setTop g).pushFrame (.throwing q)))
section Payer
variable {l : Launch} {R : Room} {p : Program} {e : Env} {below : List Frame} {s : State} {sargs : Array Value} {y : MethodName} {len W9 : Nat}
theorem vx_back {ws : List Cond} {rm : Room} {Pc : Array Value → State → Prop} {Qc : Array Value → State → Outcome → State → Prop} {XC : String → State → State → Prop} {mc ms : Nat} {free : Addr → Prop} {bytes : ByteArray} {maxL : Nat} {ret : Option FieldType}
    (hM : vx_Met l y ws rm Pc Qc XC mc ms free) (hblind : FrameBlind Pc) (hrc : rm.cells = mc) (hrs : rm.slots = ms)
    (hframes : rm.frames + 1 ≤ R.frames) (hlocals : W9 + (maxL + 11) + rm.locals ≤ R.locals)
    (hws : ∀ w ∈ ws, ∀ a' U, s.WarmedH U.vm → w.before a' U = true) (hcode : Cond.code y bytes maxL ret ∈ ws) (hinit : ∀ a' U, s.WarmedH U.vm → (Cond.initialized y.cls).before a' U = true) :
    vx_Back l R p e below s sargs y len W9 (PreOf R mc ms Pc) (PostOf Qc mc ms free) (vx_Post XC mc ms free) := by
  intro m meth c A g ig mk a X hg hsize hdg hW hn hp
  have h1 : (headSpec ws rm).pre.before a A.U = true := atoms_intro fun w hw => hws w hw _ _ X.warmed
  have h2 : (Cond.code y bytes maxL ret).before a A.U = true := hws _ hcode _ _ X.warmed
  have h3 : (Cond.initialized y.cls).before a A.U = true := hinit _ _ X.warmed
  have h4 : A.cells + (headSpec ws rm).room.cells ≤ R.cells := by rw [show (headSpec ws rm).room.cells = mc from hrc]; exact hp.1
  have h5 : A.slots + (headSpec ws rm).room.slots ≤ R.slots := by rw [show (headSpec ws rm).room.slots = ms from hrs]; exact hp.2.1
  have hPc : Pc a (A.U.calling g mk a) := hblind _ _ _ _ hp.2.2
  obtain ⟨U, Ls, c0, s0⟩ := A
  dsimp only [Pt.U, Pt.locs, Pt.cells, Pt.slots] at h1 h2 h3 h4 h5 X hn hPc ⊢
  obtain ⟨methY, cY, hmY, hcY, -, hlY, -, -, -, -⟩ := Cond.code_spec hn h2
  obtain ⟨kY, hkY, -⟩ := className_of_methodNamed hn
  have hinitY : kY.init = .initialized := Cond.initialized_spec (findClass_of_methodNamed hn) hkY h3
  have h : At U g.method c below := by rw [hg]; exact X.here
  have hlocals9 : W9 + (maxL + 11) + (headSpec ws rm).room.locals ≤ R.locals := hlocals
  have happ : (headSpec ws rm).appliesLoose y e.platform (U.calling g mk a) = true :=
    Spec.appliesLoose_calling (g := g) h hdg hn hkY hinitY
      (X.room_calling (g := g) (R' := (headSpec ws rm).room) hsize hmY hcY hframes (by rw [hlY]; omega) h4 h5) h1
  obtain ⟨mid, hmid⟩ := h.above
  have hfr : (U.setTop g).frames = (.java g :: mid) ++ below := by rw [State.frames_setTop' g h.top, hmid]; rfl
  obtain ⟨o, s₂, hsteps, -, hend, hq⟩ := Steps.callFree hM p X.admits X.cas X.clock (acts := []) hfr happ hPc trivial
  have hq' : vx_Q Qc XC mc ms free a (U.calling g mk a) o s₂ := hq
  rw [State.frames_setTop' g h.top] at hend
  obtain ⟨g₀, hg0⟩ := Option.isSome_iff_exists.mp h.top
  obtain ⟨r, hr⟩ := State.topJava?_eq_some.mp hg0
  have hr' : (({ U with heap := s₂.heap, slotsUsed := s₂.slotsUsed } : State).setVm s₂.vm).frames = .java g₀ :: r := hr
  rcases hq' with ⟨hqc, L, hfe, hL⟩ | ⟨q, rfl, E, ce, L, hx, hce, hcv, hcl, hW₂, hsm, hL⟩
  · obtain ⟨⟨v, rfl⟩, hW₂, e2, q2, q3, q4, q5, q6⟩ := id hfe
    have e3 : s₂ = ({ (U.calling g mk a).setFrames s₂.frames with heap := s₂.heap, slotsUsed := s₂.slotsUsed } : State).setVm s₂.vm := by
      have : s₂ = ({ s₂ with vm := (U.calling g mk a).vm } : State).setVm s₂.vm := rfl
      rw [e2] at this
      exact this
    obtain ⟨c₂, i₂, len₂, hc₂, hd₂, hf₂⟩ := hend
    have hW' : U.WarmedH s₂.vm := hW₂
    have hcc : c₂ = c := by
      have h1 : s₂.code? g.method = U.code? g.method := by
        rw [State.code?_eq, State.code?_eq, hW'.alike.method?]
      exact Option.some.inj (hc₂.symm.trans (h1.trans h.code))
    subst hcc
    have hlen : len₂ = len := by rw [hdg] at hd₂; cases hd₂; rfl
    subst hlen
    have hs₂ : s₂ = (({ U with heap := s₂.heap, slotsUsed := s₂.slotsUsed } : State).setVm s₂.vm).setTop { g with pc := g.pc + len₂, stack := v.toList ++ g.stack } := by
      refine e3.trans ?_
      rw [hf₂, State.calling_eq h.top, State.setFrames_setFrames, State.setTop_of_frames _ hr', hr]
      rfl
    have hsame : U.sameButNew ({ U with heap := s₂.heap, slotsUsed := s₂.slotsUsed } : State) L mc ms := by
      refine ⟨?_, q2, q3, q4, q5, q6⟩
      obtain ⟨t, ht, -⟩ := State.frames_cons hr
      show ({ U with heap := s₂.heap, slotsUsed := s₂.slotsUsed } : State) = { U.setFrames U.frames with heap := s₂.heap, slotsUsed := s₂.slotsUsed }
      rw [State.setFrames_self ht]
    subst hg
    refine Or.inl ⟨v, ⟨(({ U with heap := s₂.heap, slotsUsed := s₂.slotsUsed } : State).setVm s₂.vm), Ls ++ L, c0 + mc, s0 + ms⟩,
      ⟨X.admits, X.cas, X.clock, X.frames, X.room, X.hears, X.method, X.code, (X.here.setHeapUsed s₂.heap s₂.slotsUsed).setVm hW'.alike, X.tail, State.WarmedH.trans X.warmed hW', X.limits, X.bytes, X.same.trans (hsame.setVm s.vm)⟩,
      ⟨g, mk, s₂, L, rfl, rfl, hqc, rfl, hL, rfl, rfl⟩, ?_⟩
    show Steps p.tables e below _ ((({ U with heap := s₂.heap, slotsUsed := s₂.slotsUsed } : State).setVm s₂.vm).setTop { g with pc := g.pc + len₂, stack := v.toList ++ g.stack })
    rw [← hs₂]
    exact hsteps
  · obtain ⟨e2, q2, q3, q4, q5, q6⟩ := id hsm
    have e3 : s₂ = ({ (U.calling g mk a).setFrames s₂.frames with heap := s₂.heap, slotsUsed := s₂.slotsUsed } : State).setVm s₂.vm := by
      have : s₂ = ({ s₂ with vm := (U.calling g mk a).vm } : State).setVm s₂.vm := rfl
      rw [e2] at this
      exact this
    have hf₂ : s₂.frames = .throwing q :: .java g :: U.frames.tail := hend
    have hW' : U.WarmedH s₂.vm := hW₂
    have hs₂ : s₂ = ((({ U with heap := s₂.heap, slotsUsed := s₂.slotsUsed } : State).setVm s₂.vm).setTop g).pushFrame (.throwing q) := by
      refine e3.trans ?_
      rw [hf₂, State.calling_eq h.top, State.setFrames_setFrames, State.pushFrame, State.frames_setTop _ hr', State.setTop_of_frames _ hr', State.setFrames_setFrames, hr]
      rfl
    have hsame : U.sameButNew ({ U with heap := s₂.heap, slotsUsed := s₂.slotsUsed } : State) L mc ms := by
      refine ⟨?_, q2, q3, q4, q5, q6⟩
      obtain ⟨t, ht, -⟩ := State.frames_cons hr
      show ({ U with heap := s₂.heap, slotsUsed := s₂.slotsUsed } : State) = { U.setFrames U.frames with heap := s₂.heap, slotsUsed := s₂.slotsUsed }
      rw [State.setFrames_self ht]
    subst hg
    refine Or.inr ⟨q, ⟨(({ U with heap := s₂.heap, slotsUsed := s₂.slotsUsed } : State).setVm s₂.vm), Ls ++ L, c0 + mc, s0 + ms⟩,
      ⟨X.admits, X.cas, X.clock, X.frames, X.room, X.hears, X.method, X.code, (X.here.setHeapUsed s₂.heap s₂.slotsUsed).setVm hW'.alike, X.tail, State.WarmedH.trans X.warmed hW', X.limits, X.bytes, X.same.trans (hsame.setVm s.vm)⟩,
      ⟨g, mk, s₂, L, E, ce, rfl, rfl, hx, hce, hcv, hcl, rfl, hL, rfl, rfl⟩, ?_⟩
    show Steps p.tables e below _ (((({ U with heap := s₂.heap, slotsUsed := s₂.slotsUsed } : State).setVm s₂.vm).setTop g).pushFrame (.throwing q))
    rw [← hs₂]
    exact hsteps
end Payer
section Calls
variable {p : Program} {l : Launch} {e : Env} {R : Room} {s : State} {m : MethodId} {args : Array Value} {below : List Frame} {meth : Method} {c : Code} {T : State} {locs : List Loc} {cells slots : Nat}
theorem vx_callV (X : Stand p l e R s m args below meth c T locs cells slots) (hexec : p.tables.exec = Jvm.exec) {own C : String} {index : Nat} {y : MethodName} {bytes : ByteArray} {maxL : Nat} {ret : Option FieldType}
    (hown : s.vm.findClass own = some m.cls) (hlink : (Cond.methodLink own index y).before args s = true) (hinst : (Cond.instanceMethod y).before args s = true) (hsel : (Cond.selects C y y).before args s = true)
    (hcode : (Cond.code y bytes maxL ret).before args s = true) (hy : y.cls ≠ "java/lang/invoke/MethodHandle" ∧ y.cls ≠ "java/lang/invoke/VarHandle")
    {W9 : Nat} {Pre : Pt → Array Value → Prop} {Post : Pt → Array Value → Option Value → Pt → Prop} {PostX : Pt → Array Value → Addr → Pt → Prop} (hK : vx_Back l R p e below s args y 3 W9 Pre Post PostX)
    {b : Addr} {cellB : Cell} (hcell : T.heap[b]? = some cellB) (hobj : cellB.vm.isStatics = false) (hcls : s.vm.findClass C = some cellB.cls)
    {g : JFrame} (hg : g.method = m) (hsize : g.locals.size = c.maxLocals) {argsL rest : List Value} (hlen : ∀ sig, parseMethodDescriptor y.desc = some sig → argsL.length = sig.parameters.length)
    (hstack : g.stack = argsL.reverse ++ .ref b :: rest) (hW : 2 * g.monitorRoom + (rest.map fun v => v.category).sum ≤ W9) (hdg : decode c.code g.pc = .ok (.invokevirtual index, 3))
    (hpre : ∀ vm₁, s.WarmedH vm₁ → Pre ⟨T.setVm vm₁, locs, cells, slots⟩ (Value.ref b :: argsL).toArray) :
    (∃ (v : Option Value) (vm₁ : Vm) (B : Pt), s.WarmedH vm₁ ∧ Stand p l e R s m args below meth c B.U B.locs B.cells B.slots ∧ Post ⟨T.setVm vm₁, locs, cells, slots⟩ (Value.ref b :: argsL).toArray v B ∧
      ∀ target, Steps p.tables e below (B.U.setTop { g with pc := g.pc + 3, stack := v.toList ++ rest }) target → Steps p.tables e below (T.setTop g) target) ∨
    (∃ (q : Addr) (vm₁ : Vm) (B : Pt), s.WarmedH vm₁ ∧ Stand p l e R s m args below meth c B.U B.locs B.cells B.slots ∧ PostX ⟨T.setVm vm₁, locs, cells, slots⟩ (Value.ref b :: argsL).toArray q B ∧
      Steps p.tables e below (T.setTop g) ((B.U.setTop { g with stack := rest }).pushFrame (.throwing q))) := by
  obtain ⟨mk, methM, hnamed, hmethM, hstM, habM⟩ := Cond.instanceMethod_spec hinst
  obtain ⟨methM', cM, hmethM', -, -, -, -, -, -, hsigM⟩ := Cond.code_spec hnamed hcode
  cases hmethM.symm.trans hmethM'
  obtain ⟨c2, r2, m2, q1, q2, q3, q4, kP, hkP, hkPi⟩ := Cond.selects_spec hsel
  cases hcls.symm.trans q1
  cases (State.methodFound?_of_named hnamed hy).symm.trans q2
  cases hnamed.symm.trans q3
  have hselP : selectMethod e.platform s.vm cellB.cls mk = .method mk := by rw [Launch.admits_selectMethod X.admits]; exact q4
  obtain ⟨vm₁, X₁, hstep₁⟩ := X.invokevirtual hexec hown hlink hnamed hmethM hstM hkP hkPi hy (a := b) (cell := cellB) hcell
    (fun z h => by rw [h] at hobj; cases hobj) hselP hmethM habM hkP hkPi (g := g) hg (argsL := argsL) (rest := rest) (hlen _ hsigM) hstack hdg
  rcases hK m meth c ⟨T.setVm vm₁, locs, cells, slots⟩ { g with stack := rest } (.invokevirtual index) mk (Value.ref b :: argsL).toArray X₁ hg hsize hdg hW (X₁.named hnamed) (hpre vm₁ X₁.warmed) with ⟨v, B, X', hpost, hsteps⟩ | ⟨q, B, X', hpost, hsteps⟩
  · exact Or.inl ⟨v, vm₁, B, X₁.warmed, X', hpost, fun target h => hstep₁ _ fun acts => by rw [doInvoke_state]; exact hsteps.trans h⟩
  · exact Or.inr ⟨q, vm₁, B, X₁.warmed, X', hpost, hstep₁ _ fun acts => by rw [doInvoke_state]; exact hsteps⟩
theorem vx_callS (X : Stand p l e R s m args below meth c T locs cells slots) (hexec : p.tables.exec = Jvm.exec) {own : String} {index : Nat} {y : MethodName} {bytes : ByteArray} {maxL : Nat} {ret : Option FieldType}
    (hown : s.vm.findClass own = some m.cls) (hlink : (Cond.methodLink own index y).before args s = true) (hstat : (Cond.static y).before args s = true) (hinit : (Cond.initialized y.cls).before args s = true)
    (hcode : (Cond.code y bytes maxL ret).before args s = true) (hy : y.cls ≠ "java/lang/invoke/MethodHandle" ∧ y.cls ≠ "java/lang/invoke/VarHandle")
    {W9 : Nat} {Pre : Pt → Array Value → Prop} {Post : Pt → Array Value → Option Value → Pt → Prop} {PostX : Pt → Array Value → Addr → Pt → Prop} (hK : vx_Back l R p e below s args y 3 W9 Pre Post PostX)
    {g : JFrame} (hg : g.method = m) (hsize : g.locals.size = c.maxLocals) {argsL rest : List Value} (hlen : ∀ sig, parseMethodDescriptor y.desc = some sig → argsL.length = sig.parameters.length)
    (hstack : g.stack = argsL.reverse ++ rest) (hW : 2 * g.monitorRoom + (rest.map fun v => v.category).sum ≤ W9) (hdg : decode c.code g.pc = .ok (.invokestatic index, 3))
    (hpre : ∀ vm₁, s.WarmedH vm₁ → Pre ⟨T.setVm vm₁, locs, cells, slots⟩ argsL.toArray) :
    (∃ (v : Option Value) (vm₁ : Vm) (B : Pt), s.WarmedH vm₁ ∧ Stand p l e R s m args below meth c B.U B.locs B.cells B.slots ∧ Post ⟨T.setVm vm₁, locs, cells, slots⟩ argsL.toArray v B ∧
      ∀ target, Steps p.tables e below (B.U.setTop { g with pc := g.pc + 3, stack := v.toList ++ rest }) target → Steps p.tables e below (T.setTop g) target) ∨
    (∃ (q : Addr) (vm₁ : Vm) (B : Pt), s.WarmedH vm₁ ∧ Stand p l e R s m args below meth c B.U B.locs B.cells B.slots ∧ PostX ⟨T.setVm vm₁, locs, cells, slots⟩ argsL.toArray q B ∧
      Steps p.tables e below (T.setTop g) ((B.U.setTop { g with stack := rest }).pushFrame (.throwing q))) := by
  obtain ⟨mk, hnamed⟩ := Cond.code_named hcode
  obtain ⟨methM, cM, hmethM, -, -, -, -, -, -, hsigM⟩ := Cond.code_spec hnamed hcode
  have hstatic : methM.isStatic = true := Cond.static_spec hnamed hmethM hstat
  obtain ⟨kP, hkP, -⟩ := className_of_methodNamed hnamed
  have hinitP : kP.init = .initialized := Cond.initialized_spec (findClass_of_methodNamed hnamed) hkP hinit
  obtain ⟨vm₁, X₁, hstep₁⟩ := X.invokestatic hexec hown hlink hnamed hmethM hstatic hkP hinitP hy (g := g) hg (argsL := argsL) (rest := rest) (hlen _ hsigM) hstack hdg
  rcases hK m meth c ⟨T.setVm vm₁, locs, cells, slots⟩ { g with stack := rest } (.invokestatic index) mk argsL.toArray X₁ hg hsize hdg hW (X₁.named hnamed) (hpre vm₁ X₁.warmed) with ⟨v, B, X', hpost, hsteps⟩ | ⟨q, B, X', hpost, hsteps⟩
  · exact Or.inl ⟨v, vm₁, B, X₁.warmed, X', hpost, fun target h => hstep₁ _ fun acts => by rw [doInvoke_state]; exact hsteps.trans h⟩
  · exact Or.inr ⟨q, vm₁, B, X₁.warmed, X', hpost, hstep₁ _ fun acts => by rw [doInvoke_state]; exact hsteps⟩
end Calls
theorem vx_cls {s : State} {T : State} {vm₁ : Vm} {E : String} {k : ClassId} (hW : s.WarmedH vm₁) (h : (T.setVm vm₁).vm.findClass E = some k) : s.vm.findClass E = some k := by
  have h1 : vm₁.findClass E = some k := h
  rw [hW.alike.findClass] at h1
  exact h1
/-- the method's frame g, with q thrown over it -/
def vx_W (p : Program) (l : Launch) (e : Env) (R : Room) (s : State) (m : MethodId) (args : Array Value) (below : List Frame) (meth : Method) (c : Code) (H : Heap) (locs : List Loc) (cells slots : Nat) (Q : State → Prop) (g : JFrame) (q : Addr) : Prop :=
  ∀ T : State, T.heap = H → Stand p l e R s m args below meth c T locs cells slots → ∃ t, Steps p.tables e below ((T.setTop g).pushFrame (.throwing q)) t ∧ Q t
def vx_Run (p : Program) (l : Launch) (e : Env) (R : Room) (s : State) (m : MethodId) (args : Array Value) (below : List Frame) (meth : Method) (c : Code) (H : Heap) (locs : List Loc) (cells slots mc ms : Nat) (g : JFrame) (rest : List Value) (Qa : State → Outcome → State → Prop) (XC : String → State → State → Prop) (free : Addr → Prop) : Prop :=
  ∀ T : State, T.heap = H → Stand p l e R s m args below meth c T locs cells slots →
    (∃ (v : Option Value) (st₀ t T' : State) (L : List Loc), st₀.heap = H ∧ Stand p l e R s m args below meth c T' (locs ++ L) (cells + mc) (slots + ms) ∧ (∀ q ∈ L, free q.base) ∧ T'.heap = t.heap ∧ T'.vm = t.vm ∧ Qa st₀ (.returned v) t ∧
      Goes p e below T g T' { g with pc := g.pc + 3, stack := v.toList ++ rest }) ∨
    (∃ (q : Addr) (st₀ t T' : State) (L : List Loc) (E : String) (ce : Cell), st₀.heap = H ∧ Stand p l e R s m args below meth c T' (locs ++ L) (cells + mc) (slots + ms) ∧ (∀ z ∈ L, free z.base) ∧ T'.heap = t.heap ∧ T'.vm = t.vm ∧ XC E st₀ t ∧ t.heap[q]? = some ce ∧ ce.vm = .none ∧ s.vm.findClass E = some ce.cls ∧
      Steps p.tables e below (T.setTop g) ((T'.setTop { g with stack := rest }).pushFrame (.throwing q)))
def vx_X {S : Type} (px : S → Prop) (B : String → S → State → Prop) (A : Nat → Prop) : String → State → State → Prop := fun E st t => ∃ u : S, px u ∧ B E u t ∧ va_F A st t
section Runs
variable {p : Program} {l : Launch} {e : Env} {R : Room} {s : State} {m : MethodId} {args : Array Value} {below : List Frame} {meth : Method} {c : Code} {H : Heap} {locs : List Loc} {cells slots : Nat}
variable {y : MethodName} {bytes cc : ByteArray} {maxL nL mc ms n index : Nat} {ret : Option FieldType} {ws : List Cond} {rm : Room} {Pc : Array Value → State → Prop} {Qc : Array Value → State → Outcome → State → Prop} {XC : String → State → State → Prop} {free : Addr → Prop} {Ts : List Cond} {own C : String} {b : Addr} {As rest : List Value} {g : JFrame}
theorem vx_callBack (cb : CallB R s args own index y bytes maxL ret ws rm mc ms n) (hM : vx_Met l y ws rm Pc Qc XC mc ms free) (hbl : FrameBlind Pc) : vx_Back l R p e below s args y 3 8 (PreOf R mc ms Pc) (PostOf Qc mc ms free) (vx_Post XC mc ms free) := by
  obtain ⟨hrc, hrs, hfr, hlo, hws, hcw, -, hini, -⟩ := cb
  exact vx_back (bytes := bytes) (maxL := maxL) (ret := ret) hM hbl hrc hrs hfr hlo hws hcw (fun a' U hW => word_at hW (Or.inl (by first | rfl | simp [Cond.onTables, Cond.keeps, Cond.steady])) hini)
theorem vx_runV (S : CallFix p m c cc nL s args Ts own) (hM : vx_Met l y ws rm Pc Qc XC mc ms free) (cw : CallW R s args own C index y bytes maxL ret ws rm mc ms n) (hp : PreV s H C b Pc As)
    (hg : g.method = m) (hn : As.length = n) (hsize : g.locals.size = nL) (hstack : g.stack = As.reverse ++ .ref b :: rest) (hW : 2 * g.monitorRoom + (rest.map fun v => v.category).sum ≤ 8) (hdg : decode cc g.pc = .ok (.invokevirtual index, 3)) (hf : cells + mc ≤ R.cells ∧ slots + ms ≤ R.slots) :
    vx_Run p l e R s m args below meth c H locs cells slots mc ms g rest (Qc (Value.ref b :: As).toArray) XC free := by
  have hK : vx_Back l R p e below s args y 3 8 (PreOf R mc ms Pc) (PostOf Qc mc ms free) (vx_Post XC mc ms free) := vx_callBack cw.1 hM hp.1
  obtain ⟨⟨-, -, -, -, -, -, hcode, -, hy, hlen, hl⟩, hin, hse⟩ := cw
  obtain ⟨hx, hb, hml, ho, -⟩ := S
  obtain ⟨-, ⟨cellB, hcB, hoB, hclB⟩, hPc⟩ := hp
  intro T hT X
  rcases vx_callV X hx (C := C) (bytes := bytes) (maxL := maxL) (ret := ret) ho hl hin hse hcode hy hK (by rw [hT]; exact hcB) hoB hclB hg (hsize.trans hml.symm) (argsL := As) (rest := rest) (fun sig h => hn.trans (hlen sig h)) hstack hW (by rw [hb]; exact hdg)
    (fun vm₁ hW₁ => ⟨hf.1, hf.2, hPc (T.setVm vm₁) hT hW₁⟩) with ⟨v, vm₁, ⟨U', l2, c2, s2⟩, hW₁, X', ⟨g', mk, t, L, e1, e2, hq, h1, hL, h2, h3⟩, st⟩ | ⟨q, vm₁, ⟨U', l2, c2, s2⟩, hW₁, X', ⟨g', mk, t, L, E, ce, e1, e2, hq, hce, hcv, hcl, h1, hL, h2, h3⟩, st⟩
  · dsimp only [Pt.U, Pt.locs, Pt.cells, Pt.slots] at X' e1 e2 h1 h2 h3 st
    subst h1; subst h2; subst h3
    exact Or.inl ⟨v, (T.setVm vm₁).calling g' mk (Value.ref b :: As).toArray, t, U', L, hT, X', hL, e1, e2, hq, st⟩
  · dsimp only [Pt.U, Pt.locs, Pt.cells, Pt.slots] at X' e1 e2 h1 h2 h3 st hcl
    subst h1; subst h2; subst h3
    exact Or.inr ⟨q, (T.setVm vm₁).calling g' mk (Value.ref b :: As).toArray, t, U', L, E, ce, hT, X', hL, e1, e2, hq, hce, hcv, vx_cls hW₁ hcl, st⟩
theorem vx_runS (S : CallFix p m c cc nL s args Ts own) (hM : vx_Met l y ws rm Pc Qc XC mc ms free) (cw : CallB R s args own index y bytes maxL ret ws rm mc ms n ∧ (Cond.static y).before args s = true) (hp : PreS s H Pc As)
    (hg : g.method = m) (hn : As.length = n) (hsize : g.locals.size = nL) (hstack : g.stack = As.reverse ++ rest) (hW : 2 * g.monitorRoom + (rest.map fun v => v.category).sum ≤ 8) (hdg : decode cc g.pc = .ok (.invokestatic index, 3)) (hf : cells + mc ≤ R.cells ∧ slots + ms ≤ R.slots) :
    vx_Run p l e R s m args below meth c H locs cells slots mc ms g rest (Qc As.toArray) XC free := by
  have hK : vx_Back l R p e below s args y 3 8 (PreOf R mc ms Pc) (PostOf Qc mc ms free) (vx_Post XC mc ms free) := vx_callBack cw.1 hM hp.1
  obtain ⟨⟨-, -, -, -, -, -, hcode, hini, hy, hlen, hl⟩, hstt⟩ := cw
  obtain ⟨hx, hb, hml, ho, -⟩ := S
  intro T hT X
  rcases vx_callS X hx (bytes := bytes) (maxL := maxL) (ret := ret) ho hl hstt hini hcode hy hK hg (hsize.trans hml.symm) (argsL := As) (rest := rest) (fun sig h => hn.trans (hlen sig h)) hstack hW (by rw [hb]; exact hdg)
    (fun vm₁ hW₁ => ⟨hf.1, hf.2, hp.2 (T.setVm vm₁) hT hW₁⟩) with ⟨v, vm₁, ⟨U', l2, c2, s2⟩, hW₁, X', ⟨g', mk, t, L, e1, e2, hq, h1, hL, h2, h3⟩, st⟩ | ⟨q, vm₁, ⟨U', l2, c2, s2⟩, hW₁, X', ⟨g', mk, t, L, E, ce, e1, e2, hq, hce, hcv, hcl, h1, hL, h2, h3⟩, st⟩
  · dsimp only [Pt.U, Pt.locs, Pt.cells, Pt.slots] at X' e1 e2 h1 h2 h3 st
    subst h1; subst h2; subst h3
    exact Or.inl ⟨v, (T.setVm vm₁).calling g' mk As.toArray, t, U', L, hT, X', hL, e1, e2, hq, st⟩
  · dsimp only [Pt.U, Pt.locs, Pt.cells, Pt.slots] at X' e1 e2 h1 h2 h3 st hcl
    subst h1; subst h2; subst h3
    exact Or.inr ⟨q, (T.setVm vm₁).calling g' mk As.toArray, t, U', L, E, ce, hT, X', hL, e1, e2, hq, hce, hcv, vx_cls hW₁ hcl, st⟩
end Runs
section Rows
variable {p : Program} {l : Launch} {e : Env} {R : Room} {s : State} {m : MethodId} {args : Array Value} {below : List Frame} {meth : Method} {c : Code} {H : Heap} {locs : List Loc} {cells slots : Nat} {Q : State → Prop}
variable {mc ms : Nat} {free : Addr → Prop} {A0 A1 : Nat → Prop} {H0 : Heap} {a : Array Value} {pc : Nat} {ls : Array Slot} {st0 rest : List Value}
theorem vx_keep {st₀ t T' : State} {L : List Loc} (h0 : st₀.heap = H) (e1 : T'.heap = t.heap) (hS : va_S A0 H0 H locs) (hA : ∀ q, q < H.size → A1 q → A0 q) (hf : ∀ q, free q → A0 q) (hL : ∀ q ∈ L, free q.base) (hF : va_F A1 st₀ t) :
    H.size ≤ T'.heap.size ∧ (∀ q : Nat, q < H.size → ¬ A1 q → T'.heap[q]? = H[q]?) ∧ va_S A0 H0 T'.heap (locs ++ L) := by
  obtain ⟨hz, hk⟩ := hF
  rw [h0] at hz hk
  exact ⟨by rw [e1]; exact hz, fun q h1 h2 => by rw [e1]; exact hk q h1 h2,
    ⟨Nat.le_trans hS.1 (by rw [e1]; exact hz), fun q h1 h2 => by rw [e1, hk q (Nat.lt_of_lt_of_le h1 hS.1) (fun z => h2 (hA q (Nat.lt_of_lt_of_le h1 hS.1) z))]; exact hS.2.1 q h1 h2, fun q hq => by
      rcases List.mem_append.mp hq with h | h
      · exact hS.2.2 q h
      · exact hf _ (hL q h)⟩⟩
theorem vx_calli {S SX : Type} {post : Int32 → S → Prop} {px : SX → Prop} {B : S → State → Prop} {BX : String → SX → State → Prop} {AX : Nat → Prop} (hr : vx_Run p l e R s m args below meth c H locs cells slots mc ms (F0 m pc ls st0) rest (va_Qi post B A1 a) (vx_X px BX AX) free) (hS : va_S A0 H0 H locs) (hA : ∀ q, q < H.size → A1 q → A0 q) (hf : ∀ q, free q → A0 q) (hAX : ∀ q, q < H.size → AX q → A0 q)
    (kx : ∀ (E : String) (ce : Cell) (q9 : Addr) (u : SX) (t : State) (H1 : Heap) (locs1 : List Loc), t.heap = H1 → s.vm.Alike t.vm → px u → BX E u t → H.size ≤ H1.size → (∀ q : Nat, q < H.size → ¬ AX q → H1[q]? = H[q]?) → va_S A0 H0 H1 locs1 → H1[q9]? = some ce → ce.vm = .none → s.vm.findClass E = some ce.cls → vx_W p l e R s m args below meth c H1 locs1 (cells + mc) (slots + ms) Q (F0 m pc ls rest) q9)
    (kk : ∀ (r : Int32) (u : S) (t : State) (H1 : Heap) (locs1 : List Loc), t.heap = H1 → s.vm.Alike t.vm → post r u → B u t → H.size ≤ H1.size → (∀ q : Nat, q < H.size → ¬ A1 q → H1[q]? = H[q]?) → va_S A0 H0 H1 locs1 → W p l e R s m args below meth c H1 locs1 (cells + mc) (slots + ms) Q (F0 m (pc + 3) ls (.int r :: rest))) : W p l e R s m args below meth c H locs cells slots Q (F0 m pc ls st0) := by
  intro T hT X
  rcases hr T hT X with ⟨v, st₀, t, T', L, h0, X', hL, e1, e2, ⟨⟨r, u, hv, hp, hb⟩, hF⟩, st⟩ | ⟨q, st₀, t, T', L, E, ce, h0, X', hL, e1, e2, ⟨u, hp, hb, hF⟩, hce, hcv, hcl, st⟩
  · cases hv
    obtain ⟨k1, k2, k3⟩ := vx_keep h0 e1 hS hA hf hL hF
    obtain ⟨t2, a1, b1⟩ := kk r u t T'.heap (locs ++ L) e1.symm (by rw [← e2]; exact X'.warmed.alike) hp hb k1 k2 k3 T' rfl X'
    exact ⟨t2, st t2 a1, b1⟩
  · obtain ⟨k1, k2, k3⟩ := vx_keep h0 e1 hS hAX hf hL hF
    obtain ⟨t2, a1, b1⟩ := kx E ce q u t T'.heap (locs ++ L) e1.symm (by rw [← e2]; exact X'.warmed.alike) hp hb k1 k2 k3 (by rw [e1]; exact hce) hcv hcl T' rfl X'
    exact ⟨t2, st.trans a1, b1⟩
theorem vx_calll {S SX : Type} {post : Int64 → S → Prop} {px : SX → Prop} {B : S → State → Prop} {BX : String → SX → State → Prop} {AX : Nat → Prop} (hr : vx_Run p l e R s m args below meth c H locs cells slots mc ms (F0 m pc ls st0) rest (va_Ql post B A1 a) (vx_X px BX AX) free) (hS : va_S A0 H0 H locs) (hA : ∀ q, q < H.size → A1 q → A0 q) (hf : ∀ q, free q → A0 q) (hAX : ∀ q, q < H.size → AX q → A0 q)
    (kx : ∀ (E : String) (ce : Cell) (q9 : Addr) (u : SX) (t : State) (H1 : Heap) (locs1 : List Loc), t.heap = H1 → s.vm.Alike t.vm → px u → BX E u t → H.size ≤ H1.size → (∀ q : Nat, q < H.size → ¬ AX q → H1[q]? = H[q]?) → va_S A0 H0 H1 locs1 → H1[q9]? = some ce → ce.vm = .none → s.vm.findClass E = some ce.cls → vx_W p l e R s m args below meth c H1 locs1 (cells + mc) (slots + ms) Q (F0 m pc ls rest) q9)
    (kk : ∀ (r : Int64) (u : S) (t : State) (H1 : Heap) (locs1 : List Loc), t.heap = H1 → s.vm.Alike t.vm → post r u → B u t → H.size ≤ H1.size → (∀ q : Nat, q < H.size → ¬ A1 q → H1[q]? = H[q]?) → va_S A0 H0 H1 locs1 → W p l e R s m args below meth c H1 locs1 (cells + mc) (slots + ms) Q (F0 m (pc + 3) ls (.long r :: rest))) : W p l e R s m args below meth c H locs cells slots Q (F0 m pc ls st0) := by
  intro T hT X
  rcases hr T hT X with ⟨v, st₀, t, T', L, h0, X', hL, e1, e2, ⟨⟨r, u, hv, hp, hb⟩, hF⟩, st⟩ | ⟨q, st₀, t, T', L, E, ce, h0, X', hL, e1, e2, ⟨u, hp, hb, hF⟩, hce, hcv, hcl, st⟩
  · cases hv
    obtain ⟨k1, k2, k3⟩ := vx_keep h0 e1 hS hA hf hL hF
    obtain ⟨t2, a1, b1⟩ := kk r u t T'.heap (locs ++ L) e1.symm (by rw [← e2]; exact X'.warmed.alike) hp hb k1 k2 k3 T' rfl X'
    exact ⟨t2, st t2 a1, b1⟩
  · obtain ⟨k1, k2, k3⟩ := vx_keep h0 e1 hS hAX hf hL hF
    obtain ⟨t2, a1, b1⟩ := kx E ce q u t T'.heap (locs ++ L) e1.symm (by rw [← e2]; exact X'.warmed.alike) hp hb k1 k2 k3 (by rw [e1]; exact hce) hcv hcl T' rfl X'
    exact ⟨t2, st.trans a1, b1⟩
theorem vx_callf {S SX : Type} {post : UInt32 → S → Prop} {px : SX → Prop} {B : S → State → Prop} {BX : String → SX → State → Prop} {AX : Nat → Prop} (hr : vx_Run p l e R s m args below meth c H locs cells slots mc ms (F0 m pc ls st0) rest (va_Qf post B A1 a) (vx_X px BX AX) free) (hS : va_S A0 H0 H locs) (hA : ∀ q, q < H.size → A1 q → A0 q) (hf : ∀ q, free q → A0 q) (hAX : ∀ q, q < H.size → AX q → A0 q)
    (kx : ∀ (E : String) (ce : Cell) (q9 : Addr) (u : SX) (t : State) (H1 : Heap) (locs1 : List Loc), t.heap = H1 → s.vm.Alike t.vm → px u → BX E u t → H.size ≤ H1.size → (∀ q : Nat, q < H.size → ¬ AX q → H1[q]? = H[q]?) → va_S A0 H0 H1 locs1 → H1[q9]? = some ce → ce.vm = .none → s.vm.findClass E = some ce.cls → vx_W p l e R s m args below meth c H1 locs1 (cells + mc) (slots + ms) Q (F0 m pc ls rest) q9)
    (kk : ∀ (r : UInt32) (u : S) (t : State) (H1 : Heap) (locs1 : List Loc), t.heap = H1 → s.vm.Alike t.vm → post r u → B u t → H.size ≤ H1.size → (∀ q : Nat, q < H.size → ¬ A1 q → H1[q]? = H[q]?) → va_S A0 H0 H1 locs1 → W p l e R s m args below meth c H1 locs1 (cells + mc) (slots + ms) Q (F0 m (pc + 3) ls (.float r :: rest))) : W p l e R s m args below meth c H locs cells slots Q (F0 m pc ls st0) := by
  intro T hT X
  rcases hr T hT X with ⟨v, st₀, t, T', L, h0, X', hL, e1, e2, ⟨⟨r, u, hv, hp, hb⟩, hF⟩, st⟩ | ⟨q, st₀, t, T', L, E, ce, h0, X', hL, e1, e2, ⟨u, hp, hb, hF⟩, hce, hcv, hcl, st⟩
  · cases hv
    obtain ⟨k1, k2, k3⟩ := vx_keep h0 e1 hS hA hf hL hF
    obtain ⟨t2, a1, b1⟩ := kk r u t T'.heap (locs ++ L) e1.symm (by rw [← e2]; exact X'.warmed.alike) hp hb k1 k2 k3 T' rfl X'
    exact ⟨t2, st t2 a1, b1⟩
  · obtain ⟨k1, k2, k3⟩ := vx_keep h0 e1 hS hAX hf hL hF
    obtain ⟨t2, a1, b1⟩ := kx E ce q u t T'.heap (locs ++ L) e1.symm (by rw [← e2]; exact X'.warmed.alike) hp hb k1 k2 k3 (by rw [e1]; exact hce) hcv hcl T' rfl X'
    exact ⟨t2, st.trans a1, b1⟩
theorem vx_calld {S SX : Type} {post : UInt64 → S → Prop} {px : SX → Prop} {B : S → State → Prop} {BX : String → SX → State → Prop} {AX : Nat → Prop} (hr : vx_Run p l e R s m args below meth c H locs cells slots mc ms (F0 m pc ls st0) rest (va_Qd post B A1 a) (vx_X px BX AX) free) (hS : va_S A0 H0 H locs) (hA : ∀ q, q < H.size → A1 q → A0 q) (hf : ∀ q, free q → A0 q) (hAX : ∀ q, q < H.size → AX q → A0 q)
    (kx : ∀ (E : String) (ce : Cell) (q9 : Addr) (u : SX) (t : State) (H1 : Heap) (locs1 : List Loc), t.heap = H1 → s.vm.Alike t.vm → px u → BX E u t → H.size ≤ H1.size → (∀ q : Nat, q < H.size → ¬ AX q → H1[q]? = H[q]?) → va_S A0 H0 H1 locs1 → H1[q9]? = some ce → ce.vm = .none → s.vm.findClass E = some ce.cls → vx_W p l e R s m args below meth c H1 locs1 (cells + mc) (slots + ms) Q (F0 m pc ls rest) q9)
    (kk : ∀ (r : UInt64) (u : S) (t : State) (H1 : Heap) (locs1 : List Loc), t.heap = H1 → s.vm.Alike t.vm → post r u → B u t → H.size ≤ H1.size → (∀ q : Nat, q < H.size → ¬ A1 q → H1[q]? = H[q]?) → va_S A0 H0 H1 locs1 → W p l e R s m args below meth c H1 locs1 (cells + mc) (slots + ms) Q (F0 m (pc + 3) ls (.double r :: rest))) : W p l e R s m args below meth c H locs cells slots Q (F0 m pc ls st0) := by
  intro T hT X
  rcases hr T hT X with ⟨v, st₀, t, T', L, h0, X', hL, e1, e2, ⟨⟨r, u, hv, hp, hb⟩, hF⟩, st⟩ | ⟨q, st₀, t, T', L, E, ce, h0, X', hL, e1, e2, ⟨u, hp, hb, hF⟩, hce, hcv, hcl, st⟩
  · cases hv
    obtain ⟨k1, k2, k3⟩ := vx_keep h0 e1 hS hA hf hL hF
    obtain ⟨t2, a1, b1⟩ := kk r u t T'.heap (locs ++ L) e1.symm (by rw [← e2]; exact X'.warmed.alike) hp hb k1 k2 k3 T' rfl X'
    exact ⟨t2, st t2 a1, b1⟩
  · obtain ⟨k1, k2, k3⟩ := vx_keep h0 e1 hS hAX hf hL hF
    obtain ⟨t2, a1, b1⟩ := kx E ce q u t T'.heap (locs ++ L) e1.symm (by rw [← e2]; exact X'.warmed.alike) hp hb k1 k2 k3 (by rw [e1]; exact hce) hcv hcl T' rfl X'
    exact ⟨t2, st.trans a1, b1⟩
theorem vx_callv {S SX : Type} {post : S → Prop} {px : SX → Prop} {B : S → State → Prop} {BX : String → SX → State → Prop} {AX : Nat → Prop} (hr : vx_Run p l e R s m args below meth c H locs cells slots mc ms (F0 m pc ls st0) rest (va_Qv post B A1 a) (vx_X px BX AX) free) (hS : va_S A0 H0 H locs) (hA : ∀ q, q < H.size → A1 q → A0 q) (hf : ∀ q, free q → A0 q) (hAX : ∀ q, q < H.size → AX q → A0 q)
    (kx : ∀ (E : String) (ce : Cell) (q9 : Addr) (u : SX) (t : State) (H1 : Heap) (locs1 : List Loc), t.heap = H1 → s.vm.Alike t.vm → px u → BX E u t → H.size ≤ H1.size → (∀ q : Nat, q < H.size → ¬ AX q → H1[q]? = H[q]?) → va_S A0 H0 H1 locs1 → H1[q9]? = some ce → ce.vm = .none → s.vm.findClass E = some ce.cls → vx_W p l e R s m args below meth c H1 locs1 (cells + mc) (slots + ms) Q (F0 m pc ls rest) q9)
    (kk : ∀ (u : S) (t : State) (H1 : Heap) (locs1 : List Loc), t.heap = H1 → s.vm.Alike t.vm → post u → B u t → H.size ≤ H1.size → (∀ q : Nat, q < H.size → ¬ A1 q → H1[q]? = H[q]?) → va_S A0 H0 H1 locs1 → W p l e R s m args below meth c H1 locs1 (cells + mc) (slots + ms) Q (F0 m (pc + 3) ls (rest))) : W p l e R s m args below meth c H locs cells slots Q (F0 m pc ls st0) := by
  intro T hT X
  rcases hr T hT X with ⟨v, st₀, t, T', L, h0, X', hL, e1, e2, ⟨⟨u, hv, hp, hb⟩, hF⟩, st⟩ | ⟨q, st₀, t, T', L, E, ce, h0, X', hL, e1, e2, ⟨u, hp, hb, hF⟩, hce, hcv, hcl, st⟩
  · cases hv
    obtain ⟨k1, k2, k3⟩ := vx_keep h0 e1 hS hA hf hL hF
    obtain ⟨t2, a1, b1⟩ := kk u t T'.heap (locs ++ L) e1.symm (by rw [← e2]; exact X'.warmed.alike) hp hb k1 k2 k3 T' rfl X'
    exact ⟨t2, st t2 a1, b1⟩
  · obtain ⟨k1, k2, k3⟩ := vx_keep h0 e1 hS hAX hf hL hF
    obtain ⟨t2, a1, b1⟩ := kx E ce q u t T'.heap (locs ++ L) e1.symm (by rw [← e2]; exact X'.warmed.alike) hp hb k1 k2 k3 (by rw [e1]; exact hce) hcv hcl T' rfl X'
    exact ⟨t2, st.trans a1, b1⟩
end Rows
section Ends
variable {p : Program} {l : Launch} {e : Env} {R : Room} {s : State} {m : MethodId} {args : Array Value} {below : List Frame} {meth : Method} {c : Code} {H : Heap} {locs : List Loc} {cells slots : Nat} {Q : State → Prop}
variable {mc ms : Nat} {free : Addr → Prop} {A0 A1 : Nat → Prop} {H0 : Heap} {a : Array Value} {ls : Array Slot} {st0 rest : List Value}
variable {Qc : Array Value → State → Outcome → State → Prop} {XC : String → State → State → Prop}
/-- what a body that may throw owes at its end -/
def vx_MQ (below : List Frame) (Qc : Array Value → State → Outcome → State → Prop) (XC : String → State → State → Prop) (a : Array Value) (s : State) (mc ms : Nat) (free : Addr → Prop) : State → Prop := fun t =>
  ∃ o, t.status = .running ∧ Ended t below o ∧ vx_Q Qc XC mc ms free a s o t
theorem vx_ret {g : JFrame} {mc ms : Nat} (k : W p l e R s m args below meth c H locs cells slots (MQ below Qc args s mc ms free) g) : W p l e R s m args below meth c H locs cells slots (vx_MQ below Qc XC args s mc ms free) g := by
  intro T hT X
  obtain ⟨t, a1, o, b1, b2, b3, b4⟩ := k T hT X
  exact ⟨t, a1, o, b1, b2, Or.inl ⟨b3, b4⟩⟩
/-- not caught here: it goes on to the caller -/
theorem vx_widen {g : JFrame} {q : Addr} {k n : Nat} (h1 : cells ≤ k) (h2 : slots ≤ n) (kk : vx_W p l e R s m args below meth c H locs k n Q g q) : vx_W p l e R s m args below meth c H locs cells slots Q g q := fun T hT X => kk T hT (stand_widen X h1 h2)
theorem vx_out {pc : Nat} {E : String} {ce : Cell} {q : Addr} {mc ms : Nat} (hout : ∀ x ∈ c.exceptionTable.toList, covers x pc = false) (hlocks : meth.locks = false) (hcell : H[q]? = some ce) (hv : ce.vm = .none) (hcl : s.vm.findClass E = some ce.cls)
    (hx : ∀ t : State, t.heap = H → s.vm.Alike t.vm → XC E s t) (hf : ∀ z ∈ locs, free z.base) (hc : cells ≤ mc) (hs : slots ≤ ms) :
    vx_W p l e R s m args below meth c H locs cells slots (vx_MQ below Qc XC args s mc ms free) (F0 m pc ls rest) q := by
  intro T hT X
  obtain ⟨st1, hrun, hend, hW, hsm⟩ := X.leaveThrown q (g := F0 m pc ls rest) rfl rfl rfl hout hlocks
  have hcell9 : (T.setFrames (.throwing q :: below)).heap[q]? = some ce := by
    show T.heap[q]? = some ce
    rw [hT]; exact hcell
  exact ⟨_, st1, .threw q, hrun, hend, Or.inr ⟨q, rfl, E, ce, locs, hx _ hT hW.alike, hcell9, hv, hcl, hW, hsm.mono hc hs, hf⟩⟩
theorem vx_frame {U : State} {k n : Nat} (h : s.sameButNew ({ U with vm := s.vm } : State) locs k n) : s.heap.size ≤ U.heap.size ∧ ∀ q : Nat, q < s.heap.size → (∀ z ∈ locs, z.base ≠ q) → U.heap[q]? = s.heap[q]? := by
  obtain ⟨-, h2, -, -, -, h6⟩ := h
  refine ⟨h2, fun q hq hz => ?_⟩
  obtain ⟨c9, e1, e2, e3, e4⟩ := h6 q _ (Array.getElem?_eq_getElem hq)
  have hs : c9.slots = (s.heap[q]).slots := Array.ext_getElem? fun i => e4 i fun hm => hz _ hm rfl
  have h9 : c9 = s.heap[q] := by
    rw [hs] at e2
    exact e2
  have e5 : U.heap[q]? = some c9 := e1
  rw [e5, h9, Array.getElem?_eq_getElem hq]
/-- the words of a throw but the four that speak of the heap -/
def vx_no (w : Cond) : Bool := decide (w ≠ .isRef (.static Bundle.tN "UNASSIGNED_STACK" Bundle.steD)) && decide (w ≠ .isRef (.static Bundle.tN "SUPPRESSED_SENTINEL" Bundle.listD)) && decide (w ≠ .laysStatic Bundle.tN "UNASSIGNED_STACK" Bundle.steD) && decide (w ≠ .laysStatic Bundle.tN "SUPPRESSED_SENTINEL" Bundle.listD)
def vx_at0 (own : String) (ic : Nat) (X : String) (names : List String) : List Cond := (Bundle.ownAtoms0 own ic X names).filter vx_no
def vx_atS (own : String) (ic : Nat) (X : String) (names : List String) : List Cond := (Bundle.ownAtoms own ic X names).filter vx_no
/-- a word that the tables alone decide, or a good one -/
def vx_ot (w : Cond) : Bool := w.onTables || goodWord w
theorem vx_ot_at {args a' : Array Value} {s U : State} {w : Cond} (hW : s.WarmedH U.vm) (hvm : s.vm = U.vm) (hg : vx_ot w = true) (h : w.before args s = true) : w.before a' U = true := by
  simp only [vx_ot, Bool.or_eq_true] at hg
  rcases hg with hg | hg
  · exact va_tabs hg hvm h
  · exact word_at hW (good_of_word hg) h
/-- a list's words: the good ones out of the method's own list, the others by premises of their own -/
theorem vx_hat {args : Array Value} {s : State} {L B : List Cond} (h1 : ∀ w ∈ L.filter goodWord, w.before args s = true) (h2 : ∀ w ∈ L.filter (fun w => !goodWord w), w ∈ B) (h3 : ∀ w ∈ B, w.before args s = true) : ∀ w ∈ L, w.before args s = true := by
  intro w hw
  by_cases g : goodWord w = true
  · exact h1 w (List.mem_filter.mpr ⟨hw, g⟩)
  · refine h3 w (h2 w (List.mem_filter.mpr ⟨hw, ?_⟩))
    show (!goodWord w) = true
    cases hgw : goodWord w
    · rfl
    · exact absurd hgw g
theorem vx_c {args : Array Value} {s : State} {w : Cond} {B : List Cond} (h : w.before args s = true) (t : ∀ w ∈ B, w.before args s = true) : ∀ w' ∈ w :: B, w'.before args s = true := fun w' h' => (List.mem_cons.mp h').elim (fun e => by rw [e]; exact h) (t w')
theorem vx_n {args : Array Value} {s : State} : ∀ w ∈ ([] : List Cond), w.before args s = true := fun _ h => nomatch h
theorem vx_own {args : Array Value} {s : State} {L : List Cond} (h1 : ∀ w ∈ L.filter vx_no, w.before args s = true)
    (hU : (Cond.isRef (.static Bundle.tN "UNASSIGNED_STACK" Bundle.steD)).before args s = true) (hN : (Cond.isRef (.static Bundle.tN "SUPPRESSED_SENTINEL" Bundle.listD)).before args s = true)
    (lU : (Cond.laysStatic Bundle.tN "UNASSIGNED_STACK" Bundle.steD).before args s = true) (lN : (Cond.laysStatic Bundle.tN "SUPPRESSED_SENTINEL" Bundle.listD).before args s = true) : ∀ w ∈ L, w.before args s = true := by
  intro w hw
  by_cases e1 : w = .isRef (.static Bundle.tN "UNASSIGNED_STACK" Bundle.steD)
  · rw [e1]; exact hU
  · by_cases e2 : w = .isRef (.static Bundle.tN "SUPPRESSED_SENTINEL" Bundle.listD)
    · rw [e2]; exact hN
    · by_cases e3 : w = .laysStatic Bundle.tN "UNASSIGNED_STACK" Bundle.steD
      · rw [e3]; exact lU
      · by_cases e4 : w = .laysStatic Bundle.tN "SUPPRESSED_SENTINEL" Bundle.listD
        · rw [e4]; exact lN
        · exact h1 w (List.mem_filter.mpr ⟨hw, by unfold vx_no; rw [decide_eq_true e1, decide_eq_true e2, decide_eq_true e3, decide_eq_true e4]; rfl⟩)
/-- where a static field lies, its class's statics cell in H -/
def vx_L (C n d : String) (A : Nat → Prop) (U : State) (H : Heap) : Prop := ∃ (c : ClassId) (k : Class) (i : Nat) (f : Field) (a : Nat) (cell : Cell), U.vm.findClass C = some c ∧ U.fieldFound? C n d = some (c, k, i, f) ∧ f.isStatic = true ∧ k.statics = some a ∧ H[a]? = some cell ∧ cell.vm.isStatics = true ∧ cell.cls = c ∧ f.slot < cell.slots.size ∧ k.staticTypes[f.slot]? = some f.type ∧ ¬ A a
theorem vx_L.moved {C n d : String} {A : Nat → Prop} {u U : State} {H : Heap} (hvm : u.vm.Alike U.vm) (h : vx_L C n d A u H) : vx_L C n d A U H := by
  obtain ⟨c, k, i, f, a, cell, h1, h2, h3, h4, h5, h6, h7, h8, h9, h10⟩ := h
  obtain ⟨k', hi', he⟩ := State.fieldFound?_setVm hvm h2
  exact ⟨c, k', i, f, a, cell, by rw [hvm.findClass]; exact h1, hi', h3, by rw [he]; exact h4, h5, h6, h7, h8, by rw [he]; exact h9, h10⟩
theorem vx_L.kept {C n d : String} {A : Nat → Prop} {U : State} {H H1 : Heap} (h : vx_L C n d A U H) (hq : ∀ a : Nat, a < H.size → ¬ A a → H1[a]? = H[a]?) : vx_L C n d A U H1 := by
  obtain ⟨c, k, i, f, a, cell, h1, h2, h3, h4, h5, h6, h7, h8, h9, h10⟩ := h
  exact ⟨c, k, i, f, a, cell, h1, h2, h3, h4, by rw [hq a (Array.getElem?_eq_some_iff.mp h5).1 h10]; exact h5, h6, h7, h8, h9, h10⟩
theorem vx_L.narrow {C n d : String} {A B : Nat → Prop} {U : State} {H : Heap} (h : vx_L C n d A U H) (hAB : ∀ q, B q → A q) : vx_L C n d B U H := by
  obtain ⟨c, k, i, f, a, cell, h1, h2, h3, h4, h5, h6, h7, h8, h9, h10⟩ := h
  exact ⟨c, k, i, f, a, cell, h1, h2, h3, h4, h5, h6, h7, h8, h9, fun z => h10 (hAB _ z)⟩
theorem vx_L.word {C n d : String} {A : Nat → Prop} {s : State} {args : Array Value} (h : vx_L C n d A s s.heap) : (Cond.laysStatic C n d).before args s = true := by
  obtain ⟨c, k, i, f, a, cell, h1, h2, h3, h4, h5, h6, h7, h8, h9, -⟩ := h
  show (Cond.laysStatic C n d).holds args s none s [] = true
  exact Cond.laysStatic_of h1 h2 h3 h4 h5 h6 h7 h8 h9
/-- .. and what it holds: null or some reference -/
def vx_Zq (C n d : String) (A : Nat → Prop) (U : State) (H : Heap) : Prop := va_Zq C n d A U H ∧ vx_L C n d A U H
theorem vx_Zq.moved {C n d : String} {A : Nat → Prop} {u U : State} {H : Heap} (hvm : u.vm.Alike U.vm) (h : vx_Zq C n d A u H) : vx_Zq C n d A U H := ⟨va_Zq.moved hvm h.1, vx_L.moved hvm h.2⟩
theorem vx_Zq.kept {C n d : String} {A : Nat → Prop} {U : State} {H H1 : Heap} (h : vx_Zq C n d A U H) (hq : ∀ a : Nat, a < H.size → ¬ A a → H1[a]? = H[a]?) : vx_Zq C n d A U H1 := ⟨va_Zq.kept h.1 hq, vx_L.kept h.2 hq⟩
theorem vx_Zq.narrow {C n d : String} {A B : Nat → Prop} {U : State} {H : Heap} (h : vx_Zq C n d A U H) (hAB : ∀ q, B q → A q) : vx_Zq C n d B U H := ⟨va_Zq.narrow h.1 hAB, vx_L.narrow h.2 hAB⟩
theorem vx_Zqof {args : Array Value} {s : State} {C n d : String} {A : Nat → Prop} (hl : (Cond.laysStatic C n d).before args s = true) (hini : (Cond.initialized C).before args s = true) (h : (Cond.isRef (.static C n d)).before args s = true) (hA : ∀ a : Nat, a < s.heap.size → ¬ A a) : vx_Zq C n d A s s.heap := by
  refine ⟨va_Zqof hl hini h hA, ?_⟩
  obtain ⟨c, k, i, f, a, cell, h1, h2, h3, h4, h5, h6, h7, h8, h9⟩ := Cond.laysStatic_spec hl
  exact ⟨c, k, i, f, a, cell, h1, h2, h3, h4, h5, h6, h7, h8, h9, hA a (Array.getElem?_eq_some_iff.mp h5).1⟩
theorem vx_isRef {C n d : String} {v : Value} {A : Nat → Prop} {s : State} {args : Array Value} (h : va_Z C n d v A s s.heap) (hv : v.isRef = true) : (Cond.isRef (.static C n d)).before args s = true := by
  obtain ⟨cf, kf, fi, f, a, cell, h1, h2, h3, h4, h5, h6, h7, -⟩ := h
  have he : (Term.static C n d).eval args s none [] s = some v := by
    simp [Term.eval, State.fieldNamed?, h1, h2, h4, h5, h6, h7]
  simp only [Cond.before, Cond.holds, Cond.value, he]
  cases v <;> simp_all [Value.isRef]
theorem vx_isRefq {C n d : String} {A : Nat → Prop} {s : State} {args : Array Value} (h : va_Zq C n d A s s.heap) : (Cond.isRef (.static C n d)).before args s = true := by
  rcases h with h | ⟨t, h⟩
  · exact vx_isRef h rfl
  · exact vx_isRef h rfl
/-- the same frame, seen from here: as if the method were called anew in this heap -/
theorem vx_rebase {T : State} (X : Stand p l e R s m args below meth c T locs cells slots) {R' : Room} (hf : R'.frames ≤ R.frames) (hl : R'.locals ≤ R.locals) (hc : cells + R'.cells ≤ R.cells) (hs : slots + R'.slots ≤ R.slots) :
    Stand p l e R' ((T.setVm s.vm).setFrames (.invoking m args :: below)) m args below meth c T [] 0 0 := by
  have htop : (T.setVm s.vm).topJava?.isSome := X.here.top
  have hF : ((T.setVm s.vm).setFrames (.invoking m args :: below)).frames = .invoking m args :: below := State.frames_setFrames _ (State.cur_lt_of_top htop)
  obtain ⟨g₀, hg0⟩ := Option.isSome_iff_exists.mp htop
  obtain ⟨r, hr⟩ := State.topJava?_eq_some.mp hg0
  have hl9 : e.platform.stackLimits (T.setVm s.vm).me = e.platform.stackLimits s.me := X.limits
  have hb9 : (T.setVm s.vm).me.stackBytes = s.me.stackBytes := X.bytes
  refine ⟨X.admits, X.cas, X.clock, hF, ?_, X.hears, X.method, X.code, X.here, X.tail, X.warmed, ?_, ?_, ?_⟩
  · have h := X.room
    have hU : ((T.setVm s.vm).setFrames (.invoking m args :: below)).localsInUse = s.localsInUse := by
      rw [State.localsInUse_invoking hF (meth := meth) (c := c) X.method X.code, State.localsInUse_invoking X.frames X.method X.code]
    simp only [State.hasRoom, Bool.and_eq_true, decide_eq_true_eq] at h ⊢
    obtain ⟨⟨⟨⟨h1, h2, h3, h4, h5, h6⟩, h7⟩, h8⟩, h9⟩ := h
    rw [X.frames, List.length_cons] at h2 h3
    have q1 := X.heapSize
    have q2 := X.used
    simp only [hF, hU, List.length_cons, State.stackLimits_setFrames, State.stackBytes_setFrames, hl9, hb9]
    refine ⟨⟨⟨⟨by omega, by omega, by omega, by omega, by omega, h6⟩, ?_⟩, ?_⟩, X.book⟩
    · show T.heap.size + R'.cells ≤ e.platform.maxCells
      omega
    · show T.slotsUsed + R'.slots ≤ e.platform.maxSlots
      omega
  · rw [State.stackLimits_setFrames]; rfl
  · rw [State.stackBytes_setFrames]; rfl
  · refine ⟨?_, Nat.le_refl _, Nat.le_refl _, ?_, ?_, fun a c9 h9 => ⟨c9, h9, rfl, rfl, fun _ _ => rfl⟩⟩
    · obtain ⟨t, ht, -⟩ := State.frames_cons hr
      show T.setVm s.vm = { ((T.setVm s.vm).setFrames (.invoking m args :: below)).setFrames (T.setVm s.vm).frames with heap := T.heap, slotsUsed := T.slotsUsed }
      rw [State.setFrames_setFrames, State.setFrames_self ht]
      rfl
    · show T.slotsUsed = T.slotsUsed + ((T.heap.toList.drop T.heap.size).map (·.slots.size)).sum
      rw [List.drop_eq_nil_of_le (Nat.le_of_eq Array.length_toList)]
      rfl
    · show ((T.heap.toList.drop T.heap.size).map (·.slots.size)).sum ≤ 0
      rw [List.drop_eq_nil_of_le (Nat.le_of_eq Array.length_toList)]
      exact Nat.le_refl _
/-- 'throw new E()': new; dup; invokespecial; athrow -/
theorem vx_throw0 {cc : ByteArray} {pc : Nat} (hexec : p.tables.exec = Jvm.exec) (hb : c.code = cc) (hl : l.stackTraces = false) {own cls : String} {names : List String} {ik ic mc ms : Nat} {A : Nat → Prop}
    (hown : s.vm.findClass own = some m.cls) (hcls : Bundle.fit cls = true) (hnames : ∀ n ∈ names, Bundle.fit n = true)
    (hk : (Cond.classLink own ik cls).before args s = true) (hini : (Cond.initialized cls).before args s = true) (hat : ∀ w ∈ vx_at0 own ic cls names, w.before args s = true)
    (hgood : ∀ w ∈ Cond.classLink own ik cls :: Cond.initialized cls :: vx_at0 own ic cls names, vx_ot w = true)
    (hU : vx_Zq Bundle.tN "UNASSIGNED_STACK" Bundle.steD A s s.heap) (hN : vx_Zq Bundle.tN "SUPPRESSED_SENTINEL" Bundle.listD A s s.heap) (hS : va_S A s.heap H locs) (hsize : ls.size = c.maxLocals)
    (d0 : decode cc pc = .ok (.new ik, 3)) (d3 : decode cc (pc + 3) = .ok (.dup, 1)) (d4 : decode cc (pc + 4) = .ok (.invokespecial ic, 3)) (d7 : decode cc (pc + 7) = .ok (.athrow, 1))
    (hout : ∀ x ∈ c.exceptionTable.toList, covers x (pc + 7) = false)
    (hRframes : names.length + 3 < R.frames) (hRlocals : (rest.map fun v => v.category).sum + (13 * (names.length + 1) + 42) ≤ R.locals) (hRcells : cells + 1 ≤ R.cells) (hRslots : slots + 6 ≤ R.slots) (hlocks : meth.locks = false)
    (hx : ∀ t : State, s.vm.Alike t.vm → H.size ≤ t.heap.size → (∀ q : Nat, q < H.size → t.heap[q]? = H[q]?) → XC cls s t)
    (hf : ∀ z ∈ locs, free z.base) (hc : cells + 1 ≤ mc) (hs : slots + 6 ≤ ms) :
    W p l e R s m args below meth c H locs cells slots (vx_MQ below Qc XC args s mc ms free) (F0 m pc ls rest) := by
  intro T hT X
  have htr : e.platform.stackTraces = false := (show e.platform.stackTraces = l.stackTraces by rw [X.admits.platform]).trans hl
  have Y := vx_rebase X (R' := { frames := R.frames, locals := R.locals, cells := 1, slots := 6 }) (Nat.le_refl _) (Nat.le_refl _) hRcells hRslots
  obtain ⟨s', hA⟩ : ∃ z, z = (T.setVm s.vm).setFrames (.invoking m args :: below) := ⟨_, rfl⟩
  rw [← hA] at Y
  have hvm : s'.vm = s.vm := by rw [hA]; rfl
  have hhp : s'.heap = H := by rw [hA]; exact hT
  have hW0 : s.WarmedH s'.vm := by rw [hvm]; exact State.WarmedH.refl s
  have hat' : ∀ w ∈ vx_at0 own ic cls names, w.before args s' = true := fun w hw => vx_ot_at hW0 hvm.symm (hgood w (List.mem_cons_of_mem _ (List.mem_cons_of_mem _ hw))) (hat w hw)
  have hk' : (Cond.classLink own ik cls).before args s' = true := vx_ot_at hW0 hvm.symm (hgood _ List.mem_cons_self) hk
  have hini' : (Cond.initialized cls).before args s' = true := vx_ot_at hW0 hvm.symm (hgood _ (List.mem_cons_of_mem _ List.mem_cons_self)) hini
  have hU' : vx_Zq Bundle.tN "UNASSIGNED_STACK" Bundle.steD A s' s'.heap := by rw [hhp]; exact vx_Zq.moved hW0.alike (hU.kept hS.2.1)
  have hN' : vx_Zq Bundle.tN "SUPPRESSED_SENTINEL" Bundle.listD A s' s'.heap := by rw [hhp]; exact vx_Zq.moved hW0.alike (hN.kept hS.2.1)
  have h : ∀ w ∈ Bundle.ownAtoms0 own ic cls names, w.before args s' = true := vx_own hat' (vx_isRefq hU'.1) (vx_isRefq hN'.1) hU'.2.word hN'.2.word
  have hown' : s'.vm.findClass own = some m.cls := by rw [hvm]; exact hown
  have hins : (Cond.instantiable cls 6).before args s' = true := h _ (by simp [Bundle.ownAtoms0])
  obtain ⟨vm₁, cX, kX, hfX, hkX, -, -, X₁, st1⟩ := Y.newCold hexec (own := own) (C := cls) (index := ik) (n := 6) hown' hk' hins hini'
    (g := F0 m pc ls rest) rfl (by rw [hb]; exact d0) (Nat.le_refl _) (Nat.le_refl _)
  generalize hT1 : (T.setVm vm₁).pushCell { cls := cX, slots := kX.instanceTypes.map defaultValue, vm := .none } = T1 at X₁ st1
  have hcat : (Value.ref T.heap.size).category = 1 := rfl
  have hcellA : T1.heap[T.heap.size]? = some (freshCell cX kX) := by rw [← hT1]; exact State.heap_pushCell_size _ _
  have d3' : decode c.code (pc + 3) = .ok (.dup, 1) := by rw [hb]; exact d3
  obtain ⟨U, hsteps, hrun, hend, hW, hsame, ce, hce, hO⟩ := X₁.ctorThrow0 hexec htr (own := own) (cls := cls) (names := names) (ic := ic) hown' hcls hnames h (fun x hx => nomatch hx) hfX hkX hcellA (by rw [hhp, hT]; exact Nat.le_refl _)
    (g := { method := m, pc := pc + 4, locals := ls, stack := .ref T.heap.size :: .ref T.heap.size :: rest, locked := none }) rfl hsize rfl rfl (rest := rest) rfl
    (by rw [hb]; exact d4) (by rw [hb]; exact d7) hout hRframes (by simp only [List.map_cons, List.sum_cons, hcat]; omega) hlocks
  obtain ⟨f1, f2⟩ := vx_frame hsame
  rw [hhp] at f1 f2
  have hWs : s.WarmedH U.vm := State.WarmedH.trans hW0 hW
  have hcl : s.vm.findClass cls = some ce.cls := by
    have h9 := hO.cls
    rw [hvm] at h9
    exact h9
  have hall : s.sameButNew ({ U with vm := s.vm } : State) locs mc ms := by
    subst hA
    obtain ⟨e1, e2⟩ := hsame
    rw [State.setFrames_setFrames] at e1
    have h2 : (T.setVm s.vm).sameButNew ({ U with vm := s.vm } : State) [] (0 + 1) (0 + 6) := ⟨e1, e2⟩
    have h3 := X.same.trans h2
    rw [List.append_nil] at h3
    exact h3.mono hc hs
  refine ⟨U, ?_, .threw T.heap.size, hrun, hend, Or.inr ⟨T.heap.size, rfl, cls, ce, locs, hx U hWs.alike f1 (fun q hq => f2 q hq (fun z hz => nomatch hz)), hce, hO.vm, hcl, hWs, hall, hf⟩⟩
  refine st1 _ ?_
  show Steps p.tables e below (T1.setTop { method := m, pc := pc + 3, locals := ls, stack := .ref T.heap.size :: rest, locked := none }) _
  jvm_step X₁.here [X₁.here.top, hexec, d3', Value.category]
  exact hsteps
/-- 'throw new E("text")': new; dup; ldc; invokespecial; athrow -/
theorem vx_throwS {cc : ByteArray} {pc : Nat} (hexec : p.tables.exec = Jvm.exec) (hb : c.code = cc) (hl : l.stackTraces = false) {own cls text : String} {names : List String} {ik is ic mc ms sa : Nat} {A : Nat → Prop}
    (hown : s.vm.findClass own = some m.cls) (hcls : Bundle.fit cls = true) (hnames : ∀ n ∈ names, Bundle.fit n = true)
    (hk : (Cond.classLink own ik cls).before args s = true) (hini : (Cond.initialized cls).before args s = true) (hstr : vk_R own is text sa s) (hat : ∀ w ∈ vx_atS own ic cls names, w.before args s = true)
    (hgood : ∀ w ∈ Cond.classLink own ik cls :: Cond.initialized cls :: vx_atS own ic cls names, vx_ot w = true)
    (hU : vx_Zq Bundle.tN "UNASSIGNED_STACK" Bundle.steD A s s.heap) (hN : vx_Zq Bundle.tN "SUPPRESSED_SENTINEL" Bundle.listD A s s.heap) (hS : va_S A s.heap H locs) (hsize : ls.size = c.maxLocals)
    (d0 : decode cc pc = .ok (.new ik, 3)) (d3 : decode cc (pc + 3) = .ok (.dup, 1)) (d4 : decode cc (pc + 4) = .ok (.ldc is, 2)) (d6 : decode cc (pc + 6) = .ok (.invokespecial ic, 3)) (d9 : decode cc (pc + 9) = .ok (.athrow, 1))
    (hout : ∀ x ∈ c.exceptionTable.toList, covers x (pc + 9) = false)
    (hRframes : names.length + 3 < R.frames) (hRlocals : (rest.map fun v => v.category).sum + (13 * (names.length + 1) + 43) ≤ R.locals) (hRcells : cells + 1 ≤ R.cells) (hRslots : slots + 6 ≤ R.slots) (hlocks : meth.locks = false)
    (hx : ∀ t : State, s.vm.Alike t.vm → H.size ≤ t.heap.size → (∀ q : Nat, q < H.size → t.heap[q]? = H[q]?) → XC cls s t)
    (hf : ∀ z ∈ locs, free z.base) (hc : cells + 1 ≤ mc) (hs : slots + 6 ≤ ms) :
    W p l e R s m args below meth c H locs cells slots (vx_MQ below Qc XC args s mc ms free) (F0 m pc ls rest) := by
  intro T hT X
  have htr : e.platform.stackTraces = false := (show e.platform.stackTraces = l.stackTraces by rw [X.admits.platform]).trans hl
  have Y := vx_rebase X (R' := { frames := R.frames, locals := R.locals, cells := 1, slots := 6 }) (Nat.le_refl _) (Nat.le_refl _) hRcells hRslots
  obtain ⟨s', hA⟩ : ∃ z, z = (T.setVm s.vm).setFrames (.invoking m args :: below) := ⟨_, rfl⟩
  rw [← hA] at Y
  have hvm : s'.vm = s.vm := by rw [hA]; rfl
  have hhp : s'.heap = H := by rw [hA]; exact hT
  have hW0 : s.WarmedH s'.vm := by rw [hvm]; exact State.WarmedH.refl s
  have hat' : ∀ w ∈ vx_atS own ic cls names, w.before args s' = true := fun w hw => vx_ot_at hW0 hvm.symm (hgood w (List.mem_cons_of_mem _ (List.mem_cons_of_mem _ hw))) (hat w hw)
  have hk' : (Cond.classLink own ik cls).before args s' = true := vx_ot_at hW0 hvm.symm (hgood _ List.mem_cons_self) hk
  have hini' : (Cond.initialized cls).before args s' = true := vx_ot_at hW0 hvm.symm (hgood _ (List.mem_cons_of_mem _ List.mem_cons_self)) hini
  have hU' : vx_Zq Bundle.tN "UNASSIGNED_STACK" Bundle.steD A s' s'.heap := by rw [hhp]; exact vx_Zq.moved hW0.alike (hU.kept hS.2.1)
  have hN' : vx_Zq Bundle.tN "SUPPRESSED_SENTINEL" Bundle.listD A s' s'.heap := by rw [hhp]; exact vx_Zq.moved hW0.alike (hN.kept hS.2.1)
  have h : ∀ w ∈ Bundle.ownAtoms own ic cls names, w.before args s' = true := vx_own hat' (vx_isRefq hU'.1) (vx_isRefq hN'.1) hU'.2.word hN'.2.word
  have hown' : s'.vm.findClass own = some m.cls := by rw [hvm]; exact hown
  have hins : (Cond.instantiable cls 6).before args s' = true := h _ (by simp [Bundle.ownAtoms])
  obtain ⟨vm₁, cX, kX, hfX, hkX, -, -, X₁, st1⟩ := Y.newCold hexec (own := own) (C := cls) (index := ik) (n := 6) hown' hk' hins hini'
    (g := F0 m pc ls rest) rfl (by rw [hb]; exact d0) (Nat.le_refl _) (Nat.le_refl _)
  generalize hT1 : (T.setVm vm₁).pushCell { cls := cX, slots := kX.instanceTypes.map defaultValue, vm := .none } = T1 at X₁ st1
  have hcat : (Value.ref T.heap.size).category = 1 := rfl
  have hcellA : T1.heap[T.heap.size]? = some (freshCell cX kX) := by rw [← hT1]; exact State.heap_pushCell_size _ _
  have d3' : decode c.code (pc + 3) = .ok (.dup, 1) := by rw [hb]; exact d3
  have d4' : decode c.code (pc + 4) = .ok (.ldc is, 2) := by rw [hb]; exact d4
  have hstr' : vk_R own is text sa s' := vk_R.warm hW0 hstr
  obtain ⟨U, hsteps, hrun, hend, hW, hsame, ce, hce, hO⟩ := X₁.ctorThrowS hexec htr (own := own) (cls := cls) (names := names) (ic := ic) hown' hcls hnames h (fun x hx => nomatch hx) hfX hkX hcellA (by rw [hhp, hT]; exact Nat.le_refl _) (msg := .ref sa) rfl
    (g := { method := m, pc := pc + 6, locals := ls, stack := .ref sa :: .ref T.heap.size :: .ref T.heap.size :: rest, locked := none }) rfl hsize rfl rfl (rest := rest) rfl
    (by rw [hb]; exact d6) (by rw [hb]; exact d9) hout hRframes (by simp only [List.map_cons, List.sum_cons, hcat]; omega) hlocks
  obtain ⟨f1, f2⟩ := vx_frame hsame
  rw [hhp] at f1 f2
  have hWs : s.WarmedH U.vm := State.WarmedH.trans hW0 hW
  have hcl : s.vm.findClass cls = some ce.cls := by
    have h9 := hO.cls
    rw [hvm] at h9
    exact h9
  have hall : s.sameButNew ({ U with vm := s.vm } : State) locs mc ms := by
    subst hA
    obtain ⟨e1, e2⟩ := hsame
    rw [State.setFrames_setFrames] at e1
    have h2 : (T.setVm s.vm).sameButNew ({ U with vm := s.vm } : State) [] (0 + 1) (0 + 6) := ⟨e1, e2⟩
    have h3 := X.same.trans h2
    rw [List.append_nil] at h3
    exact h3.mono hc hs
  refine ⟨U, ?_, .threw T.heap.size, hrun, hend, Or.inr ⟨T.heap.size, rfl, cls, ce, locs, hx U hWs.alike f1 (fun q hq => f2 q hq (fun z hz => nomatch hz)), hce, hO.vm, hcl, hWs, hall, hf⟩⟩
  refine st1 _ ?_
  show Steps p.tables e below (T1.setTop { method := m, pc := pc + 3, locals := ls, stack := .ref T.heap.size :: rest, locked := none }) _
  jvm_step X₁.here [X₁.here.top, hexec, d3', Value.category]
  exact X₁.ldcString hexec (own := own) (text := text) (index := is) (a := sa) hown' hstr'.1 hstr'.2
    (g := { method := m, pc := pc + 4, locals := ls, stack := .ref T.heap.size :: .ref T.heap.size :: rest, locked := none }) rfl d4' _ hsteps
/-- 'throw new E("text")', the text by a wide index -/
theorem vx_throwSW {cc : ByteArray} {pc : Nat} (hexec : p.tables.exec = Jvm.exec) (hb : c.code = cc) (hl : l.stackTraces = false) {own cls text : String} {names : List String} {ik is ic mc ms sa : Nat} {A : Nat → Prop}
    (hown : s.vm.findClass own = some m.cls) (hcls : Bundle.fit cls = true) (hnames : ∀ n ∈ names, Bundle.fit n = true)
    (hk : (Cond.classLink own ik cls).before args s = true) (hini : (Cond.initialized cls).before args s = true) (hstr : vk_R own is text sa s) (hat : ∀ w ∈ vx_atS own ic cls names, w.before args s = true)
    (hgood : ∀ w ∈ Cond.classLink own ik cls :: Cond.initialized cls :: vx_atS own ic cls names, vx_ot w = true)
    (hU : vx_Zq Bundle.tN "UNASSIGNED_STACK" Bundle.steD A s s.heap) (hN : vx_Zq Bundle.tN "SUPPRESSED_SENTINEL" Bundle.listD A s s.heap) (hS : va_S A s.heap H locs) (hsize : ls.size = c.maxLocals)
    (d0 : decode cc pc = .ok (.new ik, 3)) (d3 : decode cc (pc + 3) = .ok (.dup, 1)) (d4 : decode cc (pc + 4) = .ok (.ldc_w is, 3)) (d7 : decode cc (pc + 7) = .ok (.invokespecial ic, 3)) (d10 : decode cc (pc + 10) = .ok (.athrow, 1))
    (hout : ∀ x ∈ c.exceptionTable.toList, covers x (pc + 10) = false)
    (hRframes : names.length + 3 < R.frames) (hRlocals : (rest.map fun v => v.category).sum + (13 * (names.length + 1) + 43) ≤ R.locals) (hRcells : cells + 1 ≤ R.cells) (hRslots : slots + 6 ≤ R.slots) (hlocks : meth.locks = false)
    (hx : ∀ t : State, s.vm.Alike t.vm → H.size ≤ t.heap.size → (∀ q : Nat, q < H.size → t.heap[q]? = H[q]?) → XC cls s t)
    (hf : ∀ z ∈ locs, free z.base) (hc : cells + 1 ≤ mc) (hs : slots + 6 ≤ ms) :
    W p l e R s m args below meth c H locs cells slots (vx_MQ below Qc XC args s mc ms free) (F0 m pc ls rest) := by
  intro T hT X
  have htr : e.platform.stackTraces = false := (show e.platform.stackTraces = l.stackTraces by rw [X.admits.platform]).trans hl
  have Y := vx_rebase X (R' := { frames := R.frames, locals := R.locals, cells := 1, slots := 6 }) (Nat.le_refl _) (Nat.le_refl _) hRcells hRslots
  obtain ⟨s', hA⟩ : ∃ z, z = (T.setVm s.vm).setFrames (.invoking m args :: below) := ⟨_, rfl⟩
  rw [← hA] at Y
  have hvm : s'.vm = s.vm := by rw [hA]; rfl
  have hhp : s'.heap = H := by rw [hA]; exact hT
  have hW0 : s.WarmedH s'.vm := by rw [hvm]; exact State.WarmedH.refl s
  have hat' : ∀ w ∈ vx_atS own ic cls names, w.before args s' = true := fun w hw => vx_ot_at hW0 hvm.symm (hgood w (List.mem_cons_of_mem _ (List.mem_cons_of_mem _ hw))) (hat w hw)
  have hk' : (Cond.classLink own ik cls).before args s' = true := vx_ot_at hW0 hvm.symm (hgood _ List.mem_cons_self) hk
  have hini' : (Cond.initialized cls).before args s' = true := vx_ot_at hW0 hvm.symm (hgood _ (List.mem_cons_of_mem _ List.mem_cons_self)) hini
  have hU' : vx_Zq Bundle.tN "UNASSIGNED_STACK" Bundle.steD A s' s'.heap := by rw [hhp]; exact vx_Zq.moved hW0.alike (hU.kept hS.2.1)
  have hN' : vx_Zq Bundle.tN "SUPPRESSED_SENTINEL" Bundle.listD A s' s'.heap := by rw [hhp]; exact vx_Zq.moved hW0.alike (hN.kept hS.2.1)
  have h : ∀ w ∈ Bundle.ownAtoms own ic cls names, w.before args s' = true := vx_own hat' (vx_isRefq hU'.1) (vx_isRefq hN'.1) hU'.2.word hN'.2.word
  have hown' : s'.vm.findClass own = some m.cls := by rw [hvm]; exact hown
  have hins : (Cond.instantiable cls 6).before args s' = true := h _ (by simp [Bundle.ownAtoms])
  obtain ⟨vm₁, cX, kX, hfX, hkX, -, -, X₁, st1⟩ := Y.newCold hexec (own := own) (C := cls) (index := ik) (n := 6) hown' hk' hins hini'
    (g := F0 m pc ls rest) rfl (by rw [hb]; exact d0) (Nat.le_refl _) (Nat.le_refl _)
  generalize hT1 : (T.setVm vm₁).pushCell { cls := cX, slots := kX.instanceTypes.map defaultValue, vm := .none } = T1 at X₁ st1
  have hcat : (Value.ref T.heap.size).category = 1 := rfl
  have hcellA : T1.heap[T.heap.size]? = some (freshCell cX kX) := by rw [← hT1]; exact State.heap_pushCell_size _ _
  have d3' : decode c.code (pc + 3) = .ok (.dup, 1) := by rw [hb]; exact d3
  have d4' : decode c.code (pc + 4) = .ok (.ldc_w is, 3) := by rw [hb]; exact d4
  have hstr' : vk_R own is text sa s' := vk_R.warm hW0 hstr
  obtain ⟨U, hsteps, hrun, hend, hW, hsame, ce, hce, hO⟩ := X₁.ctorThrowS hexec htr (own := own) (cls := cls) (names := names) (ic := ic) hown' hcls hnames h (fun x hx => nomatch hx) hfX hkX hcellA (by rw [hhp, hT]; exact Nat.le_refl _) (msg := .ref sa) rfl
    (g := { method := m, pc := pc + 7, locals := ls, stack := .ref sa :: .ref T.heap.size :: .ref T.heap.size :: rest, locked := none }) rfl hsize rfl rfl (rest := rest) rfl
    (by rw [hb]; exact d7) (by rw [hb]; exact d10) hout hRframes (by simp only [List.map_cons, List.sum_cons, hcat]; omega) hlocks
  obtain ⟨f1, f2⟩ := vx_frame hsame
  rw [hhp] at f1 f2
  have hWs : s.WarmedH U.vm := State.WarmedH.trans hW0 hW
  have hcl : s.vm.findClass cls = some ce.cls := by
    have h9 := hO.cls
    rw [hvm] at h9
    exact h9
  have hall : s.sameButNew ({ U with vm := s.vm } : State) locs mc ms := by
    subst hA
    obtain ⟨e1, e2⟩ := hsame
    rw [State.setFrames_setFrames] at e1
    have h2 : (T.setVm s.vm).sameButNew ({ U with vm := s.vm } : State) [] (0 + 1) (0 + 6) := ⟨e1, e2⟩
    have h3 := X.same.trans h2
    rw [List.append_nil] at h3
    exact h3.mono hc hs
  refine ⟨U, ?_, .threw T.heap.size, hrun, hend, Or.inr ⟨T.heap.size, rfl, cls, ce, locs, hx U hWs.alike f1 (fun q hq => f2 q hq (fun z hz => nomatch hz)), hce, hO.vm, hcl, hWs, hall, hf⟩⟩
  refine st1 _ ?_
  show Steps p.tables e below (T1.setTop { method := m, pc := pc + 3, locals := ls, stack := .ref T.heap.size :: rest, locked := none }) _
  jvm_step X₁.here [X₁.here.top, hexec, d3', Value.category]
  exact X₁.ldcStringW hexec (own := own) (text := text) (index := is) (a := sa) hown' hstr'.1 hstr'.2
    (g := { method := m, pc := pc + 4, locals := ls, stack := .ref T.heap.size :: .ref T.heap.size :: rest, locked := none }) rfl d4' _ hsteps
end Ends
section Bodies
variable {l : Launch}
theorem vx_ofW {y : MethodName} {ws ws' : List Cond} {rm : Room} {Pc : Array Value → State → Prop} {Qc : Array Value → State → Outcome → State → Prop} {XC : String → State → State → Prop} {mc ms : Nat} {free : Addr → Prop} {cc : ByteArray} {maxL : Nat} {ret : Option FieldType}
    (hy : plainName y.cls = true) (hw : ws = Cond.code y cc maxL ret :: ws')
    (body : ∀ p e s m args below meth c s₁, BodyLoose p l y (headSpec ws rm) cc maxL ret e s m args below meth c s₁ → c.maxLocals = maxL → (∀ x ∈ c.exceptionTable.toList, False) → Pc args s →
      W p l e (headSpec ws rm).room s m args below meth c s.heap [] 0 0 (vx_MQ below Qc XC args s mc ms free) (entryFrame m args maxL)) : vx_Met l y ws rm Pc Qc XC mc ms free := by
  refine MetFree.of_bodyS (code := cc) (maxLocals := maxL) (ret := ret) hy ?_ ?_
  · intro args s m h hn
    obtain ⟨meth, c, h1, h2, h3, h4, h5, h6, -, -⟩ := Cond.code_spec hn (atoms_spec (ws := ws) h _ (by rw [hw]; exact List.mem_cons_self))
    exact ⟨meth, c, h1, h2, h3, h4, h5, h6⟩
  · intro p e s m args below meth c s₁ B hml hP _
    have hh0 : s₁.heap = s.heap := by rw [B.state]; rfl
    have ht : ∀ x ∈ c.exceptionTable.toList, False := by
      obtain ⟨meth9, c9, h1, h2, -, -, -, -, h7, -⟩ := Cond.code_spec B.named (atoms_spec (ws := ws) B.pre _ (by rw [hw]; exact List.mem_cons_self))
      cases Option.some.inj (h1.symm.trans B.method)
      cases Option.some.inj (h2.symm.trans (Stand.of_body B).code)
      intro x hx
      rw [Array.isEmpty_iff.mp h7] at hx
      cases hx
    obtain ⟨t, a1, o, b1, b2, b3⟩ := body p e s m args below meth c s₁ B hml ht hP s₁ hh0 (Stand.of_body B)
    exact ⟨t, o, a1, b1, b2, b3⟩
/-- the table of a body with handlers -/
theorem vx_table {p : Program} {x y : MethodName} {S : Spec} {cc bytes : ByteArray} {maxL maxL' : Nat} {ret ret' : Option FieldType} {e : Env} {s s₁ : State} {m : MethodId} {args : Array Value} {below : List Frame} {meth : Method} {c : Code} {hh : List (Nat × Nat × Nat × Nat)}
    (B : BodyLoose p l y S cc maxL ret e s m args below meth c s₁) (h : (Cond.codeWith y bytes maxL' ret' hh).before args s = true) : c.exceptionTable.toList = tableOf hh := by
  obtain ⟨m9, meth9, c9, hn9, h1, h2, -, -, h6, -⟩ := Cond.codeWith_spec h
  cases Option.some.inj (hn9.symm.trans B.named)
  cases Option.some.inj (h1.symm.trans B.method)
  cases Option.some.inj (h2.symm.trans (Stand.of_body B).code)
  rw [← h6, table_eq]
end Bodies
end VXA
/-! ===== END ===== -/
/-! ===== BEGIN a static call of a method with an exception table ===== -/
section VXS
variable {p : Program} {l : Launch} {e : Env} {R : Room} {s : State} {m : MethodId} {args : Array Value} {below : List Frame} {meth : Method} {c : Code} {T : State} {H : Heap} {locs : List Loc} {cells slots : Nat}
abbrev vx_CSW (R : Room) (s : State) (args : Array Value) (own : String) (index : Nat) (y : MethodName) (bytes : ByteArray) (maxL : Nat) (ret : Option FieldType) (hh : List (Nat × Nat × Nat × Nat)) (ws : List Cond) (rm : Room) (mc ms n : Nat) : Prop :=
  (rm.cells = mc ∧ rm.slots = ms ∧ rm.frames + 1 ≤ R.frames ∧ 8 + (maxL + 11) + rm.locals ≤ R.locals ∧ (∀ w ∈ ws, ∀ (a' : Array Value) (U : State), s.WarmedH U.vm → w.before a' U = true) ∧ Cond.codeWith y bytes maxL ret hh ∈ ws) ∧
  (Cond.codeWith y bytes maxL ret hh).before args s = true ∧ (Cond.initialized y.cls).before args s = true ∧ (y.cls ≠ "java/lang/invoke/MethodHandle" ∧ y.cls ≠ "java/lang/invoke/VarHandle") ∧
  (∀ sig, parseMethodDescriptor y.desc = some sig → n = sig.parameters.length) ∧ (Cond.methodLink own index y).before args s = true ∧ (Cond.static y).before args s = true
theorem vx_cwSW {own : String} {index maxL mc ms : Nat} {y : MethodName} {bytes : ByteArray} {ret : Option FieldType} {hh : List (Nat × Nat × Nat × Nat)} {Ts ws ws' : List Cond} {rm : Room} (n : Nat) (ht : ∀ w ∈ Ts, w.before args s = true) (hT : GoodIn Ts (va_wsS own index y ws)) (hw : ws = Cond.codeWith y bytes maxL ret hh :: ws') (hrc : rm.cells = mc) (hrs : rm.slots = ms)
    (hd : y.cls ≠ "java/lang/invoke/MethodHandle" ∧ y.cls ≠ "java/lang/invoke/VarHandle" ∧ (parseMethodDescriptor y.desc).map (fun d => d.parameters.length) = some n) (hR : rm.frames + 1 ≤ R.frames ∧ 8 + (maxL + 11) + rm.locals ≤ R.locals) :
    vx_CSW R s args own index y bytes maxL ret hh ws rm mc ms n := by
  have ok : ∀ w ∈ va_wsS own index y ws, w.before args s = true := fun w h => ht w (hT w h).1
  have hG : GoodIn Ts ws := fun w h => hT w (by unfold va_wsS; exact List.mem_append_right _ h)
  have hc : Cond.codeWith y bytes maxL ret hh ∈ ws := by rw [hw]; exact List.mem_cons_self
  refine ⟨⟨hrc, hrs, hR.1, hR.2, pay_in ht hG, hc⟩, ht _ (hG _ hc).1, ok _ (by simp [va_wsS]), ⟨hd.1, hd.2.1⟩, fun sig h => ?_, ok _ (by simp [va_wsS]), ok _ (by simp [va_wsS])⟩
  have h2 := hd.2.2
  rw [h] at h2
  exact (Option.some.inj h2).symm
theorem vx_callSW (X : Stand p l e R s m args below meth c T locs cells slots) (hexec : p.tables.exec = Jvm.exec) {own : String} {index : Nat} {y : MethodName} {bytes : ByteArray} {maxL : Nat} {ret : Option FieldType} {hh : List (Nat × Nat × Nat × Nat)}
    (hown : s.vm.findClass own = some m.cls) (hlink : (Cond.methodLink own index y).before args s = true) (hstat : (Cond.static y).before args s = true) (hinit : (Cond.initialized y.cls).before args s = true)
    (hcode : (Cond.codeWith y bytes maxL ret hh).before args s = true) (hy : y.cls ≠ "java/lang/invoke/MethodHandle" ∧ y.cls ≠ "java/lang/invoke/VarHandle")
    {W9 : Nat} {Pre : Pt → Array Value → Prop} {Post : Pt → Array Value → Option Value → Pt → Prop} (hK : Back l R p e below s args y 3 W9 Pre Post)
    {g : JFrame} (hg : g.method = m) (hsize : g.locals.size = c.maxLocals) {argsL rest : List Value} (hlen : ∀ sig, parseMethodDescriptor y.desc = some sig → argsL.length = sig.parameters.length)
    (hstack : g.stack = argsL.reverse ++ rest) (hW : 2 * g.monitorRoom + (rest.map fun v => v.category).sum ≤ W9) (hdg : decode c.code g.pc = .ok (.invokestatic index, 3))
    (hpre : ∀ vm₁, s.WarmedH vm₁ → Pre ⟨T.setVm vm₁, locs, cells, slots⟩ argsL.toArray) :
    ∃ (v : Option Value) (vm₁ : Vm) (B : Pt), s.WarmedH vm₁ ∧ Stand p l e R s m args below meth c B.U B.locs B.cells B.slots ∧ Post ⟨T.setVm vm₁, locs, cells, slots⟩ argsL.toArray v B ∧
      ∀ target, Steps p.tables e below (B.U.setTop { g with pc := g.pc + 3, stack := v.toList ++ rest }) target → Steps p.tables e below (T.setTop g) target := by
  obtain ⟨mk, methM, cM, hnamed, hmethM, -, -, -, -, -, -, hsigM⟩ := Cond.codeWith_spec hcode
  have hstatic : methM.isStatic = true := Cond.static_spec hnamed hmethM hstat
  obtain ⟨kP, hkP, -⟩ := className_of_methodNamed hnamed
  have hinitP : kP.init = .initialized := Cond.initialized_spec (findClass_of_methodNamed hnamed) hkP hinit
  obtain ⟨vm₁, X₁, hstep₁⟩ := X.invokestatic hexec hown hlink hnamed hmethM hstatic hkP hinitP hy (g := g) hg (argsL := argsL) (rest := rest) (hlen _ hsigM) hstack hdg
  obtain ⟨v, B, X', hpost, hsteps⟩ := hK m meth c ⟨T.setVm vm₁, locs, cells, slots⟩ { g with stack := rest } (.invokestatic index) mk argsL.toArray X₁ hg hsize hdg hW (X₁.named hnamed) (hpre vm₁ X₁.warmed)
  exact ⟨v, vm₁, B, X₁.warmed, X', hpost, fun target h => hstep₁ _ fun acts => by rw [doInvoke_state]; exact hsteps.trans h⟩
theorem vx_runSW {y : MethodName} {bytes cc : ByteArray} {maxL nL mc ms n index : Nat} {ret : Option FieldType} {hh : List (Nat × Nat × Nat × Nat)} {ws : List Cond} {rm : Room} {Pc : Array Value → State → Prop} {Qc : Array Value → State → Outcome → State → Prop} {free : Addr → Prop} {Ts : List Cond} {own : String} {As rest : List Value} {g : JFrame}
    (S : CallFix p m c cc nL s args Ts own) (hM : Met l y ws rm Pc Qc mc ms free) (cw : vx_CSW R s args own index y bytes maxL ret hh ws rm mc ms n) (hp : PreS s H Pc As)
    (hg : g.method = m) (hn : As.length = n) (hsize : g.locals.size = nL) (hstack : g.stack = As.reverse ++ rest) (hW : 2 * g.monitorRoom + (rest.map fun v => v.category).sum ≤ 8) (hdg : decode cc g.pc = .ok (.invokestatic index, 3)) (hf : cells + mc ≤ R.cells ∧ slots + ms ≤ R.slots) :
    va_Run p l e R s m args below meth c H locs cells slots mc ms g rest (Qc As.toArray) (free) := by
  obtain ⟨⟨hrc, hrs, hfr, hlo, hws, hcw⟩, hcode, hini, hy, hlen, hl, hstt⟩ := cw
  have hK : Back l R p e below s args y 3 8 (PreOf R mc ms Pc) (PostOf Qc mc ms free) := va_backW (hh := hh) (bytes := bytes) (maxL := maxL) (ret := ret) hM hp.1 hrc hrs hfr hlo hws hcw (fun a' U hW => word_at hW (Or.inl (by first | rfl | simp [Cond.onTables, Cond.keeps, Cond.steady])) hini)
  obtain ⟨hx, hb, hml, ho, -⟩ := S
  intro T hT X
  obtain ⟨v, vm₁, ⟨U', l2, c2, s2⟩, hW₁, X', ⟨g', mk, t, L, e1, e2, hq, h1, hL, h2, h3⟩, st⟩ := vx_callSW X hx (hh := hh) (bytes := bytes) (maxL := maxL) (ret := ret) ho hl hstt hini hcode hy hK hg (hsize.trans hml.symm) (argsL := As) (rest := rest) (fun sig h => hn.trans (hlen sig h)) hstack hW (by rw [hb]; exact hdg)
    (fun vm₁ hW₁ => ⟨hf.1, hf.2, hp.2 (T.setVm vm₁) hT hW₁⟩)
  dsimp only [Pt.U, Pt.locs, Pt.cells, Pt.slots] at X' e1 e2 h1 h2 h3 st
  subst h1; subst h2; subst h3
  exact ⟨v, (T.setVm vm₁).calling g' mk As.toArray, t, U', L, hT, X', hL, e1, e2, hq, st⟩
/-- a thing of a world lies in the heap -/
theorem vx_lt {D : va_G} {cl : List vw_C} {ws : va_W} {H1 : Heap} (h : va_P D cl ws H1) {k : Nat} {q : Nat × va_E} (hk : ws[k]? = some q) : q.1 < H1.size := (h k q hk).lt
end VXS
/-! ===== END ===== -/
/-! ===== BEGIN methods with a table of their own: called by a name, returning or throwing ===== -/
section VXH
/-! vx_backW, vx_callVX, vx_callSX, vx_callVW, vx_runVW, vx_runVX, vx_runSX, vx_ofWH follow the same proofs as their sisters above (Free/Laws.lean, Shelf42/LK1.lean); vx_outP calls Shelf42/NT130.lean (outThrough). -/
section
variable {l : Launch} {R : Room} {p : Program} {e : Env} {below : List Frame} {s : State} {sargs : Array Value} {y : MethodName} {len W9 : Nat}
theorem vx_backW {ws : List Cond} {rm : Room} {Pc : Array Value → State → Prop} {Qc : Array Value → State → Outcome → State → Prop} {XC : String → State → State → Prop} {mc ms : Nat} {free : Addr → Prop} {bytes : ByteArray} {maxL : Nat} {ret : Option FieldType} {hh : List (Nat × Nat × Nat × Nat)}
    (hM : vx_Met l y ws rm Pc Qc XC mc ms free) (hblind : FrameBlind Pc) (hrc : rm.cells = mc) (hrs : rm.slots = ms)
    (hframes : rm.frames + 1 ≤ R.frames) (hlocals : W9 + (maxL + 11) + rm.locals ≤ R.locals)
    (hws : ∀ w ∈ ws, ∀ a' U, s.WarmedH U.vm → w.before a' U = true) (hcode : Cond.codeWith y bytes maxL ret hh ∈ ws) (hinit : ∀ a' U, s.WarmedH U.vm → (Cond.initialized y.cls).before a' U = true) :
    vx_Back l R p e below s sargs y len W9 (PreOf R mc ms Pc) (PostOf Qc mc ms free) (vx_Post XC mc ms free) := by
  intro m meth c A g ig mk a X hg hsize hdg hW hn hp
  have h1 : (headSpec ws rm).pre.before a A.U = true := atoms_intro fun w hw => hws w hw _ _ X.warmed
  have h2 : (Cond.codeWith y bytes maxL ret hh).before a A.U = true := hws _ hcode _ _ X.warmed
  have h3 : (Cond.initialized y.cls).before a A.U = true := hinit _ _ X.warmed
  have h4 : A.cells + (headSpec ws rm).room.cells ≤ R.cells := by rw [show (headSpec ws rm).room.cells = mc from hrc]; exact hp.1
  have h5 : A.slots + (headSpec ws rm).room.slots ≤ R.slots := by rw [show (headSpec ws rm).room.slots = ms from hrs]; exact hp.2.1
  have hPc : Pc a (A.U.calling g mk a) := hblind _ _ _ _ hp.2.2
  obtain ⟨U, Ls, c0, s0⟩ := A
  dsimp only [Pt.U, Pt.locs, Pt.cells, Pt.slots] at h1 h2 h3 h4 h5 X hn hPc ⊢
  obtain ⟨m9, methY, cY, hn9, hmY, hcY, -, hlY, -⟩ := Cond.codeWith_spec h2
  cases Option.some.inj (hn9.symm.trans hn)
  obtain ⟨kY, hkY, -⟩ := className_of_methodNamed hn
  have hinitY : kY.init = .initialized := Cond.initialized_spec (findClass_of_methodNamed hn) hkY h3
  have h : At U g.method c below := by rw [hg]; exact X.here
  have hlocals9 : W9 + (maxL + 11) + (headSpec ws rm).room.locals ≤ R.locals := hlocals
  have happ : (headSpec ws rm).appliesLoose y e.platform (U.calling g mk a) = true :=
    Spec.appliesLoose_calling (g := g) h hdg hn hkY hinitY
      (X.room_calling (g := g) (R' := (headSpec ws rm).room) hsize hmY hcY hframes (by rw [hlY]; omega) h4 h5) h1
  obtain ⟨mid, hmid⟩ := h.above
  have hfr : (U.setTop g).frames = (.java g :: mid) ++ below := by rw [State.frames_setTop' g h.top, hmid]; rfl
  obtain ⟨o, s₂, hsteps, -, hend, hq⟩ := Steps.callFree hM p X.admits X.cas X.clock (acts := []) hfr happ hPc trivial
  have hq' : vx_Q Qc XC mc ms free a (U.calling g mk a) o s₂ := hq
  rw [State.frames_setTop' g h.top] at hend
  obtain ⟨g₀, hg0⟩ := Option.isSome_iff_exists.mp h.top
  obtain ⟨r, hr⟩ := State.topJava?_eq_some.mp hg0
  have hr' : (({ U with heap := s₂.heap, slotsUsed := s₂.slotsUsed } : State).setVm s₂.vm).frames = .java g₀ :: r := hr
  rcases hq' with ⟨hqc, L, hfe, hL⟩ | ⟨q, rfl, E, ce, L, hx, hce, hcv, hcl, hW₂, hsm, hL⟩
  · obtain ⟨⟨v, rfl⟩, hW₂, e2, q2, q3, q4, q5, q6⟩ := id hfe
    have e3 : s₂ = ({ (U.calling g mk a).setFrames s₂.frames with heap := s₂.heap, slotsUsed := s₂.slotsUsed } : State).setVm s₂.vm := by
      have : s₂ = ({ s₂ with vm := (U.calling g mk a).vm } : State).setVm s₂.vm := rfl
      rw [e2] at this
      exact this
    obtain ⟨c₂, i₂, len₂, hc₂, hd₂, hf₂⟩ := hend
    have hW' : U.WarmedH s₂.vm := hW₂
    have hcc : c₂ = c := by
      have h1 : s₂.code? g.method = U.code? g.method := by
        rw [State.code?_eq, State.code?_eq, hW'.alike.method?]
      exact Option.some.inj (hc₂.symm.trans (h1.trans h.code))
    subst hcc
    have hlen : len₂ = len := by rw [hdg] at hd₂; cases hd₂; rfl
    subst hlen
    have hs₂ : s₂ = (({ U with heap := s₂.heap, slotsUsed := s₂.slotsUsed } : State).setVm s₂.vm).setTop { g with pc := g.pc + len₂, stack := v.toList ++ g.stack } := by
      refine e3.trans ?_
      rw [hf₂, State.calling_eq h.top, State.setFrames_setFrames, State.setTop_of_frames _ hr', hr]
      rfl
    have hsame : U.sameButNew ({ U with heap := s₂.heap, slotsUsed := s₂.slotsUsed } : State) L mc ms := by
      refine ⟨?_, q2, q3, q4, q5, q6⟩
      obtain ⟨t, ht, -⟩ := State.frames_cons hr
      show ({ U with heap := s₂.heap, slotsUsed := s₂.slotsUsed } : State) = { U.setFrames U.frames with heap := s₂.heap, slotsUsed := s₂.slotsUsed }
      rw [State.setFrames_self ht]
    subst hg
    refine Or.inl ⟨v, ⟨(({ U with heap := s₂.heap, slotsUsed := s₂.slotsUsed } : State).setVm s₂.vm), Ls ++ L, c0 + mc, s0 + ms⟩,
      ⟨X.admits, X.cas, X.clock, X.frames, X.room, X.hears, X.method, X.code, (X.here.setHeapUsed s₂.heap s₂.slotsUsed).setVm hW'.alike, X.tail, State.WarmedH.trans X.warmed hW', X.limits, X.bytes, X.same.trans (hsame.setVm s.vm)⟩,
      ⟨g, mk, s₂, L, rfl, rfl, hqc, rfl, hL, rfl, rfl⟩, ?_⟩
    show Steps p.tables e below _ ((({ U with heap := s₂.heap, slotsUsed := s₂.slotsUsed } : State).setVm s₂.vm).setTop { g with pc := g.pc + len₂, stack := v.toList ++ g.stack })
    rw [← hs₂]
    exact hsteps
  · obtain ⟨e2, q2, q3, q4, q5, q6⟩ := id hsm
    have e3 : s₂ = ({ (U.calling g mk a).setFrames s₂.frames with heap := s₂.heap, slotsUsed := s₂.slotsUsed } : State).setVm s₂.vm := by
      have : s₂ = ({ s₂ with vm := (U.calling g mk a).vm } : State).setVm s₂.vm := rfl
      rw [e2] at this
      exact this
    have hf₂ : s₂.frames = .throwing q :: .java g :: U.frames.tail := hend
    have hW' : U.WarmedH s₂.vm := hW₂
    have hs₂ : s₂ = ((({ U with heap := s₂.heap, slotsUsed := s₂.slotsUsed } : State).setVm s₂.vm).setTop g).pushFrame (.throwing q) := by
      refine e3.trans ?_
      rw [hf₂, State.calling_eq h.top, State.setFrames_setFrames, State.pushFrame, State.frames_setTop _ hr', State.setTop_of_frames _ hr', State.setFrames_setFrames, hr]
      rfl
    have hsame : U.sameButNew ({ U with heap := s₂.heap, slotsUsed := s₂.slotsUsed } : State) L mc ms := by
      refine ⟨?_, q2, q3, q4, q5, q6⟩
      obtain ⟨t, ht, -⟩ := State.frames_cons hr
      show ({ U with heap := s₂.heap, slotsUsed := s₂.slotsUsed } : State) = { U.setFrames U.frames with heap := s₂.heap, slotsUsed := s₂.slotsUsed }
      rw [State.setFrames_self ht]
    subst hg
    refine Or.inr ⟨q, ⟨(({ U with heap := s₂.heap, slotsUsed := s₂.slotsUsed } : State).setVm s₂.vm), Ls ++ L, c0 + mc, s0 + ms⟩,
      ⟨X.admits, X.cas, X.clock, X.frames, X.room, X.hears, X.method, X.code, (X.here.setHeapUsed s₂.heap s₂.slotsUsed).setVm hW'.alike, X.tail, State.WarmedH.trans X.warmed hW', X.limits, X.bytes, X.same.trans (hsame.setVm s.vm)⟩,
      ⟨g, mk, s₂, L, E, ce, rfl, rfl, hx, hce, hcv, hcl, rfl, hL, rfl, rfl⟩, ?_⟩
    show Steps p.tables e below _ (((({ U with heap := s₂.heap, slotsUsed := s₂.slotsUsed } : State).setVm s₂.vm).setTop g).pushFrame (.throwing q))
    rw [← hs₂]
    exact hsteps
end
variable {p : Program} {l : Launch} {e : Env} {R : Room} {s : State} {m : MethodId} {args : Array Value} {below : List Frame} {meth : Method} {c : Code} {T : State} {H : Heap} {locs : List Loc} {cells slots : Nat}
theorem vx_callVX (X : Stand p l e R s m args below meth c T locs cells slots) (hexec : p.tables.exec = Jvm.exec) {own C : String} {index : Nat} {y : MethodName} {bytes : ByteArray} {maxL : Nat} {ret : Option FieldType} {hh : List (Nat × Nat × Nat × Nat)}
    (hown : s.vm.findClass own = some m.cls) (hlink : (Cond.methodLink own index y).before args s = true) (hinst : (Cond.instanceMethod y).before args s = true) (hsel : (Cond.selects C y y).before args s = true)
    (hcode : (Cond.codeWith y bytes maxL ret hh).before args s = true) (hy : y.cls ≠ "java/lang/invoke/MethodHandle" ∧ y.cls ≠ "java/lang/invoke/VarHandle")
    {W9 : Nat} {Pre : Pt → Array Value → Prop} {Post : Pt → Array Value → Option Value → Pt → Prop} {PostX : Pt → Array Value → Addr → Pt → Prop} (hK : vx_Back l R p e below s args y 3 W9 Pre Post PostX)
    {b : Addr} {cellB : Cell} (hcell : T.heap[b]? = some cellB) (hobj : cellB.vm.isStatics = false) (hcls : s.vm.findClass C = some cellB.cls)
    {g : JFrame} (hg : g.method = m) (hsize : g.locals.size = c.maxLocals) {argsL rest : List Value} (hlen : ∀ sig, parseMethodDescriptor y.desc = some sig → argsL.length = sig.parameters.length)
    (hstack : g.stack = argsL.reverse ++ .ref b :: rest) (hW : 2 * g.monitorRoom + (rest.map fun v => v.category).sum ≤ W9) (hdg : decode c.code g.pc = .ok (.invokevirtual index, 3))
    (hpre : ∀ vm₁, s.WarmedH vm₁ → Pre ⟨T.setVm vm₁, locs, cells, slots⟩ (Value.ref b :: argsL).toArray) :
    (∃ (v : Option Value) (vm₁ : Vm) (B : Pt), s.WarmedH vm₁ ∧ Stand p l e R s m args below meth c B.U B.locs B.cells B.slots ∧ Post ⟨T.setVm vm₁, locs, cells, slots⟩ (Value.ref b :: argsL).toArray v B ∧
      ∀ target, Steps p.tables e below (B.U.setTop { g with pc := g.pc + 3, stack := v.toList ++ rest }) target → Steps p.tables e below (T.setTop g) target) ∨
    (∃ (q : Addr) (vm₁ : Vm) (B : Pt), s.WarmedH vm₁ ∧ Stand p l e R s m args below meth c B.U B.locs B.cells B.slots ∧ PostX ⟨T.setVm vm₁, locs, cells, slots⟩ (Value.ref b :: argsL).toArray q B ∧
      Steps p.tables e below (T.setTop g) ((B.U.setTop { g with stack := rest }).pushFrame (.throwing q))) := by
  obtain ⟨mk, methM, hnamed, hmethM, hstM, habM⟩ := Cond.instanceMethod_spec hinst
  obtain ⟨m8, methM', cM, hn8, hmethM', -, -, -, -, -, -, hsigM⟩ := Cond.codeWith_spec hcode
  cases Option.some.inj (hn8.symm.trans hnamed)
  cases hmethM.symm.trans hmethM'
  obtain ⟨c2, r2, m2, q1, q2, q3, q4, kP, hkP, hkPi⟩ := Cond.selects_spec hsel
  cases hcls.symm.trans q1
  cases (State.methodFound?_of_named hnamed hy).symm.trans q2
  cases hnamed.symm.trans q3
  have hselP : selectMethod e.platform s.vm cellB.cls mk = .method mk := by rw [Launch.admits_selectMethod X.admits]; exact q4
  obtain ⟨vm₁, X₁, hstep₁⟩ := X.invokevirtual hexec hown hlink hnamed hmethM hstM hkP hkPi hy (a := b) (cell := cellB) hcell
    (fun z h => by rw [h] at hobj; cases hobj) hselP hmethM habM hkP hkPi (g := g) hg (argsL := argsL) (rest := rest) (hlen _ hsigM) hstack hdg
  rcases hK m meth c ⟨T.setVm vm₁, locs, cells, slots⟩ { g with stack := rest } (.invokevirtual index) mk (Value.ref b :: argsL).toArray X₁ hg hsize hdg hW (X₁.named hnamed) (hpre vm₁ X₁.warmed) with ⟨v, B, X', hpost, hsteps⟩ | ⟨q, B, X', hpost, hsteps⟩
  · exact Or.inl ⟨v, vm₁, B, X₁.warmed, X', hpost, fun target h => hstep₁ _ fun acts => by rw [doInvoke_state]; exact hsteps.trans h⟩
  · exact Or.inr ⟨q, vm₁, B, X₁.warmed, X', hpost, hstep₁ _ fun acts => by rw [doInvoke_state]; exact hsteps⟩
theorem vx_callSX (X : Stand p l e R s m args below meth c T locs cells slots) (hexec : p.tables.exec = Jvm.exec) {own : String} {index : Nat} {y : MethodName} {bytes : ByteArray} {maxL : Nat} {ret : Option FieldType} {hh : List (Nat × Nat × Nat × Nat)}
    (hown : s.vm.findClass own = some m.cls) (hlink : (Cond.methodLink own index y).before args s = true) (hstat : (Cond.static y).before args s = true) (hinit : (Cond.initialized y.cls).before args s = true)
    (hcode : (Cond.codeWith y bytes maxL ret hh).before args s = true) (hy : y.cls ≠ "java/lang/invoke/MethodHandle" ∧ y.cls ≠ "java/lang/invoke/VarHandle")
    {W9 : Nat} {Pre : Pt → Array Value → Prop} {Post : Pt → Array Value → Option Value → Pt → Prop} {PostX : Pt → Array Value → Addr → Pt → Prop} (hK : vx_Back l R p e below s args y 3 W9 Pre Post PostX)
    {g : JFrame} (hg : g.method = m) (hsize : g.locals.size = c.maxLocals) {argsL rest : List Value} (hlen : ∀ sig, parseMethodDescriptor y.desc = some sig → argsL.length = sig.parameters.length)
    (hstack : g.stack = argsL.reverse ++ rest) (hW : 2 * g.monitorRoom + (rest.map fun v => v.category).sum ≤ W9) (hdg : decode c.code g.pc = .ok (.invokestatic index, 3))
    (hpre : ∀ vm₁, s.WarmedH vm₁ → Pre ⟨T.setVm vm₁, locs, cells, slots⟩ argsL.toArray) :
    (∃ (v : Option Value) (vm₁ : Vm) (B : Pt), s.WarmedH vm₁ ∧ Stand p l e R s m args below meth c B.U B.locs B.cells B.slots ∧ Post ⟨T.setVm vm₁, locs, cells, slots⟩ argsL.toArray v B ∧
      ∀ target, Steps p.tables e below (B.U.setTop { g with pc := g.pc + 3, stack := v.toList ++ rest }) target → Steps p.tables e below (T.setTop g) target) ∨
    (∃ (q : Addr) (vm₁ : Vm) (B : Pt), s.WarmedH vm₁ ∧ Stand p l e R s m args below meth c B.U B.locs B.cells B.slots ∧ PostX ⟨T.setVm vm₁, locs, cells, slots⟩ argsL.toArray q B ∧
      Steps p.tables e below (T.setTop g) ((B.U.setTop { g with stack := rest }).pushFrame (.throwing q))) := by
  obtain ⟨mk, methM, cM, hnamed, hmethM, -, -, -, -, -, -, hsigM⟩ := Cond.codeWith_spec hcode
  have hstatic : methM.isStatic = true := Cond.static_spec hnamed hmethM hstat
  obtain ⟨kP, hkP, -⟩ := className_of_methodNamed hnamed
  have hinitP : kP.init = .initialized := Cond.initialized_spec (findClass_of_methodNamed hnamed) hkP hinit
  obtain ⟨vm₁, X₁, hstep₁⟩ := X.invokestatic hexec hown hlink hnamed hmethM hstatic hkP hinitP hy (g := g) hg (argsL := argsL) (rest := rest) (hlen _ hsigM) hstack hdg
  rcases hK m meth c ⟨T.setVm vm₁, locs, cells, slots⟩ { g with stack := rest } (.invokestatic index) mk argsL.toArray X₁ hg hsize hdg hW (X₁.named hnamed) (hpre vm₁ X₁.warmed) with ⟨v, B, X', hpost, hsteps⟩ | ⟨q, B, X', hpost, hsteps⟩
  · exact Or.inl ⟨v, vm₁, B, X₁.warmed, X', hpost, fun target h => hstep₁ _ fun acts => by rw [doInvoke_state]; exact hsteps.trans h⟩
  · exact Or.inr ⟨q, vm₁, B, X₁.warmed, X', hpost, hstep₁ _ fun acts => by rw [doInvoke_state]; exact hsteps⟩
theorem vx_callVW (X : Stand p l e R s m args below meth c T locs cells slots) (hexec : p.tables.exec = Jvm.exec) {own C : String} {index : Nat} {y : MethodName} {bytes : ByteArray} {maxL : Nat} {ret : Option FieldType} {hh : List (Nat × Nat × Nat × Nat)}
    (hown : s.vm.findClass own = some m.cls) (hlink : (Cond.methodLink own index y).before args s = true) (hinst : (Cond.instanceMethod y).before args s = true) (hsel : (Cond.selects C y y).before args s = true)
    (hcode : (Cond.codeWith y bytes maxL ret hh).before args s = true) (hy : y.cls ≠ "java/lang/invoke/MethodHandle" ∧ y.cls ≠ "java/lang/invoke/VarHandle")
    {W9 : Nat} {Pre : Pt → Array Value → Prop} {Post : Pt → Array Value → Option Value → Pt → Prop} (hK : Back l R p e below s args y 3 W9 Pre Post)
    {b : Addr} {cellB : Cell} (hcell : T.heap[b]? = some cellB) (hobj : cellB.vm.isStatics = false) (hcls : s.vm.findClass C = some cellB.cls)
    {g : JFrame} (hg : g.method = m) (hsize : g.locals.size = c.maxLocals) {argsL rest : List Value} (hlen : ∀ sig, parseMethodDescriptor y.desc = some sig → argsL.length = sig.parameters.length)
    (hstack : g.stack = argsL.reverse ++ .ref b :: rest) (hW : 2 * g.monitorRoom + (rest.map fun v => v.category).sum ≤ W9) (hdg : decode c.code g.pc = .ok (.invokevirtual index, 3))
    (hpre : ∀ vm₁, s.WarmedH vm₁ → Pre ⟨T.setVm vm₁, locs, cells, slots⟩ (Value.ref b :: argsL).toArray) :
    ∃ (v : Option Value) (vm₁ : Vm) (B : Pt), s.WarmedH vm₁ ∧ Stand p l e R s m args below meth c B.U B.locs B.cells B.slots ∧ Post ⟨T.setVm vm₁, locs, cells, slots⟩ (Value.ref b :: argsL).toArray v B ∧
      ∀ target, Steps p.tables e below (B.U.setTop { g with pc := g.pc + 3, stack := v.toList ++ rest }) target → Steps p.tables e below (T.setTop g) target := by
  obtain ⟨mk, methM, hnamed, hmethM, hstM, habM⟩ := Cond.instanceMethod_spec hinst
  obtain ⟨m8, methM', cM, hn8, hmethM', -, -, -, -, -, -, hsigM⟩ := Cond.codeWith_spec hcode
  cases Option.some.inj (hn8.symm.trans hnamed)
  cases hmethM.symm.trans hmethM'
  obtain ⟨c2, r2, m2, q1, q2, q3, q4, kP, hkP, hkPi⟩ := Cond.selects_spec hsel
  cases hcls.symm.trans q1
  cases (State.methodFound?_of_named hnamed hy).symm.trans q2
  cases hnamed.symm.trans q3
  have hselP : selectMethod e.platform s.vm cellB.cls mk = .method mk := by rw [Launch.admits_selectMethod X.admits]; exact q4
  obtain ⟨vm₁, X₁, hstep₁⟩ := X.invokevirtual hexec hown hlink hnamed hmethM hstM hkP hkPi hy (a := b) (cell := cellB) hcell
    (fun z h => by rw [h] at hobj; cases hobj) hselP hmethM habM hkP hkPi (g := g) hg (argsL := argsL) (rest := rest) (hlen _ hsigM) hstack hdg
  obtain ⟨v, B, X', hpost, hsteps⟩ := hK m meth c ⟨T.setVm vm₁, locs, cells, slots⟩ { g with stack := rest } (.invokevirtual index) mk (Value.ref b :: argsL).toArray X₁ hg hsize hdg hW (X₁.named hnamed) (hpre vm₁ X₁.warmed)
  exact ⟨v, vm₁, B, X₁.warmed, X', hpost, fun target h => hstep₁ _ fun acts => by rw [doInvoke_state]; exact hsteps.trans h⟩
abbrev vx_CVW (R : Room) (s : State) (args : Array Value) (own C : String) (index : Nat) (y : MethodName) (bytes : ByteArray) (maxL : Nat) (ret : Option FieldType) (hh : List (Nat × Nat × Nat × Nat)) (ws : List Cond) (rm : Room) (mc ms n : Nat) : Prop :=
  (rm.cells = mc ∧ rm.slots = ms ∧ rm.frames + 1 ≤ R.frames ∧ 8 + (maxL + 11) + rm.locals ≤ R.locals ∧ (∀ w ∈ ws, ∀ (a' : Array Value) (U : State), s.WarmedH U.vm → w.before a' U = true) ∧ Cond.codeWith y bytes maxL ret hh ∈ ws) ∧
  (Cond.codeWith y bytes maxL ret hh).before args s = true ∧ (Cond.initialized y.cls).before args s = true ∧ (y.cls ≠ "java/lang/invoke/MethodHandle" ∧ y.cls ≠ "java/lang/invoke/VarHandle") ∧
  (∀ sig, parseMethodDescriptor y.desc = some sig → n = sig.parameters.length) ∧ (Cond.methodLink own index y).before args s = true ∧ (Cond.instanceMethod y).before args s = true ∧ (Cond.selects C y y).before args s = true
theorem vx_cwVW {own C : String} {index maxL mc ms : Nat} {y : MethodName} {bytes : ByteArray} {ret : Option FieldType} {hh : List (Nat × Nat × Nat × Nat)} {Ts ws ws' : List Cond} {rm : Room} (n : Nat) (ht : ∀ w ∈ Ts, w.before args s = true) (hT : GoodIn Ts (wsV own index C y ws)) (hw : ws = Cond.codeWith y bytes maxL ret hh :: ws') (hrc : rm.cells = mc) (hrs : rm.slots = ms)
    (hd : y.cls = C ∧ y.cls ≠ "java/lang/invoke/MethodHandle" ∧ y.cls ≠ "java/lang/invoke/VarHandle" ∧ (parseMethodDescriptor y.desc).map (fun d => d.parameters.length) = some n) (hR : rm.frames + 1 ≤ R.frames ∧ 8 + (maxL + 11) + rm.locals ≤ R.locals) :
    vx_CVW R s args own C index y bytes maxL ret hh ws rm mc ms n := by
  obtain ⟨hC, hd⟩ := hd
  subst hC
  have ok : ∀ w ∈ wsV own index y.cls y ws, w.before args s = true := fun w h => ht w (hT w h).1
  have hG : GoodIn Ts ws := fun w h => hT w (by unfold wsV; exact List.mem_append_right _ h)
  have hc : Cond.codeWith y bytes maxL ret hh ∈ ws := by rw [hw]; exact List.mem_cons_self
  refine ⟨⟨hrc, hrs, hR.1, hR.2, pay_in ht hG, hc⟩, ht _ (hG _ hc).1, ok _ (by simp [wsV]), ⟨hd.1, hd.2.1⟩, fun sig h => ?_, ok _ (by simp [wsV]), ok _ (by simp [wsV]), ok _ (by simp [wsV])⟩
  have h2 := hd.2.2
  rw [h] at h2
  exact (Option.some.inj h2).symm
theorem vx_runVW {y : MethodName} {bytes cc : ByteArray} {maxL nL mc ms n index : Nat} {ret : Option FieldType} {hh : List (Nat × Nat × Nat × Nat)} {ws : List Cond} {rm : Room} {Pc : Array Value → State → Prop} {Qc : Array Value → State → Outcome → State → Prop} {free : Addr → Prop} {Ts : List Cond} {own C : String} {b : Addr} {As rest : List Value} {g : JFrame}
    (S : CallFix p m c cc nL s args Ts own) (hM : Met l y ws rm Pc Qc mc ms free) (cw : vx_CVW R s args own C index y bytes maxL ret hh ws rm mc ms n) (hp : PreV s H C b Pc As)
    (hg : g.method = m) (hn : As.length = n) (hsize : g.locals.size = nL) (hstack : g.stack = As.reverse ++ .ref b :: rest) (hW : 2 * g.monitorRoom + (rest.map fun v => v.category).sum ≤ 8) (hdg : decode cc g.pc = .ok (.invokevirtual index, 3)) (hf : cells + mc ≤ R.cells ∧ slots + ms ≤ R.slots) :
    va_Run p l e R s m args below meth c H locs cells slots mc ms g rest (Qc (Value.ref b :: As).toArray) free := by
  obtain ⟨⟨hrc, hrs, hfr, hlo, hws, hcw⟩, hcode, hini, hy, hlen, hl, hin, hse⟩ := cw
  have hK : Back l R p e below s args y 3 8 (PreOf R mc ms Pc) (PostOf Qc mc ms free) := va_backW (hh := hh) (bytes := bytes) (maxL := maxL) (ret := ret) hM hp.1 hrc hrs hfr hlo hws hcw (fun a' U hW => word_at hW (Or.inl (by first | rfl | simp [Cond.onTables, Cond.keeps, Cond.steady])) hini)
  obtain ⟨hx, hb, hml, ho, -⟩ := S
  obtain ⟨-, ⟨cellB, hcB, hoB, hclB⟩, hPc⟩ := hp
  intro T hT X
  obtain ⟨v, vm₁, ⟨U', l2, c2, s2⟩, hW₁, X', ⟨g', mk, t, L, e1, e2, hq, h1, hL, h2, h3⟩, st⟩ := vx_callVW X hx (C := C) (hh := hh) (bytes := bytes) (maxL := maxL) (ret := ret) ho hl hin hse hcode hy hK (by rw [hT]; exact hcB) hoB hclB hg (hsize.trans hml.symm) (argsL := As) (rest := rest) (fun sig h => hn.trans (hlen sig h)) hstack hW (by rw [hb]; exact hdg)
    (fun vm₁ hW₁ => ⟨hf.1, hf.2, hPc (T.setVm vm₁) hT hW₁⟩)
  dsimp only [Pt.U, Pt.locs, Pt.cells, Pt.slots] at X' e1 e2 h1 h2 h3 st
  subst h1; subst h2; subst h3
  exact ⟨v, (T.setVm vm₁).calling g' mk (Value.ref b :: As).toArray, t, U', L, hT, X', hL, e1, e2, hq, st⟩
section
variable {y : MethodName} {bytes cc : ByteArray} {maxL nL mc ms n index : Nat} {ret : Option FieldType} {ws : List Cond} {rm : Room} {Pc : Array Value → State → Prop} {Qc : Array Value → State → Outcome → State → Prop} {XC : String → State → State → Prop} {free : Addr → Prop} {Ts : List Cond} {own C : String} {b : Addr} {As rest : List Value} {g : JFrame}
theorem vx_runVX {hh : List (Nat × Nat × Nat × Nat)} (S : CallFix p m c cc nL s args Ts own) (hM : vx_Met l y ws rm Pc Qc XC mc ms free) (cw : vx_CVW R s args own C index y bytes maxL ret hh ws rm mc ms n) (hp : PreV s H C b Pc As)
    (hg : g.method = m) (hn : As.length = n) (hsize : g.locals.size = nL) (hstack : g.stack = As.reverse ++ .ref b :: rest) (hW : 2 * g.monitorRoom + (rest.map fun v => v.category).sum ≤ 8) (hdg : decode cc g.pc = .ok (.invokevirtual index, 3)) (hf : cells + mc ≤ R.cells ∧ slots + ms ≤ R.slots) :
    vx_Run p l e R s m args below meth c H locs cells slots mc ms g rest (Qc (Value.ref b :: As).toArray) XC free := by
  obtain ⟨⟨hrc, hrs, hfr, hlo, hws, hcw⟩, hcode, hini, hy, hlen, hl, hin, hse⟩ := cw
  have hK : vx_Back l R p e below s args y 3 8 (PreOf R mc ms Pc) (PostOf Qc mc ms free) (vx_Post XC mc ms free) := vx_backW (hh := hh) (bytes := bytes) (maxL := maxL) (ret := ret) hM hp.1 hrc hrs hfr hlo hws hcw (fun a' U hW => word_at hW (Or.inl (by first | rfl | simp [Cond.onTables, Cond.keeps, Cond.steady])) hini)
  obtain ⟨hx, hb, hml, ho, -⟩ := S
  obtain ⟨-, ⟨cellB, hcB, hoB, hclB⟩, hPc⟩ := hp
  intro T hT X
  rcases vx_callVX X hx (C := C) (hh := hh) (bytes := bytes) (maxL := maxL) (ret := ret) ho hl hin hse hcode hy hK (by rw [hT]; exact hcB) hoB hclB hg (hsize.trans hml.symm) (argsL := As) (rest := rest) (fun sig h => hn.trans (hlen sig h)) hstack hW (by rw [hb]; exact hdg)
    (fun vm₁ hW₁ => ⟨hf.1, hf.2, hPc (T.setVm vm₁) hT hW₁⟩) with ⟨v, vm₁, ⟨U', l2, c2, s2⟩, hW₁, X', ⟨g', mk, t, L, e1, e2, hq, h1, hL, h2, h3⟩, st⟩ | ⟨q, vm₁, ⟨U', l2, c2, s2⟩, hW₁, X', ⟨g', mk, t, L, E, ce, e1, e2, hq, hce, hcv, hcl, h1, hL, h2, h3⟩, st⟩
  · dsimp only [Pt.U, Pt.locs, Pt.cells, Pt.slots] at X' e1 e2 h1 h2 h3 st
    subst h1; subst h2; subst h3
    exact Or.inl ⟨v, (T.setVm vm₁).calling g' mk (Value.ref b :: As).toArray, t, U', L, hT, X', hL, e1, e2, hq, st⟩
  · dsimp only [Pt.U, Pt.locs, Pt.cells, Pt.slots] at X' e1 e2 h1 h2 h3 st hcl
    subst h1; subst h2; subst h3
    exact Or.inr ⟨q, (T.setVm vm₁).calling g' mk (Value.ref b :: As).toArray, t, U', L, E, ce, hT, X', hL, e1, e2, hq, hce, hcv, vx_cls hW₁ hcl, st⟩
theorem vx_runSX {hh : List (Nat × Nat × Nat × Nat)} (S : CallFix p m c cc nL s args Ts own) (hM : vx_Met l y ws rm Pc Qc XC mc ms free) (cw : vx_CSW R s args own index y bytes maxL ret hh ws rm mc ms n) (hp : PreS s H Pc As)
    (hg : g.method = m) (hn : As.length = n) (hsize : g.locals.size = nL) (hstack : g.stack = As.reverse ++ rest) (hW : 2 * g.monitorRoom + (rest.map fun v => v.category).sum ≤ 8) (hdg : decode cc g.pc = .ok (.invokestatic index, 3)) (hf : cells + mc ≤ R.cells ∧ slots + ms ≤ R.slots) :
    vx_Run p l e R s m args below meth c H locs cells slots mc ms g rest (Qc As.toArray) XC free := by
  obtain ⟨⟨hrc, hrs, hfr, hlo, hws, hcw⟩, hcode, hini, hy, hlen, hl, hstt⟩ := cw
  have hK : vx_Back l R p e below s args y 3 8 (PreOf R mc ms Pc) (PostOf Qc mc ms free) (vx_Post XC mc ms free) := vx_backW (hh := hh) (bytes := bytes) (maxL := maxL) (ret := ret) hM hp.1 hrc hrs hfr hlo hws hcw (fun a' U hW => word_at hW (Or.inl (by first | rfl | simp [Cond.onTables, Cond.keeps, Cond.steady])) hini)
  obtain ⟨hx, hb, hml, ho, -⟩ := S
  intro T hT X
  rcases vx_callSX X hx (hh := hh) (bytes := bytes) (maxL := maxL) (ret := ret) ho hl hstt hini hcode hy hK hg (hsize.trans hml.symm) (argsL := As) (rest := rest) (fun sig h => hn.trans (hlen sig h)) hstack hW (by rw [hb]; exact hdg)
    (fun vm₁ hW₁ => ⟨hf.1, hf.2, hp.2 (T.setVm vm₁) hT hW₁⟩) with ⟨v, vm₁, ⟨U', l2, c2, s2⟩, hW₁, X', ⟨g', mk, t, L, e1, e2, hq, h1, hL, h2, h3⟩, st⟩ | ⟨q, vm₁, ⟨U', l2, c2, s2⟩, hW₁, X', ⟨g', mk, t, L, E, ce, e1, e2, hq, hce, hcv, hcl, h1, hL, h2, h3⟩, st⟩
  · dsimp only [Pt.U, Pt.locs, Pt.cells, Pt.slots] at X' e1 e2 h1 h2 h3 st
    subst h1; subst h2; subst h3
    exact Or.inl ⟨v, (T.setVm vm₁).calling g' mk As.toArray, t, U', L, hT, X', hL, e1, e2, hq, st⟩
  · dsimp only [Pt.U, Pt.locs, Pt.cells, Pt.slots] at X' e1 e2 h1 h2 h3 st hcl
    subst h1; subst h2; subst h3
    exact Or.inr ⟨q, (T.setVm vm₁).calling g' mk As.toArray, t, U', L, E, ce, hT, X', hL, e1, e2, hq, hce, hcv, vx_cls hW₁ hcl, st⟩
end
end VXH
theorem vx_ofWH {l : Launch} {y : MethodName} {ws ws' : List Cond} {rm : Room} {Pc : Array Value → State → Prop} {Qc : Array Value → State → Outcome → State → Prop} {XC : String → State → State → Prop} {mc ms : Nat} {free : Addr → Prop} {cc : ByteArray} {maxL : Nat} {ret : Option FieldType} {hh : List (Nat × Nat × Nat × Nat)}
    (hy : plainName y.cls = true) (hw : ws = Cond.codeWith y cc maxL ret hh :: ws')
    (body : ∀ p e s m args below meth c s₁, BodyLoose p l y (headSpec ws rm) cc maxL ret e s m args below meth c s₁ → c.maxLocals = maxL → Pc args s →
      W p l e (headSpec ws rm).room s m args below meth c s.heap [] 0 0 (vx_MQ below Qc XC args s mc ms free) (entryFrame m args maxL)) : vx_Met l y ws rm Pc Qc XC mc ms free := by
  refine MetFree.of_bodyS (code := cc) (maxLocals := maxL) (ret := ret) hy ?_ ?_
  · intro args s m h hn
    obtain ⟨m9, meth, c, hn9, h1, h2, h3, h4, -, h5, h6, -⟩ := Cond.codeWith_spec (atoms_spec (ws := ws) h _ (by rw [hw]; exact List.mem_cons_self))
    cases hn.symm.trans hn9
    exact ⟨meth, c, h1, h2, h3, h4, h5, h6⟩
  · intro p e s m args below meth c s₁ B hml hP _
    have hh0 : s₁.heap = s.heap := by rw [B.state]; rfl
    obtain ⟨t, a1, o, b1, b2, b3⟩ := body p e s m args below meth c s₁ B hml hP s₁ hh0 (Stand.of_body B)
    exact ⟨t, o, a1, b1, b2, b3⟩
/-! ===== END ===== -/

/-! ===== BEGIN printed: names, fields, word lists, decode rows ===== -/
end
section
/-! ===== THE SMALL MACHINE: what a method does, as a function of numbers. A cell is its number (the order of making), a heap a function of cell and place; a reference to cell i is .ref i, to the law's script .retAddr 0, to the words' text .retAddr 1. ===== -/
abbrev am_H : Type := Nat → Nat → Value
/-- a cell's kind: an object of class ci, an array of a type and a length -/
abbrev am_k : Type := Nat ⊕ (FieldType × Nat)
abbrev am_L : Type := List (Nat × Value)
/-- pc, length, instruction, three numbers, a constant -/
abbrev am_I : Type := Nat × Nat × Instr × (Nat × Nat × Nat) × Int
/-- (class number, name, bytes), (maxLocals, return type, parameters), (frames, locals, cells, slots), code -/
abbrev am_M : Type := (Nat × MethodName × ByteArray) × (Nat × Option FieldType × Nat) × (Nat × Nat × Nat × Nat) × List am_I
/-- code from here on, locals, stack, kinds, heap, cells and slots made -/
abbrev am_F : Type := List am_I × am_L × List Value × List am_k × am_H × Nat × Nat
abbrev am_O : Type := Option Value × List am_k × am_H
abbrev am_R : Type := Option (am_F ⊕ am_O)
/-- the program, the field types by class, the class names, the text of the words, the script, the method that catches and what it does -/
abbrev am_G : Type := (Nat → Option am_M) × (Nat → List FieldType) × (Nat → String) × (Nat → Int32) × Option (Nat × (Nat → Int32)) × am_M × (List Value → List am_k → am_H → Option am_O)
def am_up (h : am_H) (o k : Nat) (v : Value) : am_H := fun o' k' => cond (Nat.beq o' o && Nat.beq k' k) v (h o' k')
def am_mk (h : am_H) (o : Nat) (f : Nat → Value) : am_H := fun o' k' => cond (Nat.beq o' o) (f k') (h o' k')
def am_get : am_L → Nat → Option Value
  | [], _ => none
  | q :: l, k => cond (Nat.beq q.1 k) (some q.2) (am_get l k)
def am_set (ls : am_L) (k : Nat) (v : Value) : am_L := (k, v) :: ls.filter (fun q => !(q.1 == k) && !(q.1 + 1 == k && q.2.category == 2))
def am_set2 (ls : am_L) (k : Nat) (v : Value) : am_L := (k, v) :: ls.filter (fun q => !(q.1 == k) && (!(q.1 == k + 1) && !(q.1 + 1 == k && q.2.category == 2)))
/-- goes on at the next instruction -/
def am_nx (i : am_I) (cs : List am_I) (k : am_R) : am_R := match cs with
  | [] => none
  | j :: _ => cond (Nat.beq j.1 (i.1 + i.2.1)) k none
def am_go (i : am_I) (cs : List am_I) (ls : am_L) (st : List Value) (ks : List am_k) (h : am_H) (nc ns : Nat) : am_R := am_nx i cs (some (.inl (cs, ls, st, ks, h, nc, ns)))
/-- goes on at the a-th instruction of the method, whose pc must be t -/
def am_jp (M : am_M) (a : Nat) (t : Int) (ls : am_L) (st : List Value) (ks : List am_k) (h : am_H) (nc ns : Nat) : am_R := match M.2.2.2.drop a with
  | [] => none
  | j :: r => if (j.1 : Int) = t then some (.inl (j :: r, ls, st, ks, h, nc, ns)) else none
def am_seek : List am_I → Int → List am_I
  | [], _ => []
  | j :: r, t => if (j.1 : Int) = t then j :: r else am_seek r t
def am_sw (M : am_M) (t : Int) (ls : am_L) (st : List Value) (ks : List am_k) (h : am_H) (nc ns : Nat) : am_R := match am_seek M.2.2.2 t with
  | [] => none
  | j :: r => some (.inl (j :: r, ls, st, ks, h, nc, ns))
def am_br (M : am_M) (i : am_I) (cs : List am_I) (b : Bool) (off : Int) (ls : am_L) (st : List Value) (ks : List am_k) (h : am_H) (nc ns : Nat) : am_R :=
  cond b (am_jp M i.2.2.2.1.1 (i.1 + off) ls st ks h nc ns) (am_go i cs ls st ks h nc ns)
def am_cmp (c : ClassFile.Cond) (x y : Int32) : Bool := match c with
  | .eq => decide (x = y)
  | .ne => decide (¬ x = y)
  | .lt => decide (x < y)
  | .ge => decide (y ≤ x)
  | .gt => decide (y < x)
  | .le => decide (x ≤ y)
/-- may a field or answer of this type hold this value as it is -/
def am_fit (ty : FieldType) (v : Value) : Bool := match ty, v with
  | .int, .int _ => true
  | .boolean, .int x => decide (x = 0) || decide (x = 1)
  | .long, .long _ => true
  | .object _, .ref _ => true
  | .array _, .ref _ => true
  | _, _ => false
def am_ix (j : Int32) (n : Nat) (k : Nat → am_R) : am_R := if j < 0 ∨ n ≤ j.toNatClampNeg then none else k j.toNatClampNeg
def am_pushI (v : Value) (k : Value → am_R) : am_R := match v with
  | .int x => k (.int x)
  | _ => none
def am_pushL (v : Value) (k : Value → am_R) : am_R := match v with
  | .long x => k (.long x)
  | _ => none
def am_pushR (v : Value) (k : Value → am_R) : am_R := match v with
  | .ref x => k (.ref x)
  | _ => none
def am_cat (st : List Value) : Nat := (st.map fun v => v.category).sum
/-- a method's room -/
def am_rm (M : am_M) : Room := { frames := M.2.2.1.1, cells := M.2.2.1.2.2.1, slots := M.2.2.1.2.2.2, locals := M.2.2.1.2.1 }
abbrev am_rec : Type := Nat → List Value → List am_k → am_H → Option am_O
/-- the room, the stack below and the arguments fit -/
def am_okC (M M' : am_M) (as rest : List Value) (nc ns : Nat) : Bool :=
  Nat.ble (M'.2.2.1.1 + 1) M.2.2.1.1 && Nat.ble (8 + (M'.2.1.1 + 11) + M'.2.2.1.2.1) M.2.2.1.2.1 && Nat.ble (nc + M'.2.2.1.2.2.1) M.2.2.1.2.2.1 && Nat.ble (ns + M'.2.2.1.2.2.2) M.2.2.1.2.2.2
    && Nat.ble (am_cat rest) 8 && Nat.ble (am_cat as) M'.2.1.1
def am_calls (ex : Bool) (M M' : am_M) (a : Nat) (rc : am_rec) (i : am_I) (cs : List am_I) (ls : am_L) (as rest : List Value) (ks : List am_k) (h : am_H) (nc ns : Nat) : am_R :=
  cond (am_okC M M' as rest nc ns) (match rc a as ks h with
    | none => none
    | some (r, ks', h') => cond (!ex || Nat.beq ks'.length (ks.length + M'.2.2.1.2.2.1)) (am_go i cs ls (r.toList ++ rest) ks' h' (nc + M'.2.2.1.2.2.1) (ns + M'.2.2.1.2.2.2)) none) none
/-- a call on an object -/
def am_callV (ex : Bool) (G : am_G) (M : am_M) (rc : am_rec) (i : am_I) (cs : List am_I) (ls : am_L) (st : List Value) (ks : List am_k) (h : am_H) (nc ns : Nat) : am_R :=
  match G.1 i.2.2.2.1.1 with
  | none => none
  | some M' => match st.drop M'.2.1.2.2 with
    | .ref o :: rest => match ks[o]? with
      | some (.inl ci) => cond (Nat.beq ci M'.1.1 && Nat.beq (st.take M'.2.1.2.2).length M'.2.1.2.2) (am_calls ex M M' i.2.2.2.1.1 rc i cs ls (.ref o :: (st.take M'.2.1.2.2).reverse) rest ks h nc ns) none
      | _ => none
    | _ => none
def am_callS (ex : Bool) (G : am_G) (M : am_M) (rc : am_rec) (i : am_I) (cs : List am_I) (ls : am_L) (st : List Value) (ks : List am_k) (h : am_H) (nc ns : Nat) : am_R :=
  match G.1 i.2.2.2.1.1 with
  | none => none
  | some M' => cond (Nat.beq (st.take M'.2.1.2.2).length M'.2.1.2.2) (am_calls ex M M' i.2.2.2.1.1 rc i cs ls (st.take M'.2.1.2.2).reverse (st.drop M'.2.1.2.2) ks h nc ns) none
/-- the call of the method that catches -/
def am_callL (ex : Bool) (G : am_G) (M : am_M) (i : am_I) (cs : List am_I) (ls : am_L) (st : List Value) (ks : List am_k) (h : am_H) (nc ns : Nat) : am_R :=
  cond (Nat.beq (st.take G.2.2.2.2.2.1.2.1.2.2).length G.2.2.2.2.2.1.2.1.2.2) (am_calls ex M G.2.2.2.2.2.1 0 (fun _ as ks h => G.2.2.2.2.2.2 as ks h) i cs ls (st.take G.2.2.2.2.2.1.2.1.2.2).reverse (st.drop G.2.2.2.2.2.1.2.1.2.2) ks h nc ns) none
def am_math (M : am_M) (i : am_I) (cs : List am_I) (ls : am_L) (st : List Value) (ks : List am_k) (h : am_H) (nc ns : Nat) (g : Int32 → Int32 → Int32) : am_R := match st with
  | .int y :: .int x :: rest => cond (Nat.ble 1 M.2.2.1.1 && Nat.ble (am_cat rest + 13) M.2.2.1.2.1 && Nat.ble nc M.2.2.1.2.2.1 && Nat.ble ns M.2.2.1.2.2.2) (am_go i cs ls (.int (g x y) :: rest) ks h nc ns) none
  | _ => none
def am_new (G : am_G) (M : am_M) (ex : Bool) (i : am_I) (cs : List am_I) (ls : am_L) (st : List Value) (ks : List am_k) (h : am_H) (nc ns : Nat) : am_R :=
  cond (ex && Nat.ble (nc + 1) M.2.2.1.2.2.1 && Nat.ble (ns + (G.2.1 i.2.2.2.1.1).length) M.2.2.1.2.2.2)
    (am_go i cs ls (.ref ks.length :: st) (ks ++ [.inl i.2.2.2.1.1]) (am_mk h ks.length (fun j => defaultValue ((G.2.1 i.2.2.2.1.1).getD j .int))) (nc + 1) (ns + (G.2.1 i.2.2.2.1.1).length)) none
def am_newA (M : am_M) (ex : Bool) (ty : FieldType) (i : am_I) (cs : List am_I) (ls : am_L) (st : List Value) (ks : List am_k) (h : am_H) (nc ns : Nat) : am_R := match st with
  | .int n :: rest => if n < 0 then none else cond (ex && Nat.ble (nc + 1) M.2.2.1.2.2.1 && Nat.ble (ns + n.toNatClampNeg) M.2.2.1.2.2.2 && Nat.ble (n.toNatClampNeg * 8) 536870912)
      (am_go i cs ls (.ref ks.length :: rest) (ks ++ [.inr (ty, n.toNatClampNeg)]) (am_mk h ks.length (fun _ => defaultValue ty)) (nc + 1) (ns + n.toNatClampNeg)) none
  | _ => none
def am_ret (M : am_M) (v : Option Value) (ks : List am_k) (h : am_H) (nc ns : Nat) : Option am_O :=
  cond (Nat.ble nc M.2.2.1.2.2.1 && Nat.ble ns M.2.2.1.2.2.2) (some (v, ks, h)) none
/-- the method's end, if the instruction is one -/
def am_end (M : am_M) (f : am_F) : Option am_O := match f with
  | ([], _) => none
  | (i :: _, _, st, ks, h, nc, ns) => match i.2.2.1 with
    | .ireturn => match st with
      | [.int v] => match M.2.1.2.1 with
        | some ty => cond (am_fit ty (.int v)) (am_ret M (some (.int v)) ks h nc ns) none
        | none => none
      | _ => none
    | .lreturn => match st with
      | [.long v] => match M.2.1.2.1 with
        | some .long => am_ret M (some (.long v)) ks h nc ns
        | _ => none
      | _ => none
    | .return_ => match st with
      | [] => match M.2.1.2.1 with
        | none => am_ret M none ks h nc ns
        | _ => none
      | _ => none
    | _ => none
/-- reading an array's place -/
def am_ald (G : am_G) (ks : List am_k) (h : am_H) (a : Value) (j : Int32) (ty : FieldType) (k : Value → am_R) : am_R := match a with
  | .ref o => match ks[o]? with
    | some (.inr (t, n)) => cond (decide (t = ty)) (am_ix j n (fun q => k (h o q))) none
    | _ => none
  | .retAddr 0 => match G.2.2.2.2.1 with
    | some (L, xs) => cond (decide (ty = .int)) (am_ix j L (fun q => k (.int (xs q)))) none
    | none => none
  | _ => none
/-- writing it -/
def am_ast (ks : List am_k) (h : am_H) (a : Value) (j : Int32) (ty : FieldType) (v : Value) (k : am_H → am_R) : am_R := match a with
  | .ref o => match ks[o]? with
    | some (.inr (t, n)) => cond (decide (t = ty)) (am_ix j n (fun q => k (am_up h o q v))) none
    | _ => none
  | _ => none
def am_aald (ks : List am_k) (h : am_H) (o : Nat) (j : Int32) (k : Value → am_R) : am_R := match ks[o]? with
  | some (.inr (.object _, n)) => am_ix j n (fun q => k (h o q))
  | _ => none
def am_aast (G : am_G) (ks : List am_k) (h : am_H) (o : Nat) (j : Int32) (v : Nat) (k : am_H → am_R) : am_R := match ks[o]? with
  | some (.inr (.object C, n)) => match ks[v]? with
    | some (.inl ci) => cond (decide (G.2.2.1 ci = C)) (am_ix j n (fun q => k (am_up h o q (.ref v)))) none
    | _ => none
  | _ => none
def am_len (G : am_G) (ks : List am_k) (a : Value) (k : Value → am_R) : am_R := match a with
  | .ref o => match ks[o]? with
    | some (.inr (_, n)) => k (.int (Int32.ofNat n))
    | _ => none
  | .retAddr 0 => match G.2.2.2.2.1 with
    | some (L, _) => k (.int (Int32.ofNat L))
    | none => none
  | _ => none
/-- a sign of the words' text, which is 120 long -/
def am_text (G : am_G) (M : am_M) (i : am_I) (cs : List am_I) (ls : am_L) (st : List Value) (ks : List am_k) (h : am_H) (nc ns : Nat) (j : Int32) : am_R :=
  cond (Nat.ble 8 M.2.2.1.1 && Nat.ble (am_cat st) 8 && Nat.ble 200 M.2.2.1.2.1 && Nat.ble nc M.2.2.1.2.2.1 && Nat.ble ns M.2.2.1.2.2.2) (am_ix j 120 (fun q => am_go i cs ls (.int (G.2.2.2.1 q) :: st) ks h nc ns)) none
/-- one instruction: the frame behind it, or the method's end -/
def am_one (φ : Value → (Value → am_R) → am_R) (ex : Bool) (G : am_G) (rc : am_rec) (M : am_M) (f : am_F) : am_R := match f with
  | ([], _) => none
  | (i :: cs, ls, st, ks, h, nc, ns) => match i.2.2.1 with
    | .aload k => match am_get ls k with
      | some (.ref x) => am_go i cs ls (.ref x :: st) ks h nc ns
      | some (.retAddr x) => am_go i cs ls (.retAddr x :: st) ks h nc ns
      | _ => none
    | .aload_n k => match am_get ls k.val with
      | some (.ref x) => am_go i cs ls (.ref x :: st) ks h nc ns
      | some (.retAddr x) => am_go i cs ls (.retAddr x :: st) ks h nc ns
      | _ => none
    | .iload k => match am_get ls k with
      | some (.int x) => am_go i cs ls (.int x :: st) ks h nc ns
      | _ => none
    | .iload_n k => match am_get ls k.val with
      | some (.int x) => am_go i cs ls (.int x :: st) ks h nc ns
      | _ => none
    | .lload k => match am_get ls k with
      | some (.long x) => am_go i cs ls (.long x :: st) ks h nc ns
      | _ => none
    | .lload_n k => match am_get ls k.val with
      | some (.long x) => am_go i cs ls (.long x :: st) ks h nc ns
      | _ => none
    | .istore k => match st with
      | .int x :: st => cond (Nat.blt k M.2.1.1) (φ (.int x) (fun v => am_pushI v (fun v => am_go i cs (am_set ls k v) st ks h nc ns))) none
      | _ => none
    | .istore_n k => match st with
      | .int x :: st => cond (Nat.blt k.val M.2.1.1) (φ (.int x) (fun v => am_pushI v (fun v => am_go i cs (am_set ls k.val v) st ks h nc ns))) none
      | _ => none
    | .lstore k => match st with
      | .long x :: st => cond (Nat.blt (k + 1) M.2.1.1) (φ (.long x) (fun v => am_pushL v (fun v => am_go i cs (am_set2 ls k v) st ks h nc ns))) none
      | _ => none
    | .lstore_n k => match st with
      | .long x :: st => cond (Nat.blt (k.val + 1) M.2.1.1) (φ (.long x) (fun v => am_pushL v (fun v => am_go i cs (am_set2 ls k.val v) st ks h nc ns))) none
      | _ => none
    | .astore k => match st with
      | .ref x :: st => cond (Nat.blt k M.2.1.1) (am_go i cs (am_set ls k (.ref x)) st ks h nc ns) none
      | _ => none
    | .astore_n k => match st with
      | .ref x :: st => cond (Nat.blt k.val M.2.1.1) (am_go i cs (am_set ls k.val (.ref x)) st ks h nc ns) none
      | _ => none
    | .iinc k n => match am_get ls k with
      | some (.int x) => cond (Nat.blt k M.2.1.1) (φ (.int (x + Int32.ofInt n)) (fun v => am_pushI v (fun v => am_go i cs (am_set ls k v) st ks h nc ns))) none
      | _ => none
    | .iconst n => am_go i cs ls (.int (Int32.ofInt n) :: st) ks h nc ns
    | .bipush n => am_go i cs ls (.int (Int8.ofInt n).toInt32 :: st) ks h nc ns
    | .sipush n => am_go i cs ls (.int (Int16.ofInt n).toInt32 :: st) ks h nc ns
    | .lconst n => am_go i cs ls (.long (Int64.ofNat (n : Nat)) :: st) ks h nc ns
    | .ldc _ => match i.2.2.2.1.2.1 with
      | 0 => am_go i cs ls (.int (Int32.ofInt i.2.2.2.2) :: st) ks h nc ns
      | _ => am_go i cs ls (.retAddr 1 :: st) ks h nc ns
    | .ldc2_w _ => am_go i cs ls (.long (Int64.ofInt i.2.2.2.2) :: st) ks h nc ns
    | .dup => match st with
      | v :: st => cond (Nat.beq v.category 1) (am_go i cs ls (v :: v :: st) ks h nc ns) none
      | _ => none
    | .dup2 => match st with
      | v :: w :: st => cond (Nat.beq v.category 1 && Nat.beq w.category 1) (am_go i cs ls (v :: w :: v :: w :: st) ks h nc ns) none
      | _ => none
    | .pop => match st with
      | v :: st => cond (Nat.beq v.category 1) (am_go i cs ls st ks h nc ns) none
      | _ => none
    | .iadd => match st with
      | .int y :: .int x :: st => am_go i cs ls (.int (x + y) :: st) ks h nc ns
      | _ => none
    | .isub => match st with
      | .int y :: .int x :: st => am_go i cs ls (.int (x - y) :: st) ks h nc ns
      | _ => none
    | .imul => match st with
      | .int y :: .int x :: st => am_go i cs ls (.int (x * y) :: st) ks h nc ns
      | _ => none
    | .iand => match st with
      | .int y :: .int x :: st => am_go i cs ls (.int (x &&& y) :: st) ks h nc ns
      | _ => none
    | .ior => match st with
      | .int y :: .int x :: st => am_go i cs ls (.int (x ||| y) :: st) ks h nc ns
      | _ => none
    | .ishl => match st with
      | .int y :: .int x :: st => am_go i cs ls (.int (x <<< (y &&& 31)) :: st) ks h nc ns
      | _ => none
    | .ishr => match st with
      | .int y :: .int x :: st => am_go i cs ls (.int (x >>> (y &&& 31)) :: st) ks h nc ns
      | _ => none
    | .iushr => match st with
      | .int y :: .int x :: st => am_go i cs ls (.int (x.toUInt32 >>> (y.toUInt32 &&& Int32.toUInt32 31)).toInt32 :: st) ks h nc ns
      | _ => none
    | .idiv => match st with
      | .int y :: .int x :: st => if y = 0 then none else am_go i cs ls (.int (x / y) :: st) ks h nc ns
      | _ => none
    | .irem => match st with
      | .int y :: .int x :: st => if y = 0 then none else am_go i cs ls (.int (x - x / y * y) :: st) ks h nc ns
      | _ => none
    | .ladd => match st with
      | .long y :: .long x :: st => am_go i cs ls (.long (x + y) :: st) ks h nc ns
      | _ => none
    | .lsub => match st with
      | .long y :: .long x :: st => am_go i cs ls (.long (x - y) :: st) ks h nc ns
      | _ => none
    | .lmul => match st with
      | .long y :: .long x :: st => am_go i cs ls (.long (x * y) :: st) ks h nc ns
      | _ => none
    | .land => match st with
      | .long y :: .long x :: st => am_go i cs ls (.long (x &&& y) :: st) ks h nc ns
      | _ => none
    | .ldiv => match st with
      | .long y :: .long x :: st => if y = 0 then none else am_go i cs ls (.long (x / y) :: st) ks h nc ns
      | _ => none
    | .lrem => match st with
      | .long y :: .long x :: st => if y = 0 then none else am_go i cs ls (.long (x - x / y * y) :: st) ks h nc ns
      | _ => none
    | .lneg => match st with
      | .long x :: st => am_go i cs ls (.long (-x) :: st) ks h nc ns
      | _ => none
    | .lcmp => match st with
      | .long y :: .long x :: st => am_go i cs ls (.int (lg_cmp x y) :: st) ks h nc ns
      | _ => none
    | .i2l => match st with
      | .int x :: st => am_go i cs ls (.long x.toInt64 :: st) ks h nc ns
      | _ => none
    | .l2i => match st with
      | .long x :: st => am_go i cs ls (.int x.toInt32 :: st) ks h nc ns
      | _ => none
    | .goto off => am_jp M i.2.2.2.1.1 (i.1 + off) ls st ks h nc ns
    | .ifCond c off => match st with
      | .int x :: st => am_br M i cs (am_cmp c x 0) off ls st ks h nc ns
      | _ => none
    | .if_icmp c off => match st with
      | .int y :: .int x :: st => am_br M i cs (am_cmp c x y) off ls st ks h nc ns
      | _ => none
    | .tableswitch dflt lo hi offs => match st with
      | .int x :: st => if x.toInt < lo ∨ hi < x.toInt then am_sw M (i.1 + dflt) ls st ks h nc ns else match offs[(x.toInt - lo).toNat]? with
        | some off => am_sw M (i.1 + off) ls st ks h nc ns
        | none => none
      | _ => none
    | .getfield _ => match st with
      | .ref o :: st => match ks[o]? with
        | some (.inl ci) => cond (Nat.beq ci i.2.2.2.1.1) (am_go i cs ls (h o i.2.2.2.1.2.1 :: st) ks h nc ns) none
        | _ => none
      | _ => none
    | .putfield _ => match st with
      | v :: .ref o :: st => match ks[o]? with
        | some (.inl ci) => cond (Nat.beq ci i.2.2.2.1.1 && am_fit ((G.2.1 i.2.2.2.1.1).getD i.2.2.2.1.2.1 .int) v) (φ v (fun w => am_go i cs ls st ks (am_up h o i.2.2.2.1.2.1 w) nc ns)) none
        | _ => none
      | _ => none
    | .iaload => match st with
      | .int j :: a :: st => am_ald G ks h a j .int (fun v => am_pushI v (fun v => am_go i cs ls (v :: st) ks h nc ns))
      | _ => none
    | .baload => match st with
      | .int j :: .ref o :: st => am_ald G ks h (.ref o) j .boolean (fun v => am_pushI v (fun v => am_go i cs ls (v :: st) ks h nc ns))
      | _ => none
    | .laload => match st with
      | .int j :: .ref o :: st => am_ald G ks h (.ref o) j .long (fun v => am_pushL v (fun v => am_go i cs ls (v :: st) ks h nc ns))
      | _ => none
    | .aaload => match st with
      | .int j :: .ref o :: st => am_aald ks h o j (fun v => am_pushR v (fun v => am_go i cs ls (v :: st) ks h nc ns))
      | _ => none
    | .iastore => match st with
      | .int x :: .int j :: a :: st => φ (.int x) (fun v => am_pushI v (fun v => am_ast ks h a j .int v (fun h => am_go i cs ls st ks h nc ns)))
      | _ => none
    | .bastore => match st with
      | .int x :: .int j :: a :: st => cond (am_fit .boolean (.int x)) (φ (.int x) (fun v => am_pushI v (fun v => am_ast ks h a j .boolean v (fun h => am_go i cs ls st ks h nc ns)))) none
      | _ => none
    | .lastore => match st with
      | .long x :: .int j :: a :: st => φ (.long x) (fun v => am_pushL v (fun v => am_ast ks h a j .long v (fun h => am_go i cs ls st ks h nc ns)))
      | _ => none
    | .aastore => match st with
      | .ref v :: .int j :: .ref o :: st => am_aast G ks h o j v (fun h => am_go i cs ls st ks h nc ns)
      | _ => none
    | .arraylength => match st with
      | a :: st => am_len G ks a (fun v => am_go i cs ls (v :: st) ks h nc ns)
      | _ => none
    | .newarray t => am_newA M ex (Op.newarray.typeOf t) i cs ls st ks h nc ns
    | .anewarray _ => am_newA M ex (.object (G.2.2.1 i.2.2.2.1.1)) i cs ls st ks h nc ns
    | .new _ => am_new G M ex i cs ls st ks h nc ns
    | .invokespecial _ => match i.2.2.2.1.2.2 with
      | 0 => match st with
        | .ref _ :: st => cond (Nat.ble 1 M.2.2.1.1 && Nat.ble (am_cat st + 12) M.2.2.1.2.1) (am_go i cs ls st ks h nc ns) none
        | _ => none
      | _ => am_callV ex G M rc i cs ls st ks h nc ns
    | .invokevirtual _ => match i.2.2.2.1.2.2 with
      | 0 => match st with
        | .int j :: .retAddr 1 :: st => am_text G M i cs ls st ks h nc ns j
        | _ => none
      | _ => am_callV ex G M rc i cs ls st ks h nc ns
    | .invokestatic _ => match i.2.2.2.1.2.2 with
      | 0 => am_callL ex G M i cs ls st ks h nc ns
      | 1 => am_math M i cs ls st ks h nc ns (fun x y => if x < y then y else x)
      | 2 => am_math M i cs ls st ks h nc ns (fun x y => if y < x then y else x)
      | _ => am_callS ex G M rc i cs ls st ks h nc ns
    | _ => none
/-- what a callee sees: no script -/
def am_noS (G : am_G) : am_G := (G.1, G.2.1, G.2.2.1, G.2.2.2.1, none, G.2.2.2.2.2.1, fun _ _ _ => none)
/-- a run: the number says how many instructions it may take, calls and all -/
noncomputable def am_run (φ : Value → (Value → am_R) → am_R) (ex : Bool) (n : Nat) : am_G → am_M → am_F → Option am_O :=
  Nat.rec (motive := fun _ => am_G → am_M → am_F → Option am_O) (fun _ _ _ => none)
    (fun _ ih G M f => match am_end M f with
      | some r => some r
      | none => match am_one φ ex G (fun a as ks h => match G.1 a with
          | none => none
          | some M' => ih (am_noS G) M' (M'.2.2.2, lv_args 0 as, [], ks, h, 0, 0)) M f with
        | some (.inl f') => ih G M f'
        | _ => none) n
end
section
/-! ===== WHAT THE SMALL MACHINE'S STATE SAYS OF THE TRUE ONE ===== -/
def am_c (B : Nat) (x : Nat → Nat) : Value → Value
  | .ref i => .ref (B + i)
  | .retAddr k => .ref (x k)
  | v => v
theorem am_c_cat (B : Nat) (x : Nat → Nat) (v : Value) : (am_c B x v).category = v.category := by cases v <;> rfl
def am_i : Value → Int32
  | .int x => x
  | _ => 0
def am_l : Value → Int64
  | .long x => x
  | _ => 0
def am_o (B : Nat) : Value → Option Nat
  | .ref i => some (B + i)
  | _ => none
def am_arr (B n : Nat) (ty : FieldType) (f : Nat → Value) : vp_A := match ty with
  | .long => (n, .inr (.inl (fun j => am_l (f j))))
  | .object _ => (n, .inr (.inr (.inr (.inr (fun j => am_o B (f j))))))
  | _ => (n, .inl (fun j => am_i (f j)))
theorem am_arr_1 (B n : Nat) (ty : FieldType) (f : Nat → Value) : (am_arr B n ty f).1 = n := by cases ty <;> rfl
def am_N (cl : List vw_C) (ci : Nat) : Nat := match cl[ci]? with
  | some r => r.2.2
  | none => 0
def am_E (cl : List vw_C) (B : Nat) (x : Nat → Nat) (ca : ClassId) (k : am_k) (f : Nat → Value) : va_E := match k with
  | .inl ci => .inr (ci, (List.range (am_N cl ci)).map (fun j => am_c B x (f j)))
  | .inr q => .inl (ca, am_arr B q.2 q.1 f)
def am_W (cl : List vw_C) (B : Nat) (x : Nat → Nat) (dA : Nat → ClassId) (ks : List am_k) (h : am_H) : va_W := ks.mapIdx (fun i k => (B + i, am_E cl B x (dA i) k (h i)))
theorem am_W_at {cl : List vw_C} {B : Nat} {x : Nat → Nat} {dA : Nat → ClassId} {ks : List am_k} {h : am_H} (i : Nat) : (am_W cl B x dA ks h)[i]? = (ks[i]?).map (fun k => (B + i, am_E cl B x (dA i) k (h i))) := by
  simp [am_W, List.getElem?_mapIdx]
theorem am_W_some {cl : List vw_C} {B : Nat} {x : Nat → Nat} {dA : Nat → ClassId} {ks : List am_k} {h : am_H} {i : Nat} {k : am_k} (hk : ks[i]? = some k) : (am_W cl B x dA ks h)[i]? = some (B + i, am_E cl B x (dA i) k (h i)) := by
  rw [am_W_at, hk]; rfl
theorem am_W_D {cl : List vw_C} {B : Nat} {x : Nat → Nat} {dA : Nat → ClassId} {ks : List am_k} {h : am_H} : va_D (fun q => B ≤ q) (am_W cl B x dA ks h) := by
  refine ⟨fun i j p q hi hj hpq => ?_, fun i q hi => ?_⟩
  · rw [am_W_at] at hi hj
    obtain ⟨a, -, rfl⟩ := Option.map_eq_some_iff.mp hi
    obtain ⟨b, -, rfl⟩ := Option.map_eq_some_iff.mp hj
    have : B + i = B + j := hpq
    omega
  · rw [am_W_at] at hi
    obtain ⟨a, -, rfl⟩ := Option.map_eq_some_iff.mp hi
    exact Nat.le_add_right B i
theorem am_beq {a b : Nat} : Nat.beq a b = true ↔ a = b := ⟨Nat.eq_of_beq_eq_true, fun h => by subst h; exact Nat.beq_refl a⟩
theorem am_up_self (h : am_H) (o k : Nat) (v : Value) : am_up h o k v o k = v := by simp [am_up]
theorem am_up_same (h : am_H) (o k k' : Nat) (v : Value) (hk : k' ≠ k) : am_up h o k v o k' = h o k' := by
  have : Nat.beq k' k = false := by cases hq : Nat.beq k' k with
    | false => rfl
    | true => exact absurd (Nat.eq_of_beq_eq_true hq) hk
  simp [am_up, this]
theorem am_up_other (h : am_H) (o k o' : Nat) (v : Value) (ho : o' ≠ o) : am_up h o k v o' = h o' := by
  have : Nat.beq o' o = false := by cases hq : Nat.beq o' o with
    | false => rfl
    | true => exact absurd (Nat.eq_of_beq_eq_true hq) ho
  funext k'
  simp [am_up, this]
/-- a field is written -/
theorem am_W_put {cl : List vw_C} {B : Nat} {x : Nat → Nat} {dA : Nat → ClassId} {ks : List am_k} {h : am_H} {o ci k : Nat} {v : Value} (hk : ks[o]? = some (.inl ci)) (hn : k < am_N cl ci) :
    (am_W cl B x dA ks h).set o (B + o, .inr (ci, ((List.range (am_N cl ci)).map (fun j => am_c B x (h o j))).set k (am_c B x v))) = am_W cl B x dA ks (am_up h o k v) := by
  have hlt : o < (am_W cl B x dA ks h).length := (List.getElem?_eq_some_iff.mp (am_W_some (cl := cl) (B := B) (x := x) (dA := dA) (h := h) hk)).1
  refine List.ext_getElem? fun i => ?_
  by_cases hi : i = o
  · subst hi
    rw [List.getElem?_set_self hlt, am_W_some hk]
    show some (B + i, Sum.inr (ci, _)) = some (B + i, Sum.inr (ci, _))
    congr 4
    refine List.ext_getElem? fun j => ?_
    by_cases hj : j = k
    · subst hj
      rw [List.getElem?_set_self (by simpa using hn)]
      simp [hn, am_up_self]
    · rw [List.getElem?_set_ne (Ne.symm hj)]
      simp only [List.getElem?_map]
      by_cases hjn : j < am_N cl ci
      · simp [hjn, am_up_same _ _ _ _ _ hj]
      · simp [hjn]
  · rw [List.getElem?_set_ne (Ne.symm hi), am_W_at, am_W_at, am_up_other _ _ _ _ _ hi]
/-- an array's place is written -/
theorem am_W_ast {cl : List vw_C} {B : Nat} {x : Nat → Nat} {dA : Nat → ClassId} {ks : List am_k} {h : am_H} {o n k : Nat} {ty : FieldType} {v : Value} {a : vp_A} (hk : ks[o]? = some (.inr (ty, n))) (ha : a = am_arr B n ty (am_up h o k v o)) :
    (am_W cl B x dA ks h).set o (B + o, .inl (dA o, a)) = am_W cl B x dA ks (am_up h o k v) := by
  have hlt : o < (am_W cl B x dA ks h).length := (List.getElem?_eq_some_iff.mp (am_W_some (cl := cl) (B := B) (x := x) (dA := dA) (h := h) hk)).1
  refine List.ext_getElem? fun i => ?_
  by_cases hi : i = o
  · subst hi
    rw [List.getElem?_set_self hlt, am_W_some hk, ha]
    rfl
  · rw [List.getElem?_set_ne (Ne.symm hi), am_W_at, am_W_at, am_up_other _ _ _ _ _ hi]
theorem am_mk_self (h : am_H) (o : Nat) (f : Nat → Value) : am_mk h o f o = f := by funext k; simp [am_mk]
theorem am_mk_other (h : am_H) (o o' : Nat) (f : Nat → Value) (ho : o' ≠ o) : am_mk h o f o' = h o' := by
  have : Nat.beq o' o = false := by cases hq : Nat.beq o' o with
    | false => rfl
    | true => exact absurd (Nat.eq_of_beq_eq_true hq) ho
  funext k'
  simp [am_mk, this]
/-- a cell is made -/
theorem am_W_new {cl : List vw_C} {B : Nat} {x : Nat → Nat} {dA : Nat → ClassId} {ks : List am_k} {h : am_H} {k : am_k} {f : Nat → Value} {ca : ClassId} :
    am_W cl B x dA ks h ++ [(B + ks.length, am_E cl B x ca k f)] = am_W cl B x (fun i => if i = ks.length then ca else dA i) (ks ++ [k]) (am_mk h ks.length f) := by
  have hl : (am_W cl B x dA ks h).length = ks.length := by simp [am_W]
  refine List.ext_getElem? fun i => ?_
  rw [am_W_at]
  by_cases hi : i < ks.length
  · rw [List.getElem?_append_left (by omega), List.getElem?_append_left hi, am_W_at, am_mk_other _ _ _ _ (by omega : i ≠ ks.length), if_neg (by omega)]
  · rw [List.getElem?_append_right (by omega), List.getElem?_append_right (by omega), hl]
    by_cases hz : i = ks.length
    · subst hz
      simp [am_mk_self]
    · have : ¬ i - ks.length = 0 := by omega
      have h1 : ([(B + ks.length, am_E cl B x ca k f)] : va_W)[i - ks.length]? = none := by
        rw [List.getElem?_eq_none_iff]; simp; omega
      have h2 : ([k] : List am_k)[i - ks.length]? = none := by
        rw [List.getElem?_eq_none_iff]; simp; omega
      rw [h1, h2]; rfl
/-- the true heap holds the small machine's -/
def am_Wd (D : va_G) (cl : List vw_C) (B : Nat) (x : Nat → Nat) (ex : Bool) (dA : Nat → ClassId) (ks : List am_k) (h : am_H) (n : Nat) (U : State) (H : Heap) : Prop :=
  va_P D cl (am_W cl B x dA ks h) H ∧ (∀ (i : Nat) (ty : FieldType) (k : Nat), ks[i]? = some (.inr (ty, k)) → ArrOfT U (dA i) ty ∧ va_RA U (dA i) ty) ∧ (ex = true → n = B + ks.length)
def am_Rel (D : va_G) (cl : List vw_C) (B : Nat) (x : Nat → Nat) (ex : Bool) (ks : List am_k) (h : am_H) (n : Nat) (U : State) (H : Heap) : Prop :=
  va_K D cl [] U ∧ ∃ dA, am_Wd D cl B x ex dA ks h n U H
theorem am_Rel.moved {D : va_G} {cl : List vw_C} {B : Nat} {x : Nat → Nat} {ex : Bool} {ks : List am_k} {h : am_H} {n : Nat} {u U : State} {H : Heap} (hvm : u.vm.Alike U.vm) (hR : am_Rel D cl B x ex ks h n u H) : am_Rel D cl B x ex ks h n U H := by
  obtain ⟨hK, dA, h1, h2, h3⟩ := hR
  exact ⟨va_K.moved hvm hK, dA, h1, fun i ty k hi => ⟨arrOfT_moved hvm (h2 i ty k hi).1, (h2 i ty k hi).2.moved hvm⟩, h3⟩
theorem am_get_mem {k : Nat} {v : Value} : ∀ {ls : am_L}, am_get ls k = some v → (k, v) ∈ ls
  | [], h => by cases h
  | q :: l, h => by
    unfold am_get at h
    cases hb : Nat.beq q.1 k with
    | true =>
      rw [hb] at h
      cases h
      have := Nat.eq_of_beq_eq_true hb
      subst this
      exact List.mem_cons_self
    | false =>
      rw [hb] at h
      exact List.mem_cons_of_mem _ (am_get_mem h)
/-- the locals as the true machine has them -/
def am_ls (B : Nat) (x : Nat → Nat) (ls : am_L) : am_L := ls.map (fun q => (q.1, am_c B x q.2))
theorem am_ls_get {B : Nat} {x : Nat → Nat} {ls : am_L} {L : Array Slot} {nL k : Nat} {v : Value} (h : lv_has L nL (am_ls B x ls)) (hg : am_get ls k = some v) : L[k]? = some (.val (am_c B x v)) :=
  h.2.2 (k, am_c B x v) (List.mem_map.mpr ⟨(k, v), am_get_mem hg, rfl⟩)
theorem am_ls_set {B : Nat} {x : Nat → Nat} {ls : am_L} {k : Nat} {v : Value} : (k, am_c B x v) :: (am_ls B x ls).filter (fun q => !(q.1 == k) && !(q.1 + 1 == k && q.2.category == 2)) = am_ls B x (am_set ls k v) := by
  unfold am_ls am_set
  rw [List.map_cons, List.filter_map]
  congr 3
  funext q
  simp [am_c_cat]
theorem am_ls_set2 {B : Nat} {x : Nat → Nat} {ls : am_L} {k : Nat} {v : Value} : (k, am_c B x v) :: (am_ls B x ls).filter (fun q => !(q.1 == k) && (!(q.1 == k + 1) && !(q.1 + 1 == k && q.2.category == 2))) = am_ls B x (am_set2 ls k v) := by
  unfold am_ls am_set2
  rw [List.map_cons, List.filter_map]
  congr 3
  funext q
  simp [am_c_cat]
theorem am_cat_map (B : Nat) (x : Nat → Nat) (st : List Value) : ((st.map (am_c B x)).map fun v => v.category).sum = am_cat st := by
  unfold am_cat
  rw [List.map_map]
  congr 2
  funext v
  exact am_c_cat B x v
theorem am_fit_ok {B : Nat} {x : Nat → Nat} {ty : FieldType} {v : Value} (h : am_fit ty v = true) : narrow ty (am_c B x v) = am_c B x v ∧ fits ty (am_c B x v) = true := by
  unfold am_fit at h
  split at h
  · exact ⟨rfl, rfl⟩
  · simp only [Bool.or_eq_true, decide_eq_true_eq] at h
    rcases h with rfl | rfl <;> exact ⟨rfl, rfl⟩
  · exact ⟨rfl, rfl⟩
  · exact ⟨rfl, rfl⟩
  · exact ⟨rfl, rfl⟩
  · cases h
end
section
/-! ===== ONE INSTRUCTION OF THE SMALL MACHINE IS ONE OF THE TRUE ONE ===== -/
/-- what the tables and the frame say of a method that runs -/
def am_C (p : Program) (s : State) (m : MethodId) (args : Array Value) (meth : Method) (c : Code) (M : am_M) : Prop :=
  p.tables.exec = Jvm.exec ∧ c.code = M.1.2.2 ∧ c.maxLocals = M.2.1.1 ∧ meth.sig.returnType = M.2.1.2.1 ∧ s.vm.findClass M.1.2.1.cls = some m.cls ∧ (∀ w ∈ am_ts, w.before args s = true) ∧ meth.locks = false ∧ meth.name = M.1.2.1.name ∧ (∀ w ∈ am_tn, w.before args s = true)
def am_Wf (p : Program) (l : Launch) (e : Env) (R : Room) (s : State) (m : MethodId) (args : Array Value) (below : List Frame) (meth : Method) (c : Code) (D : va_G) (cl : List vw_C) (B : Nat) (x : Nat → Nat) (ex : Bool) (nL : Nat) (Q : State → Prop) (f : am_F) : Prop :=
  ∀ (H : Heap) (locs : List Loc) (L : Array Slot) (j : am_I) (r : List am_I), f.1 = j :: r → am_Rel D cl B x ex f.2.2.2.1 f.2.2.2.2.1 (s.heap.size + f.2.2.2.2.2.1) s H → va_S (fun q => B ≤ q) s.heap H locs → lv_has L nL (am_ls B x f.2.1) →
    W p l e R s m args below meth c H locs f.2.2.2.2.2.1 f.2.2.2.2.2.2 Q (F0 m j.1 L (f.2.2.1.map (am_c B x)))
section AMS
variable {p : Program} {l : Launch} {e : Env} {R : Room} {s : State} {m : MethodId} {args : Array Value} {below : List Frame} {meth : Method} {c : Code} {D : va_G} {cl : List vw_C} {B : Nat} {x : Nat → Nat} {ex : Bool} {nL : Nat} {Q : State → Prop} {M : am_M} {f' : am_F}
variable {pc len : Nat} {ins : Instr} {an : Nat × Nat × Nat} {v0 : Int} {cs : List am_I} {ls : am_L} {st : List Value} {ks : List am_k} {h : am_H} {nc ns : Nat} {G : am_G} {rc : am_rec}
/-- goes on behind an instruction -/
theorem am_go_use {i : am_I} (hgo : am_go i cs ls st ks h nc ns = some (.inl f')) (hW : am_Wf p l e R s m args below meth c D cl B x ex nL Q f') : ∀ (H : Heap) (locs : List Loc) (L : Array Slot), am_Rel D cl B x ex ks h (s.heap.size + nc) s H → va_S (fun q => B ≤ q) s.heap H locs → lv_has L nL (am_ls B x ls) →
    W p l e R s m args below meth c H locs nc ns Q (F0 m (i.1 + i.2.1) L (st.map (am_c B x))) := by
  unfold am_go am_nx at hgo
  split at hgo
  · cases hgo
  · rename_i j r
    cases hb : Nat.beq j.1 (i.1 + i.2.1) with
    | false => rw [hb] at hgo; cases hgo
    | true =>
      rw [hb] at hgo
      cases hgo
      intro H locs L hR hS hl
      have := hW H locs L j r rfl hR hS hl
      rw [Nat.eq_of_beq_eq_true hb] at this
      exact this
theorem am_go_inl {i : am_I} {o : am_O} (hgo : am_go i cs ls st ks h nc ns = some (.inr o)) : False := by
  unfold am_go am_nx at hgo
  split at hgo
  · cases hgo
  · rename_i j r
    cases hb : Nat.beq j.1 (i.1 + i.2.1) with
    | false => rw [hb] at hgo; cases hgo
    | true => rw [hb] at hgo; cases hgo
theorem am_jp_use {a : Nat} {t : Int} (hgo : am_jp M a t ls st ks h nc ns = some (.inl f')) (hW : am_Wf p l e R s m args below meth c D cl B x ex nL Q f') : ∃ tgt : Nat, t = (tgt : Int) ∧ ∀ (H : Heap) (locs : List Loc) (L : Array Slot), am_Rel D cl B x ex ks h (s.heap.size + nc) s H → va_S (fun q => B ≤ q) s.heap H locs → lv_has L nL (am_ls B x ls) →
    W p l e R s m args below meth c H locs nc ns Q (F0 m tgt L (st.map (am_c B x))) := by
  unfold am_jp at hgo
  split at hgo
  · cases hgo
  · rename_i j r _
    split at hgo
    · rename_i hj
      cases hgo
      exact ⟨j.1, hj.symm, fun H locs L hR hS hl => hW H locs L j r rfl hR hS hl⟩
    · cases hgo
theorem am_seek_use {t : Int} : ∀ {cd : List am_I} {j : am_I} {r : List am_I}, am_seek cd t = j :: r → (j.1 : Int) = t
  | [], _, _, h => by cases h
  | i :: cd, j, r, h => by
    unfold am_seek at h
    split at h
    · rename_i hi
      cases h
      exact hi
    · exact am_seek_use h
theorem am_sw_use {t : Int} (hgo : am_sw M t ls st ks h nc ns = some (.inl f')) (hW : am_Wf p l e R s m args below meth c D cl B x ex nL Q f') : ∃ tgt : Nat, t = (tgt : Int) ∧ ∀ (H : Heap) (locs : List Loc) (L : Array Slot), am_Rel D cl B x ex ks h (s.heap.size + nc) s H → va_S (fun q => B ≤ q) s.heap H locs → lv_has L nL (am_ls B x ls) →
    W p l e R s m args below meth c H locs nc ns Q (F0 m tgt L (st.map (am_c B x))) := by
  unfold am_sw at hgo
  split at hgo
  · cases hgo
  · rename_i j r hsk
    cases hgo
    exact ⟨j.1, (am_seek_use hsk).symm, fun H locs L hR hS hl => hW H locs L j r rfl hR hS hl⟩
abbrev am_φ : Value → (Value → am_R) → am_R := fun v k => k v
theorem am_s_iadd (C : am_C p s m args meth c M) (hd : decode M.1.2.2 pc = .ok (.iadd, 1))
    (hone : am_one am_φ ex G rc M ((pc, 1, .iadd, an, v0) :: cs, ls, st, ks, h, nc, ns) = some (.inl f')) (hW : am_Wf p l e R s m args below meth c D cl B x ex M.2.1.1 Q f') : am_Wf p l e R s m args below meth c D cl B x ex M.2.1.1 Q ((pc, 1, .iadd, an, v0) :: cs, ls, st, ks, h, nc, ns) := by
  obtain ⟨hx, hb, hml, hr, hown, hts, hlk, hnm, htn⟩ := C
  simp only [am_one] at hone
  split at hone
  · rename_i b a st0
    intro H locs L j r hj hR hS hl
    cases hj
    show W p l e R s m args below meth c H locs nc ns Q (F0 m pc L (.int b :: .int a :: st0.map (am_c B x)))
    exact lv_iadd hx hb hd (am_go_use hone hW H locs L hR hS hl)
  · cases hone
theorem am_s_isub (C : am_C p s m args meth c M) (hd : decode M.1.2.2 pc = .ok (.isub, 1))
    (hone : am_one am_φ ex G rc M ((pc, 1, .isub, an, v0) :: cs, ls, st, ks, h, nc, ns) = some (.inl f')) (hW : am_Wf p l e R s m args below meth c D cl B x ex M.2.1.1 Q f') : am_Wf p l e R s m args below meth c D cl B x ex M.2.1.1 Q ((pc, 1, .isub, an, v0) :: cs, ls, st, ks, h, nc, ns) := by
  obtain ⟨hx, hb, hml, hr, hown, hts, hlk, hnm, htn⟩ := C
  simp only [am_one] at hone
  split at hone
  · rename_i b a st0
    intro H locs L j r hj hR hS hl
    cases hj
    show W p l e R s m args below meth c H locs nc ns Q (F0 m pc L (.int b :: .int a :: st0.map (am_c B x)))
    exact lv_isub hx hb hd (am_go_use hone hW H locs L hR hS hl)
  · cases hone
theorem am_s_imul (C : am_C p s m args meth c M) (hd : decode M.1.2.2 pc = .ok (.imul, 1))
    (hone : am_one am_φ ex G rc M ((pc, 1, .imul, an, v0) :: cs, ls, st, ks, h, nc, ns) = some (.inl f')) (hW : am_Wf p l e R s m args below meth c D cl B x ex M.2.1.1 Q f') : am_Wf p l e R s m args below meth c D cl B x ex M.2.1.1 Q ((pc, 1, .imul, an, v0) :: cs, ls, st, ks, h, nc, ns) := by
  obtain ⟨hx, hb, hml, hr, hown, hts, hlk, hnm, htn⟩ := C
  simp only [am_one] at hone
  split at hone
  · rename_i b a st0
    intro H locs L j r hj hR hS hl
    cases hj
    show W p l e R s m args below meth c H locs nc ns Q (F0 m pc L (.int b :: .int a :: st0.map (am_c B x)))
    exact lv_imul hx hb hd (am_go_use hone hW H locs L hR hS hl)
  · cases hone
theorem am_s_iand (C : am_C p s m args meth c M) (hd : decode M.1.2.2 pc = .ok (.iand, 1))
    (hone : am_one am_φ ex G rc M ((pc, 1, .iand, an, v0) :: cs, ls, st, ks, h, nc, ns) = some (.inl f')) (hW : am_Wf p l e R s m args below meth c D cl B x ex M.2.1.1 Q f') : am_Wf p l e R s m args below meth c D cl B x ex M.2.1.1 Q ((pc, 1, .iand, an, v0) :: cs, ls, st, ks, h, nc, ns) := by
  obtain ⟨hx, hb, hml, hr, hown, hts, hlk, hnm, htn⟩ := C
  simp only [am_one] at hone
  split at hone
  · rename_i b a st0
    intro H locs L j r hj hR hS hl
    cases hj
    show W p l e R s m args below meth c H locs nc ns Q (F0 m pc L (.int b :: .int a :: st0.map (am_c B x)))
    exact lv_iand hx hb hd (am_go_use hone hW H locs L hR hS hl)
  · cases hone
theorem am_s_ior (C : am_C p s m args meth c M) (hd : decode M.1.2.2 pc = .ok (.ior, 1))
    (hone : am_one am_φ ex G rc M ((pc, 1, .ior, an, v0) :: cs, ls, st, ks, h, nc, ns) = some (.inl f')) (hW : am_Wf p l e R s m args below meth c D cl B x ex M.2.1.1 Q f') : am_Wf p l e R s m args below meth c D cl B x ex M.2.1.1 Q ((pc, 1, .ior, an, v0) :: cs, ls, st, ks, h, nc, ns) := by
  obtain ⟨hx, hb, hml, hr, hown, hts, hlk, hnm, htn⟩ := C
  simp only [am_one] at hone
  split at hone
  · rename_i b a st0
    intro H locs L j r hj hR hS hl
    cases hj
    show W p l e R s m args below meth c H locs nc ns Q (F0 m pc L (.int b :: .int a :: st0.map (am_c B x)))
    exact lv_ior hx hb hd (am_go_use hone hW H locs L hR hS hl)
  · cases hone
theorem am_s_ishl (C : am_C p s m args meth c M) (hd : decode M.1.2.2 pc = .ok (.ishl, 1))
    (hone : am_one am_φ ex G rc M ((pc, 1, .ishl, an, v0) :: cs, ls, st, ks, h, nc, ns) = some (.inl f')) (hW : am_Wf p l e R s m args below meth c D cl B x ex M.2.1.1 Q f') : am_Wf p l e R s m args below meth c D cl B x ex M.2.1.1 Q ((pc, 1, .ishl, an, v0) :: cs, ls, st, ks, h, nc, ns) := by
  obtain ⟨hx, hb, hml, hr, hown, hts, hlk, hnm, htn⟩ := C
  simp only [am_one] at hone
  split at hone
  · rename_i b a st0
    intro H locs L j r hj hR hS hl
    cases hj
    show W p l e R s m args below meth c H locs nc ns Q (F0 m pc L (.int b :: .int a :: st0.map (am_c B x)))
    exact lv_ishl hx hb hd (am_go_use hone hW H locs L hR hS hl)
  · cases hone
theorem am_s_ishr (C : am_C p s m args meth c M) (hd : decode M.1.2.2 pc = .ok (.ishr, 1))
    (hone : am_one am_φ ex G rc M ((pc, 1, .ishr, an, v0) :: cs, ls, st, ks, h, nc, ns) = some (.inl f')) (hW : am_Wf p l e R s m args below meth c D cl B x ex M.2.1.1 Q f') : am_Wf p l e R s m args below meth c D cl B x ex M.2.1.1 Q ((pc, 1, .ishr, an, v0) :: cs, ls, st, ks, h, nc, ns) := by
  obtain ⟨hx, hb, hml, hr, hown, hts, hlk, hnm, htn⟩ := C
  simp only [am_one] at hone
  split at hone
  · rename_i b a st0
    intro H locs L j r hj hR hS hl
    cases hj
    show W p l e R s m args below meth c H locs nc ns Q (F0 m pc L (.int b :: .int a :: st0.map (am_c B x)))
    exact lv_ishr hx hb hd (am_go_use hone hW H locs L hR hS hl)
  · cases hone
theorem am_s_ladd (C : am_C p s m args meth c M) (hd : decode M.1.2.2 pc = .ok (.ladd, 1))
    (hone : am_one am_φ ex G rc M ((pc, 1, .ladd, an, v0) :: cs, ls, st, ks, h, nc, ns) = some (.inl f')) (hW : am_Wf p l e R s m args below meth c D cl B x ex M.2.1.1 Q f') : am_Wf p l e R s m args below meth c D cl B x ex M.2.1.1 Q ((pc, 1, .ladd, an, v0) :: cs, ls, st, ks, h, nc, ns) := by
  obtain ⟨hx, hb, hml, hr, hown, hts, hlk, hnm, htn⟩ := C
  simp only [am_one] at hone
  split at hone
  · rename_i b a st0
    intro H locs L j r hj hR hS hl
    cases hj
    show W p l e R s m args below meth c H locs nc ns Q (F0 m pc L (.long b :: .long a :: st0.map (am_c B x)))
    exact lv_ladd hx hb hd (am_go_use hone hW H locs L hR hS hl)
  · cases hone
theorem am_s_lsub (C : am_C p s m args meth c M) (hd : decode M.1.2.2 pc = .ok (.lsub, 1))
    (hone : am_one am_φ ex G rc M ((pc, 1, .lsub, an, v0) :: cs, ls, st, ks, h, nc, ns) = some (.inl f')) (hW : am_Wf p l e R s m args below meth c D cl B x ex M.2.1.1 Q f') : am_Wf p l e R s m args below meth c D cl B x ex M.2.1.1 Q ((pc, 1, .lsub, an, v0) :: cs, ls, st, ks, h, nc, ns) := by
  obtain ⟨hx, hb, hml, hr, hown, hts, hlk, hnm, htn⟩ := C
  simp only [am_one] at hone
  split at hone
  · rename_i b a st0
    intro H locs L j r hj hR hS hl
    cases hj
    show W p l e R s m args below meth c H locs nc ns Q (F0 m pc L (.long b :: .long a :: st0.map (am_c B x)))
    exact lv_lsub hx hb hd (am_go_use hone hW H locs L hR hS hl)
  · cases hone
theorem am_s_lmul (C : am_C p s m args meth c M) (hd : decode M.1.2.2 pc = .ok (.lmul, 1))
    (hone : am_one am_φ ex G rc M ((pc, 1, .lmul, an, v0) :: cs, ls, st, ks, h, nc, ns) = some (.inl f')) (hW : am_Wf p l e R s m args below meth c D cl B x ex M.2.1.1 Q f') : am_Wf p l e R s m args below meth c D cl B x ex M.2.1.1 Q ((pc, 1, .lmul, an, v0) :: cs, ls, st, ks, h, nc, ns) := by
  obtain ⟨hx, hb, hml, hr, hown, hts, hlk, hnm, htn⟩ := C
  simp only [am_one] at hone
  split at hone
  · rename_i b a st0
    intro H locs L j r hj hR hS hl
    cases hj
    show W p l e R s m args below meth c H locs nc ns Q (F0 m pc L (.long b :: .long a :: st0.map (am_c B x)))
    exact lv_lmul hx hb hd (am_go_use hone hW H locs L hR hS hl)
  · cases hone
theorem am_s_land (C : am_C p s m args meth c M) (hd : decode M.1.2.2 pc = .ok (.land, 1))
    (hone : am_one am_φ ex G rc M ((pc, 1, .land, an, v0) :: cs, ls, st, ks, h, nc, ns) = some (.inl f')) (hW : am_Wf p l e R s m args below meth c D cl B x ex M.2.1.1 Q f') : am_Wf p l e R s m args below meth c D cl B x ex M.2.1.1 Q ((pc, 1, .land, an, v0) :: cs, ls, st, ks, h, nc, ns) := by
  obtain ⟨hx, hb, hml, hr, hown, hts, hlk, hnm, htn⟩ := C
  simp only [am_one] at hone
  split at hone
  · rename_i b a st0
    intro H locs L j r hj hR hS hl
    cases hj
    show W p l e R s m args below meth c H locs nc ns Q (F0 m pc L (.long b :: .long a :: st0.map (am_c B x)))
    exact lv_land hx hb hd (am_go_use hone hW H locs L hR hS hl)
  · cases hone
theorem am_s_iushr (C : am_C p s m args meth c M) (hd : decode M.1.2.2 pc = .ok (.iushr, 1))
    (hone : am_one am_φ ex G rc M ((pc, 1, .iushr, an, v0) :: cs, ls, st, ks, h, nc, ns) = some (.inl f')) (hW : am_Wf p l e R s m args below meth c D cl B x ex M.2.1.1 Q f') : am_Wf p l e R s m args below meth c D cl B x ex M.2.1.1 Q ((pc, 1, .iushr, an, v0) :: cs, ls, st, ks, h, nc, ns) := by
  obtain ⟨hx, hb, hml, hr, hown, hts, hlk, hnm, htn⟩ := C
  simp only [am_one] at hone
  split at hone
  · rename_i b a st0
    intro H locs L j r hj hR hS hl
    cases hj
    show W p l e R s m args below meth c H locs nc ns Q (F0 m pc L (.int b :: .int a :: st0.map (am_c B x)))
    exact lv_iushr hx hb hd rfl (am_go_use hone hW H locs L hR hS hl)
  · cases hone
theorem am_s_lcmp (C : am_C p s m args meth c M) (hd : decode M.1.2.2 pc = .ok (.lcmp, 1))
    (hone : am_one am_φ ex G rc M ((pc, 1, .lcmp, an, v0) :: cs, ls, st, ks, h, nc, ns) = some (.inl f')) (hW : am_Wf p l e R s m args below meth c D cl B x ex M.2.1.1 Q f') : am_Wf p l e R s m args below meth c D cl B x ex M.2.1.1 Q ((pc, 1, .lcmp, an, v0) :: cs, ls, st, ks, h, nc, ns) := by
  obtain ⟨hx, hb, hml, hr, hown, hts, hlk, hnm, htn⟩ := C
  simp only [am_one] at hone
  split at hone
  · rename_i b a st0
    intro H locs L j r hj hR hS hl
    cases hj
    show W p l e R s m args below meth c H locs nc ns Q (F0 m pc L (.long b :: .long a :: st0.map (am_c B x)))
    exact W.lcmp hx hb hd (am_go_use hone hW H locs L hR hS hl)
  · cases hone
theorem am_s_idiv (C : am_C p s m args meth c M) (hd : decode M.1.2.2 pc = .ok (.idiv, 1))
    (hone : am_one am_φ ex G rc M ((pc, 1, .idiv, an, v0) :: cs, ls, st, ks, h, nc, ns) = some (.inl f')) (hW : am_Wf p l e R s m args below meth c D cl B x ex M.2.1.1 Q f') : am_Wf p l e R s m args below meth c D cl B x ex M.2.1.1 Q ((pc, 1, .idiv, an, v0) :: cs, ls, st, ks, h, nc, ns) := by
  obtain ⟨hx, hb, hml, hr, hown, hts, hlk, hnm, htn⟩ := C
  simp only [am_one] at hone
  split at hone
  · rename_i b a st0
    split at hone
    · cases hone
    rename_i hne
    intro H locs L j r hj hR hS hl
    cases hj
    show W p l e R s m args below meth c H locs nc ns Q (F0 m pc L (.int b :: .int a :: st0.map (am_c B x)))
    exact lv_idiv hx hb hd hne (am_go_use hone hW H locs L hR hS hl)
  · cases hone
theorem am_s_irem (C : am_C p s m args meth c M) (hd : decode M.1.2.2 pc = .ok (.irem, 1))
    (hone : am_one am_φ ex G rc M ((pc, 1, .irem, an, v0) :: cs, ls, st, ks, h, nc, ns) = some (.inl f')) (hW : am_Wf p l e R s m args below meth c D cl B x ex M.2.1.1 Q f') : am_Wf p l e R s m args below meth c D cl B x ex M.2.1.1 Q ((pc, 1, .irem, an, v0) :: cs, ls, st, ks, h, nc, ns) := by
  obtain ⟨hx, hb, hml, hr, hown, hts, hlk, hnm, htn⟩ := C
  simp only [am_one] at hone
  split at hone
  · rename_i b a st0
    split at hone
    · cases hone
    rename_i hne
    intro H locs L j r hj hR hS hl
    cases hj
    show W p l e R s m args below meth c H locs nc ns Q (F0 m pc L (.int b :: .int a :: st0.map (am_c B x)))
    exact lv_irem hx hb hd hne (am_go_use hone hW H locs L hR hS hl)
  · cases hone
theorem am_s_ldiv (C : am_C p s m args meth c M) (hd : decode M.1.2.2 pc = .ok (.ldiv, 1))
    (hone : am_one am_φ ex G rc M ((pc, 1, .ldiv, an, v0) :: cs, ls, st, ks, h, nc, ns) = some (.inl f')) (hW : am_Wf p l e R s m args below meth c D cl B x ex M.2.1.1 Q f') : am_Wf p l e R s m args below meth c D cl B x ex M.2.1.1 Q ((pc, 1, .ldiv, an, v0) :: cs, ls, st, ks, h, nc, ns) := by
  obtain ⟨hx, hb, hml, hr, hown, hts, hlk, hnm, htn⟩ := C
  simp only [am_one] at hone
  split at hone
  · rename_i b a st0
    split at hone
    · cases hone
    rename_i hne
    intro H locs L j r hj hR hS hl
    cases hj
    show W p l e R s m args below meth c H locs nc ns Q (F0 m pc L (.long b :: .long a :: st0.map (am_c B x)))
    exact lv_ldiv hx hb hd hne (am_go_use hone hW H locs L hR hS hl)
  · cases hone
theorem am_s_lrem (C : am_C p s m args meth c M) (hd : decode M.1.2.2 pc = .ok (.lrem, 1))
    (hone : am_one am_φ ex G rc M ((pc, 1, .lrem, an, v0) :: cs, ls, st, ks, h, nc, ns) = some (.inl f')) (hW : am_Wf p l e R s m args below meth c D cl B x ex M.2.1.1 Q f') : am_Wf p l e R s m args below meth c D cl B x ex M.2.1.1 Q ((pc, 1, .lrem, an, v0) :: cs, ls, st, ks, h, nc, ns) := by
  obtain ⟨hx, hb, hml, hr, hown, hts, hlk, hnm, htn⟩ := C
  simp only [am_one] at hone
  split at hone
  · rename_i b a st0
    split at hone
    · cases hone
    rename_i hne
    intro H locs L j r hj hR hS hl
    cases hj
    show W p l e R s m args below meth c H locs nc ns Q (F0 m pc L (.long b :: .long a :: st0.map (am_c B x)))
    exact lv_lrem hx hb hd hne (am_go_use hone hW H locs L hR hS hl)
  · cases hone
theorem am_s_lneg (C : am_C p s m args meth c M) (hd : decode M.1.2.2 pc = .ok (.lneg, 1))
    (hone : am_one am_φ ex G rc M ((pc, 1, .lneg, an, v0) :: cs, ls, st, ks, h, nc, ns) = some (.inl f')) (hW : am_Wf p l e R s m args below meth c D cl B x ex M.2.1.1 Q f') : am_Wf p l e R s m args below meth c D cl B x ex M.2.1.1 Q ((pc, 1, .lneg, an, v0) :: cs, ls, st, ks, h, nc, ns) := by
  obtain ⟨hx, hb, hml, hr, hown, hts, hlk, hnm, htn⟩ := C
  simp only [am_one] at hone
  split at hone
  · rename_i a st0
    intro H locs L j r hj hR hS hl
    cases hj
    show W p l e R s m args below meth c H locs nc ns Q (F0 m pc L (.long a :: st0.map (am_c B x)))
    exact lv_lneg hx hb hd (am_go_use hone hW H locs L hR hS hl)
  · cases hone
theorem am_s_i2l (C : am_C p s m args meth c M) (hd : decode M.1.2.2 pc = .ok (.i2l, 1))
    (hone : am_one am_φ ex G rc M ((pc, 1, .i2l, an, v0) :: cs, ls, st, ks, h, nc, ns) = some (.inl f')) (hW : am_Wf p l e R s m args below meth c D cl B x ex M.2.1.1 Q f') : am_Wf p l e R s m args below meth c D cl B x ex M.2.1.1 Q ((pc, 1, .i2l, an, v0) :: cs, ls, st, ks, h, nc, ns) := by
  obtain ⟨hx, hb, hml, hr, hown, hts, hlk, hnm, htn⟩ := C
  simp only [am_one] at hone
  split at hone
  · rename_i a st0
    intro H locs L j r hj hR hS hl
    cases hj
    show W p l e R s m args below meth c H locs nc ns Q (F0 m pc L (.int a :: st0.map (am_c B x)))
    exact lv_i2l hx hb hd rfl (am_go_use hone hW H locs L hR hS hl)
  · cases hone
theorem am_s_l2i (C : am_C p s m args meth c M) (hd : decode M.1.2.2 pc = .ok (.l2i, 1))
    (hone : am_one am_φ ex G rc M ((pc, 1, .l2i, an, v0) :: cs, ls, st, ks, h, nc, ns) = some (.inl f')) (hW : am_Wf p l e R s m args below meth c D cl B x ex M.2.1.1 Q f') : am_Wf p l e R s m args below meth c D cl B x ex M.2.1.1 Q ((pc, 1, .l2i, an, v0) :: cs, ls, st, ks, h, nc, ns) := by
  obtain ⟨hx, hb, hml, hr, hown, hts, hlk, hnm, htn⟩ := C
  simp only [am_one] at hone
  split at hone
  · rename_i a st0
    intro H locs L j r hj hR hS hl
    cases hj
    show W p l e R s m args below meth c H locs nc ns Q (F0 m pc L (.long a :: st0.map (am_c B x)))
    exact lv_l2i hx hb hd rfl (am_go_use hone hW H locs L hR hS hl)
  · cases hone
theorem am_s_iconst {k : Int} (C : am_C p s m args meth c M) (hd : decode M.1.2.2 pc = .ok (.iconst k, 1))
    (hone : am_one am_φ ex G rc M ((pc, 1, .iconst k, an, v0) :: cs, ls, st, ks, h, nc, ns) = some (.inl f')) (hW : am_Wf p l e R s m args below meth c D cl B x ex M.2.1.1 Q f') : am_Wf p l e R s m args below meth c D cl B x ex M.2.1.1 Q ((pc, 1, .iconst k, an, v0) :: cs, ls, st, ks, h, nc, ns) := by
  obtain ⟨hx, hb, hml, hr, hown, hts, hlk, hnm, htn⟩ := C
  simp only [am_one] at hone
  intro H locs L j r hj hR hS hl
  cases hj
  show W p l e R s m args below meth c H locs nc ns Q (F0 m pc L (st.map (am_c B x)))
  exact lv_iconst hx hb hd rfl (am_go_use hone hW H locs L hR hS hl)
theorem am_s_bipush {k : Int} (C : am_C p s m args meth c M) (hd : decode M.1.2.2 pc = .ok (.bipush k, 2))
    (hone : am_one am_φ ex G rc M ((pc, 2, .bipush k, an, v0) :: cs, ls, st, ks, h, nc, ns) = some (.inl f')) (hW : am_Wf p l e R s m args below meth c D cl B x ex M.2.1.1 Q f') : am_Wf p l e R s m args below meth c D cl B x ex M.2.1.1 Q ((pc, 2, .bipush k, an, v0) :: cs, ls, st, ks, h, nc, ns) := by
  obtain ⟨hx, hb, hml, hr, hown, hts, hlk, hnm, htn⟩ := C
  simp only [am_one] at hone
  intro H locs L j r hj hR hS hl
  cases hj
  show W p l e R s m args below meth c H locs nc ns Q (F0 m pc L (st.map (am_c B x)))
  exact lv_bipush hx hb hd rfl (am_go_use hone hW H locs L hR hS hl)
theorem am_s_sipush {k : Int} (C : am_C p s m args meth c M) (hd : decode M.1.2.2 pc = .ok (.sipush k, 3))
    (hone : am_one am_φ ex G rc M ((pc, 3, .sipush k, an, v0) :: cs, ls, st, ks, h, nc, ns) = some (.inl f')) (hW : am_Wf p l e R s m args below meth c D cl B x ex M.2.1.1 Q f') : am_Wf p l e R s m args below meth c D cl B x ex M.2.1.1 Q ((pc, 3, .sipush k, an, v0) :: cs, ls, st, ks, h, nc, ns) := by
  obtain ⟨hx, hb, hml, hr, hown, hts, hlk, hnm, htn⟩ := C
  simp only [am_one] at hone
  intro H locs L j r hj hR hS hl
  cases hj
  show W p l e R s m args below meth c H locs nc ns Q (F0 m pc L (st.map (am_c B x)))
  exact lv_sipush hx hb hd rfl (am_go_use hone hW H locs L hR hS hl)
theorem am_s_lconst {k : Fin 2} (C : am_C p s m args meth c M) (hd : decode M.1.2.2 pc = .ok (.lconst k, 1))
    (hone : am_one am_φ ex G rc M ((pc, 1, .lconst k, an, v0) :: cs, ls, st, ks, h, nc, ns) = some (.inl f')) (hW : am_Wf p l e R s m args below meth c D cl B x ex M.2.1.1 Q f') : am_Wf p l e R s m args below meth c D cl B x ex M.2.1.1 Q ((pc, 1, .lconst k, an, v0) :: cs, ls, st, ks, h, nc, ns) := by
  obtain ⟨hx, hb, hml, hr, hown, hts, hlk, hnm, htn⟩ := C
  simp only [am_one] at hone
  intro H locs L j r hj hR hS hl
  cases hj
  show W p l e R s m args below meth c H locs nc ns Q (F0 m pc L (st.map (am_c B x)))
  exact lv_lconst hx hb hd rfl (am_go_use hone hW H locs L hR hS hl)
theorem am_s_ldc {k : Nat} (C : am_C p s m args meth c M) (hd : decode M.1.2.2 pc = .ok (.ldc k, 2)) (h0 : an.2.1 = 0) (hw : Cond.constant M.1.2.1.cls k (Int32.ofInt v0) ∈ am_ts)
    (hone : am_one am_φ ex G rc M ((pc, 2, .ldc k, an, v0) :: cs, ls, st, ks, h, nc, ns) = some (.inl f')) (hW : am_Wf p l e R s m args below meth c D cl B x ex M.2.1.1 Q f') : am_Wf p l e R s m args below meth c D cl B x ex M.2.1.1 Q ((pc, 2, .ldc k, an, v0) :: cs, ls, st, ks, h, nc, ns) := by
  obtain ⟨hx, hb, hml, hr, hown, hts, hlk, hnm, htn⟩ := C
  simp only [am_one] at hone
  rw [h0] at hone
  intro H locs L j r hj hR hS hl
  cases hj
  show W p l e R s m args below meth c H locs nc ns Q (F0 m pc L (st.map (am_c B x)))
  exact lv_ldc hx hb hown (hts _ hw) hd (am_go_use hone hW H locs L hR hS hl)
theorem am_s_ldc2 {k : Nat} (C : am_C p s m args meth c M) (hd : decode M.1.2.2 pc = .ok (.ldc2_w k, 3)) (hw : Cond.constantLong M.1.2.1.cls k (Int64.ofInt v0) ∈ am_ts)
    (hone : am_one am_φ ex G rc M ((pc, 3, .ldc2_w k, an, v0) :: cs, ls, st, ks, h, nc, ns) = some (.inl f')) (hW : am_Wf p l e R s m args below meth c D cl B x ex M.2.1.1 Q f') : am_Wf p l e R s m args below meth c D cl B x ex M.2.1.1 Q ((pc, 3, .ldc2_w k, an, v0) :: cs, ls, st, ks, h, nc, ns) := by
  obtain ⟨hx, hb, hml, hr, hown, hts, hlk, hnm, htn⟩ := C
  simp only [am_one] at hone
  intro H locs L j r hj hR hS hl
  cases hj
  show W p l e R s m args below meth c H locs nc ns Q (F0 m pc L (st.map (am_c B x)))
  exact lv_ldc2 hx hb hown (hts _ hw) hd (am_go_use hone hW H locs L hR hS hl)
theorem am_s_iload {k : Nat} (C : am_C p s m args meth c M) (hd : decode M.1.2.2 pc = .ok (.iload k, 2))
    (hone : am_one am_φ ex G rc M ((pc, 2, .iload k, an, v0) :: cs, ls, st, ks, h, nc, ns) = some (.inl f')) (hW : am_Wf p l e R s m args below meth c D cl B x ex M.2.1.1 Q f') : am_Wf p l e R s m args below meth c D cl B x ex M.2.1.1 Q ((pc, 2, .iload k, an, v0) :: cs, ls, st, ks, h, nc, ns) := by
  obtain ⟨hx, hb, hml, hr, hown, hts, hlk, hnm, htn⟩ := C
  simp only [am_one] at hone
  split at hone
  · rename_i a hg
    intro H locs L j r hj hR hS hl
    cases hj
    show W p l e R s m args below meth c H locs nc ns Q (F0 m pc L (st.map (am_c B x)))
    exact lv_iload (x := a) hx hb hd (am_ls_get hl hg) (am_go_use hone hW H locs L hR hS hl)
  · cases hone
theorem am_s_iload_n {k : Fin 4} (C : am_C p s m args meth c M) (hd : decode M.1.2.2 pc = .ok (.iload_n k, 1))
    (hone : am_one am_φ ex G rc M ((pc, 1, .iload_n k, an, v0) :: cs, ls, st, ks, h, nc, ns) = some (.inl f')) (hW : am_Wf p l e R s m args below meth c D cl B x ex M.2.1.1 Q f') : am_Wf p l e R s m args below meth c D cl B x ex M.2.1.1 Q ((pc, 1, .iload_n k, an, v0) :: cs, ls, st, ks, h, nc, ns) := by
  obtain ⟨hx, hb, hml, hr, hown, hts, hlk, hnm, htn⟩ := C
  simp only [am_one] at hone
  split at hone
  · rename_i a hg
    intro H locs L j r hj hR hS hl
    cases hj
    show W p l e R s m args below meth c H locs nc ns Q (F0 m pc L (st.map (am_c B x)))
    exact lv_iload_n (x := a) hx hb hd rfl (am_ls_get hl hg) (am_go_use hone hW H locs L hR hS hl)
  · cases hone
theorem am_s_lload {k : Nat} (C : am_C p s m args meth c M) (hd : decode M.1.2.2 pc = .ok (.lload k, 2))
    (hone : am_one am_φ ex G rc M ((pc, 2, .lload k, an, v0) :: cs, ls, st, ks, h, nc, ns) = some (.inl f')) (hW : am_Wf p l e R s m args below meth c D cl B x ex M.2.1.1 Q f') : am_Wf p l e R s m args below meth c D cl B x ex M.2.1.1 Q ((pc, 2, .lload k, an, v0) :: cs, ls, st, ks, h, nc, ns) := by
  obtain ⟨hx, hb, hml, hr, hown, hts, hlk, hnm, htn⟩ := C
  simp only [am_one] at hone
  split at hone
  · rename_i a hg
    intro H locs L j r hj hR hS hl
    cases hj
    show W p l e R s m args below meth c H locs nc ns Q (F0 m pc L (st.map (am_c B x)))
    exact lv_lload (x := a) hx hb hd (am_ls_get hl hg) (am_go_use hone hW H locs L hR hS hl)
  · cases hone
theorem am_s_lload_n {k : Fin 4} (C : am_C p s m args meth c M) (hd : decode M.1.2.2 pc = .ok (.lload_n k, 1))
    (hone : am_one am_φ ex G rc M ((pc, 1, .lload_n k, an, v0) :: cs, ls, st, ks, h, nc, ns) = some (.inl f')) (hW : am_Wf p l e R s m args below meth c D cl B x ex M.2.1.1 Q f') : am_Wf p l e R s m args below meth c D cl B x ex M.2.1.1 Q ((pc, 1, .lload_n k, an, v0) :: cs, ls, st, ks, h, nc, ns) := by
  obtain ⟨hx, hb, hml, hr, hown, hts, hlk, hnm, htn⟩ := C
  simp only [am_one] at hone
  split at hone
  · rename_i a hg
    intro H locs L j r hj hR hS hl
    cases hj
    show W p l e R s m args below meth c H locs nc ns Q (F0 m pc L (st.map (am_c B x)))
    exact lv_lload_n (x := a) hx hb hd rfl (am_ls_get hl hg) (am_go_use hone hW H locs L hR hS hl)
  · cases hone
theorem am_s_aload {k : Nat} (C : am_C p s m args meth c M) (hd : decode M.1.2.2 pc = .ok (.aload k, 2))
    (hone : am_one am_φ ex G rc M ((pc, 2, .aload k, an, v0) :: cs, ls, st, ks, h, nc, ns) = some (.inl f')) (hW : am_Wf p l e R s m args below meth c D cl B x ex M.2.1.1 Q f') : am_Wf p l e R s m args below meth c D cl B x ex M.2.1.1 Q ((pc, 2, .aload k, an, v0) :: cs, ls, st, ks, h, nc, ns) := by
  obtain ⟨hx, hb, hml, hr, hown, hts, hlk, hnm, htn⟩ := C
  simp only [am_one] at hone
  split at hone
  · rename_i a hg
    intro H locs L j r hj hR hS hl
    cases hj
    show W p l e R s m args below meth c H locs nc ns Q (F0 m pc L (st.map (am_c B x)))
    exact lv_aload (x := B + a) hx hb hd (am_ls_get hl hg) (am_go_use hone hW H locs L hR hS hl)
  · rename_i a hg
    intro H locs L j r hj hR hS hl
    cases hj
    show W p l e R s m args below meth c H locs nc ns Q (F0 m pc L (st.map (am_c B x)))
    exact lv_aload (x := x a) hx hb hd (am_ls_get hl hg) (am_go_use hone hW H locs L hR hS hl)
  · cases hone
theorem am_s_aload_n {k : Fin 4} (C : am_C p s m args meth c M) (hd : decode M.1.2.2 pc = .ok (.aload_n k, 1))
    (hone : am_one am_φ ex G rc M ((pc, 1, .aload_n k, an, v0) :: cs, ls, st, ks, h, nc, ns) = some (.inl f')) (hW : am_Wf p l e R s m args below meth c D cl B x ex M.2.1.1 Q f') : am_Wf p l e R s m args below meth c D cl B x ex M.2.1.1 Q ((pc, 1, .aload_n k, an, v0) :: cs, ls, st, ks, h, nc, ns) := by
  obtain ⟨hx, hb, hml, hr, hown, hts, hlk, hnm, htn⟩ := C
  simp only [am_one] at hone
  split at hone
  · rename_i a hg
    intro H locs L j r hj hR hS hl
    cases hj
    show W p l e R s m args below meth c H locs nc ns Q (F0 m pc L (st.map (am_c B x)))
    exact lv_aload_n (x := B + a) hx hb hd rfl (am_ls_get hl hg) (am_go_use hone hW H locs L hR hS hl)
  · rename_i a hg
    intro H locs L j r hj hR hS hl
    cases hj
    show W p l e R s m args below meth c H locs nc ns Q (F0 m pc L (st.map (am_c B x)))
    exact lv_aload_n (x := x a) hx hb hd rfl (am_ls_get hl hg) (am_go_use hone hW H locs L hR hS hl)
  · cases hone
theorem am_s_istore {k : Nat} (C : am_C p s m args meth c M) (hd : decode M.1.2.2 pc = .ok (.istore k, 2))
    (hone : am_one am_φ ex G rc M ((pc, 2, .istore k, an, v0) :: cs, ls, st, ks, h, nc, ns) = some (.inl f')) (hW : am_Wf p l e R s m args below meth c D cl B x ex M.2.1.1 Q f') : am_Wf p l e R s m args below meth c D cl B x ex M.2.1.1 Q ((pc, 2, .istore k, an, v0) :: cs, ls, st, ks, h, nc, ns) := by
  obtain ⟨hx, hb, hml, hr, hown, hts, hlk, hnm, htn⟩ := C
  simp only [am_one] at hone
  split at hone
  · rename_i a st0
    cases hlt : Nat.blt k M.2.1.1 with
    | false => rw [hlt] at hone; cases hone
    | true =>
    rw [hlt] at hone
    simp only [cond_true, am_pushI, am_pushL] at hone
    intro H locs L j r hj hR hS hl
    cases hj
    show W p l e R s m args below meth c H locs nc ns Q (F0 m pc L (.int a :: st0.map (am_c B x)))
    exact lv_istore hx hb hd hl (Nat.le_of_ble_eq_true hlt) (am_ls_set (v := .int a)) (fun L hl => am_go_use hone hW H locs L hR hS hl)
  · cases hone
theorem am_s_istore_n {k : Fin 4} (C : am_C p s m args meth c M) (hd : decode M.1.2.2 pc = .ok (.istore_n k, 1))
    (hone : am_one am_φ ex G rc M ((pc, 1, .istore_n k, an, v0) :: cs, ls, st, ks, h, nc, ns) = some (.inl f')) (hW : am_Wf p l e R s m args below meth c D cl B x ex M.2.1.1 Q f') : am_Wf p l e R s m args below meth c D cl B x ex M.2.1.1 Q ((pc, 1, .istore_n k, an, v0) :: cs, ls, st, ks, h, nc, ns) := by
  obtain ⟨hx, hb, hml, hr, hown, hts, hlk, hnm, htn⟩ := C
  simp only [am_one] at hone
  split at hone
  · rename_i a st0
    cases hlt : Nat.blt k.val M.2.1.1 with
    | false => rw [hlt] at hone; cases hone
    | true =>
    rw [hlt] at hone
    simp only [cond_true, am_pushI, am_pushL] at hone
    intro H locs L j r hj hR hS hl
    cases hj
    show W p l e R s m args below meth c H locs nc ns Q (F0 m pc L (.int a :: st0.map (am_c B x)))
    exact lv_istore_n hx hb hd rfl hl (Nat.le_of_ble_eq_true hlt) (am_ls_set (v := .int a)) (fun L hl => am_go_use hone hW H locs L hR hS hl)
  · cases hone
theorem am_s_lstore {k : Nat} (C : am_C p s m args meth c M) (hd : decode M.1.2.2 pc = .ok (.lstore k, 2))
    (hone : am_one am_φ ex G rc M ((pc, 2, .lstore k, an, v0) :: cs, ls, st, ks, h, nc, ns) = some (.inl f')) (hW : am_Wf p l e R s m args below meth c D cl B x ex M.2.1.1 Q f') : am_Wf p l e R s m args below meth c D cl B x ex M.2.1.1 Q ((pc, 2, .lstore k, an, v0) :: cs, ls, st, ks, h, nc, ns) := by
  obtain ⟨hx, hb, hml, hr, hown, hts, hlk, hnm, htn⟩ := C
  simp only [am_one] at hone
  split at hone
  · rename_i a st0
    cases hlt : Nat.blt (k + 1) M.2.1.1 with
    | false => rw [hlt] at hone; cases hone
    | true =>
    rw [hlt] at hone
    simp only [cond_true, am_pushI, am_pushL] at hone
    intro H locs L j r hj hR hS hl
    cases hj
    show W p l e R s m args below meth c H locs nc ns Q (F0 m pc L (.long a :: st0.map (am_c B x)))
    exact lv_lstore hx hb hd hl (Nat.le_of_ble_eq_true hlt) (am_ls_set2 (v := .long a)) (fun L hl => am_go_use hone hW H locs L hR hS hl)
  · cases hone
theorem am_s_lstore_n {k : Fin 4} (C : am_C p s m args meth c M) (hd : decode M.1.2.2 pc = .ok (.lstore_n k, 1))
    (hone : am_one am_φ ex G rc M ((pc, 1, .lstore_n k, an, v0) :: cs, ls, st, ks, h, nc, ns) = some (.inl f')) (hW : am_Wf p l e R s m args below meth c D cl B x ex M.2.1.1 Q f') : am_Wf p l e R s m args below meth c D cl B x ex M.2.1.1 Q ((pc, 1, .lstore_n k, an, v0) :: cs, ls, st, ks, h, nc, ns) := by
  obtain ⟨hx, hb, hml, hr, hown, hts, hlk, hnm, htn⟩ := C
  simp only [am_one] at hone
  split at hone
  · rename_i a st0
    cases hlt : Nat.blt (k.val + 1) M.2.1.1 with
    | false => rw [hlt] at hone; cases hone
    | true =>
    rw [hlt] at hone
    simp only [cond_true, am_pushI, am_pushL] at hone
    intro H locs L j r hj hR hS hl
    cases hj
    show W p l e R s m args below meth c H locs nc ns Q (F0 m pc L (.long a :: st0.map (am_c B x)))
    exact lv_lstore_n hx hb hd rfl hl (Nat.le_of_ble_eq_true hlt) (am_ls_set2 (v := .long a)) (fun L hl => am_go_use hone hW H locs L hR hS hl)
  · cases hone
theorem am_s_astore {k : Nat} (C : am_C p s m args meth c M) (hd : decode M.1.2.2 pc = .ok (.astore k, 2))
    (hone : am_one am_φ ex G rc M ((pc, 2, .astore k, an, v0) :: cs, ls, st, ks, h, nc, ns) = some (.inl f')) (hW : am_Wf p l e R s m args below meth c D cl B x ex M.2.1.1 Q f') : am_Wf p l e R s m args below meth c D cl B x ex M.2.1.1 Q ((pc, 2, .astore k, an, v0) :: cs, ls, st, ks, h, nc, ns) := by
  obtain ⟨hx, hb, hml, hr, hown, hts, hlk, hnm, htn⟩ := C
  simp only [am_one] at hone
  split at hone
  · rename_i a st0
    cases hlt : Nat.blt k M.2.1.1 with
    | false => rw [hlt] at hone; cases hone
    | true =>
    rw [hlt] at hone
    simp only [cond_true, am_pushI, am_pushL] at hone
    intro H locs L j r hj hR hS hl
    cases hj
    show W p l e R s m args below meth c H locs nc ns Q (F0 m pc L (.ref (B + a) :: st0.map (am_c B x)))
    exact lv_astore hx hb hd hl (Nat.le_of_ble_eq_true hlt) (am_ls_set (v := .ref a)) (fun L hl => am_go_use hone hW H locs L hR hS hl)
  · cases hone
theorem am_s_astore_n {k : Fin 4} (C : am_C p s m args meth c M) (hd : decode M.1.2.2 pc = .ok (.astore_n k, 1))
    (hone : am_one am_φ ex G rc M ((pc, 1, .astore_n k, an, v0) :: cs, ls, st, ks, h, nc, ns) = some (.inl f')) (hW : am_Wf p l e R s m args below meth c D cl B x ex M.2.1.1 Q f') : am_Wf p l e R s m args below meth c D cl B x ex M.2.1.1 Q ((pc, 1, .astore_n k, an, v0) :: cs, ls, st, ks, h, nc, ns) := by
  obtain ⟨hx, hb, hml, hr, hown, hts, hlk, hnm, htn⟩ := C
  simp only [am_one] at hone
  split at hone
  · rename_i a st0
    cases hlt : Nat.blt k.val M.2.1.1 with
    | false => rw [hlt] at hone; cases hone
    | true =>
    rw [hlt] at hone
    simp only [cond_true, am_pushI, am_pushL] at hone
    intro H locs L j r hj hR hS hl
    cases hj
    show W p l e R s m args below meth c H locs nc ns Q (F0 m pc L (.ref (B + a) :: st0.map (am_c B x)))
    exact lv_astore_n hx hb hd rfl hl (Nat.le_of_ble_eq_true hlt) (am_ls_set (v := .ref a)) (fun L hl => am_go_use hone hW H locs L hR hS hl)
  · cases hone
theorem am_s_iinc {k : Nat} {n : Int} (C : am_C p s m args meth c M) (hd : decode M.1.2.2 pc = .ok (.iinc k n, 3))
    (hone : am_one am_φ ex G rc M ((pc, 3, .iinc k n, an, v0) :: cs, ls, st, ks, h, nc, ns) = some (.inl f')) (hW : am_Wf p l e R s m args below meth c D cl B x ex M.2.1.1 Q f') : am_Wf p l e R s m args below meth c D cl B x ex M.2.1.1 Q ((pc, 3, .iinc k n, an, v0) :: cs, ls, st, ks, h, nc, ns) := by
  obtain ⟨hx, hb, hml, hr, hown, hts, hlk, hnm, htn⟩ := C
  simp only [am_one] at hone
  split at hone
  · rename_i a hg
    cases hlt : Nat.blt k M.2.1.1 with
    | false => rw [hlt] at hone; cases hone
    | true =>
    rw [hlt] at hone
    simp only [cond_true, am_pushI, am_pushL] at hone
    intro H locs L j r hj hR hS hl
    cases hj
    show W p l e R s m args below meth c H locs nc ns Q (F0 m pc L (st.map (am_c B x)))
    obtain ⟨q, hq⟩ := List.getElem?_of_mem (List.mem_map.mpr ⟨(k, .int a), am_get_mem hg, rfl⟩ : (k, am_c B x (.int a)) ∈ am_ls B x ls)
    exact lv_iinc hx hb hd hl hq rfl (Nat.le_of_ble_eq_true hlt) (am_ls_set (v := .int (a + Int32.ofInt n))) (fun L hl => am_go_use hone hW H locs L hR hS hl)
  · cases hone
theorem am_s_dup (C : am_C p s m args meth c M) (hd : decode M.1.2.2 pc = .ok (.dup, 1))
    (hone : am_one am_φ ex G rc M ((pc, 1, .dup, an, v0) :: cs, ls, st, ks, h, nc, ns) = some (.inl f')) (hW : am_Wf p l e R s m args below meth c D cl B x ex M.2.1.1 Q f') : am_Wf p l e R s m args below meth c D cl B x ex M.2.1.1 Q ((pc, 1, .dup, an, v0) :: cs, ls, st, ks, h, nc, ns) := by
  obtain ⟨hx, hb, hml, hr, hown, hts, hlk, hnm, htn⟩ := C
  simp only [am_one] at hone
  split at hone
  · rename_i a st0
    cases hlt : Nat.beq a.category 1 with
    | false => rw [hlt] at hone; cases hone
    | true =>
    rw [hlt] at hone
    simp only [cond_true, am_pushI, am_pushL] at hone
    intro H locs L j r hj hR hS hl
    cases hj
    show W p l e R s m args below meth c H locs nc ns Q (F0 m pc L (am_c B x a :: st0.map (am_c B x)))
    exact lv_dup hx hb hd (by rw [am_c_cat]; exact Nat.eq_of_beq_eq_true hlt) (am_go_use hone hW H locs L hR hS hl)
  · cases hone
theorem am_s_pop (C : am_C p s m args meth c M) (hd : decode M.1.2.2 pc = .ok (.pop, 1))
    (hone : am_one am_φ ex G rc M ((pc, 1, .pop, an, v0) :: cs, ls, st, ks, h, nc, ns) = some (.inl f')) (hW : am_Wf p l e R s m args below meth c D cl B x ex M.2.1.1 Q f') : am_Wf p l e R s m args below meth c D cl B x ex M.2.1.1 Q ((pc, 1, .pop, an, v0) :: cs, ls, st, ks, h, nc, ns) := by
  obtain ⟨hx, hb, hml, hr, hown, hts, hlk, hnm, htn⟩ := C
  simp only [am_one] at hone
  split at hone
  · rename_i a st0
    cases hlt : Nat.beq a.category 1 with
    | false => rw [hlt] at hone; cases hone
    | true =>
    rw [hlt] at hone
    simp only [cond_true, am_pushI, am_pushL] at hone
    intro H locs L j r hj hR hS hl
    cases hj
    show W p l e R s m args below meth c H locs nc ns Q (F0 m pc L (am_c B x a :: st0.map (am_c B x)))
    exact lv_pop hx hb hd (by rw [am_c_cat]; exact Nat.eq_of_beq_eq_true hlt) (am_go_use hone hW H locs L hR hS hl)
  · cases hone
theorem am_s_dup2 (C : am_C p s m args meth c M) (hd : decode M.1.2.2 pc = .ok (.dup2, 1))
    (hone : am_one am_φ ex G rc M ((pc, 1, .dup2, an, v0) :: cs, ls, st, ks, h, nc, ns) = some (.inl f')) (hW : am_Wf p l e R s m args below meth c D cl B x ex M.2.1.1 Q f') : am_Wf p l e R s m args below meth c D cl B x ex M.2.1.1 Q ((pc, 1, .dup2, an, v0) :: cs, ls, st, ks, h, nc, ns) := by
  obtain ⟨hx, hb, hml, hr, hown, hts, hlk, hnm, htn⟩ := C
  simp only [am_one] at hone
  split at hone
  · rename_i a b st0
    cases hlt : (Nat.beq a.category 1 && Nat.beq b.category 1) with
    | false => rw [hlt] at hone; cases hone
    | true =>
    rw [hlt] at hone
    simp only [cond_true, am_pushI, am_pushL] at hone
    simp only [Bool.and_eq_true] at hlt
    intro H locs L j r hj hR hS hl
    cases hj
    show W p l e R s m args below meth c H locs nc ns Q (F0 m pc L (am_c B x a :: am_c B x b :: st0.map (am_c B x)))
    exact lv_dup2_11 hx hb hd (by rw [am_c_cat]; exact Nat.eq_of_beq_eq_true hlt.1) (by rw [am_c_cat]; exact Nat.eq_of_beq_eq_true hlt.2) (am_go_use hone hW H locs L hR hS hl)
  · cases hone
theorem am_s_goto {off : Int} (C : am_C p s m args meth c M) (hd : decode M.1.2.2 pc = .ok (.goto off, 3))
    (hone : am_one am_φ ex G rc M ((pc, 3, .goto off, an, v0) :: cs, ls, st, ks, h, nc, ns) = some (.inl f')) (hW : am_Wf p l e R s m args below meth c D cl B x ex M.2.1.1 Q f') : am_Wf p l e R s m args below meth c D cl B x ex M.2.1.1 Q ((pc, 3, .goto off, an, v0) :: cs, ls, st, ks, h, nc, ns) := by
  obtain ⟨hx, hb, hml, hr, hown, hts, hlk, hnm, htn⟩ := C
  simp only [am_one] at hone
  obtain ⟨tgt, ht, K⟩ := am_jp_use hone hW
  intro H locs L j r hj hR hS hl
  cases hj
  exact lv_goto hx hb hd ht (K H locs L hR hS hl)
theorem am_s_if_eq {off : Int} (C : am_C p s m args meth c M) (hd : decode M.1.2.2 pc = .ok (.ifCond .eq off, 3)) (hof : 0 ≤ (pc : Int) + off)
    (hone : am_one am_φ ex G rc M ((pc, 3, .ifCond .eq off, an, v0) :: cs, ls, st, ks, h, nc, ns) = some (.inl f')) (hW : am_Wf p l e R s m args below meth c D cl B x ex M.2.1.1 Q f') : am_Wf p l e R s m args below meth c D cl B x ex M.2.1.1 Q ((pc, 3, .ifCond .eq off, an, v0) :: cs, ls, st, ks, h, nc, ns) := by
  obtain ⟨hx, hb, hml, hr, hown, hts, hlk, hnm, htn⟩ := C
  simp only [am_one] at hone
  split at hone
  · rename_i a st0
    simp only [am_br, am_cmp] at hone
    obtain ⟨tg, htg⟩ : ∃ tg : Nat, (pc : Int) + off = (tg : Int) := ⟨((pc : Int) + off).toNat, (Int.toNat_of_nonneg hof).symm⟩
    intro H locs L j r hj hR hS hl
    cases hj
    show W p l e R s m args below meth c H locs nc ns Q (F0 m pc L (.int a :: st0.map (am_c B x)))
    by_cases hc : a = 0
    · rw [decide_eq_true hc] at hone
      obtain ⟨tgt, ht, K⟩ := am_jp_use hone hW
      exact lv_if_eq hx hb hd ht (fun _ => K H locs L hR hS hl) (fun hz => absurd hc hz)
    · rw [decide_eq_false hc] at hone
      exact lv_if_eq hx hb hd htg (fun hz => absurd hz hc) (fun _ => (am_go_use hone hW H locs L hR hS hl))
  · cases hone
theorem am_s_icmp_eq {off : Int} (C : am_C p s m args meth c M) (hd : decode M.1.2.2 pc = .ok (.if_icmp .eq off, 3)) (hof : 0 ≤ (pc : Int) + off)
    (hone : am_one am_φ ex G rc M ((pc, 3, .if_icmp .eq off, an, v0) :: cs, ls, st, ks, h, nc, ns) = some (.inl f')) (hW : am_Wf p l e R s m args below meth c D cl B x ex M.2.1.1 Q f') : am_Wf p l e R s m args below meth c D cl B x ex M.2.1.1 Q ((pc, 3, .if_icmp .eq off, an, v0) :: cs, ls, st, ks, h, nc, ns) := by
  obtain ⟨hx, hb, hml, hr, hown, hts, hlk, hnm, htn⟩ := C
  simp only [am_one] at hone
  split at hone
  · rename_i b a st0
    simp only [am_br, am_cmp] at hone
    obtain ⟨tg, htg⟩ : ∃ tg : Nat, (pc : Int) + off = (tg : Int) := ⟨((pc : Int) + off).toNat, (Int.toNat_of_nonneg hof).symm⟩
    intro H locs L j r hj hR hS hl
    cases hj
    show W p l e R s m args below meth c H locs nc ns Q (F0 m pc L (.int b :: .int a :: st0.map (am_c B x)))
    by_cases hc : a = b
    · rw [decide_eq_true hc] at hone
      obtain ⟨tgt, ht, K⟩ := am_jp_use hone hW
      exact lv_icmp_eq hx hb hd ht (fun _ => K H locs L hR hS hl) (fun hz => absurd hc hz)
    · rw [decide_eq_false hc] at hone
      exact lv_icmp_eq hx hb hd htg (fun hz => absurd hz hc) (fun _ => (am_go_use hone hW H locs L hR hS hl))
  · cases hone
theorem am_s_if_ne {off : Int} (C : am_C p s m args meth c M) (hd : decode M.1.2.2 pc = .ok (.ifCond .ne off, 3)) (hof : 0 ≤ (pc : Int) + off)
    (hone : am_one am_φ ex G rc M ((pc, 3, .ifCond .ne off, an, v0) :: cs, ls, st, ks, h, nc, ns) = some (.inl f')) (hW : am_Wf p l e R s m args below meth c D cl B x ex M.2.1.1 Q f') : am_Wf p l e R s m args below meth c D cl B x ex M.2.1.1 Q ((pc, 3, .ifCond .ne off, an, v0) :: cs, ls, st, ks, h, nc, ns) := by
  obtain ⟨hx, hb, hml, hr, hown, hts, hlk, hnm, htn⟩ := C
  simp only [am_one] at hone
  split at hone
  · rename_i a st0
    simp only [am_br, am_cmp] at hone
    obtain ⟨tg, htg⟩ : ∃ tg : Nat, (pc : Int) + off = (tg : Int) := ⟨((pc : Int) + off).toNat, (Int.toNat_of_nonneg hof).symm⟩
    intro H locs L j r hj hR hS hl
    cases hj
    show W p l e R s m args below meth c H locs nc ns Q (F0 m pc L (.int a :: st0.map (am_c B x)))
    by_cases hc : ¬ a = 0
    · rw [decide_eq_true hc] at hone
      obtain ⟨tgt, ht, K⟩ := am_jp_use hone hW
      exact lv_if_ne hx hb hd ht (fun _ => K H locs L hR hS hl) (fun hz => absurd hz hc)
    · have hc2 := Classical.not_not.mp hc
      rw [decide_eq_false hc] at hone
      exact lv_if_ne hx hb hd htg (fun hz => absurd hz hc) (fun _ => (am_go_use hone hW H locs L hR hS hl))
  · cases hone
theorem am_s_icmp_ne {off : Int} (C : am_C p s m args meth c M) (hd : decode M.1.2.2 pc = .ok (.if_icmp .ne off, 3)) (hof : 0 ≤ (pc : Int) + off)
    (hone : am_one am_φ ex G rc M ((pc, 3, .if_icmp .ne off, an, v0) :: cs, ls, st, ks, h, nc, ns) = some (.inl f')) (hW : am_Wf p l e R s m args below meth c D cl B x ex M.2.1.1 Q f') : am_Wf p l e R s m args below meth c D cl B x ex M.2.1.1 Q ((pc, 3, .if_icmp .ne off, an, v0) :: cs, ls, st, ks, h, nc, ns) := by
  obtain ⟨hx, hb, hml, hr, hown, hts, hlk, hnm, htn⟩ := C
  simp only [am_one] at hone
  split at hone
  · rename_i b a st0
    simp only [am_br, am_cmp] at hone
    obtain ⟨tg, htg⟩ : ∃ tg : Nat, (pc : Int) + off = (tg : Int) := ⟨((pc : Int) + off).toNat, (Int.toNat_of_nonneg hof).symm⟩
    intro H locs L j r hj hR hS hl
    cases hj
    show W p l e R s m args below meth c H locs nc ns Q (F0 m pc L (.int b :: .int a :: st0.map (am_c B x)))
    by_cases hc : ¬ a = b
    · rw [decide_eq_true hc] at hone
      obtain ⟨tgt, ht, K⟩ := am_jp_use hone hW
      exact lv_icmp_ne hx hb hd ht (fun _ => K H locs L hR hS hl) (fun hz => absurd hz hc)
    · have hc2 := Classical.not_not.mp hc
      rw [decide_eq_false hc] at hone
      exact lv_icmp_ne hx hb hd htg (fun hz => absurd hz hc) (fun _ => (am_go_use hone hW H locs L hR hS hl))
  · cases hone
theorem am_s_if_lt {off : Int} (C : am_C p s m args meth c M) (hd : decode M.1.2.2 pc = .ok (.ifCond .lt off, 3)) (hof : 0 ≤ (pc : Int) + off)
    (hone : am_one am_φ ex G rc M ((pc, 3, .ifCond .lt off, an, v0) :: cs, ls, st, ks, h, nc, ns) = some (.inl f')) (hW : am_Wf p l e R s m args below meth c D cl B x ex M.2.1.1 Q f') : am_Wf p l e R s m args below meth c D cl B x ex M.2.1.1 Q ((pc, 3, .ifCond .lt off, an, v0) :: cs, ls, st, ks, h, nc, ns) := by
  obtain ⟨hx, hb, hml, hr, hown, hts, hlk, hnm, htn⟩ := C
  simp only [am_one] at hone
  split at hone
  · rename_i a st0
    simp only [am_br, am_cmp] at hone
    obtain ⟨tg, htg⟩ : ∃ tg : Nat, (pc : Int) + off = (tg : Int) := ⟨((pc : Int) + off).toNat, (Int.toNat_of_nonneg hof).symm⟩
    intro H locs L j r hj hR hS hl
    cases hj
    show W p l e R s m args below meth c H locs nc ns Q (F0 m pc L (.int a :: st0.map (am_c B x)))
    by_cases hc : a < 0
    · rw [decide_eq_true hc] at hone
      obtain ⟨tgt, ht, K⟩ := am_jp_use hone hW
      exact lv_if_lt hx hb hd ht (fun _ => K H locs L hR hS hl) (fun hz => absurd hc hz)
    · rw [decide_eq_false hc] at hone
      exact lv_if_lt hx hb hd htg (fun hz => absurd hz hc) (fun _ => (am_go_use hone hW H locs L hR hS hl))
  · cases hone
theorem am_s_icmp_lt {off : Int} (C : am_C p s m args meth c M) (hd : decode M.1.2.2 pc = .ok (.if_icmp .lt off, 3)) (hof : 0 ≤ (pc : Int) + off)
    (hone : am_one am_φ ex G rc M ((pc, 3, .if_icmp .lt off, an, v0) :: cs, ls, st, ks, h, nc, ns) = some (.inl f')) (hW : am_Wf p l e R s m args below meth c D cl B x ex M.2.1.1 Q f') : am_Wf p l e R s m args below meth c D cl B x ex M.2.1.1 Q ((pc, 3, .if_icmp .lt off, an, v0) :: cs, ls, st, ks, h, nc, ns) := by
  obtain ⟨hx, hb, hml, hr, hown, hts, hlk, hnm, htn⟩ := C
  simp only [am_one] at hone
  split at hone
  · rename_i b a st0
    simp only [am_br, am_cmp] at hone
    obtain ⟨tg, htg⟩ : ∃ tg : Nat, (pc : Int) + off = (tg : Int) := ⟨((pc : Int) + off).toNat, (Int.toNat_of_nonneg hof).symm⟩
    intro H locs L j r hj hR hS hl
    cases hj
    show W p l e R s m args below meth c H locs nc ns Q (F0 m pc L (.int b :: .int a :: st0.map (am_c B x)))
    by_cases hc : a < b
    · rw [decide_eq_true hc] at hone
      obtain ⟨tgt, ht, K⟩ := am_jp_use hone hW
      exact lv_icmp_lt hx hb hd ht (fun _ => K H locs L hR hS hl) (fun hz => absurd hc hz)
    · rw [decide_eq_false hc] at hone
      exact lv_icmp_lt hx hb hd htg (fun hz => absurd hz hc) (fun _ => (am_go_use hone hW H locs L hR hS hl))
  · cases hone
theorem am_s_if_ge {off : Int} (C : am_C p s m args meth c M) (hd : decode M.1.2.2 pc = .ok (.ifCond .ge off, 3)) (hof : 0 ≤ (pc : Int) + off)
    (hone : am_one am_φ ex G rc M ((pc, 3, .ifCond .ge off, an, v0) :: cs, ls, st, ks, h, nc, ns) = some (.inl f')) (hW : am_Wf p l e R s m args below meth c D cl B x ex M.2.1.1 Q f') : am_Wf p l e R s m args below meth c D cl B x ex M.2.1.1 Q ((pc, 3, .ifCond .ge off, an, v0) :: cs, ls, st, ks, h, nc, ns) := by
  obtain ⟨hx, hb, hml, hr, hown, hts, hlk, hnm, htn⟩ := C
  simp only [am_one] at hone
  split at hone
  · rename_i a st0
    simp only [am_br, am_cmp] at hone
    obtain ⟨tg, htg⟩ : ∃ tg : Nat, (pc : Int) + off = (tg : Int) := ⟨((pc : Int) + off).toNat, (Int.toNat_of_nonneg hof).symm⟩
    intro H locs L j r hj hR hS hl
    cases hj
    show W p l e R s m args below meth c H locs nc ns Q (F0 m pc L (.int a :: st0.map (am_c B x)))
    by_cases hc : 0 ≤ a
    · rw [decide_eq_true hc] at hone
      obtain ⟨tgt, ht, K⟩ := am_jp_use hone hW
      exact lv_if_ge hx hb hd ht (fun _ => K H locs L hR hS hl) (fun hz => absurd hc hz)
    · rw [decide_eq_false hc] at hone
      exact lv_if_ge hx hb hd htg (fun hz => absurd hz hc) (fun _ => (am_go_use hone hW H locs L hR hS hl))
  · cases hone
theorem am_s_icmp_ge {off : Int} (C : am_C p s m args meth c M) (hd : decode M.1.2.2 pc = .ok (.if_icmp .ge off, 3)) (hof : 0 ≤ (pc : Int) + off)
    (hone : am_one am_φ ex G rc M ((pc, 3, .if_icmp .ge off, an, v0) :: cs, ls, st, ks, h, nc, ns) = some (.inl f')) (hW : am_Wf p l e R s m args below meth c D cl B x ex M.2.1.1 Q f') : am_Wf p l e R s m args below meth c D cl B x ex M.2.1.1 Q ((pc, 3, .if_icmp .ge off, an, v0) :: cs, ls, st, ks, h, nc, ns) := by
  obtain ⟨hx, hb, hml, hr, hown, hts, hlk, hnm, htn⟩ := C
  simp only [am_one] at hone
  split at hone
  · rename_i b a st0
    simp only [am_br, am_cmp] at hone
    obtain ⟨tg, htg⟩ : ∃ tg : Nat, (pc : Int) + off = (tg : Int) := ⟨((pc : Int) + off).toNat, (Int.toNat_of_nonneg hof).symm⟩
    intro H locs L j r hj hR hS hl
    cases hj
    show W p l e R s m args below meth c H locs nc ns Q (F0 m pc L (.int b :: .int a :: st0.map (am_c B x)))
    by_cases hc : b ≤ a
    · rw [decide_eq_true hc] at hone
      obtain ⟨tgt, ht, K⟩ := am_jp_use hone hW
      exact lv_icmp_ge hx hb hd ht (fun _ => K H locs L hR hS hl) (fun hz => absurd hc hz)
    · rw [decide_eq_false hc] at hone
      exact lv_icmp_ge hx hb hd htg (fun hz => absurd hz hc) (fun _ => (am_go_use hone hW H locs L hR hS hl))
  · cases hone
theorem am_s_if_gt {off : Int} (C : am_C p s m args meth c M) (hd : decode M.1.2.2 pc = .ok (.ifCond .gt off, 3)) (hof : 0 ≤ (pc : Int) + off)
    (hone : am_one am_φ ex G rc M ((pc, 3, .ifCond .gt off, an, v0) :: cs, ls, st, ks, h, nc, ns) = some (.inl f')) (hW : am_Wf p l e R s m args below meth c D cl B x ex M.2.1.1 Q f') : am_Wf p l e R s m args below meth c D cl B x ex M.2.1.1 Q ((pc, 3, .ifCond .gt off, an, v0) :: cs, ls, st, ks, h, nc, ns) := by
  obtain ⟨hx, hb, hml, hr, hown, hts, hlk, hnm, htn⟩ := C
  simp only [am_one] at hone
  split at hone
  · rename_i a st0
    simp only [am_br, am_cmp] at hone
    obtain ⟨tg, htg⟩ : ∃ tg : Nat, (pc : Int) + off = (tg : Int) := ⟨((pc : Int) + off).toNat, (Int.toNat_of_nonneg hof).symm⟩
    intro H locs L j r hj hR hS hl
    cases hj
    show W p l e R s m args below meth c H locs nc ns Q (F0 m pc L (.int a :: st0.map (am_c B x)))
    by_cases hc : 0 < a
    · rw [decide_eq_true hc] at hone
      obtain ⟨tgt, ht, K⟩ := am_jp_use hone hW
      exact lv_if_gt hx hb hd ht (fun _ => K H locs L hR hS hl) (fun hz => absurd hc hz)
    · rw [decide_eq_false hc] at hone
      exact lv_if_gt hx hb hd htg (fun hz => absurd hz hc) (fun _ => (am_go_use hone hW H locs L hR hS hl))
  · cases hone
theorem am_s_icmp_gt {off : Int} (C : am_C p s m args meth c M) (hd : decode M.1.2.2 pc = .ok (.if_icmp .gt off, 3)) (hof : 0 ≤ (pc : Int) + off)
    (hone : am_one am_φ ex G rc M ((pc, 3, .if_icmp .gt off, an, v0) :: cs, ls, st, ks, h, nc, ns) = some (.inl f')) (hW : am_Wf p l e R s m args below meth c D cl B x ex M.2.1.1 Q f') : am_Wf p l e R s m args below meth c D cl B x ex M.2.1.1 Q ((pc, 3, .if_icmp .gt off, an, v0) :: cs, ls, st, ks, h, nc, ns) := by
  obtain ⟨hx, hb, hml, hr, hown, hts, hlk, hnm, htn⟩ := C
  simp only [am_one] at hone
  split at hone
  · rename_i b a st0
    simp only [am_br, am_cmp] at hone
    obtain ⟨tg, htg⟩ : ∃ tg : Nat, (pc : Int) + off = (tg : Int) := ⟨((pc : Int) + off).toNat, (Int.toNat_of_nonneg hof).symm⟩
    intro H locs L j r hj hR hS hl
    cases hj
    show W p l e R s m args below meth c H locs nc ns Q (F0 m pc L (.int b :: .int a :: st0.map (am_c B x)))
    by_cases hc : b < a
    · rw [decide_eq_true hc] at hone
      obtain ⟨tgt, ht, K⟩ := am_jp_use hone hW
      exact lv_icmp_gt hx hb hd ht (fun _ => K H locs L hR hS hl) (fun hz => absurd hc hz)
    · rw [decide_eq_false hc] at hone
      exact lv_icmp_gt hx hb hd htg (fun hz => absurd hz hc) (fun _ => (am_go_use hone hW H locs L hR hS hl))
  · cases hone
theorem am_s_if_le {off : Int} (C : am_C p s m args meth c M) (hd : decode M.1.2.2 pc = .ok (.ifCond .le off, 3)) (hof : 0 ≤ (pc : Int) + off)
    (hone : am_one am_φ ex G rc M ((pc, 3, .ifCond .le off, an, v0) :: cs, ls, st, ks, h, nc, ns) = some (.inl f')) (hW : am_Wf p l e R s m args below meth c D cl B x ex M.2.1.1 Q f') : am_Wf p l e R s m args below meth c D cl B x ex M.2.1.1 Q ((pc, 3, .ifCond .le off, an, v0) :: cs, ls, st, ks, h, nc, ns) := by
  obtain ⟨hx, hb, hml, hr, hown, hts, hlk, hnm, htn⟩ := C
  simp only [am_one] at hone
  split at hone
  · rename_i a st0
    simp only [am_br, am_cmp] at hone
    obtain ⟨tg, htg⟩ : ∃ tg : Nat, (pc : Int) + off = (tg : Int) := ⟨((pc : Int) + off).toNat, (Int.toNat_of_nonneg hof).symm⟩
    intro H locs L j r hj hR hS hl
    cases hj
    show W p l e R s m args below meth c H locs nc ns Q (F0 m pc L (.int a :: st0.map (am_c B x)))
    by_cases hc : a ≤ 0
    · rw [decide_eq_true hc] at hone
      obtain ⟨tgt, ht, K⟩ := am_jp_use hone hW
      exact lv_if_le hx hb hd ht (fun _ => K H locs L hR hS hl) (fun hz => absurd hc hz)
    · rw [decide_eq_false hc] at hone
      exact lv_if_le hx hb hd htg (fun hz => absurd hz hc) (fun _ => (am_go_use hone hW H locs L hR hS hl))
  · cases hone
theorem am_s_icmp_le {off : Int} (C : am_C p s m args meth c M) (hd : decode M.1.2.2 pc = .ok (.if_icmp .le off, 3)) (hof : 0 ≤ (pc : Int) + off)
    (hone : am_one am_φ ex G rc M ((pc, 3, .if_icmp .le off, an, v0) :: cs, ls, st, ks, h, nc, ns) = some (.inl f')) (hW : am_Wf p l e R s m args below meth c D cl B x ex M.2.1.1 Q f') : am_Wf p l e R s m args below meth c D cl B x ex M.2.1.1 Q ((pc, 3, .if_icmp .le off, an, v0) :: cs, ls, st, ks, h, nc, ns) := by
  obtain ⟨hx, hb, hml, hr, hown, hts, hlk, hnm, htn⟩ := C
  simp only [am_one] at hone
  split at hone
  · rename_i b a st0
    simp only [am_br, am_cmp] at hone
    obtain ⟨tg, htg⟩ : ∃ tg : Nat, (pc : Int) + off = (tg : Int) := ⟨((pc : Int) + off).toNat, (Int.toNat_of_nonneg hof).symm⟩
    intro H locs L j r hj hR hS hl
    cases hj
    show W p l e R s m args below meth c H locs nc ns Q (F0 m pc L (.int b :: .int a :: st0.map (am_c B x)))
    by_cases hc : a ≤ b
    · rw [decide_eq_true hc] at hone
      obtain ⟨tgt, ht, K⟩ := am_jp_use hone hW
      exact lv_icmp_le hx hb hd ht (fun _ => K H locs L hR hS hl) (fun hz => absurd hc hz)
    · rw [decide_eq_false hc] at hone
      exact lv_icmp_le hx hb hd htg (fun hz => absurd hz hc) (fun _ => (am_go_use hone hW H locs L hR hS hl))
  · cases hone
theorem am_s_tsw {dflt lo hi : Int} {offs : Array Int} (C : am_C p s m args meth c M) (hd : decode M.1.2.2 pc = .ok (.tableswitch dflt lo hi offs, len))
    (hone : am_one am_φ ex G rc M ((pc, len, .tableswitch dflt lo hi offs, an, v0) :: cs, ls, st, ks, h, nc, ns) = some (.inl f')) (hW : am_Wf p l e R s m args below meth c D cl B x ex M.2.1.1 Q f') : am_Wf p l e R s m args below meth c D cl B x ex M.2.1.1 Q ((pc, len, .tableswitch dflt lo hi offs, an, v0) :: cs, ls, st, ks, h, nc, ns) := by
  obtain ⟨hx, hb, hml, hr, hown, hts, hlk, hnm, htn⟩ := C
  simp only [am_one] at hone
  split at hone
  · rename_i a st0
    split at hone
    · rename_i hc
      obtain ⟨tgt, ht, K⟩ := am_sw_use hone hW
      intro H locs L j r hj hR hS hl
      cases hj
      exact lv_tableOut (x := a) hx hb hd hc ht (K H locs L hR hS hl)
    · rename_i hc
      split at hone
      · rename_i off ho
        obtain ⟨tgt, ht, K⟩ := am_sw_use hone hW
        intro H locs L j r hj hR hS hl
        cases hj
        exact lv_tableIn (x := a) hx hb hd (fun z => hc (Or.inl z)) (fun z => hc (Or.inr z)) ho ht (K H locs L hR hS hl)
      · cases hone
  · cases hone
end AMS
end
section
/-! ===== FIELDS, ARRAYS, MAKING ===== -/
/-- the class table and the machine's own tables agree, and the words of each class are there -/
def am_okG (cl : List vw_C) (G : am_G) : Prop := ∀ (ci : Nat) (r : vw_C), cl[ci]? = some r →
  (G.2.1 ci).length = r.2.2 ∧ G.2.2.1 ci = r.1 ∧ (∀ k, k < r.2.2 → parseFieldDescriptor (r.2.1 k).2.2.1 = some ((G.2.1 ci).getD k .int)) ∧ (∀ a, a < r.2.2 → ∀ b, b < r.2.2 → a ≠ b → (r.2.1 a).2.1 ≠ (r.2.1 b).2.1) ∧ (∀ w ∈ u_ws r.1 r.2.1 r.2.2, w ∈ am_ts) ∧ Cond.instantiable r.1 r.2.2 ∈ am_ts ∧ Cond.initialized r.1 ∈ am_ts
/-- the script, as the frame's start has it -/
def am_scr (G : am_G) (B : Nat) (x : Nat → Nat) (s : State) : Prop := ∀ (L : Nat) (xs : Nat → Int32), G.2.2.2.2.1 = some (L, xs) → va_X (x 0) L xs s s.heap ∧ x 0 < s.heap.size ∧ ¬ B ≤ x 0
/-- a field's link: plain, or of a nest mate -/
def am_fl (own : String) (idx : Nat) (q : String × String × String × Bool) : Prop := Cond.fieldLink own idx q.1 q.2.1 q.2.2.1 ∈ am_ts ∨ ∃ host, Cond.fieldLinkNest own idx q.1 q.2.1 q.2.2.1 host ∈ am_tn
theorem am_N_of {cl : List vw_C} {ci : Nat} {r : vw_C} (hc : cl[ci]? = some r) : am_N cl ci = r.2.2 := by simp [am_N, hc]
theorem am_ix_use {j : Int32} {n : Nat} {k : Nat → am_R} {o : am_F ⊕ am_O} (h : am_ix j n k = some o) : vp_in j n ∧ k j.toNatClampNeg = some o := by
  unfold am_ix at h
  split at h
  · cases h
  · rename_i hc
    exact ⟨hc, h⟩
theorem am_ald_use {G : am_G} {ks : List am_k} {h : am_H} {a : Value} {j : Int32} {ty : FieldType} {k : Value → am_R} {o : am_F ⊕ am_O} (hh : am_ald G ks h a j ty k = some o) :
    (∃ (q n : Nat), a = .ref q ∧ ks[q]? = some (.inr (ty, n)) ∧ vp_in j n ∧ k (h q j.toNatClampNeg) = some o) ∨ (∃ (L : Nat) (xs : Nat → Int32), a = .retAddr 0 ∧ G.2.2.2.2.1 = some (L, xs) ∧ ty = .int ∧ vp_in j L ∧ k (.int (xs j.toNatClampNeg)) = some o) := by
  unfold am_ald at hh
  split at hh
  · rename_i q
    split at hh
    · rename_i t n hks
      cases hd : decide (t = ty) with
      | false => rw [hd] at hh; cases hh
      | true =>
        rw [hd] at hh
        rw [cond_true] at hh
        have := of_decide_eq_true hd
        subst this
        obtain ⟨h1, h2⟩ := am_ix_use hh
        exact Or.inl ⟨q, n, rfl, hks, h1, h2⟩
    · cases hh
  · split at hh
    · rename_i L xs hs
      cases hd : decide (ty = .int) with
      | false => rw [hd] at hh; cases hh
      | true =>
        rw [hd, cond_true] at hh
        obtain ⟨h1, h2⟩ := am_ix_use hh
        exact Or.inr ⟨L, xs, rfl, hs, of_decide_eq_true hd, h1, h2⟩
    · cases hh
  · cases hh
theorem am_ast_use {ks : List am_k} {h : am_H} {a : Value} {j : Int32} {ty : FieldType} {v : Value} {k : am_H → am_R} {o : am_F ⊕ am_O} (hh : am_ast ks h a j ty v k = some o) :
    ∃ (q n : Nat), a = .ref q ∧ ks[q]? = some (.inr (ty, n)) ∧ vp_in j n ∧ k (am_up h q j.toNatClampNeg v) = some o := by
  unfold am_ast at hh
  split at hh
  · rename_i q
    split at hh
    · rename_i t n hks
      cases hd : decide (t = ty) with
      | false => rw [hd] at hh; cases hh
      | true =>
        rw [hd] at hh
        rw [cond_true] at hh
        have := of_decide_eq_true hd
        subst this
        obtain ⟨h1, h2⟩ := am_ix_use hh
        exact ⟨q, n, rfl, hks, h1, h2⟩
    · cases hh
  · cases hh
section AMH
variable {p : Program} {l : Launch} {e : Env} {R : Room} {s : State} {m : MethodId} {args : Array Value} {below : List Frame} {meth : Method} {c : Code} {D : va_G} {cl : List vw_C} {B : Nat} {x : Nat → Nat} {ex : Bool} {nL : Nat} {Q : State → Prop} {M : am_M} {f' : am_F}
variable {pc len : Nat} {ins : Instr} {an : Nat × Nat × Nat} {v0 : Int} {cs : List am_I} {ls : am_L} {st : List Value} {ks : List am_k} {h : am_H} {nc ns : Nat} {G : am_G} {rc : am_rec}
theorem am_s_getfield {idx : Nat} {r : vw_C} (C : am_C p s m args meth c M) (hG : am_okG cl G) (hd : decode M.1.2.2 pc = .ok (.getfield idx, 3)) (hc : cl[an.1]? = some r) (hk : an.2.1 < r.2.2) (hl : am_fl M.1.2.1.cls idx (r.2.1 an.2.1))
    (hone : am_one am_φ ex G rc M ((pc, 3, .getfield idx, an, v0) :: cs, ls, st, ks, h, nc, ns) = some (.inl f')) (hW : am_Wf p l e R s m args below meth c D cl B x ex M.2.1.1 Q f') : am_Wf p l e R s m args below meth c D cl B x ex M.2.1.1 Q ((pc, 3, .getfield idx, an, v0) :: cs, ls, st, ks, h, nc, ns) := by
  obtain ⟨hx, hb, hml, hr, hown, hts, hlk, hnm, htn⟩ := C
  obtain ⟨g1, g2, g3, g4, g5, g6, g7⟩ := hG _ _ hc
  simp only [am_one] at hone
  split at hone
  · rename_i o st0
    split at hone
    · rename_i ci hks
      cases hci : Nat.beq ci an.1 with
      | false => rw [hci] at hone; cases hone
      | true =>
      rw [hci] at hone
      have hci := Nat.eq_of_beq_eq_true hci
      subst hci
      intro H locs L j r' hj hR hS hlv
      cases hj
      obtain ⟨hK, dA, hP, hA, hz⟩ := hR
      have he := am_W_some (cl := cl) (B := B) (x := x) (dA := dA) (h := h) hks
      have hv : ((List.range (am_N cl an.1)).map (fun j => am_c B x (h o j)))[an.2.1]? = some (am_c B x (h o an.2.1)) := by
        rw [am_N_of hc]; simp [hk]
      rcases hl with hl | ⟨host, hl⟩
      · exact va_get (C := r.1) (T := r.2.1) (N := r.2.2) hx hb hts g5 hown hK hP o he hc an.2.1 hk (hts _ hl) (fun _ h9 => h9) hv hd (am_go_use hone hW H locs L ⟨hK, dA, hP, hA, hz⟩ hS hlv)
      · exact va_getN (C := r.1) (T := r.2.1) (N := r.2.2) hx hb hts g5 hown hK hP o he hc an.2.1 hk (htn _ hl) (fun _ h9 => h9) hv hd (am_go_use hone hW H locs L ⟨hK, dA, hP, hA, hz⟩ hS hlv)
    · cases hone
  · cases hone
theorem am_s_putfield {idx : Nat} {r : vw_C} (C : am_C p s m args meth c M) (hG : am_okG cl G) (hd : decode M.1.2.2 pc = .ok (.putfield idx, 3)) (hc : cl[an.1]? = some r) (hk : an.2.1 < r.2.2)
    (hl : ((r.2.1 an.2.1).2.2.2 = false ∧ am_fl M.1.2.1.cls idx (r.2.1 an.2.1)) ∨ ((r.2.1 an.2.1).2.2.2 = true ∧ Cond.fieldLink M.1.2.1.cls idx (r.2.1 an.2.1).1 (r.2.1 an.2.1).2.1 (r.2.1 an.2.1).2.2.1 ∈ am_ts ∧ M.1.2.1.name = "<init>" ∧ (r.2.1 an.2.1).1 = M.1.2.1.cls))
    (hone : am_one am_φ ex G rc M ((pc, 3, .putfield idx, an, v0) :: cs, ls, st, ks, h, nc, ns) = some (.inl f')) (hW : am_Wf p l e R s m args below meth c D cl B x ex M.2.1.1 Q f') : am_Wf p l e R s m args below meth c D cl B x ex M.2.1.1 Q ((pc, 3, .putfield idx, an, v0) :: cs, ls, st, ks, h, nc, ns) := by
  obtain ⟨hx, hb, hml, hr, hown, hts, hlk, hnm, htn⟩ := C
  obtain ⟨g1, g2, g3, g4, g5, g6, g7⟩ := hG _ _ hc
  simp only [am_one] at hone
  split at hone
  · rename_i v o st0
    split at hone
    · rename_i ci hks
      cases hci : (Nat.beq ci an.1 && am_fit ((G.2.1 an.1).getD an.2.1 .int) v) with
      | false => rw [hci] at hone; cases hone
      | true =>
      rw [hci] at hone
      simp only [Bool.and_eq_true] at hci
      obtain ⟨hci, hft⟩ := hci
      have hci := Nat.eq_of_beq_eq_true hci
      subst hci
      obtain ⟨f1, f2⟩ := am_fit_ok (B := B) (x := x) hft
      intro H locs L j r' hj hR hS hlv
      cases hj
      obtain ⟨hK, dA, hP, hA, hz⟩ := hR
      have he := am_W_some (cl := cl) (B := B) (x := x) (dA := dA) (h := h) hks
      have hkk : an.2.1 < am_N cl an.1 := by rw [am_N_of hc]; exact hk
      have hlen : an.2.1 < ((List.range (am_N cl an.1)).map (fun j => am_c B x (h o j))).length := by simpa using hkk
      have K : ∀ (H1 : Heap) (locs1 : List Loc), va_P D cl ((am_W cl B x dA ks h).set o (B + o, .inr (an.1, ((List.range (am_N cl an.1)).map (fun j => am_c B x (h o j))).set an.2.1 (am_c B x v)))) H1 → va_D (fun q => B ≤ q) ((am_W cl B x dA ks h).set o (B + o, .inr (an.1, ((List.range (am_N cl an.1)).map (fun j => am_c B x (h o j))).set an.2.1 (am_c B x v)))) → va_S (fun q => B ≤ q) s.heap H1 locs1 → W p l e R s m args below meth c H1 locs1 nc ns Q (F0 m (pc + 3) L (st0.map (am_c B x))) := by
        intro H1 locs1 q1 q2 q3
        rw [am_W_put hks hkk] at q1
        exact am_go_use hone hW H1 locs1 L ⟨hK, dA, q1, hA, hz⟩ q3 hlv
      have g3' := g3 an.2.1 hk
      rcases hl with ⟨hfin, hl | ⟨host, hl⟩⟩ | ⟨hfin, hl, hni, hdec⟩
      · exact va_put (C := r.1) (T := r.2.1) (N := r.2.2) hx hb hts g5 (fun k => (G.2.1 an.1).getD k .int) g3 g4 hown hK hP am_W_D hS o he hc an.2.1 hk (hts _ hl) (fun _ h9 => h9) hfin g3' f1 f2 hlen hd K
      · exact va_putN (C := r.1) (T := r.2.1) (N := r.2.2) hx hb hts g5 (fun k => (G.2.1 an.1).getD k .int) g3 g4 hown hK hP am_W_D hS o he hc an.2.1 hk (htn _ hl) (fun _ h9 => h9) hfin g3' f1 f2 hlen hd K
      · exact va_putF (C := r.1) (T := r.2.1) (N := r.2.2) hx hb hts g5 (fun k => (G.2.1 an.1).getD k .int) g3 g4 hown hK hP am_W_D hS o he hc an.2.1 hk (hts _ hl) (fun _ h9 => h9) hfin (hnm.trans hni) hdec g3' f1 f2 hlen hd K
    · cases hone
  · cases hone
end AMH
end
section
/-! ===== ARRAYS, AND WHAT IS MADE ===== -/
theorem am_K1 {D : va_G} {cl : List vw_C} {U : State} {ca : ClassId} {ty : FieldType} (hK : va_K D cl [] U) (h : ArrOfT U ca ty ∧ va_RA U ca ty) : va_K D cl [(ca, ty)] U := by
  refine ⟨hK.1, fun k q hq => ?_⟩
  have hz : k < 1 := (List.getElem?_eq_some_iff.mp hq).1
  rw [show k = 0 by omega] at hq
  cases hq
  exact h
theorem am_upd_i (h : am_H) (q k : Nat) (v : Int32) : upd (fun j => am_i (h q j)) k v = fun j => am_i (am_up h q k (.int v) q j) := by
  funext j
  by_cases hj : j = k
  · subst hj; simp [upd, am_up_self, am_i]
  · simp [upd, hj, am_up_same _ _ _ _ _ hj]
theorem am_upd_l (h : am_H) (q k : Nat) (v : Int64) : vp_updL (fun j => am_l (h q j)) k v = fun j => am_l (am_up h q k (.long v) q j) := by
  funext j
  by_cases hj : j = k
  · subst hj; simp [vp_updL, am_up_self, am_l]
  · simp [vp_updL, hj, am_up_same _ _ _ _ _ hj]
theorem am_upd_o (B : Nat) (h : am_H) (q k v : Nat) : va_up (fun j => am_o B (h q j)) k (some (B + v)) = fun j => am_o B (am_up h q k (.ref v) q j) := by
  funext j
  by_cases hj : j = k
  · subst hj; simp [va_up, am_up_self, am_o]
  · simp [va_up, hj, am_up_same _ _ _ _ _ hj]
theorem am_nar_b {v : Int32} (h : am_fit .boolean (.int v) = true) : vp_nar .boolean v = v := by
  have : v = 0 ∨ v = 1 := by simpa [am_fit] using h
  rcases this with rfl | rfl <;> rfl
theorem am_lo {D : va_G} {cl : List vw_C} {B : Nat} {x : Nat → Nat} {dA : Nat → ClassId} {ks : List am_k} {h : am_H} {H : Heap} (hP : va_P D cl (am_W cl B x dA ks h) H) (hB : B ≤ H.size) : B + ks.length ≤ H.size := by
  by_cases hk : ks.length = 0
  · omega
  · have hlt : ks.length - 1 < ks.length := by omega
    have := (hP (ks.length - 1) _ (am_W_some (List.getElem?_eq_getElem hlt))).lt
    have h2 : B + (ks.length - 1) < H.size := this
    omega
section AMA
variable {p : Program} {l : Launch} {e : Env} {R : Room} {s : State} {m : MethodId} {args : Array Value} {below : List Frame} {meth : Method} {c : Code} {D : va_G} {cl : List vw_C} {B : Nat} {x : Nat → Nat} {ex : Bool} {nL : Nat} {Q : State → Prop} {M : am_M} {f' : am_F}
variable {pc len : Nat} {ins : Instr} {an : Nat × Nat × Nat} {v0 : Int} {cs : List am_I} {ls : am_L} {st : List Value} {ks : List am_k} {h : am_H} {nc ns : Nat} {G : am_G} {rc : am_rec}
theorem am_size {H : Heap} {locs : List Loc} {g : JFrame} (kk : H.size ≤ s.heap.size + nc → W p l e R s m args below meth c H locs nc ns Q g) : W p l e R s m args below meth c H locs nc ns Q g := by
  intro T hT X
  have hs : T.heap.size ≤ s.heap.size + nc := X.same.2.2.1
  rw [hT] at hs
  exact kk hs T hT X
theorem am_s_iaload (C : am_C p s m args meth c M) (hscr : am_scr G B x s) (hd : decode M.1.2.2 pc = .ok (.iaload, 1))
    (hone : am_one am_φ ex G rc M ((pc, 1, .iaload, an, v0) :: cs, ls, st, ks, h, nc, ns) = some (.inl f')) (hW : am_Wf p l e R s m args below meth c D cl B x ex M.2.1.1 Q f') : am_Wf p l e R s m args below meth c D cl B x ex M.2.1.1 Q ((pc, 1, .iaload, an, v0) :: cs, ls, st, ks, h, nc, ns) := by
  obtain ⟨hx, hb, hml, hr, hown, hts, hlk, hnm, htn⟩ := C
  simp only [am_one] at hone
  split at hone
  · rename_i j a st0
    rcases am_ald_use hone with ⟨q, n, rfl, hks, hin, hk⟩ | ⟨L0, xs, rfl, hs, -, hin, hk⟩
    · unfold am_pushI at hk
      split at hk
      · rename_i y hy
        intro H locs L i r hj hR hS hl
        cases hj
        obtain ⟨hK, dA, hP, hA, hz⟩ := hR
        have he := am_W_some (cl := cl) (B := B) (x := x) (dA := dA) (h := h) hks
        refine va_iald (n := n) (f := fun j => am_i (h q j)) hx hb (am_K1 hK (hA q .int n hks)) hP q 0 he rfl hin hd ?_
        have h1 : am_i (h q j.toNatClampNeg) = y := by rw [hy]; rfl
        show W p l e R s m args below meth c H locs nc ns Q (F0 m (pc + 1) L (.int (am_i (h q j.toNatClampNeg)) :: st0.map (am_c B x)))
        rw [h1]
        exact am_go_use hk hW H locs L ⟨hK, dA, hP, hA, hz⟩ hS hl
      · cases hk
    · intro H locs L i r hj hR hS hl
      cases hj
      obtain ⟨s1, s2, s3⟩ := hscr L0 xs hs
      exact va_sld hx hb s1 s2 s3 hS hin hd (am_go_use hk hW H locs L hR hS hl)
  · cases hone
theorem am_s_baload (C : am_C p s m args meth c M) (hd : decode M.1.2.2 pc = .ok (.baload, 1))
    (hone : am_one am_φ ex G rc M ((pc, 1, .baload, an, v0) :: cs, ls, st, ks, h, nc, ns) = some (.inl f')) (hW : am_Wf p l e R s m args below meth c D cl B x ex M.2.1.1 Q f') : am_Wf p l e R s m args below meth c D cl B x ex M.2.1.1 Q ((pc, 1, .baload, an, v0) :: cs, ls, st, ks, h, nc, ns) := by
  obtain ⟨hx, hb, hml, hr, hown, hts, hlk, hnm, htn⟩ := C
  simp only [am_one] at hone
  split at hone
  · rename_i j o st0
    rcases am_ald_use hone with ⟨q, n, hq, hks, hin, hk⟩ | ⟨L0, xs, hq, hs, -, hin, hk⟩
    · cases hq
      unfold am_pushI at hk
      split at hk
      · rename_i y hy
        intro H locs L i r hj hR hS hl
        cases hj
        obtain ⟨hK, dA, hP, hA, hz⟩ := hR
        have he := am_W_some (cl := cl) (B := B) (x := x) (dA := dA) (h := h) hks
        refine va_zald (n := n) (f := fun j => am_i (h o j)) hx hb (am_K1 hK (hA o .boolean n hks)) hP o 0 he rfl hin hd ?_
        have h1 : am_i (h o j.toNatClampNeg) = y := by rw [hy]; rfl
        show W p l e R s m args below meth c H locs nc ns Q (F0 m (pc + 1) L (.int (am_i (h o j.toNatClampNeg)) :: st0.map (am_c B x)))
        rw [h1]
        exact am_go_use hk hW H locs L ⟨hK, dA, hP, hA, hz⟩ hS hl
      · cases hk
    · cases hq
  · cases hone
theorem am_s_laload (C : am_C p s m args meth c M) (hd : decode M.1.2.2 pc = .ok (.laload, 1))
    (hone : am_one am_φ ex G rc M ((pc, 1, .laload, an, v0) :: cs, ls, st, ks, h, nc, ns) = some (.inl f')) (hW : am_Wf p l e R s m args below meth c D cl B x ex M.2.1.1 Q f') : am_Wf p l e R s m args below meth c D cl B x ex M.2.1.1 Q ((pc, 1, .laload, an, v0) :: cs, ls, st, ks, h, nc, ns) := by
  obtain ⟨hx, hb, hml, hr, hown, hts, hlk, hnm, htn⟩ := C
  simp only [am_one] at hone
  split at hone
  · rename_i j o st0
    rcases am_ald_use hone with ⟨q, n, hq, hks, hin, hk⟩ | ⟨L0, xs, hq, hs, -, hin, hk⟩
    · cases hq
      unfold am_pushL at hk
      split at hk
      · rename_i y hy
        intro H locs L i r hj hR hS hl
        cases hj
        obtain ⟨hK, dA, hP, hA, hz⟩ := hR
        have he := am_W_some (cl := cl) (B := B) (x := x) (dA := dA) (h := h) hks
        refine va_lald (n := n) (f := fun j => am_l (h o j)) hx hb (am_K1 hK (hA o .long n hks)) hP o 0 he rfl hin hd ?_
        have h1 : am_l (h o j.toNatClampNeg) = y := by rw [hy]; rfl
        show W p l e R s m args below meth c H locs nc ns Q (F0 m (pc + 1) L (.long (am_l (h o j.toNatClampNeg)) :: st0.map (am_c B x)))
        rw [h1]
        exact am_go_use hk hW H locs L ⟨hK, dA, hP, hA, hz⟩ hS hl
      · cases hk
    · cases hq
  · cases hone
theorem am_s_aaload (C : am_C p s m args meth c M) (hd : decode M.1.2.2 pc = .ok (.aaload, 1))
    (hone : am_one am_φ ex G rc M ((pc, 1, .aaload, an, v0) :: cs, ls, st, ks, h, nc, ns) = some (.inl f')) (hW : am_Wf p l e R s m args below meth c D cl B x ex M.2.1.1 Q f') : am_Wf p l e R s m args below meth c D cl B x ex M.2.1.1 Q ((pc, 1, .aaload, an, v0) :: cs, ls, st, ks, h, nc, ns) := by
  obtain ⟨hx, hb, hml, hr, hown, hts, hlk, hnm, htn⟩ := C
  simp only [am_one] at hone
  split at hone
  · rename_i j o st0
    unfold am_aald at hone
    split at hone
    · rename_i C0 n hks
      obtain ⟨hin, hk⟩ := am_ix_use hone
      simp only [am_pushR] at hk
      split at hk
      · rename_i y hy
        intro H locs L i r hj hR hS hl
        cases hj
        obtain ⟨hK, dA, hP, hA, hz⟩ := hR
        have he := am_W_some (cl := cl) (B := B) (x := x) (dA := dA) (h := h) hks
        refine va_aldq (n := n) (f := fun j => am_o B (h o j)) hx hb (am_K1 hK (hA o _ n hks)) hP o 0 he rfl hin hd ?_
        have h1 : va_rf (am_o B (h o j.toNatClampNeg)) = .ref (B + y) := by rw [hy]; rfl
        show W p l e R s m args below meth c H locs nc ns Q (F0 m (pc + 1) L (va_rf (am_o B (h o j.toNatClampNeg)) :: st0.map (am_c B x)))
        rw [h1]
        exact am_go_use hk hW H locs L ⟨hK, dA, hP, hA, hz⟩ hS hl
      · cases hk
    · cases hone
  · cases hone
theorem am_s_iastore (C : am_C p s m args meth c M) (hd : decode M.1.2.2 pc = .ok (.iastore, 1))
    (hone : am_one am_φ ex G rc M ((pc, 1, .iastore, an, v0) :: cs, ls, st, ks, h, nc, ns) = some (.inl f')) (hW : am_Wf p l e R s m args below meth c D cl B x ex M.2.1.1 Q f') : am_Wf p l e R s m args below meth c D cl B x ex M.2.1.1 Q ((pc, 1, .iastore, an, v0) :: cs, ls, st, ks, h, nc, ns) := by
  obtain ⟨hx, hb, hml, hr, hown, hts, hlk, hnm, htn⟩ := C
  simp only [am_one] at hone
  split at hone
  · rename_i y j a st0
    simp only [am_φ, am_pushI, am_pushL] at hone
    obtain ⟨q, n, rfl, hks, hin, hk⟩ := am_ast_use hone
    intro H locs L i r hj hR hS hl
    cases hj
    obtain ⟨hK, dA, hP, hA, hz⟩ := hR
    have he := am_W_some (cl := cl) (B := B) (x := x) (dA := dA) (h := h) hks
    refine va_iast (n := n) (f := fun j => am_i (h q j)) hx hb (am_K1 hK (hA q .int n hks)) hP am_W_D hS q 0 he rfl hin hd (fun H1 locs1 q1 q2 q3 => ?_)
    rw [am_W_ast (k := j.toNatClampNeg) (v := .int y) hks (by rw [am_upd_i]; rfl)] at q1
    exact am_go_use hk hW H1 locs1 L ⟨hK, dA, q1, hA, hz⟩ q3 hl
  · cases hone
theorem am_s_bastore (C : am_C p s m args meth c M) (hd : decode M.1.2.2 pc = .ok (.bastore, 1))
    (hone : am_one am_φ ex G rc M ((pc, 1, .bastore, an, v0) :: cs, ls, st, ks, h, nc, ns) = some (.inl f')) (hW : am_Wf p l e R s m args below meth c D cl B x ex M.2.1.1 Q f') : am_Wf p l e R s m args below meth c D cl B x ex M.2.1.1 Q ((pc, 1, .bastore, an, v0) :: cs, ls, st, ks, h, nc, ns) := by
  obtain ⟨hx, hb, hml, hr, hown, hts, hlk, hnm, htn⟩ := C
  simp only [am_one] at hone
  split at hone
  · rename_i y j a st0
    cases hfb : am_fit .boolean (.int y) with
    | false => rw [hfb] at hone; cases hone
    | true =>
    rw [hfb, cond_true] at hone
    simp only [am_φ, am_pushI, am_pushL] at hone
    obtain ⟨q, n, rfl, hks, hin, hk⟩ := am_ast_use hone
    intro H locs L i r hj hR hS hl
    cases hj
    obtain ⟨hK, dA, hP, hA, hz⟩ := hR
    have he := am_W_some (cl := cl) (B := B) (x := x) (dA := dA) (h := h) hks
    refine va_zast (n := n) (f := fun j => am_i (h q j)) hx hb (am_K1 hK (hA q .boolean n hks)) hP am_W_D hS q 0 he rfl hin hd (fun H1 locs1 q1 q2 q3 => ?_)
    rw [am_nar_b hfb, am_W_ast (k := j.toNatClampNeg) (v := .int y) hks (by rw [am_upd_i]; rfl)] at q1
    exact am_go_use hk hW H1 locs1 L ⟨hK, dA, q1, hA, hz⟩ q3 hl
  · cases hone
theorem am_s_lastore (C : am_C p s m args meth c M) (hd : decode M.1.2.2 pc = .ok (.lastore, 1))
    (hone : am_one am_φ ex G rc M ((pc, 1, .lastore, an, v0) :: cs, ls, st, ks, h, nc, ns) = some (.inl f')) (hW : am_Wf p l e R s m args below meth c D cl B x ex M.2.1.1 Q f') : am_Wf p l e R s m args below meth c D cl B x ex M.2.1.1 Q ((pc, 1, .lastore, an, v0) :: cs, ls, st, ks, h, nc, ns) := by
  obtain ⟨hx, hb, hml, hr, hown, hts, hlk, hnm, htn⟩ := C
  simp only [am_one] at hone
  split at hone
  · rename_i y j a st0
    simp only [am_φ, am_pushI, am_pushL] at hone
    obtain ⟨q, n, rfl, hks, hin, hk⟩ := am_ast_use hone
    intro H locs L i r hj hR hS hl
    cases hj
    obtain ⟨hK, dA, hP, hA, hz⟩ := hR
    have he := am_W_some (cl := cl) (B := B) (x := x) (dA := dA) (h := h) hks
    refine va_last (n := n) (f := fun j => am_l (h q j)) hx hb (am_K1 hK (hA q .long n hks)) hP am_W_D hS q 0 he rfl hin hd (fun H1 locs1 q1 q2 q3 => ?_)
    rw [am_W_ast (k := j.toNatClampNeg) (v := .long y) hks (by rw [am_upd_l]; rfl)] at q1
    exact am_go_use hk hW H1 locs1 L ⟨hK, dA, q1, hA, hz⟩ q3 hl
  · cases hone
theorem am_s_aastore (C : am_C p s m args meth c M) (hG : am_okG cl G) (hd : decode M.1.2.2 pc = .ok (.aastore, 1))
    (hone : am_one am_φ ex G rc M ((pc, 1, .aastore, an, v0) :: cs, ls, st, ks, h, nc, ns) = some (.inl f')) (hW : am_Wf p l e R s m args below meth c D cl B x ex M.2.1.1 Q f') : am_Wf p l e R s m args below meth c D cl B x ex M.2.1.1 Q ((pc, 1, .aastore, an, v0) :: cs, ls, st, ks, h, nc, ns) := by
  obtain ⟨hx, hb, hml, hr, hown, hts, hlk, hnm, htn⟩ := C
  simp only [am_one] at hone
  split at hone
  · rename_i v j o st0
    unfold am_aast at hone
    split at hone
    · rename_i C0 n hks
      split at hone
      · rename_i ci hkv
        cases hdc : decide (G.2.2.1 ci = C0) with
        | false => rw [hdc] at hone; cases hone
        | true =>
        rw [hdc, cond_true] at hone
        obtain ⟨hin, hk⟩ := am_ix_use hone
        intro H locs L i r hj hR hS hl
        cases hj
        obtain ⟨hK, dA, hP, hA, hz⟩ := hR
        have he := am_W_some (cl := cl) (B := B) (x := x) (dA := dA) (h := h) hks
        have hev := am_W_some (cl := cl) (B := B) (x := x) (dA := dA) (h := h) hkv
        obtain ⟨rr, hcc, -⟩ := hP v _ hev
        have hcc : cl[ci]? = some rr := hcc
        have hnm2 := (hG ci rr hcc).2.1
        have hC0 : C0 = rr.1 := (of_decide_eq_true hdc).symm.trans hnm2
        subst hC0
        refine va_astq (n := n) (f := fun j => am_o B (h o j)) hx hb (am_K1 hK (hA o _ n hks)) hP am_W_D hS o 0 v ci he rfl hev hcc hin hd (fun H1 locs1 q1 q2 q3 => ?_)
        rw [am_W_ast (k := j.toNatClampNeg) (v := .ref v) hks (by rw [am_upd_o]; rfl)] at q1
        exact am_go_use hk hW H1 locs1 L ⟨hK, dA, q1, hA, hz⟩ q3 hl
      · cases hone
    · cases hone
  · cases hone
theorem am_s_arraylength (C : am_C p s m args meth c M) (hscr : am_scr G B x s) (hd : decode M.1.2.2 pc = .ok (.arraylength, 1))
    (hone : am_one am_φ ex G rc M ((pc, 1, .arraylength, an, v0) :: cs, ls, st, ks, h, nc, ns) = some (.inl f')) (hW : am_Wf p l e R s m args below meth c D cl B x ex M.2.1.1 Q f') : am_Wf p l e R s m args below meth c D cl B x ex M.2.1.1 Q ((pc, 1, .arraylength, an, v0) :: cs, ls, st, ks, h, nc, ns) := by
  obtain ⟨hx, hb, hml, hr, hown, hts, hlk, hnm, htn⟩ := C
  simp only [am_one] at hone
  split at hone
  · rename_i a st0
    unfold am_len at hone
    split at hone
    · rename_i o
      split at hone
      · rename_i ty n hks
        intro H locs L i r hj hR hS hl
        cases hj
        obtain ⟨hK, dA, hP, hA, hz⟩ := hR
        have he := am_W_some (cl := cl) (B := B) (x := x) (dA := dA) (h := h) hks
        exact va_alen hx hb (am_K1 hK (hA o ty n hks)) hP o 0 he rfl (by rw [am_arr_1]) hd (am_go_use hone hW H locs L ⟨hK, dA, hP, hA, hz⟩ hS hl)
      · cases hone
    · split at hone
      · rename_i L0 xs hs
        intro H locs L i r hj hR hS hl
        cases hj
        obtain ⟨s1, s2, s3⟩ := hscr L0 xs hs
        exact va_slen hx hb s1 s2 s3 hS hd (am_go_use hone hW H locs L hR hS hl)
      · cases hone
    · cases hone
  · cases hone
theorem am_cell_new (cA : ClassId) (B n : Nat) (ty : FieldType) (hty : ty = .int ∨ ty = .boolean ∨ ty = .long ∨ ∃ C, ty = .object C) : vp_cell cA (am_arr B n ty (fun _ => defaultValue ty)) = arrV cA n (fun _ => defaultValue ty) := by
  rcases hty with rfl | rfl | rfl | ⟨C, rfl⟩ <;> rfl
/-- behind a making: the new cell stands at the end -/
theorem am_Rel_new {H H1 : Heap} {locs : List Loc} {k : am_k} {f : Nat → Value} {ca : ClassId} {dA : Nat → ClassId} (hB : B ≤ s.heap.size) (hS : va_S (fun q => B ≤ q) s.heap H locs) (hK : va_K D cl [] s) (hP : va_P D cl (am_W cl B x dA ks h) H)
    (hA : ∀ (i : Nat) (ty : FieldType) (n : Nat), ks[i]? = some (.inr (ty, n)) → ArrOfT s (dA i) ty ∧ va_RA s (dA i) ty) (hz : ex = true → s.heap.size + nc = B + ks.length) (hH : H.size = B + ks.length) (z1 : H1.size = H.size + 1) (o1 : ∀ q, q < H.size → H1[q]? = H[q]?)
    (hk : va_at D cl (B + ks.length, am_E cl B x ca k f) H1) (ha : ∀ (ty : FieldType) (n : Nat), k = .inr (ty, n) → ArrOfT s ca ty ∧ va_RA s ca ty) :
    am_Rel D cl B x ex (ks ++ [k]) (am_mk h ks.length f) (s.heap.size + (nc + 1)) s H1 ∧ va_S (fun q => B ≤ q) s.heap H1 locs := by
  refine ⟨⟨hK, fun i => if i = ks.length then ca else dA i, ?_, ?_, ?_⟩, ?_⟩
  · rw [← am_W_new]
    refine (hP.kept (fun i q hq => o1 q.1 (hP i q hq).lt)).app (fun i q hq => ?_)
    have hz : i < 1 := (List.getElem?_eq_some_iff.mp hq).1
    rw [show i = 0 by omega] at hq
    cases hq
    exact hk
  · intro i ty n hi
    by_cases hl : i < ks.length
    · rw [List.getElem?_append_left hl] at hi
      have h9 := hA i ty n hi
      simp only [show ¬ i = ks.length by omega, if_false]
      exact h9
    · rw [List.getElem?_append_right (by omega)] at hi
      have hz : i - ks.length < 1 := (List.getElem?_eq_some_iff.mp hi).1
      have hi0 : i = ks.length := by omega
      subst hi0
      rw [Nat.sub_self] at hi
      have h9 := ha ty n (Option.some.inj hi)
      simp only [if_true]
      exact h9
  · intro h9
    have := hz h9
    rw [List.length_append, List.length_singleton]
    omega
  · exact ⟨Nat.le_trans hS.1 (by omega), fun q h1 h2 => (o1 q (Nat.lt_of_lt_of_le h1 hS.1)).trans (hS.2.1 q h1 h2), hS.2.2⟩
theorem am_s_newarray {t : ArrayType} (C : am_C p s m args meth c M) (hRm : R = am_rm M) (hB : B ≤ s.heap.size) (hw : Cond.arrayClass (Op.newarray.typeOf t) ∈ am_ts) (hty : Op.newarray.typeOf t = .int ∨ Op.newarray.typeOf t = .boolean ∨ Op.newarray.typeOf t = .long) (hd : decode M.1.2.2 pc = .ok (.newarray t, 2))
    (hone : am_one am_φ ex G rc M ((pc, 2, .newarray t, an, v0) :: cs, ls, st, ks, h, nc, ns) = some (.inl f')) (hW : am_Wf p l e R s m args below meth c D cl B x ex M.2.1.1 Q f') : am_Wf p l e R s m args below meth c D cl B x ex M.2.1.1 Q ((pc, 2, .newarray t, an, v0) :: cs, ls, st, ks, h, nc, ns) := by
  obtain ⟨hx, hb, hml, hr, hown, hts, hlk, hnm, htn⟩ := C
  simp only [am_one, am_newA] at hone
  split at hone
  · rename_i n st0
    split at hone
    · cases hone
    rename_i hn
    cases hcc : (ex && Nat.ble (nc + 1) M.2.2.1.2.2.1 && Nat.ble (ns + n.toNatClampNeg) M.2.2.1.2.2.2 && Nat.ble (n.toNatClampNeg * 8) 536870912) with
    | false => rw [hcc] at hone; cases hone
    | true =>
    rw [hcc, cond_true] at hone
    simp only [Bool.and_eq_true] at hcc
    obtain ⟨⟨⟨c1, c2⟩, c3⟩, c4⟩ := hcc
    have c2 := Nat.le_of_ble_eq_true c2
    have c3 := Nat.le_of_ble_eq_true c3
    have c4 := Nat.le_of_ble_eq_true c4
    intro H locs L i r hj hR hS hl
    cases hj
    obtain ⟨hK, dA, hP, hA, hz⟩ := hR
    refine am_size (fun hsz => ?_)
    have hz1 : s.heap.size + nc = B + ks.length := hz c1
    have hlo := am_lo hP (Nat.le_trans hB hS.1)
    have hH : H.size = B + ks.length := Nat.le_antisymm (by rw [← hz1]; exact hsz) hlo
    have hby : n.toNatClampNeg * componentBytes (Op.newarray.typeOf t) ≤ 536870912 := by
      rcases hty with h9 | h9 | h9 <;> rw [h9] <;> simp only [componentBytes] <;> omega
    refine va_newaK (g := F0 m pc L (.int n :: st0.map (am_c B x))) hx hb (hts _ hw) rfl hd rfl hn rfl hby (by rw [hRm]; exact c2) (by rw [hRm]; exact c3) hH (fun H1 cA e1 z1 o1 hAr hNm => ?_)
    have hrel := am_Rel_new (nc := nc) (ex := ex) (H1 := H1) (k := .inr (Op.newarray.typeOf t, n.toNatClampNeg)) (f := fun _ => defaultValue (Op.newarray.typeOf t)) (ca := cA) hB hS hK hP hA hz hH (by rw [z1, hH]) (fun q hq => o1 q (by omega))
      (by show H1[B + ks.length]? = some (vp_cell cA (am_arr B n.toNatClampNeg (Op.newarray.typeOf t) (fun _ => defaultValue (Op.newarray.typeOf t)))); rw [am_cell_new _ _ _ _ (by rcases hty with h9 | h9 | h9 <;> simp [h9])]; exact e1)
      (fun ty n h9 => by cases h9; exact ⟨hAr, by cases t <;> exact hNm⟩)
    exact am_go_use hone hW H1 locs L hrel.1 hrel.2 hl
  · cases hone
theorem am_s_anewarray {idx : Nat} {r0 : vw_C} (C : am_C p s m args meth c M) (hG : am_okG cl G) (hRm : R = am_rm M) (hB : B ≤ s.heap.size) (hc0 : cl[an.1]? = some r0) (hw : Cond.classLink M.1.2.1.cls idx r0.1 ∈ am_ts) (hw2 : Cond.arrayOver (.object r0.1) ∈ am_tn) (hd : decode M.1.2.2 pc = .ok (.anewarray idx, 3))
    (hone : am_one am_φ ex G rc M ((pc, 3, .anewarray idx, an, v0) :: cs, ls, st, ks, h, nc, ns) = some (.inl f')) (hW : am_Wf p l e R s m args below meth c D cl B x ex M.2.1.1 Q f') : am_Wf p l e R s m args below meth c D cl B x ex M.2.1.1 Q ((pc, 3, .anewarray idx, an, v0) :: cs, ls, st, ks, h, nc, ns) := by
  obtain ⟨hx, hb, hml, hr, hown, hts, hlk, hnm, htn⟩ := C
  simp only [am_one, am_newA] at hone
  rw [(hG _ _ hc0).2.1] at hone
  split at hone
  · rename_i n st0
    split at hone
    · cases hone
    rename_i hn
    cases hcc : (ex && Nat.ble (nc + 1) M.2.2.1.2.2.1 && Nat.ble (ns + n.toNatClampNeg) M.2.2.1.2.2.2 && Nat.ble (n.toNatClampNeg * 8) 536870912) with
    | false => rw [hcc] at hone; cases hone
    | true =>
    rw [hcc, cond_true] at hone
    simp only [Bool.and_eq_true] at hcc
    obtain ⟨⟨⟨c1, c2⟩, c3⟩, c4⟩ := hcc
    have c2 := Nat.le_of_ble_eq_true c2
    have c3 := Nat.le_of_ble_eq_true c3
    have c4 := Nat.le_of_ble_eq_true c4
    intro H locs L i r hj hR hS hl
    cases hj
    obtain ⟨hK, dA, hP, hA, hz⟩ := hR
    refine am_size (fun hsz => ?_)
    have hz1 : s.heap.size + nc = B + ks.length := hz c1
    have hlo := am_lo hP (Nat.le_trans hB hS.1)
    have hH : H.size = B + ks.length := Nat.le_antisymm (by rw [← hz1]; exact hsz) hlo
    refine W.anew (g := F0 m pc L (.int n :: st0.map (am_c B x))) hx hb hown (hts _ hw) (htn _ hw2) rfl hd rfl hn (by omega) (by rw [hRm]; exact c2) (by rw [hRm]; exact c3) (fun cA kA comp f1 f2 f3 f4 => ?_)
    generalize hH1 : H.push ({ cls := cA, slots := Array.replicate n.toNatClampNeg .null, vm := .none } : Cell) = H1
    have z1 : H1.size = H.size + 1 := by rw [← hH1, Array.size_push]
    have e1 : H1[H.size]? = some (arrV cA n.toNatClampNeg (fun _ => .null)) := by rw [← hH1, Array.getElem?_push_size, ← arrV_new]
    have o1 : ∀ q : Nat, q < H.size → H1[q]? = H[q]? := fun q hq => by rw [← hH1, Array.getElem?_push, if_neg (Nat.ne_of_lt hq)]
    have hAr : ArrOfT s cA (.object r0.1) := fun N z => ⟨(fun k h => by cases h), kA, f2, comp, f3⟩
    have hrel := am_Rel_new (nc := nc) (ex := ex) (H1 := H1) (k := .inr (.object r0.1, n.toNatClampNeg)) (f := fun _ => defaultValue (.object r0.1)) (ca := cA) hB hS hK hP hA hz hH z1 o1
      (by show H1[B + ks.length]? = some (vp_cell cA (am_arr B n.toNatClampNeg (.object r0.1) (fun _ => defaultValue (.object r0.1)))); rw [am_cell_new _ _ _ _ (by simp), ← hH]; exact e1)
      (fun ty n h9 => by cases h9; exact ⟨hAr, kA, comp, f2, f3, f4, f1⟩)
    have hK2 : W p l e R s m args below meth c H1 locs (nc + 1) (ns + n.toNatClampNeg) Q (F0 m (pc + 3) L (.ref (B + ks.length) :: st0.map (am_c B x))) := am_go_use hone hW H1 locs L hrel.1 hrel.2 hl
    rw [← hH] at hK2
    exact hK2
  · cases hone
theorem am_s_new {idx : Nat} {r0 : vw_C} (C : am_C p s m args meth c M) (hG : am_okG cl G) (hRm : R = am_rm M) (hB : B ≤ s.heap.size) (hc0 : cl[an.1]? = some r0) (hw : Cond.classLink M.1.2.1.cls idx r0.1 ∈ am_ts) (hd : decode M.1.2.2 pc = .ok (.new idx, 3))
    (hone : am_one am_φ ex G rc M ((pc, 3, .new idx, an, v0) :: cs, ls, st, ks, h, nc, ns) = some (.inl f')) (hW : am_Wf p l e R s m args below meth c D cl B x ex M.2.1.1 Q f') : am_Wf p l e R s m args below meth c D cl B x ex M.2.1.1 Q ((pc, 3, .new idx, an, v0) :: cs, ls, st, ks, h, nc, ns) := by
  obtain ⟨hx, hb, hml, hr, hown, hts, hlk, hnm, htn⟩ := C
  obtain ⟨g1, g2, g3, g4, g5, g6, g7⟩ := hG _ _ hc0
  simp only [am_one, am_new] at hone
  rw [g1] at hone
  cases hcc : (ex && Nat.ble (nc + 1) M.2.2.1.2.2.1 && Nat.ble (ns + r0.2.2) M.2.2.1.2.2.2) with
  | false => rw [hcc] at hone; cases hone
  | true =>
  rw [hcc, cond_true] at hone
  simp only [Bool.and_eq_true] at hcc
  obtain ⟨⟨c1, c2⟩, c3⟩ := hcc
  have c2 := Nat.le_of_ble_eq_true c2
  have c3 := Nat.le_of_ble_eq_true c3
  intro H locs L i r hj hR hS hl
  cases hj
  obtain ⟨hK, dA, hP, hA, hz⟩ := hR
  refine am_size (fun hsz => ?_)
  have hz1 : s.heap.size + nc = B + ks.length := hz c1
  have hlo := am_lo hP (Nat.le_trans hB hS.1)
  have hH : H.size = B + ks.length := Nat.le_antisymm (by rw [← hz1]; exact hsz) hlo
  have hKn := hK.1 an.1 _ hc0
  refine W.newcK (g := F0 m pc L (st.map (am_c B x))) hx hb hown (hts _ hw) (hts _ g6) (hts _ g7) rfl hd (by rw [hRm]; exact c2) (by rw [hRm]; exact c3) hKn.2.1 hH (fun H1 kC hkC e1 z1 o1 => ?_)
  have hrel := am_Rel_new (nc := nc) (ex := ex) (H1 := H1) (k := .inl an.1) (f := fun j => defaultValue ((G.2.1 an.1).getD j .int)) (ca := 0) hB hS hK hP hA hz hH (by rw [z1, hH]) (fun q hq => o1 q (by omega))
    ⟨r0, hc0, (u_born (fun k => (G.2.1 an.1).getD k .int) hts g5 hKn hkC e1 g3).to (fun j hj => by
      have hN := am_N_of hc0
      rw [hN]
      simp only [vp_V]
      rw [List.getD_eq_getElem?_getD]
      simp [hj]
      cases ((G.2.1 an.1)[j]?.getD .int) <;> rfl)⟩
    (fun ty n h9 => by cases h9)
  exact am_go_use hone hW H1 locs L hrel.1 hrel.2 hl
end AMA
end
section
/-! ===== CALLS ===== -/
def am_ws (M : am_M) : List Cond := Cond.code M.1.2.1 M.1.2.2 M.2.1.1 M.2.1.2.1 :: am_ts
/-- what is said of old cells (the words' text): it hangs on the tables and on cells below B alone -/
def am_TXm (B : Nat) (TX : State → Prop) : Prop := ∀ U U' : State, (U.vm = U'.vm ∨ U.WarmedH U'.vm) → (∀ q, q < B → U'.heap[q]? = U.heap[q]?) → TX U → TX U'
def am_Pc (D : va_G) (cl : List vw_C) (B : Nat) (x : Nat → Nat) (ex : Bool) (TX : State → Prop) (as : List Value) (ks : List am_k) (h : am_H) : Array Value → State → Prop :=
  va_Pc (as.map (am_c B x)) (fun U => am_Rel D cl B x ex ks h U.heap.size U U.heap ∧ B ≤ U.heap.size ∧ TX U)
def am_Qc (D : va_G) (cl : List vw_C) (B : Nat) (x : Nat → Nat) (ex : Bool) (r : am_O) : Array Value → State → Outcome → State → Prop := fun _ st oc t =>
  oc = .returned (r.1.map (am_c B x)) ∧ am_Rel D cl B x ex r.2.1 r.2.2 (B + r.2.1.length) t t.heap ∧ va_F (fun q => B ≤ q) st t
/-- a method's contract at one heap and one list of arguments -/
def am_Met (l : Launch) (D : va_G) (cl : List vw_C) (B : Nat) (x : Nat → Nat) (ex : Bool) (TX : State → Prop) (M : am_M) (as : List Value) (ks : List am_k) (h : am_H) (r : am_O) : Prop :=
  Met l M.1.2.1 (am_ws M) (am_rm M) (am_Pc D cl B x ex TX as ks h) (am_Qc D cl B x ex r) M.2.2.1.2.2.1 M.2.2.1.2.2.2 (fun q => B ≤ q)
/-- what the tables say of a method that is called -/
def am_okM (G : am_G) (M : am_M) : Prop := Cond.code M.1.2.1 M.1.2.2 M.2.1.1 M.2.1.2.1 ∈ am_ts ∧ Cond.initialized M.1.2.1.cls ∈ am_ts ∧ (M.1.2.1.cls ≠ "java/lang/invoke/MethodHandle" ∧ M.1.2.1.cls ≠ "java/lang/invoke/VarHandle" ∧ (parseMethodDescriptor M.1.2.1.desc).map (fun d => d.parameters.length) = some M.2.1.2.2) ∧ plainName M.1.2.1.cls = true ∧ G.2.2.1 M.1.1 = M.1.2.1.cls
def am_ml (own : String) (idx : Nat) (y : MethodName) : Prop := Cond.methodLink own idx y ∈ am_ts ∨ ∃ host, Cond.methodLinkNest own idx y host ∈ am_tn
theorem am_good {ws : List Cond} (h : ∀ w ∈ ws, w ∈ am_ts) : GoodIn am_ts ws := fun w hw => ⟨h w hw, good_of_word (am_ts_good (h w hw))⟩
theorem am_Pc_blind {D : va_G} {cl : List vw_C} {B : Nat} {x : Nat → Nat} {ex : Bool} {TX : State → Prop} {as : List Value} {ks : List am_k} {h : am_H} (hTm : am_TXm B TX) : FrameBlind (am_Pc D cl B x ex TX as ks h) := by
  intro a U g mk q
  obtain ⟨q0, qR, qB, qT⟩ := q
  exact ⟨q0, am_Rel.moved (u := U) (U := U.calling g mk a) (Vm.Alike.refl U.vm) qR, qB, hTm U (U.calling g mk a) (Or.inl rfl) (fun _ _ => rfl) qT⟩
section AMC
variable {p : Program} {l : Launch} {e : Env} {R : Room} {s : State} {m : MethodId} {args : Array Value} {below : List Frame} {meth : Method} {c : Code} {D : va_G} {cl : List vw_C} {B : Nat} {x : Nat → Nat} {ex : Bool} {nL : Nat} {Q : State → Prop} {M M' : am_M} {f' : am_F}
variable {pc len : Nat} {ins : Instr} {an : Nat × Nat × Nat} {v0 : Int} {cs : List am_I} {ls : am_L} {st : List Value} {ks : List am_k} {h : am_H} {nc ns : Nat} {G : am_G} {rc : am_rec} {TX : State → Prop}
theorem am_call_use {H : Heap} {locs : List Loc} {L : Array Slot} {st0 rest : List Value} {r : am_O} {mc ms : Nat} {a : Array Value} (hr : va_Run p l e R s m args below meth c H locs nc ns mc ms (F0 m pc L st0) rest (am_Qc D cl B x ex r a) (fun q => B ≤ q)) (hS : va_S (fun q => B ≤ q) s.heap H locs)
    (kk : ∀ (H1 : Heap) (locs1 : List Loc), am_Rel D cl B x ex r.2.1 r.2.2 (B + r.2.1.length) s H1 → va_S (fun q => B ≤ q) s.heap H1 locs1 → W p l e R s m args below meth c H1 locs1 (nc + mc) (ns + ms) Q (F0 m (pc + 3) L ((r.1.map (am_c B x)).toList ++ rest))) : W p l e R s m args below meth c H locs nc ns Q (F0 m pc L st0) := by
  intro T hT X
  obtain ⟨v, st₀, t, T', L', h0, X', hL, e1, e2, ⟨hv, hrel, hz, hk⟩, st⟩ := hr T hT X
  cases hv
  rw [h0] at hz hk
  have hal : t.vm.Alike s.vm := by rw [← e2]; exact (X'.warmed.alike).symm
  have hrel2 := am_Rel.moved hal hrel
  rw [← e1] at hrel2 hz hk
  obtain ⟨t2, a1, b1⟩ := kk T'.heap (locs ++ L') hrel2 ⟨Nat.le_trans hS.1 hz, fun q h1 h2 => by rw [hk q (Nat.lt_of_lt_of_le h1 hS.1) h2]; exact hS.2.1 q h1 h2, fun q hq => by
      rcases List.mem_append.mp hq with h | h
      · exact hS.2.2 q h
      · exact hL q h⟩ T' rfl X'
  exact ⟨t2, st t2 a1, b1⟩
/-- the parts of a call that went on -/
theorem am_calls_use {a : Nat} {i : am_I} {as rest : List Value} {o : am_F ⊕ am_O} (hh : am_calls ex M M' a rc i cs ls as rest ks h nc ns = some o) : am_okC M M' as rest nc ns = true ∧ ∃ r : am_O, rc a as ks h = some r ∧ (ex = true → r.2.1.length = ks.length + M'.2.2.1.2.2.1) ∧ am_go i cs ls (r.1.toList ++ rest) r.2.1 r.2.2 (nc + M'.2.2.1.2.2.1) (ns + M'.2.2.1.2.2.2) = some o := by
  unfold am_calls at hh
  cases hok : am_okC M M' as rest nc ns with
  | false => rw [hok] at hh; cases hh
  | true =>
  rw [hok, cond_true] at hh
  split at hh
  · cases hh
  · rename_i r ks' h' hrc
    cases hq : (!ex || Nat.beq ks'.length (ks.length + M'.2.2.1.2.2.1)) with
    | false => rw [hq] at hh; cases hh
    | true =>
    rw [hq, cond_true] at hh
    refine ⟨rfl, (r, ks', h'), hrc, fun hex => ?_, hh⟩
    subst hex
    exact Nat.eq_of_beq_eq_true (by simpa using hq)
theorem am_okC_use {as rest : List Value} (hh : am_okC M M' as rest nc ns = true) : (am_rm M').frames + 1 ≤ (am_rm M).frames ∧ 8 + (M'.2.1.1 + 11) + (am_rm M').locals ≤ (am_rm M).locals ∧ nc + M'.2.2.1.2.2.1 ≤ (am_rm M).cells ∧ ns + M'.2.2.1.2.2.2 ≤ (am_rm M).slots ∧ am_cat rest ≤ 8 ∧ am_cat as ≤ M'.2.1.1 := by
  simp only [am_okC, Bool.and_eq_true] at hh
  obtain ⟨⟨⟨⟨⟨h1, h2⟩, h3⟩, h4⟩, h5⟩, h6⟩ := hh
  exact ⟨Nat.le_of_ble_eq_true h1, Nat.le_of_ble_eq_true h2, Nat.le_of_ble_eq_true h3, Nat.le_of_ble_eq_true h4, Nat.le_of_ble_eq_true h5, Nat.le_of_ble_eq_true h6⟩
theorem am_pre_heap {H : Heap} {U : State} (hU : U.heap = H) (hal : s.WarmedH U.vm) (hR : am_Rel D cl B x ex ks h (s.heap.size + nc) s H) (hB : B ≤ s.heap.size) {locs : List Loc} (hS0 : va_S (fun q => B ≤ q) s.heap H locs) (hsz : H.size ≤ s.heap.size + nc) (hTm : am_TXm B TX) (hT : TX s) : am_Rel D cl B x ex ks h U.heap.size U U.heap ∧ B ≤ U.heap.size ∧ TX U := by
  have hS := hS0.1
  refine ⟨am_Rel.moved hal.alike ?_, by rw [hU]; omega, hTm s U (Or.inr hal) (fun q hq => by rw [hU]; exact hS0.2.1 q (Nat.lt_of_lt_of_le hq hB) (Nat.not_le.mpr hq)) hT⟩
  rw [hU]
  obtain ⟨hK, dA, hP, hA, hz⟩ := hR
  refine ⟨hK, dA, hP, hA, fun hex => ?_⟩
  have := hz hex
  have hlo := am_lo hP (Nat.le_trans hB hS)
  omega
theorem am_map_rev (B : Nat) (x : Nat → Nat) (as : List Value) : (as.reverse.map (am_c B x)) = (as.map (am_c B x)).reverse := by rw [List.map_reverse]
/-- a call on an object, but for the kind of the call -/
theorem am_callV_use {i : am_I} (C : am_C p s m args meth c M) (hG : am_okG cl G) (hRm : R = am_rm M) (hB : B ≤ s.heap.size) (hTm : am_TXm B TX) (hT : TX s) (hM : ∀ M', G.1 i.2.2.2.1.1 = some M' → am_okM G M')
    (hrec : ∀ (a : Nat) (M' : am_M) (as : List Value) (ks : List am_k) (h : am_H) (r : am_O), G.1 a = some M' → am_cat as ≤ M'.2.1.1 → rc a as ks h = some r → am_Met l D cl B x ex TX M' as ks h r)
    (hlen3 : i.2.1 = 3) (hone : am_callV ex G M rc i cs ls st ks h nc ns = some (.inl f')) (hW : am_Wf p l e R s m args below meth c D cl B x ex M.2.1.1 Q f')
    (hrun : ∀ (M' : am_M) (H : Heap) (locs : List Loc) (L : Array Slot) (o : Nat) (As rest : List Value) (Pc : Array Value → State → Prop) (Qc : Array Value → State → Outcome → State → Prop), G.1 i.2.2.2.1.1 = some M' → Met l M'.1.2.1 (am_ws M') (am_rm M') Pc Qc M'.2.2.1.2.2.1 M'.2.2.1.2.2.2 (fun q => B ≤ q) → FrameBlind Pc →
      (∃ cellB : Cell, H[B + o]? = some cellB ∧ cellB.vm.isStatics = false ∧ s.vm.findClass M'.1.2.1.cls = some cellB.cls) → (∀ U : State, U.heap = H → s.WarmedH U.vm → Pc (Value.ref (B + o) :: As).toArray U) → As.length = M'.2.1.2.2 → L.size = M.2.1.1 →
      (st.map (am_c B x)) = As.reverse ++ .ref (B + o) :: rest → 2 * (F0 m i.1 L (st.map (am_c B x))).monitorRoom + (rest.map fun v => v.category).sum ≤ 8 → ((am_rm M').frames + 1 ≤ (am_rm M).frames ∧ 8 + (M'.2.1.1 + 11) + (am_rm M').locals ≤ (am_rm M).locals) → (nc + M'.2.2.1.2.2.1 ≤ (am_rm M).cells ∧ ns + M'.2.2.1.2.2.2 ≤ (am_rm M).slots) →
      va_Run p l e R s m args below meth c H locs nc ns M'.2.2.1.2.2.1 M'.2.2.1.2.2.2 (F0 m i.1 L (st.map (am_c B x))) rest (Qc (Value.ref (B + o) :: As).toArray) (fun q => B ≤ q)) : am_Wf p l e R s m args below meth c D cl B x ex M.2.1.1 Q (i :: cs, ls, st, ks, h, nc, ns) := by
  obtain ⟨hx, hb, hml, hr, hown, hts, hlk, hnm, htn⟩ := C
  unfold am_callV at hone
  split at hone
  · cases hone
  rename_i M' hM'
  obtain ⟨m1, m2, m3, m4, m5⟩ := hM M' hM'
  split at hone
  · rename_i o rest hst
    split at hone
    · rename_i ci hks
      cases hcc : (Nat.beq ci M'.1.1 && Nat.beq (st.take M'.2.1.2.2).length M'.2.1.2.2) with
      | false => rw [hcc] at hone; cases hone
      | true =>
      rw [hcc, cond_true] at hone
      simp only [Bool.and_eq_true] at hcc
      obtain ⟨c1, c2⟩ := hcc
      have c1 := Nat.eq_of_beq_eq_true c1
      have c2 := Nat.eq_of_beq_eq_true c2
      subst c1
      obtain ⟨hok, r, hrc, hlen, hgo⟩ := am_calls_use hone
      obtain ⟨k1, k2, k3, k4, k5, k6⟩ := am_okC_use hok
      have hmet := hrec _ _ _ _ _ _ hM' k6 hrc
      have hst2 : st = st.take M'.2.1.2.2 ++ .ref o :: rest := by rw [← hst]; exact (List.take_append_drop _ _).symm
      generalize hA0 : st.take M'.2.1.2.2 = As at hst2 c2 hrc hmet k6
      intro H locs L j r' hj hR hS hl
      cases hj
      refine am_size (fun hsz => ?_)
      have hRel := hR
      obtain ⟨hK, dA, hP, hA, hz⟩ := hR
      have he := am_W_some (cl := cl) (B := B) (x := x) (dA := dA) (h := h) hks
      obtain ⟨rr, hcl, -⟩ := hP o _ he
      have hcl : cl[M'.1.1]? = some rr := hcl
      have hrr : rr.1 = M'.1.2.1.cls := ((hG _ _ hcl).2.1).symm.trans m5
      have hrcv := va_recv hK hP hcl he
      rw [hrr] at hrcv
      have hstk : (st.map (am_c B x)) = ((As.reverse).map (am_c B x)).reverse ++ .ref (B + o) :: rest.map (am_c B x) := by
        rw [hst2, List.map_append, am_map_rev, List.reverse_reverse]; rfl
      have hPre : ∀ U : State, U.heap = H → s.WarmedH U.vm → am_Pc D cl B x ex TX (.ref o :: As.reverse) ks h (Value.ref (B + o) :: (As.reverse).map (am_c B x)).toArray U := fun U hU hWm => ⟨rfl, am_pre_heap hU hWm hRel hB hS hsz hTm hT⟩
      have hn : ((As.reverse).map (am_c B x)).length = M'.2.1.2.2 := by rw [List.length_map, List.length_reverse]; exact c2
      have hW8 : 2 * (F0 m i.1 L (st.map (am_c B x))).monitorRoom + ((rest.map (am_c B x)).map fun v => v.category).sum ≤ 8 := lv_room (by rw [am_cat_map]; exact k5)
      refine am_call_use (hrun M' H locs L o _ _ _ _ hM' hmet (am_Pc_blind hTm) hrcv hPre hn hl.1 hstk hW8 ⟨k1, k2⟩ ⟨k3, k4⟩) hS ?_
      intro H1 locs1 q1 q2
      have h1 := am_go_use hgo hW H1 locs1 L ⟨q1.1, q1.2.choose, q1.2.choose_spec.1, q1.2.choose_spec.2.1, fun hex => by have := hz hex; have h8 := hlen hex; rw [h8]; have h7 : s.heap.size + nc = B + ks.length := this; omega⟩ q2 hl
      have h2 : ((r.1.toList ++ rest).map (am_c B x)) = (r.1.map (am_c B x)).toList ++ rest.map (am_c B x) := by
        rw [List.map_append]
        cases r.1 <;> rfl
      rw [h2, hlen3] at h1
      exact h1
    · cases hone
  · cases hone
theorem am_callS_use {i : am_I} (C : am_C p s m args meth c M) (hRm : R = am_rm M) (hB : B ≤ s.heap.size) (hTm : am_TXm B TX) (hT : TX s)
    (hrec : ∀ (a : Nat) (M' : am_M) (as : List Value) (ks : List am_k) (h : am_H) (r : am_O), G.1 a = some M' → am_cat as ≤ M'.2.1.1 → rc a as ks h = some r → am_Met l D cl B x ex TX M' as ks h r)
    (hlen3 : i.2.1 = 3) (hone : am_callS ex G M rc i cs ls st ks h nc ns = some (.inl f')) (hW : am_Wf p l e R s m args below meth c D cl B x ex M.2.1.1 Q f')
    (hrun : ∀ (M' : am_M) (H : Heap) (locs : List Loc) (L : Array Slot) (As rest : List Value) (Pc : Array Value → State → Prop) (Qc : Array Value → State → Outcome → State → Prop), G.1 i.2.2.2.1.1 = some M' → Met l M'.1.2.1 (am_ws M') (am_rm M') Pc Qc M'.2.2.1.2.2.1 M'.2.2.1.2.2.2 (fun q => B ≤ q) → FrameBlind Pc →
      (∀ U : State, U.heap = H → s.WarmedH U.vm → Pc As.toArray U) → As.length = M'.2.1.2.2 → L.size = M.2.1.1 →
      (st.map (am_c B x)) = As.reverse ++ rest → 2 * (F0 m i.1 L (st.map (am_c B x))).monitorRoom + (rest.map fun v => v.category).sum ≤ 8 → ((am_rm M').frames + 1 ≤ (am_rm M).frames ∧ 8 + (M'.2.1.1 + 11) + (am_rm M').locals ≤ (am_rm M).locals) → (nc + M'.2.2.1.2.2.1 ≤ (am_rm M).cells ∧ ns + M'.2.2.1.2.2.2 ≤ (am_rm M).slots) →
      va_Run p l e R s m args below meth c H locs nc ns M'.2.2.1.2.2.1 M'.2.2.1.2.2.2 (F0 m i.1 L (st.map (am_c B x))) rest (Qc As.toArray) (fun q => B ≤ q)) : am_Wf p l e R s m args below meth c D cl B x ex M.2.1.1 Q (i :: cs, ls, st, ks, h, nc, ns) := by
  obtain ⟨hx, hb, hml, hr, hown, hts, hlk, hnm, htn⟩ := C
  unfold am_callS at hone
  split at hone
  · cases hone
  rename_i M' hM'
  cases hcc : Nat.beq (st.take M'.2.1.2.2).length M'.2.1.2.2 with
  | false => rw [hcc] at hone; cases hone
  | true =>
  rw [hcc, cond_true] at hone
  have c2 := Nat.eq_of_beq_eq_true hcc
  obtain ⟨hok, r, hrc, hlen, hgo⟩ := am_calls_use hone
  obtain ⟨k1, k2, k3, k4, k5, k6⟩ := am_okC_use hok
  have hmet := hrec _ _ _ _ _ _ hM' k6 hrc
  have hst2 : st = st.take M'.2.1.2.2 ++ st.drop M'.2.1.2.2 := (List.take_append_drop _ _).symm
  generalize hA0 : st.take M'.2.1.2.2 = As at hst2 c2 hrc hmet k6
  generalize hB0 : st.drop M'.2.1.2.2 = rest at hst2 k5 hgo
  intro H locs L j r' hj hR hS hl
  cases hj
  refine am_size (fun hsz => ?_)
  have hRel := hR
  obtain ⟨hK, dA, hP, hA, hz⟩ := hR
  have hstk : (st.map (am_c B x)) = ((As.reverse).map (am_c B x)).reverse ++ rest.map (am_c B x) := by
    rw [hst2, List.map_append, am_map_rev, List.reverse_reverse]
  have hPre : ∀ U : State, U.heap = H → s.WarmedH U.vm → am_Pc D cl B x ex TX As.reverse ks h ((As.reverse).map (am_c B x)).toArray U := fun U hU hWm => ⟨rfl, am_pre_heap hU hWm hRel hB hS hsz hTm hT⟩
  have hn : ((As.reverse).map (am_c B x)).length = M'.2.1.2.2 := by rw [List.length_map, List.length_reverse]; exact c2
  have hW8 : 2 * (F0 m i.1 L (st.map (am_c B x))).monitorRoom + ((rest.map (am_c B x)).map fun v => v.category).sum ≤ 8 := lv_room (by rw [am_cat_map]; exact k5)
  refine am_call_use (hrun M' H locs L _ _ _ _ hM' hmet (am_Pc_blind hTm) hPre hn hl.1 hstk hW8 ⟨k1, k2⟩ ⟨k3, k4⟩) hS ?_
  intro H1 locs1 q1 q2
  have h1 := am_go_use hgo hW H1 locs1 L ⟨q1.1, q1.2.choose, q1.2.choose_spec.1, q1.2.choose_spec.2.1, fun hex => by have := hz hex; have h8 := hlen hex; rw [h8]; have h7 : s.heap.size + nc = B + ks.length := this; omega⟩ q2 hl
  have h2 : ((r.1.toList ++ rest).map (am_c B x)) = (r.1.map (am_c B x)).toList ++ rest.map (am_c B x) := by
    rw [List.map_append]
    cases r.1 <;> rfl
  rw [h2, hlen3] at h1
  exact h1
theorem am_ws_good {w : Cond} (m1 : Cond.code M'.1.2.1 M'.1.2.2 M'.2.1.1 M'.2.1.2.1 ∈ am_ts) (hw : w ∈ am_ws M') : w ∈ am_ts := by
  simp only [am_ws, List.mem_cons] at hw
  rcases hw with rfl | hw
  · exact m1
  · exact hw
theorem am_s_virtual {idx : Nat} (C : am_C p s m args meth c M) (hG : am_okG cl G) (hRm : R = am_rm M) (hB : B ≤ s.heap.size) (hTm : am_TXm B TX) (hT : TX s) (hk0 : an.2.2 ≠ 0) (hd : decode M.1.2.2 pc = .ok (.invokevirtual idx, 3))
    (hM : ∀ M', G.1 an.1 = some M' → am_okM G M' ∧ Cond.instanceMethod M'.1.2.1 ∈ am_ts ∧ Cond.selects M'.1.2.1.cls M'.1.2.1 M'.1.2.1 ∈ am_ts ∧ am_ml M.1.2.1.cls idx M'.1.2.1)
    (hrec : ∀ (a : Nat) (M' : am_M) (as : List Value) (ks : List am_k) (h : am_H) (r : am_O), G.1 a = some M' → am_cat as ≤ M'.2.1.1 → rc a as ks h = some r → am_Met l D cl B x ex TX M' as ks h r)
    (hone : am_one am_φ ex G rc M ((pc, 3, .invokevirtual idx, an, v0) :: cs, ls, st, ks, h, nc, ns) = some (.inl f')) (hW : am_Wf p l e R s m args below meth c D cl B x ex M.2.1.1 Q f') : am_Wf p l e R s m args below meth c D cl B x ex M.2.1.1 Q ((pc, 3, .invokevirtual idx, an, v0) :: cs, ls, st, ks, h, nc, ns) := by
  have C0 := C
  obtain ⟨hx, hb, hml, hr, hown, hts, hlk, hnm, htn⟩ := C
  simp only [am_one] at hone
  refine am_callV_use C0 hG hRm hB hTm hT (fun M' h9 => (hM M' h9).1) hrec rfl hone hW ?_
  intro M' H locs L o As rest Pc Qc hM' hmet hbl hrcv hPre hn hsz hstk hW8 hR1 hR2
  obtain ⟨⟨m1, m2, m3, m4, m5⟩, m6, m7, m8⟩ := hM M' hM'
  subst hRm
  rcases m8 with m8 | ⟨host, m8⟩
  · refine va_runV (own := M.1.2.1.cls) (C := M'.1.2.1.cls) (Ts := am_ts) (cc := M.1.2.2) (nL := M.2.1.1) ⟨hx, hb, hml, hown, hts⟩ hmet (cwV M'.2.1.2.2 hts (am_good (fun w hw => ?_)) rfl rfl rfl ⟨rfl, m3⟩ hR1) ⟨hbl, hrcv, hPre⟩ rfl hn hsz hstk hW8 hd hR2
    simp only [wsV, List.mem_append, List.mem_cons, List.not_mem_nil, or_false] at hw
    rcases hw with (rfl | rfl | rfl | rfl) | hw
    · exact m8
    · exact m6
    · exact m7
    · exact m2
    · exact am_ws_good m1 hw
  · exact va_runVN (own := M.1.2.1.cls) (C := M'.1.2.1.cls) (Ts := am_ts) (cc := M.1.2.2) (nL := M.2.1.1) ⟨hx, hb, hml, hown, hts⟩ hmet ⟨va_cnB M'.2.1.2.2 hts (am_good (fun w hw => am_ws_good m1 hw)) rfl rfl rfl (htn _ m8) (hts _ m2) m3 hR1, hts _ m6, hts _ m7⟩ ⟨hbl, hrcv, hPre⟩ rfl hn hsz hstk hW8 hd hR2
theorem am_s_special {idx : Nat} (C : am_C p s m args meth c M) (hG : am_okG cl G) (hRm : R = am_rm M) (hB : B ≤ s.heap.size) (hTm : am_TXm B TX) (hT : TX s) (hk0 : an.2.2 ≠ 0) (hd : decode M.1.2.2 pc = .ok (.invokespecial idx, 3))
    (hM : ∀ M', G.1 an.1 = some M' → am_okM G M' ∧ Cond.instanceMethod M'.1.2.1 ∈ am_ts ∧ (M'.1.2.1.name = "<init>" ∧ M'.2.1.2.1 = none) ∧ am_ml M.1.2.1.cls idx M'.1.2.1)
    (hrec : ∀ (a : Nat) (M' : am_M) (as : List Value) (ks : List am_k) (h : am_H) (r : am_O), G.1 a = some M' → am_cat as ≤ M'.2.1.1 → rc a as ks h = some r → am_Met l D cl B x ex TX M' as ks h r)
    (hone : am_one am_φ ex G rc M ((pc, 3, .invokespecial idx, an, v0) :: cs, ls, st, ks, h, nc, ns) = some (.inl f')) (hW : am_Wf p l e R s m args below meth c D cl B x ex M.2.1.1 Q f') : am_Wf p l e R s m args below meth c D cl B x ex M.2.1.1 Q ((pc, 3, .invokespecial idx, an, v0) :: cs, ls, st, ks, h, nc, ns) := by
  have C0 := C
  obtain ⟨hx, hb, hml, hr, hown, hts, hlk, hnm, htn⟩ := C
  simp only [am_one] at hone
  refine am_callV_use C0 hG hRm hB hTm hT (fun M' h9 => (hM M' h9).1) hrec rfl hone hW ?_
  intro M' H locs L o As rest Pc Qc hM' hmet hbl hrcv hPre hn hsz hstk hW8 hR1 hR2
  obtain ⟨⟨m1, m2, m3, m4, m5⟩, m6, ⟨m7, m9⟩, m8⟩ := hM M' hM'
  subst hRm
  rcases m8 with m8 | ⟨host, m8⟩
  · exact va_runI (own := M.1.2.1.cls) (Ts := am_ts) (cc := M.1.2.2) (nL := M.2.1.1) ⟨hx, hb, hml, hown, hts⟩ hmet (cwI (bytes := M'.1.2.2) (maxL := M'.2.1.1) (ws' := am_ts) M'.2.1.2.2 hts (am_good (fun w hw => am_ws_good m1 hw)) (by rw [am_ws, m9]) rfl rfl (hts _ m2) (hts _ m8) (hts _ m6) m7 m3 hR1) ⟨hbl, hPre⟩ rfl hn hsz hstk hW8 hd hR2
  · exact va_runIN (own := M.1.2.1.cls) (Ts := am_ts) (cc := M.1.2.2) (nL := M.2.1.1) ⟨hx, hb, hml, hown, hts⟩ hmet ⟨va_cnB (bytes := M'.1.2.2) (maxL := M'.2.1.1) (ws' := am_ts) M'.2.1.2.2 hts (am_good (fun w hw => am_ws_good m1 hw)) (by rw [am_ws, m9]) rfl rfl (htn _ m8) (hts _ m2) m3 hR1, m7, hts _ m6⟩ ⟨hbl, hPre⟩ rfl hn hsz hstk hW8 hd hR2
theorem am_s_static {idx k : Nat} (C : am_C p s m args meth c M) (hRm : R = am_rm M) (hB : B ≤ s.heap.size) (hTm : am_TXm B TX) (hT : TX s) (hk0 : an.2.2 = k + 3) (hd : decode M.1.2.2 pc = .ok (.invokestatic idx, 3))
    (hM : ∀ M', G.1 an.1 = some M' → am_okM G M' ∧ Cond.static M'.1.2.1 ∈ am_ts ∧ ((M'.1.2.1.cls = M.1.2.1.cls ∧ Cond.methodLink M.1.2.1.cls idx M'.1.2.1 ∈ am_ts) ∨ ∃ host, Cond.methodLinkNest M.1.2.1.cls idx M'.1.2.1 host ∈ am_tn))
    (hrec : ∀ (a : Nat) (M' : am_M) (as : List Value) (ks : List am_k) (h : am_H) (r : am_O), G.1 a = some M' → am_cat as ≤ M'.2.1.1 → rc a as ks h = some r → am_Met l D cl B x ex TX M' as ks h r)
    (hone : am_one am_φ ex G rc M ((pc, 3, .invokestatic idx, an, v0) :: cs, ls, st, ks, h, nc, ns) = some (.inl f')) (hW : am_Wf p l e R s m args below meth c D cl B x ex M.2.1.1 Q f') : am_Wf p l e R s m args below meth c D cl B x ex M.2.1.1 Q ((pc, 3, .invokestatic idx, an, v0) :: cs, ls, st, ks, h, nc, ns) := by
  have C0 := C
  obtain ⟨hx, hb, hml, hr, hown, hts, hlk, hnm, htn⟩ := C
  simp only [am_one, hk0] at hone
  refine am_callS_use C0 hRm hB hTm hT hrec rfl hone hW ?_
  intro M' H locs L As rest Pc Qc hM' hmet hbl hPre hn hsz hstk hW8 hR1 hR2
  obtain ⟨⟨m1, m2, m3, m4, m5⟩, m6, m8⟩ := hM M' hM'
  subst hRm
  rcases m8 with ⟨m7, m8⟩ | ⟨host, m8⟩
  · refine va_runS (own := M.1.2.1.cls) (Ts := am_ts) (cc := M.1.2.2) (nL := M.2.1.1) ⟨hx, hb, hml, hown, hts⟩ hmet (cwS M'.2.1.2.2 hts (am_good (fun w hw => ?_)) rfl rfl rfl ⟨m7, m3⟩ hR1) ⟨hbl, hPre⟩ rfl hn hsz hstk hW8 hd hR2
    simp only [wsS, List.mem_append, List.mem_cons, List.not_mem_nil, or_false] at hw
    rcases hw with (rfl | rfl | rfl) | hw
    · exact m8
    · exact m6
    · rw [← m7]; exact m2
    · exact am_ws_good m1 hw
  · exact va_runSN (own := M.1.2.1.cls) (Ts := am_ts) (cc := M.1.2.2) (nL := M.2.1.1) ⟨hx, hb, hml, hown, hts⟩ hmet ⟨va_cnB M'.2.1.2.2 hts (am_good (fun w hw => am_ws_good m1 hw)) rfl rfl rfl (htn _ m8) (hts _ m2) m3 hR1, hts _ m6, trivial⟩ ⟨hbl, hPre⟩ rfl hn hsz hstk hW8 hd hR2
theorem am_s_objInit {idx : Nat} (C : am_C p s m args meth c M) (hRm : R = am_rm M) (hk0 : an.2.2 = 0) (hw : Cond.methodLink M.1.2.1.cls idx Lib.objectInit ∈ am_ts) (hw2 : Cond.instanceMethod Lib.objectInit ∈ am_ts) (hw3 : Cond.code Lib.objectInit ⟨#[0xb1]⟩ 1 none ∈ am_ts) (hd : decode M.1.2.2 pc = .ok (.invokespecial idx, 3))
    (hone : am_one am_φ ex G rc M ((pc, 3, .invokespecial idx, an, v0) :: cs, ls, st, ks, h, nc, ns) = some (.inl f')) (hW : am_Wf p l e R s m args below meth c D cl B x ex M.2.1.1 Q f') : am_Wf p l e R s m args below meth c D cl B x ex M.2.1.1 Q ((pc, 3, .invokespecial idx, an, v0) :: cs, ls, st, ks, h, nc, ns) := by
  obtain ⟨hx, hb, hml, hr, hown, hts, hlk, hnm, htn⟩ := C
  simp only [am_one, hk0] at hone
  split at hone
  · rename_i o st0
    cases hcc : (Nat.ble 1 M.2.2.1.1 && Nat.ble (am_cat st0 + 12) M.2.2.1.2.1) with
    | false => rw [hcc] at hone; cases hone
    | true =>
    rw [hcc, cond_true] at hone
    simp only [Bool.and_eq_true] at hcc
    intro H locs L j r hj hR hS hl
    cases hj
    subst hRm
    refine W.objInit (g := F0 m pc L (.ref (B + o) :: st0.map (am_c B x))) hx hb hown (hts _ hw) (hts _ hw2) (hts _ hw3) rfl (hl.1.trans hml.symm) rfl hd (Nat.le_of_ble_eq_true hcc.1) ?_ (am_go_use hone hW H locs L hR hS hl)
    have h1 := Nat.le_of_ble_eq_true hcc.2
    have h2 := am_cat_map B x st0
    have h3 : 2 * (F0 m pc L (.ref (B + o) :: st0.map (am_c B x))).monitorRoom = 0 := rfl
    have h4 : (am_rm M).locals = M.2.2.1.2.1 := rfl
    omega
  · cases hone
theorem am_s_max {idx : Nat} (C : am_C p s m args meth c M) (hRm : R = am_rm M) (hk0 : an.2.2 = 1) (hw : Cond.methodLink M.1.2.1.cls idx Lib.Math.max.name ∈ am_ts) (hw2 : Cond.static Lib.Math.max.name ∈ am_ts) (hw3 : Cond.initialized "java/lang/Math" ∈ am_ts) (hw4 : Cond.code Lib.Math.max.name Lib.Math.max.code 2 (some .int) ∈ am_ts) (hd : decode M.1.2.2 pc = .ok (.invokestatic idx, 3))
    (hone : am_one am_φ ex G rc M ((pc, 3, .invokestatic idx, an, v0) :: cs, ls, st, ks, h, nc, ns) = some (.inl f')) (hW : am_Wf p l e R s m args below meth c D cl B x ex M.2.1.1 Q f') : am_Wf p l e R s m args below meth c D cl B x ex M.2.1.1 Q ((pc, 3, .invokestatic idx, an, v0) :: cs, ls, st, ks, h, nc, ns) := by
  obtain ⟨hx, hb, hml, hr, hown, hts, hlk, hnm, htn⟩ := C
  simp only [am_one, hk0, am_math] at hone
  split at hone
  · rename_i b a st0
    cases hcc : (Nat.ble 1 M.2.2.1.1 && Nat.ble (am_cat st0 + 13) M.2.2.1.2.1 && Nat.ble nc M.2.2.1.2.2.1 && Nat.ble ns M.2.2.1.2.2.2) with
    | false => rw [hcc] at hone; cases hone
    | true =>
    rw [hcc, cond_true] at hone
    simp only [Bool.and_eq_true] at hcc
    obtain ⟨⟨⟨c1, c2⟩, c3⟩, c4⟩ := hcc
    intro H locs L j r hj hR hS hl
    cases hj
    subst hRm
    exact va_mmax (ls := L) hx hb (hml.trans hl.1.symm) hown (hts _ hw) (hts _ hw2) (hts _ hw3) (hts _ hw4) (Nat.le_of_ble_eq_true c1) (by rw [am_cat_map]; exact Nat.le_of_ble_eq_true c2) (Nat.le_of_ble_eq_true c3) (Nat.le_of_ble_eq_true c4) hd (am_go_use hone hW H locs L hR hS hl)
  · cases hone
theorem am_s_min {idx : Nat} (C : am_C p s m args meth c M) (hRm : R = am_rm M) (hk0 : an.2.2 = 2) (hw : Cond.methodLink M.1.2.1.cls idx Lib.Math.min.name ∈ am_ts) (hw2 : Cond.static Lib.Math.min.name ∈ am_ts) (hw3 : Cond.initialized "java/lang/Math" ∈ am_ts) (hw4 : Cond.code Lib.Math.min.name Lib.Math.min.code 2 (some .int) ∈ am_ts) (hd : decode M.1.2.2 pc = .ok (.invokestatic idx, 3))
    (hone : am_one am_φ ex G rc M ((pc, 3, .invokestatic idx, an, v0) :: cs, ls, st, ks, h, nc, ns) = some (.inl f')) (hW : am_Wf p l e R s m args below meth c D cl B x ex M.2.1.1 Q f') : am_Wf p l e R s m args below meth c D cl B x ex M.2.1.1 Q ((pc, 3, .invokestatic idx, an, v0) :: cs, ls, st, ks, h, nc, ns) := by
  obtain ⟨hx, hb, hml, hr, hown, hts, hlk, hnm, htn⟩ := C
  simp only [am_one, hk0, am_math] at hone
  split at hone
  · rename_i b a st0
    cases hcc : (Nat.ble 1 M.2.2.1.1 && Nat.ble (am_cat st0 + 13) M.2.2.1.2.1 && Nat.ble nc M.2.2.1.2.2.1 && Nat.ble ns M.2.2.1.2.2.2) with
    | false => rw [hcc] at hone; cases hone
    | true =>
    rw [hcc, cond_true] at hone
    simp only [Bool.and_eq_true] at hcc
    obtain ⟨⟨⟨c1, c2⟩, c3⟩, c4⟩ := hcc
    intro H locs L j r hj hR hS hl
    cases hj
    subst hRm
    exact va_mmin (ls := L) hx hb (hml.trans hl.1.symm) hown (hts _ hw) (hts _ hw2) (hts _ hw3) (hts _ hw4) (Nat.le_of_ble_eq_true c1) (by rw [am_cat_map]; exact Nat.le_of_ble_eq_true c2) (Nat.le_of_ble_eq_true c3) (Nat.le_of_ble_eq_true c4) hd (am_go_use hone hW H locs L hR hS hl)
  · cases hone
/-- the method that catches: its words and contract -/
def am_wsL (M : am_M) (hh : List (Nat × Nat × Nat × Nat)) : List Cond := Cond.codeWith M.1.2.1 M.1.2.2 M.2.1.1 M.2.1.2.1 hh :: am_ts
def am_MetL (l : Launch) (D : va_G) (cl : List vw_C) (B : Nat) (x : Nat → Nat) (ex : Bool) (TX : State → Prop) (M : am_M) (hh : List (Nat × Nat × Nat × Nat)) (as : List Value) (ks : List am_k) (h : am_H) (r : am_O) : Prop :=
  Met l M.1.2.1 (am_wsL M hh) (am_rm M) (am_Pc D cl B x ex TX as ks h) (am_Qc D cl B x ex r) M.2.2.1.2.2.1 M.2.2.1.2.2.2 (fun q => B ≤ q)
theorem am_s_look {idx : Nat} {hh : List (Nat × Nat × Nat × Nat)} (C : am_C p s m args meth c M) (hRm : R = am_rm M) (hB : B ≤ s.heap.size) (hTm : am_TXm B TX) (hT : TX s) (hk0 : an.2.2 = 0) (hd : decode M.1.2.2 pc = .ok (.invokestatic idx, 3))
    (w1 : Cond.methodLink M.1.2.1.cls idx G.2.2.2.2.2.1.1.2.1 ∈ am_ts) (w2 : Cond.static G.2.2.2.2.2.1.1.2.1 ∈ am_ts) (w3 : Cond.initialized G.2.2.2.2.2.1.1.2.1.cls ∈ am_ts) (w4 : Cond.codeWith G.2.2.2.2.2.1.1.2.1 G.2.2.2.2.2.1.1.2.2 G.2.2.2.2.2.1.2.1.1 G.2.2.2.2.2.1.2.1.2.1 hh ∈ am_ts)
    (w5 : G.2.2.2.2.2.1.1.2.1.cls ≠ "java/lang/invoke/MethodHandle" ∧ G.2.2.2.2.2.1.1.2.1.cls ≠ "java/lang/invoke/VarHandle" ∧ (parseMethodDescriptor G.2.2.2.2.2.1.1.2.1.desc).map (fun d => d.parameters.length) = some G.2.2.2.2.2.1.2.1.2.2)
    (hLk : ∀ (as : List Value) (ks : List am_k) (h : am_H) (r : am_O), G.2.2.2.2.2.2 as ks h = some r → am_MetL l D cl B x ex TX G.2.2.2.2.2.1 hh as ks h r)
    (hone : am_one am_φ ex G rc M ((pc, 3, .invokestatic idx, an, v0) :: cs, ls, st, ks, h, nc, ns) = some (.inl f')) (hW : am_Wf p l e R s m args below meth c D cl B x ex M.2.1.1 Q f') : am_Wf p l e R s m args below meth c D cl B x ex M.2.1.1 Q ((pc, 3, .invokestatic idx, an, v0) :: cs, ls, st, ks, h, nc, ns) := by
  have C0 := C
  obtain ⟨hx, hb, hml, hr, hown, hts, hlk, hnm, htn⟩ := C
  simp only [am_one, hk0] at hone
  unfold am_callL at hone
  cases hcc : Nat.beq (st.take G.2.2.2.2.2.1.2.1.2.2).length G.2.2.2.2.2.1.2.1.2.2 with
  | false => rw [hcc] at hone; cases hone
  | true =>
  rw [hcc, cond_true] at hone
  have c2 := Nat.eq_of_beq_eq_true hcc
  obtain ⟨hok, r, hrc, hlen, hgo⟩ := am_calls_use hone
  obtain ⟨k1, k2, k3, k4, k5, k6⟩ := am_okC_use hok
  have hmet := hLk _ _ _ _ hrc
  have hst2 : st = st.take G.2.2.2.2.2.1.2.1.2.2 ++ st.drop G.2.2.2.2.2.1.2.1.2.2 := (List.take_append_drop _ _).symm
  generalize hA0 : st.take G.2.2.2.2.2.1.2.1.2.2 = As at hst2 c2 hrc hmet k6
  generalize hB0 : st.drop G.2.2.2.2.2.1.2.1.2.2 = rest at hst2 k5 hgo
  intro H locs L j r' hj hR hS hl
  cases hj
  refine am_size (fun hsz => ?_)
  have hRel := hR
  obtain ⟨hK, dA, hP, hA, hz⟩ := hR
  have hstk : (st.map (am_c B x)) = ((As.reverse).map (am_c B x)).reverse ++ rest.map (am_c B x) := by
    rw [hst2, List.map_append, am_map_rev, List.reverse_reverse]
  have hPre : ∀ U : State, U.heap = H → s.WarmedH U.vm → am_Pc D cl B x ex TX As.reverse ks h ((As.reverse).map (am_c B x)).toArray U := fun U hU hWm => ⟨rfl, am_pre_heap hU hWm hRel hB hS hsz hTm hT⟩
  have hn : ((As.reverse).map (am_c B x)).length = G.2.2.2.2.2.1.2.1.2.2 := by rw [List.length_map, List.length_reverse]; exact c2
  have hW8 : 2 * (F0 m pc L (st.map (am_c B x))).monitorRoom + ((rest.map (am_c B x)).map fun v => v.category).sum ≤ 8 := lv_room (by rw [am_cat_map]; exact k5)
  subst hRm
  refine am_call_use (vx_runSW (own := M.1.2.1.cls) (Ts := am_ts) (cc := M.1.2.2) (nL := M.2.1.1) (hh := hh) ⟨hx, hb, hml, hown, hts⟩ hmet (vx_cwSW (ws' := am_ts) (bytes := G.2.2.2.2.2.1.1.2.2) (maxL := G.2.2.2.2.2.1.2.1.1) (ret := G.2.2.2.2.2.1.2.1.2.1) G.2.2.2.2.2.1.2.1.2.2 hts (am_good (fun w hw => ?_)) rfl rfl rfl w5 ⟨k1, k2⟩) ⟨am_Pc_blind hTm, hPre⟩ rfl hn hl.1 hstk hW8 hd ⟨k3, k4⟩) hS ?_
  · simp only [va_wsS, am_wsL, List.mem_append, List.mem_cons, List.not_mem_nil, or_false] at hw
    rcases hw with (rfl | rfl | rfl) | rfl | hw
    · exact w1
    · exact w2
    · exact w3
    · exact w4
    · exact hw
  intro H1 locs1 q1 q2
  have h1 := am_go_use hgo hW H1 locs1 L ⟨q1.1, q1.2.choose, q1.2.choose_spec.1, q1.2.choose_spec.2.1, fun hex => by have := hz hex; have h8 := hlen hex; rw [h8]; have h7 : s.heap.size + nc = B + ks.length := this; omega⟩ q2 hl
  have h2 : ((r.1.toList ++ rest).map (am_c B x)) = (r.1.map (am_c B x)).toList ++ rest.map (am_c B x) := by
    rw [List.map_append]
    cases r.1 <;> rfl
  rw [h2] at h1
  exact h1
end AMC
end
section
/-! ===== A RUN OF THE SMALL MACHINE IS ONE OF THE TRUE ONE ===== -/
/-- what the tables say of the method that catches, with its table of handlers -/
def am_okL (G : am_G) (hh : List (Nat × Nat × Nat × Nat)) : Prop := Cond.static G.2.2.2.2.2.1.1.2.1 ∈ am_ts ∧ Cond.initialized G.2.2.2.2.2.1.1.2.1.cls ∈ am_ts ∧ Cond.codeWith G.2.2.2.2.2.1.1.2.1 G.2.2.2.2.2.1.1.2.2 G.2.2.2.2.2.1.2.1.1 G.2.2.2.2.2.1.2.1.2.1 hh ∈ am_ts
  ∧ (G.2.2.2.2.2.1.1.2.1.cls ≠ "java/lang/invoke/MethodHandle" ∧ G.2.2.2.2.2.1.1.2.1.cls ≠ "java/lang/invoke/VarHandle" ∧ (parseMethodDescriptor G.2.2.2.2.2.1.1.2.1.desc).map (fun d => d.parameters.length) = some G.2.2.2.2.2.1.2.1.2.2)
def am_charAt : MethodName := ⟨"java/lang/String", "charAt", "(I)C"⟩
/-- what a program must show of an instruction -/
def am_okI (cl : List vw_C) (G : am_G) (M : am_M) (i : am_I) : Prop := decode M.1.2.2 i.1 = .ok (i.2.2.1, i.2.1) ∧ match i.2.2.1 with
  | .aload _ | .iload _ | .lload _ | .istore _ | .lstore _ | .astore _ | .bipush _ => i.2.1 = 2
  | .iinc _ _ | .sipush _ | .goto _ => i.2.1 = 3
  | .ifCond _ off | .if_icmp _ off => i.2.1 = 3 ∧ 0 ≤ (i.1 : Int) + off
  | .tableswitch _ _ _ _ => True
  | .ldc k => i.2.1 = 2 ∧ ((i.2.2.2.1.2.1 = 0 ∧ Cond.constant M.1.2.1.cls k (Int32.ofInt i.2.2.2.2) ∈ am_ts) ∨ (i.2.2.2.1.2.1 ≠ 0 ∧ ∃ tx, Cond.stringRef M.1.2.1.cls k tx ∈ lw_tbl))
  | .ldc2_w k => i.2.1 = 3 ∧ Cond.constantLong M.1.2.1.cls k (Int64.ofInt i.2.2.2.2) ∈ am_ts
  | .getfield idx => i.2.1 = 3 ∧ ∃ r, cl[i.2.2.2.1.1]? = some r ∧ i.2.2.2.1.2.1 < r.2.2 ∧ am_fl M.1.2.1.cls idx (r.2.1 i.2.2.2.1.2.1)
  | .putfield idx => i.2.1 = 3 ∧ ∃ r, cl[i.2.2.2.1.1]? = some r ∧ i.2.2.2.1.2.1 < r.2.2 ∧ (((r.2.1 i.2.2.2.1.2.1).2.2.2 = false ∧ am_fl M.1.2.1.cls idx (r.2.1 i.2.2.2.1.2.1)) ∨ ((r.2.1 i.2.2.2.1.2.1).2.2.2 = true ∧ Cond.fieldLink M.1.2.1.cls idx (r.2.1 i.2.2.2.1.2.1).1 (r.2.1 i.2.2.2.1.2.1).2.1 (r.2.1 i.2.2.2.1.2.1).2.2.1 ∈ am_ts ∧ M.1.2.1.name = "<init>" ∧ (r.2.1 i.2.2.2.1.2.1).1 = M.1.2.1.cls))
  | .newarray t => i.2.1 = 2 ∧ Cond.arrayClass (Op.newarray.typeOf t) ∈ am_ts ∧ (Op.newarray.typeOf t = .int ∨ Op.newarray.typeOf t = .boolean ∨ Op.newarray.typeOf t = .long)
  | .anewarray idx => i.2.1 = 3 ∧ ∃ r, cl[i.2.2.2.1.1]? = some r ∧ Cond.classLink M.1.2.1.cls idx r.1 ∈ am_ts ∧ Cond.arrayOver (.object r.1) ∈ am_tn
  | .new idx => i.2.1 = 3 ∧ ∃ r, cl[i.2.2.2.1.1]? = some r ∧ Cond.classLink M.1.2.1.cls idx r.1 ∈ am_ts
  | .invokespecial idx => i.2.1 = 3 ∧ ((i.2.2.2.1.2.2 = 0 ∧ Cond.methodLink M.1.2.1.cls idx Lib.objectInit ∈ am_ts ∧ Cond.instanceMethod Lib.objectInit ∈ am_ts ∧ Cond.code Lib.objectInit ⟨#[0xb1]⟩ 1 none ∈ am_ts) ∨ (i.2.2.2.1.2.2 ≠ 0 ∧ ∀ M', G.1 i.2.2.2.1.1 = some M' → am_okM G M' ∧ Cond.instanceMethod M'.1.2.1 ∈ am_ts ∧ (M'.1.2.1.name = "<init>" ∧ M'.2.1.2.1 = none) ∧ am_ml M.1.2.1.cls idx M'.1.2.1))
  | .invokevirtual idx => i.2.1 = 3 ∧ ((i.2.2.2.1.2.2 = 0 ∧ Cond.methodLink M.1.2.1.cls idx am_charAt ∈ am_ts) ∨ (i.2.2.2.1.2.2 ≠ 0 ∧ ∀ M', G.1 i.2.2.2.1.1 = some M' → am_okM G M' ∧ Cond.instanceMethod M'.1.2.1 ∈ am_ts ∧ Cond.selects M'.1.2.1.cls M'.1.2.1 M'.1.2.1 ∈ am_ts ∧ am_ml M.1.2.1.cls idx M'.1.2.1))
  | .invokestatic idx => i.2.1 = 3 ∧ ((i.2.2.2.1.2.2 = 0 ∧ ∃ hh, am_okL G hh ∧ Cond.methodLink M.1.2.1.cls idx G.2.2.2.2.2.1.1.2.1 ∈ am_ts) ∨ (i.2.2.2.1.2.2 = 1 ∧ Cond.methodLink M.1.2.1.cls idx Lib.Math.max.name ∈ am_ts ∧ Cond.static Lib.Math.max.name ∈ am_ts ∧ Cond.initialized "java/lang/Math" ∈ am_ts ∧ Cond.code Lib.Math.max.name Lib.Math.max.code 2 (some .int) ∈ am_ts)
      ∨ (i.2.2.2.1.2.2 = 2 ∧ Cond.methodLink M.1.2.1.cls idx Lib.Math.min.name ∈ am_ts ∧ Cond.static Lib.Math.min.name ∈ am_ts ∧ Cond.initialized "java/lang/Math" ∈ am_ts ∧ Cond.code Lib.Math.min.name Lib.Math.min.code 2 (some .int) ∈ am_ts)
      ∨ ((∃ k, i.2.2.2.1.2.2 = k + 3) ∧ ∀ M', G.1 i.2.2.2.1.1 = some M' → am_okM G M' ∧ Cond.static M'.1.2.1 ∈ am_ts ∧ ((M'.1.2.1.cls = M.1.2.1.cls ∧ Cond.methodLink M.1.2.1.cls idx M'.1.2.1 ∈ am_ts) ∨ ∃ host, Cond.methodLinkNest M.1.2.1.cls idx M'.1.2.1 host ∈ am_tn)))
  | _ => i.2.1 = 1
/-- the words' text: its constant is pushed, its signs are read -/
def am_TxA (p : Program) (l : Launch) (e : Env) (R : Room) (s : State) (m : MethodId) (args : Array Value) (below : List Frame) (meth : Method) (c : Code) (M : am_M) (x : Nat → Nat) : Prop :=
  ∀ (idx pc : Nat) (tx : String), decode M.1.2.2 pc = .ok (.ldc idx, 2) → Cond.stringRef M.1.2.1.cls idx tx ∈ lw_tbl → ∀ (Q : State → Prop) (H : Heap) (locs : List Loc) (L : Array Slot) (st : List Value) (nc ns : Nat),
    W p l e R s m args below meth c H locs nc ns Q (F0 m (pc + 2) L (.ref (x 1) :: st)) → W p l e R s m args below meth c H locs nc ns Q (F0 m pc L st)
def am_TxB (p : Program) (l : Launch) (e : Env) (R : Room) (s : State) (m : MethodId) (args : Array Value) (below : List Frame) (meth : Method) (c : Code) (M : am_M) (B : Nat) (x : Nat → Nat) (tx : Nat → Int32) : Prop :=
  ∀ (idx pc : Nat), decode M.1.2.2 pc = .ok (.invokevirtual idx, 3) → Cond.methodLink M.1.2.1.cls idx am_charAt ∈ am_ts → ∀ (Q : State → Prop) (H : Heap) (locs : List Loc) (L : Array Slot) (st : List Value) (nc ns : Nat) (j : Int32),
    8 ≤ R.frames → (st.map fun v => v.category).sum ≤ 8 → 200 ≤ R.locals → nc ≤ R.cells → ns ≤ R.slots → vp_in j 120 → L.size = M.2.1.1 → va_S (fun q => B ≤ q) s.heap H locs →
    (∀ (H1 : Heap) (locs1 : List Loc), (∀ q : Nat, H1[q]? = H[q]?) → va_S (fun q => B ≤ q) s.heap H1 locs1 → W p l e R s m args below meth c H1 locs1 nc ns Q (F0 m (pc + 3) L (.int (tx j.toNatClampNeg) :: st))) → W p l e R s m args below meth c H locs nc ns Q (F0 m pc L (.int j :: .ref (x 1) :: st))
def am_TxOK (l : Launch) (B : Nat) (x : Nat → Nat) (tx : Nat → Int32) (TX : State → Prop) : Prop :=
  ∀ (p : Program) (e : Env) (s : State) (m : MethodId) (args : Array Value) (below : List Frame) (meth : Method) (c : Code) (M : am_M), am_C p s m args meth c M → TX s → B ≤ s.heap.size → am_TxA p l e (am_rm M) s m args below meth c M x ∧ am_TxB p l e (am_rm M) s m args below meth c M B x tx
section AMR
variable {p : Program} {l : Launch} {e : Env} {R : Room} {s : State} {m : MethodId} {args : Array Value} {below : List Frame} {meth : Method} {c : Code} {D : va_G} {cl : List vw_C} {B : Nat} {x : Nat → Nat} {ex : Bool} {nL : Nat} {Q : State → Prop} {M M' : am_M} {f' : am_F}
variable {pc len : Nat} {ins : Instr} {an : Nat × Nat × Nat} {v0 : Int} {cs : List am_I} {ls : am_L} {st : List Value} {ks : List am_k} {h : am_H} {nc ns : Nat} {G : am_G} {rc : am_rec} {TX : State → Prop}
theorem am_s_ldcS {k : Nat} (hT : am_TxA p l e R s m args below meth c M x) (h0 : an.2.1 ≠ 0) {tx : String} (hw : Cond.stringRef M.1.2.1.cls k tx ∈ lw_tbl) (hd : decode M.1.2.2 pc = .ok (.ldc k, 2))
    (hone : am_one am_φ ex G rc M ((pc, 2, .ldc k, an, v0) :: cs, ls, st, ks, h, nc, ns) = some (.inl f')) (hW : am_Wf p l e R s m args below meth c D cl B x ex M.2.1.1 Q f') : am_Wf p l e R s m args below meth c D cl B x ex M.2.1.1 Q ((pc, 2, .ldc k, an, v0) :: cs, ls, st, ks, h, nc, ns) := by
  simp only [am_one] at hone
  intro H locs L j r hj hR hS hl
  cases hj
  exact hT k pc tx hd hw Q H locs L _ nc ns (am_go_use hone hW H locs L hR hS hl)
theorem am_s_charAt {idx : Nat} (hT : am_TxB p l e R s m args below meth c M B x G.2.2.2.1) (hRm : R = am_rm M) (h0 : an.2.2 = 0) (hw : Cond.methodLink M.1.2.1.cls idx am_charAt ∈ am_ts) (hd : decode M.1.2.2 pc = .ok (.invokevirtual idx, 3))
    (hone : am_one am_φ ex G rc M ((pc, 3, .invokevirtual idx, an, v0) :: cs, ls, st, ks, h, nc, ns) = some (.inl f')) (hW : am_Wf p l e R s m args below meth c D cl B x ex M.2.1.1 Q f') : am_Wf p l e R s m args below meth c D cl B x ex M.2.1.1 Q ((pc, 3, .invokevirtual idx, an, v0) :: cs, ls, st, ks, h, nc, ns) := by
  simp only [am_one, h0] at hone
  split at hone
  · rename_i j st0
    unfold am_text at hone
    cases hcc : (Nat.ble 8 M.2.2.1.1 && Nat.ble (am_cat st0) 8 && Nat.ble 200 M.2.2.1.2.1 && Nat.ble nc M.2.2.1.2.2.1 && Nat.ble ns M.2.2.1.2.2.2) with
    | false => rw [hcc] at hone; cases hone
    | true =>
    rw [hcc, cond_true] at hone
    simp only [Bool.and_eq_true] at hcc
    obtain ⟨⟨⟨⟨c1, c2⟩, c3⟩, c4⟩, c5⟩ := hcc
    obtain ⟨hin, hk⟩ := am_ix_use hone
    intro H locs L i r hj hR hS hl
    cases hj
    subst hRm
    refine hT idx pc hd hw Q H locs L _ nc ns j (Nat.le_of_ble_eq_true c1) (by rw [am_cat_map]; exact Nat.le_of_ble_eq_true c2) (Nat.le_of_ble_eq_true c3) (Nat.le_of_ble_eq_true c4) (Nat.le_of_ble_eq_true c5) hin hl.1 hS (fun H1 locs1 hsame hS1 => ?_)
    obtain ⟨hK, dA, hP, hA⟩ := hR
    exact am_go_use hk hW H1 locs1 L ⟨hK, dA, hP.kept (fun k q _ => hsame q.1), hA⟩ hS1 hl
  · cases hone
theorem am_step {i : am_I} (C : am_C p s m args meth c M) (hG : am_okG cl G) (hRm : R = am_rm M) (hB : B ≤ s.heap.size) (hTm : am_TXm B TX) (hT : TX s) (hTA : am_TxA p l e R s m args below meth c M x) (hTB : am_TxB p l e R s m args below meth c M B x G.2.2.2.1) (hscr : am_scr G B x s)
    (hrec : ∀ (a : Nat) (M' : am_M) (as : List Value) (ks : List am_k) (h : am_H) (r : am_O), G.1 a = some M' → am_cat as ≤ M'.2.1.1 → rc a as ks h = some r → am_Met l D cl B x ex TX M' as ks h r)
    (hLk : ∀ (hh : List (Nat × Nat × Nat × Nat)), am_okL G hh → ∀ (as : List Value) (ks : List am_k) (h : am_H) (r : am_O), G.2.2.2.2.2.2 as ks h = some r → am_MetL l D cl B x ex TX G.2.2.2.2.2.1 hh as ks h r)
    (hi : am_okI cl G M i) (hone : am_one am_φ ex G rc M (i :: cs, ls, st, ks, h, nc, ns) = some (.inl f')) (hW : am_Wf p l e R s m args below meth c D cl B x ex M.2.1.1 Q f') : am_Wf p l e R s m args below meth c D cl B x ex M.2.1.1 Q (i :: cs, ls, st, ks, h, nc, ns) := by
  obtain ⟨pc, len, ins, an, v0⟩ := i
  obtain ⟨hd, hi⟩ := hi
  dsimp only at hd hi
  cases ins with
  | aload k => dsimp only at hi; subst hi; exact am_s_aload C hd hone hW
  | iload k => dsimp only at hi; subst hi; exact am_s_iload C hd hone hW
  | lload k => dsimp only at hi; subst hi; exact am_s_lload C hd hone hW
  | istore k => dsimp only at hi; subst hi; exact am_s_istore C hd hone hW
  | lstore k => dsimp only at hi; subst hi; exact am_s_lstore C hd hone hW
  | astore k => dsimp only at hi; subst hi; exact am_s_astore C hd hone hW
  | bipush k => dsimp only at hi; subst hi; exact am_s_bipush C hd hone hW
  | iinc k n => dsimp only at hi; subst hi; exact am_s_iinc C hd hone hW
  | sipush k => dsimp only at hi; subst hi; exact am_s_sipush C hd hone hW
  | goto k => dsimp only at hi; subst hi; exact am_s_goto C hd hone hW
  | ifCond cn off =>
    obtain ⟨hi, hof⟩ := hi
    subst hi
    cases cn with
    | eq => exact am_s_if_eq C hd hof hone hW
    | ne => exact am_s_if_ne C hd hof hone hW
    | lt => exact am_s_if_lt C hd hof hone hW
    | ge => exact am_s_if_ge C hd hof hone hW
    | gt => exact am_s_if_gt C hd hof hone hW
    | le => exact am_s_if_le C hd hof hone hW
  | if_icmp cn off =>
    obtain ⟨hi, hof⟩ := hi
    subst hi
    cases cn with
    | eq => exact am_s_icmp_eq C hd hof hone hW
    | ne => exact am_s_icmp_ne C hd hof hone hW
    | lt => exact am_s_icmp_lt C hd hof hone hW
    | ge => exact am_s_icmp_ge C hd hof hone hW
    | gt => exact am_s_icmp_gt C hd hof hone hW
    | le => exact am_s_icmp_le C hd hof hone hW
  | tableswitch d lo hh offs => exact am_s_tsw C hd hone hW
  | ldc k =>
    obtain ⟨hi, hc⟩ := hi
    subst hi
    rcases hc with ⟨h0, hw⟩ | ⟨h0, tx, hw⟩
    · exact am_s_ldc C hd h0 hw hone hW
    · exact am_s_ldcS hTA h0 hw hd hone hW
  | ldc2_w k =>
    obtain ⟨hi, hw⟩ := hi
    subst hi
    exact am_s_ldc2 C hd hw hone hW
  | getfield k =>
    obtain ⟨hi, r, h1, h2, h3⟩ := hi
    subst hi
    exact am_s_getfield C hG hd h1 h2 h3 hone hW
  | putfield k =>
    obtain ⟨hi, r, h1, h2, h3⟩ := hi
    subst hi
    exact am_s_putfield C hG hd h1 h2 h3 hone hW
  | newarray t =>
    obtain ⟨hi, h1, h2⟩ := hi
    subst hi
    exact am_s_newarray C hRm hB h1 h2 hd hone hW
  | anewarray t =>
    obtain ⟨hi, r, h1, h2, h3⟩ := hi
    subst hi
    exact am_s_anewarray C hG hRm hB h1 h2 h3 hd hone hW
  | new t =>
    obtain ⟨hi, r, h1, h2⟩ := hi
    subst hi
    exact am_s_new C hG hRm hB h1 h2 hd hone hW
  | invokespecial k =>
    obtain ⟨hi, hc⟩ := hi
    subst hi
    rcases hc with ⟨h0, h1, h2, h3⟩ | ⟨h0, h1⟩
    · exact am_s_objInit C hRm h0 h1 h2 h3 hd hone hW
    · exact am_s_special C hG hRm hB hTm hT h0 hd h1 hrec hone hW
  | invokevirtual k =>
    obtain ⟨hi, hc⟩ := hi
    subst hi
    rcases hc with ⟨h0, h1⟩ | ⟨h0, h1⟩
    · exact am_s_charAt hTB hRm h0 h1 hd hone hW
    · exact am_s_virtual C hG hRm hB hTm hT h0 hd h1 hrec hone hW
  | invokestatic k =>
    obtain ⟨hi, hc⟩ := hi
    subst hi
    rcases hc with ⟨h0, hh, h1, h2⟩ | ⟨h0, h1, h2, h3, h4⟩ | ⟨h0, h1, h2, h3, h4⟩ | ⟨⟨k0, h0⟩, h1⟩
    · exact am_s_look C hRm hB hTm hT h0 hd h2 h1.1 h1.2.1 h1.2.2.1 h1.2.2.2 (hLk hh h1) hone hW
    · exact am_s_max C hRm h0 h1 h2 h3 h4 hd hone hW
    · exact am_s_min C hRm h0 h1 h2 h3 h4 hd hone hW
    · exact am_s_static C hRm hB hTm hT h0 hd h1 hrec hone hW
  | aload_n k => dsimp only at hi; subst hi; exact am_s_aload_n C hd hone hW
  | iload_n k => dsimp only at hi; subst hi; exact am_s_iload_n C hd hone hW
  | lload_n k => dsimp only at hi; subst hi; exact am_s_lload_n C hd hone hW
  | istore_n k => dsimp only at hi; subst hi; exact am_s_istore_n C hd hone hW
  | lstore_n k => dsimp only at hi; subst hi; exact am_s_lstore_n C hd hone hW
  | astore_n k => dsimp only at hi; subst hi; exact am_s_astore_n C hd hone hW
  | iconst k => dsimp only at hi; subst hi; exact am_s_iconst C hd hone hW
  | lconst k => dsimp only at hi; subst hi; exact am_s_lconst C hd hone hW
  | dup => dsimp only at hi; subst hi; exact am_s_dup C hd hone hW
  | dup2 => dsimp only at hi; subst hi; exact am_s_dup2 C hd hone hW
  | pop => dsimp only at hi; subst hi; exact am_s_pop C hd hone hW
  | iadd => dsimp only at hi; subst hi; exact am_s_iadd C hd hone hW
  | isub => dsimp only at hi; subst hi; exact am_s_isub C hd hone hW
  | imul => dsimp only at hi; subst hi; exact am_s_imul C hd hone hW
  | iand => dsimp only at hi; subst hi; exact am_s_iand C hd hone hW
  | ior => dsimp only at hi; subst hi; exact am_s_ior C hd hone hW
  | ishl => dsimp only at hi; subst hi; exact am_s_ishl C hd hone hW
  | ishr => dsimp only at hi; subst hi; exact am_s_ishr C hd hone hW
  | iushr => dsimp only at hi; subst hi; exact am_s_iushr C hd hone hW
  | idiv => dsimp only at hi; subst hi; exact am_s_idiv C hd hone hW
  | irem => dsimp only at hi; subst hi; exact am_s_irem C hd hone hW
  | ladd => dsimp only at hi; subst hi; exact am_s_ladd C hd hone hW
  | lsub => dsimp only at hi; subst hi; exact am_s_lsub C hd hone hW
  | lmul => dsimp only at hi; subst hi; exact am_s_lmul C hd hone hW
  | land => dsimp only at hi; subst hi; exact am_s_land C hd hone hW
  | ldiv => dsimp only at hi; subst hi; exact am_s_ldiv C hd hone hW
  | lrem => dsimp only at hi; subst hi; exact am_s_lrem C hd hone hW
  | lneg => dsimp only at hi; subst hi; exact am_s_lneg C hd hone hW
  | lcmp => dsimp only at hi; subst hi; exact am_s_lcmp C hd hone hW
  | i2l => dsimp only at hi; subst hi; exact am_s_i2l C hd hone hW
  | l2i => dsimp only at hi; subst hi; exact am_s_l2i C hd hone hW
  | iaload => dsimp only at hi; subst hi; exact am_s_iaload C hscr hd hone hW
  | baload => dsimp only at hi; subst hi; exact am_s_baload C hd hone hW
  | laload => dsimp only at hi; subst hi; exact am_s_laload C hd hone hW
  | aaload => dsimp only at hi; subst hi; exact am_s_aaload C hd hone hW
  | iastore => dsimp only at hi; subst hi; exact am_s_iastore C hd hone hW
  | bastore => dsimp only at hi; subst hi; exact am_s_bastore C hd hone hW
  | lastore => dsimp only at hi; subst hi; exact am_s_lastore C hd hone hW
  | aastore => dsimp only at hi; subst hi; exact am_s_aastore C hG hd hone hW
  | arraylength => dsimp only at hi; subst hi; exact am_s_arraylength C hscr hd hone hW
  | _ => simp [am_one] at hone
/-- the end of a method -/
theorem am_fin {i : am_I} {r : am_O} (C : am_C p s m args meth c M) (hi : am_okI cl G M i) (hend : am_end M (i :: cs, ls, st, ks, h, nc, ns) = some r) :
    am_Wf p l e R s m args below meth c D cl B x ex M.2.1.1 (MQ below (am_Qc D cl B x ex r) args s M.2.2.1.2.2.1 M.2.2.1.2.2.2 (fun q => B ≤ q)) (i :: cs, ls, st, ks, h, nc, ns) := by
  obtain ⟨pc, len, ins, an, v0⟩ := i
  obtain ⟨hx, hb, hml, hr, hown, hts, hlk, hnm, htn⟩ := C
  obtain ⟨hd, hi⟩ := hi
  dsimp only at hd hi
  have key : ∀ (v : Option Value), am_ret M v ks h nc ns = some r → r = (v, ks, h) ∧ nc ≤ M.2.2.1.2.2.1 ∧ ns ≤ M.2.2.1.2.2.2 := by
    intro v hv
    unfold am_ret at hv
    cases h2 : (Nat.ble nc M.2.2.1.2.2.1 && Nat.ble ns M.2.2.1.2.2.2) with
    | false => rw [h2] at hv; cases hv
    | true =>
      rw [h2, cond_true] at hv
      simp only [Bool.and_eq_true] at h2
      exact ⟨(Option.some.inj hv).symm, Nat.le_of_ble_eq_true h2.1, Nat.le_of_ble_eq_true h2.2⟩
  have post : ∀ (H : Heap) (locs : List Loc) (t : State), am_Rel D cl B x ex ks h (s.heap.size + nc) s H → t.heap = H → s.WarmedH t.vm → am_Rel D cl B x ex ks h (B + ks.length) t t.heap := by
    intro H locs t hR ht hWm
    refine am_Rel.moved hWm.alike ?_
    rw [ht]
    obtain ⟨hK, dA, hP, hA, hz⟩ := hR
    exact ⟨hK, dA, hP, hA, fun _ => rfl⟩
  cases ins with
  | ireturn =>
    dsimp only at hi
    subst hi
    simp only [am_end] at hend
    split at hend
    · rename_i v
      split at hend
      · rename_i ty hty
        cases h1 : am_fit ty (.int v) with
        | false => rw [h1] at hend; cases hend
        | true =>
          rw [h1, cond_true] at hend
          obtain ⟨rfl, k1, k2⟩ := key _ hend
          intro H locs L j r' hj hR hS hl
          cases hj
          refine W.widen k1 k2 ?_
          exact W.zret (v := v) hx hb (hr.trans hty) (am_fit_ok (B := 0) (x := fun _ => 0) h1).1 (fun t ht hWm => ⟨rfl, post H locs t hR ht hWm, hS.F ht⟩) hS.2.2 hd
      · cases hend
    · cases hend
  | lreturn =>
    dsimp only at hi
    subst hi
    simp only [am_end] at hend
    split at hend
    · rename_i v
      split at hend
      · rename_i hty
        obtain ⟨rfl, k1, k2⟩ := key _ hend
        intro H locs L j r' hj hR hS hl
        cases hj
        refine W.widen k1 k2 ?_
        exact W.lret (v := v) hx hb (hr.trans hty) (fun t ht hWm => ⟨rfl, post H locs t hR ht hWm, hS.F ht⟩) hS.2.2 hd
      · cases hend
    · cases hend
  | return_ =>
    dsimp only at hi
    subst hi
    simp only [am_end] at hend
    split at hend
    · split at hend
      · rename_i hty
        obtain ⟨rfl, k1, k2⟩ := key _ hend
        intro H locs L j r' hj hR hS hl
        cases hj
        refine W.widen k1 k2 ?_
        exact W.vret hx hb (hr.trans hty) (fun t ht hWm => ⟨rfl, post H locs t hR ht hWm, hS.F ht⟩) hS.2.2 hd
      · cases hend
    · cases hend
  | _ => simp [am_end] at hend
/-- what a program must show: of every method -/
def am_okP (cl : List vw_C) (G : am_G) : Prop := ∀ (a : Nat) (M : am_M), G.1 a = some M → am_okM G M ∧ (∀ i ∈ M.2.2.2, am_okI cl G M i) ∧ (M.2.2.2.head?.map (fun i => i.1)) = some 0
theorem am_lv_args (B : Nat) (x : Nat → Nat) : ∀ (as : List Value) (k : Nat), lv_args k (as.map (am_c B x)) = am_ls B x (lv_args k as)
  | [], _ => rfl
  | v :: as, k => by
    show (k, am_c B x v) :: lv_args (if (am_c B x v).category = 2 then k + 2 else k + 1) (as.map (am_c B x)) = (k, am_c B x v) :: am_ls B x (lv_args (if v.category = 2 then k + 2 else k + 1) as)
    rw [am_c_cat, am_lv_args B x as]
theorem am_lg_len : ∀ (as : List Value), (lg_sl as).length = am_cat as
  | [] => rfl
  | v :: as => by
    have ih := am_lg_len as
    have h1 : lg_sl (v :: as) = (if v.category = 2 then [Slot.val v, Slot.second] else [Slot.val v]) ++ lg_sl as := rfl
    have h2 : am_cat (v :: as) = v.category + am_cat as := by simp [am_cat]
    rw [h1, List.length_append, ih, h2]
    cases v <;> rfl
theorem am_seek_sub {t : Int} : ∀ {cd : List am_I} {i : am_I}, i ∈ am_seek cd t → i ∈ cd
  | [], _, h => by cases h
  | j :: cd, i, h => by
    unfold am_seek at h
    split at h
    · exact h
    · exact List.mem_cons_of_mem _ (am_seek_sub h)
end AMR
end
section
/-! ===== WHERE AN INSTRUCTION GOES ON: in the method's own code ===== -/
def am_sub (K : List am_I → Prop) (r : am_R) : Prop := ∀ f', r = some (.inl f') → K f'.1
section AMQ
variable {K : List am_I → Prop} {ex : Bool} {G : am_G} {rc : am_rec} {M M' : am_M} {i : am_I} {cs : List am_I} {ls : am_L} {st : List Value} {ks : List am_k} {h : am_H} {nc ns : Nat}
theorem am_sub_none : am_sub K none := fun _ h => by cases h
theorem am_sub_go {ls : am_L} {st : List Value} {ks : List am_k} {h : am_H} {nc ns : Nat} (hK : K cs) : am_sub K (am_go i cs ls st ks h nc ns) := by
  intro f' hf
  unfold am_go am_nx at hf
  split at hf
  · cases hf
  · rename_i j r
    cases hb : Nat.beq j.1 (i.1 + i.2.1) with
    | false => rw [hb] at hf; cases hf
    | true => rw [hb] at hf; cases hf; exact hK
theorem am_sub_cond {b : Bool} {r : am_R} (h : am_sub K r) : am_sub K (cond b r none) := by
  cases b
  · exact am_sub_none
  · exact h
theorem am_sub_ite {p : Prop} [Decidable p] {r : am_R} (h : am_sub K r) : am_sub K (if p then none else r) := by
  split
  · exact am_sub_none
  · exact h
theorem am_sub_jp {a : Nat} {t : Int} (hK : ∀ a, K (M.2.2.2.drop a)) : am_sub K (am_jp M a t ls st ks h nc ns) := by
  intro f' hf
  unfold am_jp at hf
  split at hf
  · cases hf
  · rename_i j r hd
    split at hf
    · cases hf
      have := hK a
      rw [hd] at this
      exact this
    · cases hf
theorem am_sub_sw {t : Int} (hK : ∀ t, K (am_seek M.2.2.2 t)) : am_sub K (am_sw M t ls st ks h nc ns) := by
  intro f' hf
  unfold am_sw at hf
  split at hf
  · cases hf
  · rename_i j r hd
    cases hf
    have := hK t
    rw [hd] at this
    exact this
theorem am_sub_br {b : Bool} {off : Int} {st : List Value} (h1 : K cs) (h2 : ∀ a, K (M.2.2.2.drop a)) : am_sub K (am_br M i cs b off ls st ks h nc ns) := by
  unfold am_br
  cases b
  · exact am_sub_go h1
  · exact am_sub_jp h2
theorem am_sub_ix {j : Int32} {n : Nat} {k : Nat → am_R} (h : ∀ q, am_sub K (k q)) : am_sub K (am_ix j n k) := am_sub_ite (h _)
theorem am_sub_pI {v : Value} {k : Value → am_R} (h : ∀ v, am_sub K (k v)) : am_sub K (am_pushI v k) := by
  unfold am_pushI; split
  · exact h _
  · exact am_sub_none
theorem am_sub_pL {v : Value} {k : Value → am_R} (h : ∀ v, am_sub K (k v)) : am_sub K (am_pushL v k) := by
  unfold am_pushL; split
  · exact h _
  · exact am_sub_none
theorem am_sub_pR {v : Value} {k : Value → am_R} (h : ∀ v, am_sub K (k v)) : am_sub K (am_pushR v k) := by
  unfold am_pushR; split
  · exact h _
  · exact am_sub_none
theorem am_sub_ald {a : Value} {j : Int32} {ty : FieldType} {k : Value → am_R} (hk : ∀ v, am_sub K (k v)) : am_sub K (am_ald G ks h a j ty k) := by
  unfold am_ald; split
  · split
    · exact am_sub_cond (am_sub_ix (fun _ => hk _))
    · exact am_sub_none
  · split
    · exact am_sub_cond (am_sub_ix (fun _ => hk _))
    · exact am_sub_none
  · exact am_sub_none
theorem am_sub_ast {a : Value} {j : Int32} {ty : FieldType} {v : Value} {k : am_H → am_R} (hk : ∀ v, am_sub K (k v)) : am_sub K (am_ast ks h a j ty v k) := by
  unfold am_ast; split
  · split
    · exact am_sub_cond (am_sub_ix (fun _ => hk _))
    · exact am_sub_none
  · exact am_sub_none
theorem am_sub_aald {o : Nat} {j : Int32} {k : Value → am_R} (hk : ∀ v, am_sub K (k v)) : am_sub K (am_aald ks h o j k) := by
  unfold am_aald; split
  · exact am_sub_ix (fun _ => hk _)
  · exact am_sub_none
theorem am_sub_aast {o v : Nat} {j : Int32} {k : am_H → am_R} (hk : ∀ v, am_sub K (k v)) : am_sub K (am_aast G ks h o j v k) := by
  unfold am_aast; split
  · split
    · exact am_sub_cond (am_sub_ix (fun _ => hk _))
    · exact am_sub_none
  · exact am_sub_none
theorem am_sub_len {a : Value} {k : Value → am_R} (hk : ∀ v, am_sub K (k v)) : am_sub K (am_len G ks a k) := by
  unfold am_len; split
  · split
    · exact hk _
    · exact am_sub_none
  · split
    · exact hk _
    · exact am_sub_none
  · exact am_sub_none
theorem am_sub_text {j : Int32} {st : List Value} (hK : K cs) : am_sub K (am_text G M i cs ls st ks h nc ns j) := am_sub_cond (am_sub_ix (fun _ => am_sub_go hK))
theorem am_sub_math {g : Int32 → Int32 → Int32} (hK : K cs) : am_sub K (am_math M i cs ls st ks h nc ns g) := by
  unfold am_math; split
  · exact am_sub_cond (am_sub_go hK)
  · exact am_sub_none
theorem am_sub_new (hK : K cs) : am_sub K (am_new G M ex i cs ls st ks h nc ns) := am_sub_cond (am_sub_go hK)
theorem am_sub_newA {ty : FieldType} (hK : K cs) : am_sub K (am_newA M ex ty i cs ls st ks h nc ns) := by
  unfold am_newA; split
  · exact am_sub_ite (am_sub_cond (am_sub_go hK))
  · exact am_sub_none
theorem am_sub_calls {a : Nat} {as rest : List Value} (hK : K cs) : am_sub K (am_calls ex M M' a rc i cs ls as rest ks h nc ns) := by
  unfold am_calls
  refine am_sub_cond ?_
  split
  · exact am_sub_none
  · exact am_sub_cond (am_sub_go hK)
theorem am_sub_callV (hK : K cs) : am_sub K (am_callV ex G M rc i cs ls st ks h nc ns) := by
  unfold am_callV; split
  · exact am_sub_none
  · split
    · split
      · exact am_sub_cond (am_sub_calls hK)
      · exact am_sub_none
    · exact am_sub_none
theorem am_sub_callL (hK : K cs) : am_sub K (am_callL ex G M i cs ls st ks h nc ns) := am_sub_cond (am_sub_calls hK)
theorem am_sub_callS (hK : K cs) : am_sub K (am_callS ex G M rc i cs ls st ks h nc ns) := by
  unfold am_callS; split
  · exact am_sub_none
  · exact am_sub_cond (am_sub_calls hK)
set_option maxHeartbeats 4000000 in
theorem am_one_sub (h1 : K cs) (h2 : ∀ a, K (M.2.2.2.drop a)) (h3 : ∀ t, K (am_seek M.2.2.2 t)) : am_sub K (am_one am_φ ex G rc M (i :: cs, ls, st, ks, h, nc, ns)) := by
  obtain ⟨pc, len, ins, an, v0⟩ := i
  cases ins <;> (simp only [am_one]) <;> (repeat' (first | with_reducible exact am_sub_none | with_reducible exact am_sub_go h1 | with_reducible exact am_sub_jp h2 | with_reducible exact am_sub_sw h3 | with_reducible exact am_sub_br h1 h2 | with_reducible exact am_sub_callV h1 | with_reducible exact am_sub_callS h1 | with_reducible exact am_sub_callL h1 | with_reducible exact am_sub_math h1 | with_reducible exact am_sub_new h1 | with_reducible exact am_sub_newA h1 | with_reducible exact am_sub_text h1 | with_reducible refine am_sub_cond ?_ | with_reducible refine am_sub_ite ?_ | with_reducible refine am_sub_pI (fun v => ?_) | with_reducible refine am_sub_pL (fun v => ?_) | with_reducible refine am_sub_pR (fun v => ?_) | with_reducible refine am_sub_ald (fun v => ?_) | with_reducible refine am_sub_ast (fun v => ?_) | with_reducible refine am_sub_aald (fun v => ?_) | with_reducible refine am_sub_aast (fun v => ?_) | with_reducible refine am_sub_len (fun v => ?_) | dsimp only [am_φ] | split))
end AMQ
/-! ===== THE CONTRACT OUT OF A RUN ===== -/
def am_TN (TX : State → Prop) : Prop := ∀ (U : State) (a : Array Value), TX U → ∀ w ∈ am_tn, w.before a U = true
theorem am_met_of {l : Launch} {D : va_G} {cl : List vw_C} {B : Nat} {x : Nat → Nat} {ex : Bool} {TX : State → Prop} {G : am_G} {M : am_M} {as : List Value} {ks : List am_k} {h : am_H} {r : am_O} (hTN : am_TN TX) (hok : am_okM G M) (hhd : (M.2.2.2.head?.map (fun i => i.1)) = some 0) (hcat : am_cat as ≤ M.2.1.1)
    (hW : ∀ (p : Program) (e : Env) (s : State) (m : MethodId) (args : Array Value) (below : List Frame) (meth : Method) (c : Code), am_C p s m args meth c M → TX s → B ≤ s.heap.size → am_Wf p l e (am_rm M) s m args below meth c D cl B x ex M.2.1.1 (MQ below (am_Qc D cl B x ex r) args s M.2.2.1.2.2.1 M.2.2.1.2.2.2 (fun q => B ≤ q)) (M.2.2.2, lv_args 0 as, [], ks, h, 0, 0)) : am_Met l D cl B x ex TX M as ks h r := by
  obtain ⟨m1, m2, m3, m4, m5⟩ := hok
  refine Met.ofW (cc := M.1.2.2) (maxL := M.2.1.1) (ret := M.2.1.2.1) m4 rfl ?_
  intro p e s m args below meth c s₁ Bd hml hv
  obtain ⟨rfl, hrel, hB, hT⟩ := hv
  have hts := atoms_spec (ws := am_ws M) Bd.pre
  have C : am_C p s m (as.map (am_c B x)).toArray meth c M := ⟨Bd.exec, Bd.bytes, hml, Bd.returns, findClass_of_methodNamed Bd.named, fun w hw => hts w (List.mem_cons_of_mem _ hw), Bd.notSynchronized, (name_of_methodNamed Bd.named Bd.method).1, fun w hw => hTN s _ hT w hw⟩
  have hl := lv_entry (as.map (am_c B x)) (n := M.2.1.1) (by rw [am_lg_len]; exact Nat.le_trans (Nat.le_of_eq (by rw [am_cat, am_cat_map])) hcat)
  rw [lg_entry_eq]
  rw [am_lv_args] at hl
  cases hcd : M.2.2.2 with
  | nil => rw [hcd] at hhd; cases hhd
  | cons j rr =>
    rw [hcd] at hhd
    have hj : j.1 = 0 := Option.some.inj hhd
    have h1 := hW p e s m (as.map (am_c B x)).toArray below meth c C hT hB s.heap [] _ j rr hcd hrel va_S.rf hl
    rw [hj] at h1
    exact h1
set_option maxHeartbeats 4000000 in
theorem am_run_ok {l : Launch} {D : va_G} {cl : List vw_C} {B : Nat} {x : Nat → Nat} {ex : Bool} {TX : State → Prop} {tx : Nat → Int32} (hTm : am_TXm B TX) (hTN : am_TN TX) (hTx : am_TxOK l B x tx TX) :
    ∀ (n : Nat) (G : am_G) (M : am_M) (f : am_F) (r : am_O), am_okG cl G → am_okP cl G → G.2.2.2.1 = tx → (∀ i ∈ f.1, am_okI cl G M i) → (∀ i ∈ M.2.2.2, am_okI cl G M i) → am_run am_φ ex n G M f = some r →
      (∀ (hh : List (Nat × Nat × Nat × Nat)), am_okL G hh → ∀ (as : List Value) (ks : List am_k) (h : am_H) (r : am_O), G.2.2.2.2.2.2 as ks h = some r → am_MetL l D cl B x ex TX G.2.2.2.2.2.1 hh as ks h r) →
      ∀ (p : Program) (e : Env) (s : State) (m : MethodId) (args : Array Value) (below : List Frame) (meth : Method) (c : Code), am_C p s m args meth c M → am_scr G B x s → TX s → B ≤ s.heap.size →
        am_Wf p l e (am_rm M) s m args below meth c D cl B x ex M.2.1.1 (MQ below (am_Qc D cl B x ex r) args s M.2.2.1.2.2.1 M.2.2.1.2.2.2 (fun q => B ≤ q)) f := by
  intro n
  induction n with
  | zero => intro G M f r _ _ _ _ _ h; cases h
  | succ n ih =>
    intro G M f r hG hP htx hf hM hrun hLk p e s m args below meth c C hscr hT hB
    obtain ⟨fc, ls, st, ks, h, nc, ns⟩ := f
    cases fc with
    | nil => intro H locs L j r' hj; cases hj
    | cons i cs =>
    have hun : am_run am_φ ex (n + 1) G M (i :: cs, ls, st, ks, h, nc, ns) = (match am_end M (i :: cs, ls, st, ks, h, nc, ns) with
      | some r => some r
      | none => match am_one am_φ ex G (fun a as ks h => match G.1 a with
          | none => none
          | some M' => am_run am_φ ex n (am_noS G) M' (M'.2.2.2, lv_args 0 as, [], ks, h, 0, 0)) M (i :: cs, ls, st, ks, h, nc, ns) with
        | some (.inl f') => am_run am_φ ex n G M f'
        | _ => none) := rfl
    rw [hun] at hrun
    have hi : am_okI cl G M i := hf i List.mem_cons_self
    split at hrun
    · rename_i r0 hend
      cases hrun
      exact am_fin C hi hend
    · split at hrun
      · rename_i f' hone
        obtain ⟨hTA, hTB⟩ := hTx p e s m args below meth c M C hT hB
        refine am_step C hG rfl hB hTm hT hTA (by rw [htx]; exact hTB) hscr ?_ hLk hi hone ?_
        · intro a M' as ks h r hM' hcat hrc
          rw [hM'] at hrc
          dsimp only at hrc
          obtain ⟨q1, q2, q3⟩ := hP a M' hM'
          refine am_met_of (G := G) hTN q1 q3 hcat ?_
          intro p e s m args below meth c C hT hB
          exact ih (am_noS G) M' _ r hG hP htx q2 q2 hrc (fun _ _ _ _ _ _ h9 => by cases h9) p e s m args below meth c C (fun L xs h9 => by cases h9) hT hB
        · refine ih G M f' r hG hP htx ?_ hM hrun hLk p e s m args below meth c C hscr hT hB
          exact am_one_sub (K := fun l => ∀ i ∈ l, am_okI cl G M i) (fun j hj => hf j (List.mem_cons_of_mem _ hj)) (fun a j hj => hM j (List.mem_of_mem_drop hj)) (fun t j hj => hM j (am_seek_sub hj)) f' hone
      · cases hrun
/-- a method's contract, for every heap and arguments at which the small machine comes to an end -/
theorem am_met {l : Launch} {D : va_G} {cl : List vw_C} {B : Nat} {x : Nat → Nat} {ex : Bool} {TX : State → Prop} (hTm : am_TXm B TX) (hTN : am_TN TX) {G : am_G} (hTx : am_TxOK l B x G.2.2.2.1 TX) (hG : am_okG cl G) (hP : am_okP cl G) {a n : Nat} {M : am_M} {as : List Value} {ks : List am_k} {h : am_H} {r : am_O} (hM : G.1 a = some M) (hcat : am_cat as ≤ M.2.1.1)
    (hrun : am_run am_φ ex n (am_noS G) M (M.2.2.2, lv_args 0 as, [], ks, h, 0, 0) = some r) : am_Met l D cl B x ex TX M as ks h r := by
  obtain ⟨q1, q2, q3⟩ := hP a M hM
  refine am_met_of (G := G) hTN q1 q3 hcat ?_
  intro p e s m args below meth c C hT hB
  exact am_run_ok hTm hTN hTx n (am_noS G) M _ r hG hP rfl q2 q2 hrun (fun _ _ _ _ _ _ h9 => by cases h9) p e s m args below meth c C (fun L xs h9 => by cases h9) hT hB
end
section
/-! ===== THE PROGRAM AS DATA: written by a program (wip/p1/mktab.py) out of the Statement ===== -/
def am_cls : List vw_C := [
  ("AirBed", (fun k => ([("AirBed", "tape", "[I", true), ("AirBed", "taped", "I", false), ("AirBed", "plan", "LAirBed$Plan;", false), ("AirBed", "draft", "LAirBed$Plan;", false), ("AirBed", "reader", "LAirBed$Reader;", true), ("AirBed", "now", "LAirBed$State;", true), ("AirBed", "start", "LAirBed$State;", true), ("AirBed", "image", "LAirBed$State;", true), ("AirBed", "imaged", "Z", false), ("AirBed", "history", "LAirBed$History;", true), ("AirBed", "cheeks", "LAirBed$Cheeks;", true), ("AirBed", "sim", "LAirBed$Sim;", true), ("AirBed", "other", "LAirBed$Sim;", true), ("AirBed", "rules", "LAirBed$Rules;", true), ("AirBed", "bestTurns", "LAirBed$Best;", true), ("AirBed", "search", "LAirBed$Search;", true)] : List (String × String × String × Bool)).getD k ("", "", "", false)), 16),
  ("AirBed$Plan", (fun k => ([("AirBed$Plan", "holds", "I", false), ("AirBed$Plan", "first", "I", false), ("AirBed$Plan", "blowers", "I", false), ("AirBed$Plan", "blower", "[LAirBed$Blower;", true), ("AirBed$Plan", "turns", "I", false), ("AirBed$Plan", "turnBlower", "[I", true), ("AirBed$Plan", "turnBreaths", "[I", true), ("AirBed$Plan", "pumpFills", "I", false), ("AirBed$Plan", "pumpLent", "I", false), ("AirBed$Plan", "leaks", "I", false), ("AirBed$Plan", "weight", "[I", true), ("AirBed$Plan", "loses", "[I", true), ("AirBed$Plan", "trials", "I", false), ("AirBed$Plan", "trialLetters", "[I", true), ("AirBed$Plan", "finds", "[I", true), ("AirBed$Plan", "trialSeconds", "[I", true), ("AirBed$Plan", "slip", "I", false), ("AirBed$Plan", "seed", "I", false), ("AirBed$Plan", "real", "I", false), ("AirBed$Plan", "laws", "LAirBed$Laws;", true)] : List (String × String × String × Bool)).getD k ("", "", "", false)), 20),
  ("AirBed$Laws", (fun k => ([("AirBed$Laws", "knots", "I", false), ("AirBed$Laws", "length", "I", false), ("AirBed$Laws", "ops", "[I", true), ("AirBed$Laws", "values", "[I", true), ("AirBed$Laws", "from", "[I", true), ("AirBed$Laws", "to", "[I", true), ("AirBed$Laws", "asksLoad", "[Z", true), ("AirBed$Laws", "names", "[J", true), ("AirBed$Laws", "stack", "[J", true)] : List (String × String × String × Bool)).getD k ("", "", "", false)), 9),
  ("AirBed$Blower", (fun k => ([("AirBed$Blower", "letters", "I", false), ("AirBed$Blower", "breath", "I", false), ("AirBed$Blower", "less", "I", false), ("AirBed$Blower", "times", "I", false), ("AirBed$Blower", "takes", "I", false), ("AirBed$Blower", "rests", "I", false), ("AirBed$Blower", "hands", "I", false), ("AirBed$Blower", "cost", "I", false)] : List (String × String × String × Bool)).getD k ("", "", "", false)), 8),
  ("AirBed$Reader", (fun k => ([("AirBed$Reader", "lines", "I", false), ("AirBed$Reader", "fault", "I", false), ("AirBed$Reader", "faultAt", "I", false), ("AirBed$Reader", "words", "[I", true), ("AirBed$Reader", "tape", "[I", false), ("AirBed$Reader", "length", "I", false), ("AirBed$Reader", "plan", "LAirBed$Plan;", false), ("AirBed$Reader", "told", "I", false), ("AirBed$Reader", "next", "I", false), ("AirBed$Reader", "at", "I", false), ("AirBed$Reader", "kind", "I", false), ("AirBed$Reader", "value", "I", false), ("AirBed$Reader", "pending", "[I", true), ("AirBed$Reader", "pendings", "I", false), ("AirBed$Reader", "opened", "I", false)] : List (String × String × String × Bool)).getD k ("", "", "", false)), 15),
  ("AirBed$State", (fun k => ([("AirBed$State", "full", "I", false), ("AirBed$State", "seconds", "I", false), ("AirBed$State", "last", "I", false), ("AirBed$State", "left", "I", false), ("AirBed$State", "patched", "I", false), ("AirBed$State", "since", "[I", true), ("AirBed$State", "all", "[I", true), ("AirBed$State", "end", "[I", true)] : List (String × String × String × Bool)).getD k ("", "", "", false)), 8),
  ("AirBed$History", (fun k => ([("AirBed$History", "states", "[LAirBed$State;", true), ("AirBed$History", "next", "I", false), ("AirBed$History", "size", "I", false)] : List (String × String × String × Bool)).getD k ("", "", "", false)), 3),
  ("AirBed$Cheeks", (fun k => ([("AirBed$Cheeks", "size", "I", false), ("AirBed$Cheeks", "known", "I", false), ("AirBed$Cheeks", "kind", "[I", true), ("AirBed$Cheeks", "about", "[I", true), ("AirBed$Cheeks", "breaths", "[I", true), ("AirBed$Cheeks", "full", "[I", true), ("AirBed$Cheeks", "struck", "[Z", true)] : List (String × String × String × Bool)).getD k ("", "", "", false)), 7),
  ("AirBed$Sim", (fun k => ([("AirBed$Sim", "plan", "LAirBed$Plan;", false), ("AirBed$Sim", "state", "LAirBed$State;", true), ("AirBed$Sim", "real", "I", false), ("AirBed$Sim", "unloaded", "Z", false), ("AirBed$Sim", "pumping", "Z", false), ("AirBed$Sim", "limit", "I", false), ("AirBed$Sim", "least", "I", false)] : List (String × String × String × Bool)).getD k ("", "", "", false)), 7),
  ("AirBed$Rules", (fun k => ([("AirBed$Rules", "sim", "LAirBed$Sim;", true), ("AirBed$Rules", "most", "I", false), ("AirBed$Rules", "whole", "I", false)] : List (String × String × String × Bool)).getD k ("", "", "", false)), 3),
  ("AirBed$Best", (fun k => ([("AirBed$Best", "first", "LAirBed$Sim;", true), ("AirBed$Best", "second", "LAirBed$Sim;", true), ("AirBed$Best", "row", "[I", true), ("AirBed$Best", "found", "Z", false)] : List (String × String × String × Bool)).getD k ("", "", "", false)), 4),
  ("AirBed$Search", (fun k => ([("AirBed$Search", "leak", "I", false), ("AirBed$Search", "trial", "I", false), ("AirBed$Search", "left", "[J", true), ("AirBed$Search", "looks", "[I", true)] : List (String × String × String × Bool)).getD k ("", "", "", false)), 4),
  ("AirBedModel", (fun k => ([("AirBedModel", "tape", "[I", true), ("AirBedModel", "tapeSize", "I", false), ("AirBedModel", "thrown", "I", false), ("AirBedModel", "words", "[I", true), ("AirBedModel", "fault", "I", false), ("AirBedModel", "faultPlace", "I", false), ("AirBedModel", "stop", "I", false), ("AirBedModel", "next", "I", false), ("AirBedModel", "kind", "I", false), ("AirBedModel", "which", "I", false), ("AirBedModel", "at", "I", false), ("AirBedModel", "got", "I", false), ("AirBedModel", "blowers", "I", false), ("AirBedModel", "turns", "I", false), ("AirBedModel", "leaks", "I", false), ("AirBedModel", "trials", "I", false), ("AirBedModel", "knots", "I", false), ("AirBedModel", "blowersRead", "I", false), ("AirBedModel", "turnsRead", "I", false), ("AirBedModel", "leaksRead", "I", false), ("AirBedModel", "trialsRead", "I", false), ("AirBedModel", "knotsRead", "I", false), ("AirBedModel", "onceTold", "[Z", true), ("AirBedModel", "once", "[I", true), ("AirBedModel", "blowerName", "[I", true), ("AirBedModel", "has", "[I", true), ("AirBedModel", "turnBy", "[I", true), ("AirBedModel", "turnMany", "[I", true), ("AirBedModel", "leakWeight", "[I", true), ("AirBedModel", "leakLoses", "[I", true), ("AirBedModel", "trialName", "[I", true), ("AirBedModel", "trialFinds", "[I", true), ("AirBedModel", "trialTime", "[I", true), ("AirBedModel", "lawTold", "[Z", true), ("AirBedModel", "first", "[I", true), ("AirBedModel", "last", "[I", true), ("AirBedModel", "knot", "[I", true), ("AirBedModel", "part", "[I", true), ("AirBedModel", "other", "[I", true), ("AirBedModel", "wait", "[I", true), ("AirBedModel", "held", "[I", true), ("AirBedModel", "waits", "I", false), ("AirBedModel", "helds", "I", false), ("AirBedModel", "brackets", "I", false), ("AirBedModel", "counted", "I", false), ("AirBedModel", "wants", "Z", false), ("AirBedModel", "mayNot", "Z", false), ("AirBedModel", "names", "[J", true), ("AirBedModel", "value", "[J", true), ("AirBedModel", "isError", "Z", false), ("AirBedModel", "full", "[I", true), ("AirBedModel", "second", "[I", true), ("AirBedModel", "blew", "[I", true), ("AirBedModel", "did", "[I", true), ("AirBedModel", "allDid", "[I", true), ("AirBedModel", "ended", "[I", true), ("AirBedModel", "lent", "[I", true), ("AirBedModel", "patched", "I", false), ("AirBedModel", "real", "I", false), ("AirBedModel", "drawn", "J", false), ("AirBedModel", "noLeak", "Z", false), ("AirBedModel", "noLoad", "Z", false), ("AirBedModel", "realAs", "I", false), ("AirBedModel", "begins", "I", false), ("AirBedModel", "mostFull", "I", false), ("AirBedModel", "rounds", "I", false), ("AirBedModel", "bestFull", "I", false), ("AirBedModel", "bestTime", "I", false), ("AirBedModel", "bestRow", "[I", true), ("AirBedModel", "ups", "I", false), ("AirBedModel", "upWanted", "I", false), ("AirBedModel", "weight", "[J", true), ("AirBedModel", "looked", "[I", true), ("AirBedModel", "cheeks", "I", false), ("AirBedModel", "knownTold", "I", false), ("AirBedModel", "cheek", "[I", true), ("AirBedModel", "counts", "[Z", true), ("AirBedModel", "undos", "I", false), ("AirBedModel", "undo", "[I", true), ("AirBedModel", "hasImage", "Z", false), ("AirBedModel", "image", "[I", true)] : List (String × String × String × Bool)).getD k ("", "", "", false)), 81)]
def am_tys (ci : Nat) : List FieldType := ([[.array (.int), .int, .object "AirBed$Plan", .object "AirBed$Plan", .object "AirBed$Reader", .object "AirBed$State", .object "AirBed$State", .object "AirBed$State", .boolean, .object "AirBed$History", .object "AirBed$Cheeks", .object "AirBed$Sim", .object "AirBed$Sim", .object "AirBed$Rules", .object "AirBed$Best", .object "AirBed$Search"], [.int, .int, .int, .array (.object "AirBed$Blower"), .int, .array (.int), .array (.int), .int, .int, .int, .array (.int), .array (.int), .int, .array (.int), .array (.int), .array (.int), .int, .int, .int, .object "AirBed$Laws"], [.int, .int, .array (.int), .array (.int), .array (.int), .array (.int), .array (.boolean), .array (.long), .array (.long)], [.int, .int, .int, .int, .int, .int, .int, .int], [.int, .int, .int, .array (.int), .array (.int), .int, .object "AirBed$Plan", .int, .int, .int, .int, .int, .array (.int), .int, .int], [.int, .int, .int, .int, .int, .array (.int), .array (.int), .array (.int)], [.array (.object "AirBed$State"), .int, .int], [.int, .int, .array (.int), .array (.int), .array (.int), .array (.int), .array (.boolean)], [.object "AirBed$Plan", .object "AirBed$State", .int, .boolean, .boolean, .int, .int], [.object "AirBed$Sim", .int, .int], [.object "AirBed$Sim", .object "AirBed$Sim", .array (.int), .boolean], [.int, .int, .array (.long), .array (.int)], [.array (.int), .int, .int, .array (.int), .int, .int, .int, .int, .int, .int, .int, .int, .int, .int, .int, .int, .int, .int, .int, .int, .int, .int, .array (.boolean), .array (.int), .array (.int), .array (.int), .array (.int), .array (.int), .array (.int), .array (.int), .array (.int), .array (.int), .array (.int), .array (.boolean), .array (.int), .array (.int), .array (.int), .array (.int), .array (.int), .array (.int), .array (.int), .int, .int, .int, .int, .boolean, .boolean, .array (.long), .array (.long), .boolean, .array (.int), .array (.int), .array (.int), .array (.int), .array (.int), .array (.int), .array (.int), .int, .int, .long, .boolean, .boolean, .int, .int, .int, .int, .int, .int, .array (.int), .int, .int, .array (.long), .array (.int), .int, .int, .array (.int), .array (.boolean), .int, .array (.int), .boolean, .array (.int)]] : List (List FieldType)).getD ci []
def am_nms (ci : Nat) : String := (["AirBed", "AirBed$Plan", "AirBed$Laws", "AirBed$Blower", "AirBed$Reader", "AirBed$State", "AirBed$History", "AirBed$Cheeks", "AirBed$Sim", "AirBed$Rules", "AirBed$Best", "AirBed$Search", "AirBedModel", "AirBedLaw"] : List String).getD ci ""
def am_txt (k : Nat) : Int32 := ([98, 101, 100, 32, 32, 32, 98, 108, 111, 119, 101, 114, 116, 117, 114, 110, 32, 32, 112, 117, 109, 112, 32, 32, 108, 101, 97, 107, 32, 32, 116, 114, 105, 97, 108, 32, 115, 108, 105, 112, 32, 32, 115, 101, 101, 100, 32, 32, 108, 97, 119, 32, 32, 32, 108, 111, 115, 101, 32, 32, 102, 105, 108, 108, 32, 32, 108, 111, 97, 100, 32, 32, 102, 117, 108, 108, 32, 32, 114, 111, 111, 109, 32, 32, 111, 112, 101, 110, 32, 32, 115, 101, 99, 111, 110, 100, 98, 114, 101, 97, 116, 104, 111, 114, 32, 32, 32, 32, 97, 110, 100, 32, 32, 32, 110, 111, 116, 32, 32, 32] : List Int32).getD k 0
def am_m0_c0 : List am_I := [(0, 1, .aload_n 0, (0, 0, 0), 0), (1, 3, .invokespecial 3, (0, 146, 0), 0), (4, 1, .aload_n 0, (0, 0, 0), 0), (5, 3, .sipush 700, (0, 0, 0), 0), (8, 2, .newarray .int, (0, 0, 195), 0), (10, 3, .putfield 11, (0, 0, 661), 0), (13, 1, .aload_n 0, (0, 0, 0), 0), (14, 3, .new 15, (1, 149, 0), 0), (17, 1, .dup, (0, 0, 0), 0), (18, 3, .invokespecial 17, (1, 151, 3), 0), (21, 3, .putfield 18, (0, 2, 663), 0), (24, 1, .aload_n 0, (0, 0, 0), 0), (25, 3, .new 15, (1, 149, 0), 0), (28, 1, .dup, (0, 0, 0), 0), (29, 3, .invokespecial 17, (1, 151, 3), 0), (32, 3, .putfield 22, (0, 3, 664), 0), (35, 1, .aload_n 0, (0, 0, 0), 0), (36, 3, .new 25, (4, 359, 0), 0), (39, 1, .dup, (0, 0, 0), 0), (40, 1, .aload_n 0, (0, 0, 0), 0), (41, 3, .getfield 22, (0, 3, 664), 0), (44, 3, .invokespecial 27, (6, 361, 3), 0), (47, 3, .putfield 30, (0, 4, 665), 0), (50, 1, .aload_n 0, (0, 0, 0), 0), (51, 3, .new 34, (5, 456, 0), 0), (54, 1, .dup, (0, 0, 0), 0), (55, 3, .invokespecial 36, (7, 458, 3), 0), (58, 3, .putfield 37, (0, 5, 666), 0), (61, 1, .aload_n 0, (0, 0, 0), 0), (62, 3, .new 34, (5, 456, 0), 0), (65, 1, .dup, (0, 0, 0), 0), (66, 3, .invokespecial 36, (7, 458, 3), 0), (69, 3, .putfield 41, (0, 6, 667), 0), (72, 1, .aload_n 0, (0, 0, 0), 0), (73, 3, .new 34, (5, 456, 0), 0), (76, 1, .dup, (0, 0, 0), 0), (77, 3, .invokespecial 36, (7, 458, 3), 0), (80, 3, .putfield 44, (0, 7, 668), 0), (83, 1, .aload_n 0, (0, 0, 0), 0), (84, 3, .new 47, (6, 504, 0), 0), (87, 1, .dup, (0, 0, 0), 0), (88, 3, .invokespecial 49, (8, 506, 3), 0), (91, 3, .putfield 50, (0, 9, 670), 0), (94, 1, .aload_n 0, (0, 0, 0), 0), (95, 3, .new 54, (7, 524, 0), 0), (98, 1, .dup, (0, 0, 0), 0), (99, 3, .invokespecial 56, (9, 526, 3), 0), (102, 3, .putfield 57, (0, 10, 671), 0), (105, 1, .aload_n 0, (0, 0, 0), 0), (106, 3, .new 61, (8, 558, 0), 0), (109, 1, .dup, (0, 0, 0), 0), (110, 1, .aload_n 0, (0, 0, 0), 0), (111, 3, .getfield 18, (0, 2, 663), 0), (114, 3, .invokespecial 63, (10, 560, 3), 0), (117, 3, .putfield 64, (0, 11, 672), 0), (120, 1, .aload_n 0, (0, 0, 0), 0), (121, 3, .new 61, (8, 558, 0), 0), (124, 1, .dup, (0, 0, 0), 0), (125, 1, .aload_n 0, (0, 0, 0), 0), (126, 3, .getfield 18, (0, 2, 663), 0)]
def am_m0_c1 : List am_I := [(129, 3, .invokespecial 63, (10, 560, 3), 0), (132, 3, .putfield 68, (0, 12, 673), 0), (135, 1, .aload_n 0, (0, 0, 0), 0), (136, 3, .new 71, (9, 598, 0), 0), (139, 1, .dup, (0, 0, 0), 0), (140, 1, .aload_n 0, (0, 0, 0), 0), (141, 3, .getfield 64, (0, 11, 672), 0), (144, 3, .invokespecial 73, (11, 600, 3), 0), (147, 3, .putfield 76, (0, 13, 674), 0), (150, 1, .aload_n 0, (0, 0, 0), 0), (151, 3, .new 80, (10, 616, 0), 0), (154, 1, .dup, (0, 0, 0), 0), (155, 1, .aload_n 0, (0, 0, 0), 0), (156, 3, .getfield 64, (0, 11, 672), 0), (159, 1, .aload_n 0, (0, 0, 0), 0), (160, 3, .getfield 68, (0, 12, 673), 0), (163, 3, .invokespecial 82, (12, 618, 3), 0), (166, 3, .putfield 85, (0, 14, 675), 0), (169, 1, .aload_n 0, (0, 0, 0), 0), (170, 3, .new 89, (11, 636, 0), 0), (173, 1, .dup, (0, 0, 0), 0), (174, 3, .invokespecial 91, (13, 638, 3), 0), (177, 3, .putfield 92, (0, 15, 676), 0), (180, 1, .aload_n 0, (0, 0, 0), 0), (181, 3, .getfield 37, (0, 5, 666), 0), (184, 1, .aload_n 0, (0, 0, 0), 0), (185, 3, .getfield 18, (0, 2, 663), 0), (188, 3, .invokevirtual 96, (14, 657, 3), 0), (191, 1, .return_, (0, 0, 0), 0)]
-- AirBed.<init>()V
def am_m0 : am_M := ((0, ⟨"AirBed", "<init>", "()V"⟩, prog_1_method_1_code), (1, none, 0), (9, 224, 163, 2118), am_m0_c0 ++ (am_m0_c1))
def am_m1_c0 : List am_I := [(0, 1, .aload_n 0, (0, 0, 0), 0), (1, 3, .invokespecial 3, (0, 154, 0), 0), (4, 1, .aload_n 0, (0, 0, 0), 0), (5, 1, .iconst 4, (0, 0, 0), 0), (6, 3, .anewarray 9, (3, 155, 156), 0), (9, 3, .putfield 11, (1, 3, 260), 0), (12, 1, .aload_n 0, (0, 0, 0), 0), (13, 2, .bipush 8, (0, 0, 0), 0), (15, 2, .newarray .int, (0, 0, 195), 0), (17, 3, .putfield 17, (1, 5, 270), 0), (20, 1, .aload_n 0, (0, 0, 0), 0), (21, 2, .bipush 8, (0, 0, 0), 0), (23, 2, .newarray .int, (0, 0, 195), 0), (25, 3, .putfield 21, (1, 6, 273), 0), (28, 1, .aload_n 0, (0, 0, 0), 0), (29, 2, .bipush 6, (0, 0, 0), 0), (31, 2, .newarray .int, (0, 0, 195), 0), (33, 3, .putfield 24, (1, 10, 287), 0), (36, 1, .aload_n 0, (0, 0, 0), 0), (37, 2, .bipush 6, (0, 0, 0), 0), (39, 2, .newarray .int, (0, 0, 195), 0), (41, 3, .putfield 27, (1, 11, 291), 0), (44, 1, .aload_n 0, (0, 0, 0), 0), (45, 1, .iconst 3, (0, 0, 0), 0), (46, 2, .newarray .int, (0, 0, 195), 0), (48, 3, .putfield 30, (1, 13, 298), 0), (51, 1, .aload_n 0, (0, 0, 0), 0), (52, 1, .iconst 3, (0, 0, 0), 0), (53, 2, .newarray .int, (0, 0, 195), 0), (55, 3, .putfield 33, (1, 14, 300), 0), (58, 1, .aload_n 0, (0, 0, 0), 0), (59, 1, .iconst 3, (0, 0, 0), 0), (60, 2, .newarray .int, (0, 0, 195), 0), (62, 3, .putfield 36, (1, 15, 303), 0), (65, 1, .aload_n 0, (0, 0, 0), 0), (66, 3, .new 39, (2, 157, 0), 0), (69, 1, .dup, (0, 0, 0), 0), (70, 3, .invokespecial 41, (2, 159, 3), 0), (73, 3, .putfield 42, (1, 19, 314), 0), (76, 1, .iconst 0, (0, 0, 0), 0), (77, 1, .istore_n 1, (0, 0, 0), 0), (78, 1, .iload_n 1, (0, 0, 0), 0), (79, 1, .iconst 4, (0, 0, 0), 0), (80, 3, .if_icmp .ge 22, (53, 0, 0), 0), (83, 1, .aload_n 0, (0, 0, 0), 0), (84, 3, .getfield 11, (1, 3, 260), 0), (87, 1, .iload_n 1, (0, 0, 0), 0), (88, 3, .new 9, (3, 155, 0), 0), (91, 1, .dup, (0, 0, 0), 0), (92, 3, .invokespecial 46, (3, 199, 3), 0), (95, 1, .aastore, (0, 0, 0), 0), (96, 3, .iinc 1 1, (0, 0, 0), 0), (99, 3, .goto (-21), (41, 0, 0), 0), (102, 1, .aload_n 0, (0, 0, 0), 0), (103, 3, .invokevirtual 47, (4, 240, 3), 0), (106, 1, .return_, (0, 0, 0), 0)]
-- AirBed$Plan.<init>()V
def am_m1 : am_M := ((1, ⟨"AirBed$Plan", "<init>", "()V"⟩, prog_7_method_1_code), (2, none, 0), (2, 41, 20, 289), am_m1_c0)
def am_m2_c0 : List am_I := [(0, 1, .aload_n 0, (0, 0, 0), 0), (1, 3, .invokespecial 3, (0, 162, 0), 0), (4, 1, .aload_n 0, (0, 0, 0), 0), (5, 2, .bipush 64, (0, 0, 0), 0), (7, 2, .newarray .int, (0, 0, 195), 0), (9, 3, .putfield 9, (2, 2, 167), 0), (12, 1, .aload_n 0, (0, 0, 0), 0), (13, 2, .bipush 64, (0, 0, 0), 0), (15, 2, .newarray .int, (0, 0, 195), 0), (17, 3, .putfield 15, (2, 3, 168), 0), (20, 1, .aload_n 0, (0, 0, 0), 0), (21, 1, .iconst 3, (0, 0, 0), 0), (22, 2, .newarray .int, (0, 0, 195), 0), (24, 3, .putfield 18, (2, 4, 169), 0), (27, 1, .aload_n 0, (0, 0, 0), 0), (28, 1, .iconst 3, (0, 0, 0), 0), (29, 2, .newarray .int, (0, 0, 195), 0), (31, 3, .putfield 21, (2, 5, 170), 0), (34, 1, .aload_n 0, (0, 0, 0), 0), (35, 1, .iconst 3, (0, 0, 0), 0), (36, 2, .newarray .boolean, (0, 0, 196), 0), (38, 3, .putfield 24, (2, 6, 171), 0), (41, 1, .aload_n 0, (0, 0, 0), 0), (42, 2, .bipush 6, (0, 0, 0), 0), (44, 2, .newarray .long, (0, 0, 197), 0), (46, 3, .putfield 28, (2, 7, 173), 0), (49, 1, .aload_n 0, (0, 0, 0), 0), (50, 2, .bipush 64, (0, 0, 0), 0), (52, 2, .newarray .long, (0, 0, 197), 0), (54, 3, .putfield 32, (2, 8, 175), 0), (57, 1, .return_, (0, 0, 0), 0)]
-- AirBed$Laws.<init>()V
def am_m2 : am_M := ((2, ⟨"AirBed$Laws", "<init>", "()V"⟩, prog_6_method_1_code), (1, none, 0), (1, 20, 7, 207), am_m2_c0)
def am_m3_c0 : List am_I := [(0, 1, .aload_n 0, (0, 0, 0), 0), (1, 3, .invokespecial 1, (0, 202, 0), 0), (4, 1, .return_, (0, 0, 0), 0)]
-- AirBed$Blower.<init>()V
def am_m3 : am_M := ((3, ⟨"AirBed$Blower", "<init>", "()V"⟩, prog_3_method_1_code), (1, none, 0), (1, 20, 0, 0), am_m3_c0)
def am_m4_c0 : List am_I := [(0, 1, .aload_n 0, (0, 0, 0), 0), (1, 3, .sipush 500, (0, 0, 0), 0), (4, 3, .putfield 50, (1, 0, 248), 0), (7, 1, .aload_n 0, (0, 0, 0), 0), (8, 1, .iconst 0, (0, 0, 0), 0), (9, 3, .putfield 54, (1, 1, 253), 0), (12, 1, .aload_n 0, (0, 0, 0), 0), (13, 1, .iconst 0, (0, 0, 0), 0), (14, 3, .putfield 57, (1, 2, 256), 0), (17, 1, .aload_n 0, (0, 0, 0), 0), (18, 1, .iconst 0, (0, 0, 0), 0), (19, 3, .putfield 60, (1, 4, 266), 0), (22, 1, .aload_n 0, (0, 0, 0), 0), (23, 1, .iconst 0, (0, 0, 0), 0), (24, 3, .putfield 63, (1, 7, 276), 0), (27, 1, .aload_n 0, (0, 0, 0), 0), (28, 1, .iconst 0, (0, 0, 0), 0), (29, 3, .putfield 66, (1, 8, 280), 0), (32, 1, .aload_n 0, (0, 0, 0), 0), (33, 1, .iconst 0, (0, 0, 0), 0), (34, 3, .putfield 69, (1, 9, 284), 0), (37, 1, .aload_n 0, (0, 0, 0), 0), (38, 1, .iconst 0, (0, 0, 0), 0), (39, 3, .putfield 72, (1, 12, 294), 0), (42, 1, .aload_n 0, (0, 0, 0), 0), (43, 1, .iconst 0, (0, 0, 0), 0), (44, 3, .putfield 75, (1, 16, 306), 0), (47, 1, .aload_n 0, (0, 0, 0), 0), (48, 1, .iconst 0, (0, 0, 0), 0), (49, 3, .putfield 78, (1, 17, 309), 0), (52, 1, .aload_n 0, (0, 0, 0), 0), (53, 1, .iconst (-1), (0, 0, 0), 0), (54, 3, .putfield 81, (1, 18, 312), 0), (57, 1, .aload_n 0, (0, 0, 0), 0), (58, 3, .getfield 42, (1, 19, 314), 0), (61, 3, .invokevirtual 84, (5, 244, 3), 0), (64, 1, .return_, (0, 0, 0), 0)]
-- AirBed$Plan.clear()V
def am_m4 : am_M := ((1, ⟨"AirBed$Plan", "clear", "()V"⟩, prog_7_method_2_code), (1, none, 0), (1, 21, 0, 0), am_m4_c0)
def am_m5_c0 : List am_I := [(0, 1, .aload_n 0, (0, 0, 0), 0), (1, 1, .iconst 0, (0, 0, 0), 0), (2, 3, .putfield 35, (2, 0, 163), 0), (5, 1, .aload_n 0, (0, 0, 0), 0), (6, 1, .iconst 0, (0, 0, 0), 0), (7, 3, .putfield 39, (2, 1, 166), 0), (10, 1, .iconst 0, (0, 0, 0), 0), (11, 1, .istore_n 1, (0, 0, 0), 0), (12, 1, .iload_n 1, (0, 0, 0), 0), (13, 1, .iconst 2, (0, 0, 0), 0), (14, 3, .if_icmp .gt 30, (28, 0, 0), 0), (17, 1, .aload_n 0, (0, 0, 0), 0), (18, 3, .getfield 18, (2, 4, 169), 0), (21, 1, .iload_n 1, (0, 0, 0), 0), (22, 1, .iconst 0, (0, 0, 0), 0), (23, 1, .iastore, (0, 0, 0), 0), (24, 1, .aload_n 0, (0, 0, 0), 0), (25, 3, .getfield 21, (2, 5, 170), 0), (28, 1, .iload_n 1, (0, 0, 0), 0), (29, 1, .iconst 0, (0, 0, 0), 0), (30, 1, .iastore, (0, 0, 0), 0), (31, 1, .aload_n 0, (0, 0, 0), 0), (32, 3, .getfield 24, (2, 6, 171), 0), (35, 1, .iload_n 1, (0, 0, 0), 0), (36, 1, .iconst 0, (0, 0, 0), 0), (37, 1, .bastore, (0, 0, 0), 0), (38, 3, .iinc 1 1, (0, 0, 0), 0), (41, 3, .goto (-29), (8, 0, 0), 0), (44, 1, .return_, (0, 0, 0), 0)]
-- AirBed$Laws.clear()V
def am_m5 : am_M := ((2, ⟨"AirBed$Laws", "clear", "()V"⟩, prog_6_method_2_code), (2, none, 0), (0, 0, 0, 0), am_m5_c0)
def am_m6_c0 : List am_I := [(0, 1, .aload_n 0, (0, 0, 0), 0), (1, 3, .invokespecial 3, (0, 364, 0), 0), (4, 1, .aload_n 0, (0, 0, 0), 0), (5, 1, .iconst (-1), (0, 0, 0), 0), (6, 3, .putfield 9, (4, 2, 410), 0), (9, 1, .aload_n 0, (0, 0, 0), 0), (10, 2, .bipush 20, (0, 0, 0), 0), (12, 2, .newarray .int, (0, 0, 195), 0), (14, 3, .putfield 15, (4, 3, 412), 0), (17, 1, .aload_n 0, (0, 0, 0), 0), (18, 1, .iconst 0, (0, 0, 0), 0), (19, 2, .newarray .int, (0, 0, 195), 0), (21, 3, .putfield 19, (4, 4, 413), 0), (24, 1, .aload_n 0, (0, 0, 0), 0), (25, 2, .bipush 72, (0, 0, 0), 0), (27, 2, .newarray .int, (0, 0, 195), 0), (29, 3, .putfield 22, (4, 12, 421), 0), (32, 1, .aload_n 0, (0, 0, 0), 0), (33, 1, .aload_n 1, (0, 0, 0), 0), (34, 3, .putfield 25, (4, 6, 415), 0), (37, 1, .iconst 0, (0, 0, 0), 0), (38, 1, .istore_n 2, (0, 0, 0), 0), (39, 1, .iload_n 2, (0, 0, 0), 0), (40, 2, .bipush 20, (0, 0, 0), 0), (42, 3, .if_icmp .ge 69, (63, 0, 0), 0), (45, 1, .iconst 0, (0, 0, 0), 0), (46, 1, .istore_n 3, (0, 0, 0), 0), (47, 1, .iload_n 3, (0, 0, 0), 0), (48, 2, .bipush 6, (0, 0, 0), 0), (50, 3, .if_icmp .ge 55, (61, 0, 0), 0), (53, 2, .ldc 29, (0, 1, 365), 0), (55, 1, .iload_n 2, (0, 0, 0), 0), (56, 2, .bipush 6, (0, 0, 0), 0), (58, 1, .imul, (0, 0, 0), 0), (59, 1, .iload_n 3, (0, 0, 0), 0), (60, 1, .iadd, (0, 0, 0), 0), (61, 3, .invokevirtual 31, (0, 366, 0), 0), (64, 2, .istore 4, (0, 0, 0), 0), (66, 1, .aload_n 0, (0, 0, 0), 0), (67, 3, .getfield 15, (4, 3, 412), 0), (70, 1, .iload_n 2, (0, 0, 0), 0), (71, 1, .aload_n 0, (0, 0, 0), 0), (72, 3, .getfield 15, (4, 3, 412), 0), (75, 1, .iload_n 2, (0, 0, 0), 0), (76, 1, .iaload, (0, 0, 0), 0), (77, 1, .iconst 5, (0, 0, 0), 0), (78, 1, .ishl, (0, 0, 0), 0), (79, 2, .iload 4, (0, 0, 0), 0), (81, 2, .bipush 32, (0, 0, 0), 0), (83, 3, .if_icmp .ne 7, (52, 0, 0), 0), (86, 1, .iconst 0, (0, 0, 0), 0), (87, 3, .goto 10, (57, 0, 0), 0), (90, 2, .iload 4, (0, 0, 0), 0), (92, 2, .bipush 97, (0, 0, 0), 0), (94, 1, .isub, (0, 0, 0), 0), (95, 1, .iconst 1, (0, 0, 0), 0), (96, 1, .iadd, (0, 0, 0), 0), (97, 1, .ior, (0, 0, 0), 0), (98, 1, .iastore, (0, 0, 0), 0), (99, 3, .iinc 3 1, (0, 0, 0), 0)]
def am_m6_c1 : List am_I := [(102, 3, .goto (-55), (27, 0, 0), 0), (105, 3, .iinc 2 1, (0, 0, 0), 0), (108, 3, .goto (-69), (22, 0, 0), 0), (111, 1, .return_, (0, 0, 0), 0)]
-- AirBed$Reader.<init>(LAirBed$Plan;)V
def am_m6 : am_M := ((4, ⟨"AirBed$Reader", "<init>", "(LAirBed$Plan;)V"⟩, prog_8_method_1_code), (5, none, 1), (8, 200, 3, 92), am_m6_c0 ++ (am_m6_c1))
def am_m7_c0 : List am_I := [(0, 1, .aload_n 0, (0, 0, 0), 0), (1, 3, .invokespecial 3, (0, 461, 0), 0), (4, 1, .aload_n 0, (0, 0, 0), 0), (5, 1, .iconst 4, (0, 0, 0), 0), (6, 2, .newarray .int, (0, 0, 195), 0), (8, 3, .putfield 9, (5, 5, 480), 0), (11, 1, .aload_n 0, (0, 0, 0), 0), (12, 1, .iconst 4, (0, 0, 0), 0), (13, 2, .newarray .int, (0, 0, 195), 0), (15, 3, .putfield 15, (5, 6, 482), 0), (18, 1, .aload_n 0, (0, 0, 0), 0), (19, 1, .iconst 4, (0, 0, 0), 0), (20, 2, .newarray .int, (0, 0, 195), 0), (22, 3, .putfield 18, (5, 7, 485), 0), (25, 1, .return_, (0, 0, 0), 0)]
-- AirBed$State.<init>()V
def am_m7 : am_M := ((5, ⟨"AirBed$State", "<init>", "()V"⟩, prog_12_method_1_code), (1, none, 0), (1, 20, 3, 12), am_m7_c0)
def am_m8_c0 : List am_I := [(0, 1, .aload_n 0, (0, 0, 0), 0), (1, 3, .invokespecial 3, (0, 509, 0), 0), (4, 1, .aload_n 0, (0, 0, 0), 0), (5, 2, .bipush 20, (0, 0, 0), 0), (7, 3, .anewarray 9, (5, 510, 511), 0), (10, 3, .putfield 11, (6, 0, 513), 0), (13, 1, .iconst 0, (0, 0, 0), 0), (14, 1, .istore_n 1, (0, 0, 0), 0), (15, 1, .iload_n 1, (0, 0, 0), 0), (16, 2, .bipush 20, (0, 0, 0), 0), (18, 3, .if_icmp .ge 22, (20, 0, 0), 0), (21, 1, .aload_n 0, (0, 0, 0), 0), (22, 3, .getfield 11, (6, 0, 513), 0), (25, 1, .iload_n 1, (0, 0, 0), 0), (26, 3, .new 9, (5, 510, 0), 0), (29, 1, .dup, (0, 0, 0), 0), (30, 3, .invokespecial 17, (7, 512, 3), 0), (33, 1, .aastore, (0, 0, 0), 0), (34, 3, .iinc 1 1, (0, 0, 0), 0), (37, 3, .goto (-22), (8, 0, 0), 0), (40, 1, .return_, (0, 0, 0), 0)]
-- AirBed$History.<init>()V
def am_m8 : am_M := ((6, ⟨"AirBed$History", "<init>", "()V"⟩, prog_5_method_1_code), (2, none, 0), (2, 40, 81, 420), am_m8_c0)
def am_m9_c0 : List am_I := [(0, 1, .aload_n 0, (0, 0, 0), 0), (1, 3, .invokespecial 3, (0, 529, 0), 0), (4, 1, .aload_n 0, (0, 0, 0), 0), (5, 1, .iconst (-1), (0, 0, 0), 0), (6, 3, .putfield 9, (7, 1, 532), 0), (9, 1, .aload_n 0, (0, 0, 0), 0), (10, 2, .bipush 24, (0, 0, 0), 0), (12, 2, .newarray .int, (0, 0, 195), 0), (14, 3, .putfield 15, (7, 2, 534), 0), (17, 1, .aload_n 0, (0, 0, 0), 0), (18, 2, .bipush 24, (0, 0, 0), 0), (20, 2, .newarray .int, (0, 0, 195), 0), (22, 3, .putfield 19, (7, 3, 536), 0), (25, 1, .aload_n 0, (0, 0, 0), 0), (26, 2, .bipush 24, (0, 0, 0), 0), (28, 2, .newarray .int, (0, 0, 195), 0), (30, 3, .putfield 22, (7, 4, 538), 0), (33, 1, .aload_n 0, (0, 0, 0), 0), (34, 2, .bipush 24, (0, 0, 0), 0), (36, 2, .newarray .int, (0, 0, 195), 0), (38, 3, .putfield 25, (7, 5, 540), 0), (41, 1, .aload_n 0, (0, 0, 0), 0), (42, 2, .bipush 24, (0, 0, 0), 0), (44, 2, .newarray .boolean, (0, 0, 196), 0), (46, 3, .putfield 28, (7, 6, 542), 0), (49, 1, .return_, (0, 0, 0), 0)]
-- AirBed$Cheeks.<init>()V
def am_m9 : am_M := ((7, ⟨"AirBed$Cheeks", "<init>", "()V"⟩, prog_4_method_1_code), (1, none, 0), (1, 20, 5, 120), am_m9_c0)
def am_m10_c0 : List am_I := [(0, 1, .aload_n 0, (0, 0, 0), 0), (1, 3, .invokespecial 3, (0, 563, 0), 0), (4, 1, .aload_n 0, (0, 0, 0), 0), (5, 3, .new 9, (5, 564, 0), 0), (8, 1, .dup, (0, 0, 0), 0), (9, 3, .invokespecial 11, (7, 565, 3), 0), (12, 3, .putfield 12, (8, 1, 569), 0), (15, 1, .aload_n 0, (0, 0, 0), 0), (16, 1, .aload_n 1, (0, 0, 0), 0), (17, 3, .putfield 18, (8, 0, 566), 0), (20, 1, .return_, (0, 0, 0), 0)]
-- AirBed$Sim.<init>(LAirBed$Plan;)V
def am_m10 : am_M := ((8, ⟨"AirBed$Sim", "<init>", "(LAirBed$Plan;)V"⟩, prog_11_method_1_code), (2, none, 1), (2, 40, 4, 20), am_m10_c0)
def am_m11_c0 : List am_I := [(0, 1, .aload_n 0, (0, 0, 0), 0), (1, 3, .invokespecial 3, (0, 603, 0), 0), (4, 1, .aload_n 0, (0, 0, 0), 0), (5, 1, .aload_n 1, (0, 0, 0), 0), (6, 3, .putfield 9, (9, 0, 604), 0), (9, 1, .return_, (0, 0, 0), 0)]
-- AirBed$Rules.<init>(LAirBed$Sim;)V
def am_m11 : am_M := ((9, ⟨"AirBed$Rules", "<init>", "(LAirBed$Sim;)V"⟩, prog_9_method_1_code), (2, none, 1), (1, 20, 0, 0), am_m11_c0)
def am_m12_c0 : List am_I := [(0, 1, .aload_n 0, (0, 0, 0), 0), (1, 3, .invokespecial 3, (0, 621, 0), 0), (4, 1, .aload_n 0, (0, 0, 0), 0), (5, 2, .bipush 6, (0, 0, 0), 0), (7, 2, .newarray .int, (0, 0, 195), 0), (9, 3, .putfield 9, (10, 2, 624), 0), (12, 1, .aload_n 0, (0, 0, 0), 0), (13, 1, .aload_n 1, (0, 0, 0), 0), (14, 3, .putfield 15, (10, 0, 622), 0), (17, 1, .aload_n 0, (0, 0, 0), 0), (18, 1, .aload_n 2, (0, 0, 0), 0), (19, 3, .putfield 19, (10, 1, 623), 0), (22, 1, .return_, (0, 0, 0), 0)]
-- AirBed$Best.<init>(LAirBed$Sim;LAirBed$Sim;)V
def am_m12 : am_M := ((10, ⟨"AirBed$Best", "<init>", "(LAirBed$Sim;LAirBed$Sim;)V"⟩, prog_2_method_1_code), (3, none, 2), (1, 20, 1, 6), am_m12_c0)
def am_m13_c0 : List am_I := [(0, 1, .aload_n 0, (0, 0, 0), 0), (1, 3, .invokespecial 3, (0, 641, 0), 0), (4, 1, .aload_n 0, (0, 0, 0), 0), (5, 2, .bipush 6, (0, 0, 0), 0), (7, 2, .newarray .long, (0, 0, 197), 0), (9, 3, .putfield 9, (11, 2, 646), 0), (12, 1, .aload_n 0, (0, 0, 0), 0), (13, 2, .bipush 6, (0, 0, 0), 0), (15, 2, .newarray .int, (0, 0, 195), 0), (17, 3, .putfield 15, (11, 3, 647), 0), (20, 1, .return_, (0, 0, 0), 0)]
-- AirBed$Search.<init>()V
def am_m13 : am_M := ((11, ⟨"AirBed$Search", "<init>", "()V"⟩, prog_10_method_1_code), (1, none, 0), (1, 20, 2, 12), am_m13_c0)
def am_m14_c0 : List am_I := [(0, 1, .aload_n 0, (0, 0, 0), 0), (1, 1, .aload_n 1, (0, 0, 0), 0), (2, 3, .getfield 21, (1, 1, 252), 0), (5, 3, .putfield 27, (5, 0, 462), 0), (8, 1, .aload_n 0, (0, 0, 0), 0), (9, 1, .iconst 0, (0, 0, 0), 0), (10, 3, .putfield 30, (5, 1, 467), 0), (13, 1, .aload_n 0, (0, 0, 0), 0), (14, 1, .iconst (-1), (0, 0, 0), 0), (15, 3, .putfield 33, (5, 2, 472), 0), (18, 1, .aload_n 0, (0, 0, 0), 0), (19, 1, .aload_n 1, (0, 0, 0), 0), (20, 3, .getfield 36, (1, 8, 279), 0), (23, 3, .putfield 39, (5, 3, 476), 0), (26, 1, .aload_n 0, (0, 0, 0), 0), (27, 1, .iconst 0, (0, 0, 0), 0), (28, 3, .putfield 42, (5, 4, 478), 0), (31, 1, .iconst 0, (0, 0, 0), 0), (32, 1, .istore_n 2, (0, 0, 0), 0), (33, 1, .iload_n 2, (0, 0, 0), 0), (34, 1, .iconst 4, (0, 0, 0), 0), (35, 3, .if_icmp .ge 30, (39, 0, 0), 0), (38, 1, .aload_n 0, (0, 0, 0), 0), (39, 3, .getfield 9, (5, 5, 480), 0), (42, 1, .iload_n 2, (0, 0, 0), 0), (43, 1, .iconst 0, (0, 0, 0), 0), (44, 1, .iastore, (0, 0, 0), 0), (45, 1, .aload_n 0, (0, 0, 0), 0), (46, 3, .getfield 15, (5, 6, 482), 0), (49, 1, .iload_n 2, (0, 0, 0), 0), (50, 1, .iconst 0, (0, 0, 0), 0), (51, 1, .iastore, (0, 0, 0), 0), (52, 1, .aload_n 0, (0, 0, 0), 0), (53, 3, .getfield 18, (5, 7, 485), 0), (56, 1, .iload_n 2, (0, 0, 0), 0), (57, 1, .iconst 0, (0, 0, 0), 0), (58, 1, .iastore, (0, 0, 0), 0), (59, 3, .iinc 2 1, (0, 0, 0), 0), (62, 3, .goto (-29), (19, 0, 0), 0), (65, 1, .return_, (0, 0, 0), 0)]
-- AirBed$State.begin(LAirBed$Plan;)V
def am_m14 : am_M := ((5, ⟨"AirBed$State", "begin", "(LAirBed$Plan;)V"⟩, prog_12_method_2_code), (3, none, 1), (0, 0, 0, 0), am_m14_c0)
def am_m15_c0 : List am_I := [(0, 1, .aload_n 0, (0, 0, 0), 0), (1, 3, .getfield 99, (0, 1, 662), 0), (4, 3, .sipush 680, (0, 0, 0), 0), (7, 3, .if_icmp .le 5, (6, 0, 0), 0), (10, 1, .iconst (-1), (0, 0, 0), 0), (11, 1, .ireturn, (0, 0, 0), 0), (12, 1, .aload_n 0, (0, 0, 0), 0), (13, 1, .iload_n 1, (0, 0, 0), 0), (14, 3, .invokevirtual 103, (16, 714, 3), 0), (17, 1, .aload_n 0, (0, 0, 0), 0), (18, 1, .iload_n 2, (0, 0, 0), 0), (19, 3, .invokevirtual 103, (16, 714, 3), 0), (22, 1, .aload_n 0, (0, 0, 0), 0), (23, 1, .iload_n 3, (0, 0, 0), 0), (24, 3, .invokevirtual 103, (16, 714, 3), 0), (27, 1, .aload_n 0, (0, 0, 0), 0), (28, 2, .iload 4, (0, 0, 0), 0), (30, 3, .invokevirtual 103, (16, 714, 3), 0), (33, 1, .aload_n 0, (0, 0, 0), 0), (34, 2, .iload 5, (0, 0, 0), 0), (36, 3, .invokevirtual 103, (16, 714, 3), 0), (39, 1, .aload_n 0, (0, 0, 0), 0), (40, 3, .getfield 99, (0, 1, 662), 0), (43, 1, .ireturn, (0, 0, 0), 0)]
-- AirBed.feed(IIIII)I
def am_m15 : am_M := ((0, ⟨"AirBed", "feed", "(IIIII)I"⟩, prog_1_method_2_code), (6, some .int, 5), (1, 22, 0, 0), am_m15_c0)
def am_m16_c0 : List am_I := [(0, 2, .bipush 24, (0, 0, 0), 0), (2, 1, .istore_n 2, (0, 0, 0), 0), (3, 1, .iload_n 2, (0, 0, 0), 0), (4, 3, .ifCond .lt 45, (26, 0, 0), 0), (7, 1, .aload_n 0, (0, 0, 0), 0), (8, 3, .getfield 99, (0, 1, 662), 0), (11, 3, .sipush 700, (0, 0, 0), 0), (14, 3, .if_icmp .ge 35, (26, 0, 0), 0), (17, 1, .aload_n 0, (0, 0, 0), 0), (18, 3, .getfield 11, (0, 0, 661), 0), (21, 1, .aload_n 0, (0, 0, 0), 0), (22, 3, .getfield 99, (0, 1, 662), 0), (25, 1, .iload_n 1, (0, 0, 0), 0), (26, 1, .iload_n 2, (0, 0, 0), 0), (27, 1, .iushr, (0, 0, 0), 0), (28, 3, .sipush 255, (0, 0, 0), 0), (31, 1, .iand, (0, 0, 0), 0), (32, 1, .iastore, (0, 0, 0), 0), (33, 1, .aload_n 0, (0, 0, 0), 0), (34, 1, .dup, (0, 0, 0), 0), (35, 3, .getfield 99, (0, 1, 662), 0), (38, 1, .iconst 1, (0, 0, 0), 0), (39, 1, .iadd, (0, 0, 0), 0), (40, 3, .putfield 99, (0, 1, 662), 0), (43, 3, .iinc 2 (-8), (0, 0, 0), 0), (46, 3, .goto (-43), (2, 0, 0), 0), (49, 1, .return_, (0, 0, 0), 0)]
-- AirBed.putFour(I)V
def am_m16 : am_M := ((0, ⟨"AirBed", "putFour", "(I)V"⟩, prog_1_method_3_code), (3, none, 1), (0, 0, 0, 0), am_m16_c0)
def am_m17_c0 : List am_I := [(0, 1, .iload_n 1, (0, 0, 0), 0), (1, 3, .ifCond .lt 11, (6, 0, 0), 0), (4, 1, .iload_n 1, (0, 0, 0), 0), (5, 1, .aload_n 0, (0, 0, 0), 0), (6, 3, .getfield 99, (0, 1, 662), 0), (9, 3, .if_icmp .le 6, (8, 0, 0), 0), (12, 2, .bipush (-2), (0, 0, 0), 0), (14, 1, .ireturn, (0, 0, 0), 0), (15, 1, .aload_n 0, (0, 0, 0), 0), (16, 1, .iconst 0, (0, 0, 0), 0), (17, 3, .putfield 99, (0, 1, 662), 0), (20, 1, .aload_n 0, (0, 0, 0), 0), (21, 3, .getfield 30, (0, 4, 665), 0), (24, 1, .aload_n 0, (0, 0, 0), 0), (25, 3, .getfield 11, (0, 0, 661), 0), (28, 1, .iload_n 1, (0, 0, 0), 0), (29, 1, .aload_n 0, (0, 0, 0), 0), (30, 3, .getfield 22, (0, 3, 664), 0), (33, 3, .invokevirtual 107, (18, 722, 3), 0), (36, 3, .ifCond .ne 5, (22, 0, 0), 0), (39, 1, .iconst (-1), (0, 0, 0), 0), (40, 1, .ireturn, (0, 0, 0), 0), (41, 1, .aload_n 0, (0, 0, 0), 0), (42, 3, .getfield 22, (0, 3, 664), 0), (45, 1, .astore_n 2, (0, 0, 0), 0), (46, 1, .aload_n 0, (0, 0, 0), 0), (47, 1, .aload_n 0, (0, 0, 0), 0), (48, 3, .getfield 18, (0, 2, 663), 0), (51, 3, .putfield 22, (0, 3, 664), 0), (54, 1, .aload_n 0, (0, 0, 0), 0), (55, 1, .aload_n 2, (0, 0, 0), 0), (56, 3, .putfield 18, (0, 2, 663), 0), (59, 1, .aload_n 0, (0, 0, 0), 0), (60, 3, .getfield 37, (0, 5, 666), 0), (63, 1, .aload_n 0, (0, 0, 0), 0), (64, 3, .getfield 18, (0, 2, 663), 0), (67, 3, .invokevirtual 96, (14, 657, 3), 0), (70, 1, .aload_n 0, (0, 0, 0), 0), (71, 3, .getfield 50, (0, 9, 670), 0), (74, 3, .invokevirtual 111, (25, 886, 3), 0), (77, 1, .aload_n 0, (0, 0, 0), 0), (78, 3, .getfield 57, (0, 10, 671), 0), (81, 3, .invokevirtual 114, (26, 890, 3), 0), (84, 1, .aload_n 0, (0, 0, 0), 0), (85, 1, .iconst 0, (0, 0, 0), 0), (86, 3, .putfield 115, (0, 8, 669), 0), (89, 1, .aload_n 0, (0, 0, 0), 0), (90, 3, .getfield 30, (0, 4, 665), 0), (93, 3, .getfield 119, (4, 0, 407), 0), (96, 1, .ireturn, (0, 0, 0), 0)]
-- AirBed.text(I)I
def am_m17 : am_M := ((0, ⟨"AirBed", "text", "(I)I"⟩, prog_1_method_4_code), (3, some .int, 1), (3, 68, 0, 0), am_m17_c0)
def am_m18_c0 : List am_I := [(0, 1, .aload_n 0, (0, 0, 0), 0), (1, 1, .aload_n 1, (0, 0, 0), 0), (2, 3, .putfield 19, (4, 4, 413), 0), (5, 1, .aload_n 0, (0, 0, 0), 0), (6, 1, .iload_n 2, (0, 0, 0), 0), (7, 3, .putfield 37, (4, 5, 414), 0), (10, 1, .aload_n 0, (0, 0, 0), 0), (11, 1, .aload_n 3, (0, 0, 0), 0), (12, 3, .putfield 25, (4, 6, 415), 0), (15, 1, .aload_n 0, (0, 0, 0), 0), (16, 3, .getfield 25, (4, 6, 415), 0), (19, 3, .invokevirtual 40, (4, 726, 3), 0), (22, 1, .aload_n 0, (0, 0, 0), 0), (23, 1, .iconst 0, (0, 0, 0), 0), (24, 3, .putfield 45, (4, 7, 416), 0), (27, 1, .aload_n 0, (0, 0, 0), 0), (28, 1, .iconst 0, (0, 0, 0), 0), (29, 3, .putfield 48, (4, 0, 406), 0), (32, 1, .aload_n 0, (0, 0, 0), 0), (33, 1, .iconst 0, (0, 0, 0), 0), (34, 3, .putfield 51, (4, 1, 408), 0), (37, 1, .aload_n 0, (0, 0, 0), 0), (38, 1, .iconst (-1), (0, 0, 0), 0), (39, 3, .putfield 9, (4, 2, 410), 0), (42, 1, .aload_n 0, (0, 0, 0), 0), (43, 1, .iconst 0, (0, 0, 0), 0), (44, 3, .putfield 54, (4, 8, 417), 0), (47, 1, .aload_n 0, (0, 0, 0), 0), (48, 3, .invokevirtual 57, (19, 727, 3), 0), (51, 1, .iconst 0, (0, 0, 0), 0), (52, 2, .istore 4, (0, 0, 0), 0), (54, 2, .iload 4, (0, 0, 0), 0), (56, 1, .aload_n 0, (0, 0, 0), 0), (57, 3, .getfield 37, (4, 5, 414), 0), (60, 3, .if_icmp .ge 31, (47, 0, 0), 0), (63, 1, .aload_n 0, (0, 0, 0), 0), (64, 3, .getfield 51, (4, 1, 408), 0), (67, 3, .ifCond .ne 24, (47, 0, 0), 0), (70, 1, .aload_n 0, (0, 0, 0), 0), (71, 3, .getfield 60, (4, 10, 419), 0), (74, 3, .ifCond .eq 17, (47, 0, 0), 0), (77, 1, .aload_n 0, (0, 0, 0), 0), (78, 3, .invokevirtual 63, (999, 757, 3), 0), (81, 1, .aload_n 0, (0, 0, 0), 0), (82, 3, .invokevirtual 66, (999, 868, 3), 0), (85, 3, .iinc 4 1, (0, 0, 0), 0), (88, 3, .goto (-34), (31, 0, 0), 0), (91, 1, .aload_n 0, (0, 0, 0), 0), (92, 3, .getfield 51, (4, 1, 408), 0), (95, 3, .ifCond .ne 10, (53, 0, 0), 0), (98, 1, .aload_n 0, (0, 0, 0), 0), (99, 3, .getfield 25, (4, 6, 415), 0), (102, 3, .invokevirtual 69, (22, 872, 3), 0), (105, 1, .aload_n 0, (0, 0, 0), 0), (106, 3, .getfield 51, (4, 1, 408), 0), (109, 3, .ifCond .ne 7, (58, 0, 0), 0), (112, 1, .iconst 1, (0, 0, 0), 0), (113, 3, .goto 4, (59, 0, 0), 0), (116, 1, .iconst 0, (0, 0, 0), 0), (117, 1, .ireturn, (0, 0, 0), 0)]
-- AirBed$Reader.read([IILAirBed$Plan;)Z
def am_m18 : am_M := ((4, ⟨"AirBed$Reader", "read", "([IILAirBed$Plan;)Z"⟩, prog_8_method_2_code), (5, some .boolean, 3), (2, 44, 0, 0), am_m18_c0)
def am_m19_c0 : List am_I := [(0, 1, .aload_n 0, (0, 0, 0), 0), (1, 3, .getfield 54, (4, 8, 417), 0), (4, 1, .aload_n 0, (0, 0, 0), 0), (5, 3, .getfield 37, (4, 5, 414), 0), (8, 3, .if_icmp .ge 44, (26, 0, 0), 0), (11, 1, .aload_n 0, (0, 0, 0), 0), (12, 3, .getfield 19, (4, 4, 413), 0), (15, 1, .aload_n 0, (0, 0, 0), 0), (16, 3, .getfield 54, (4, 8, 417), 0), (19, 1, .iaload, (0, 0, 0), 0), (20, 2, .bipush 32, (0, 0, 0), 0), (22, 3, .if_icmp .eq 17, (19, 0, 0), 0), (25, 1, .aload_n 0, (0, 0, 0), 0), (26, 3, .getfield 19, (4, 4, 413), 0), (29, 1, .aload_n 0, (0, 0, 0), 0), (30, 3, .getfield 54, (4, 8, 417), 0), (33, 1, .iaload, (0, 0, 0), 0), (34, 2, .bipush 10, (0, 0, 0), 0), (36, 3, .if_icmp .ne 16, (26, 0, 0), 0), (39, 1, .aload_n 0, (0, 0, 0), 0), (40, 1, .dup, (0, 0, 0), 0), (41, 3, .getfield 54, (4, 8, 417), 0), (44, 1, .iconst 1, (0, 0, 0), 0), (45, 1, .iadd, (0, 0, 0), 0), (46, 3, .putfield 54, (4, 8, 417), 0), (49, 3, .goto (-49), (0, 0, 0), 0), (52, 1, .aload_n 0, (0, 0, 0), 0), (53, 1, .aload_n 0, (0, 0, 0), 0), (54, 3, .getfield 54, (4, 8, 417), 0), (57, 3, .putfield 72, (4, 9, 418), 0), (60, 1, .aload_n 0, (0, 0, 0), 0), (61, 3, .getfield 54, (4, 8, 417), 0), (64, 1, .aload_n 0, (0, 0, 0), 0), (65, 3, .getfield 37, (4, 5, 414), 0), (68, 3, .if_icmp .lt 11, (39, 0, 0), 0), (71, 1, .aload_n 0, (0, 0, 0), 0), (72, 1, .iconst 0, (0, 0, 0), 0), (73, 3, .putfield 60, (4, 10, 419), 0), (76, 3, .goto 51, (61, 0, 0), 0), (79, 1, .aload_n 0, (0, 0, 0), 0), (80, 3, .getfield 19, (4, 4, 413), 0), (83, 1, .aload_n 0, (0, 0, 0), 0), (84, 3, .getfield 54, (4, 8, 417), 0), (87, 1, .iaload, (0, 0, 0), 0), (88, 3, .invokestatic 75, (999, 731, 3), 0), (91, 3, .ifCond .eq 10, (49, 0, 0), 0), (94, 1, .aload_n 0, (0, 0, 0), 0), (95, 3, .invokevirtual 79, (999, 734, 3), 0), (98, 3, .goto 29, (61, 0, 0), 0), (101, 1, .aload_n 0, (0, 0, 0), 0), (102, 3, .getfield 19, (4, 4, 413), 0), (105, 1, .aload_n 0, (0, 0, 0), 0), (106, 3, .getfield 54, (4, 8, 417), 0), (109, 1, .iaload, (0, 0, 0), 0), (110, 3, .invokestatic 82, (999, 738, 3), 0), (113, 3, .ifCond .eq 10, (59, 0, 0), 0), (116, 1, .aload_n 0, (0, 0, 0), 0), (117, 3, .invokevirtual 85, (999, 741, 3), 0), (120, 3, .goto 7, (61, 0, 0), 0), (123, 1, .aload_n 0, (0, 0, 0), 0)]
def am_m19_c1 : List am_I := [(124, 3, .invokevirtual 88, (999, 749, 3), 0), (127, 1, .return_, (0, 0, 0), 0)]
-- AirBed$Reader.advance()V
def am_m19 : am_M := ((4, ⟨"AirBed$Reader", "advance", "()V"⟩, prog_8_method_4_code), (1, none, 0), (0, 0, 0, 0), am_m19_c0 ++ (am_m19_c1))
def am_m20_c0 : List am_I := [(0, 1, .iconst 0, (0, 0, 0), 0), (1, 1, .istore_n 2, (0, 0, 0), 0), (2, 1, .iload_n 2, (0, 0, 0), 0), (3, 1, .aload_n 0, (0, 0, 0), 0), (4, 3, .getfield 57, (1, 2, 256), 0), (7, 3, .if_icmp .ge 24, (17, 0, 0), 0), (10, 1, .aload_n 0, (0, 0, 0), 0), (11, 3, .getfield 11, (1, 3, 260), 0), (14, 1, .iload_n 2, (0, 0, 0), 0), (15, 1, .aaload, (0, 0, 0), 0), (16, 3, .getfield 85, (3, 0, 203), 0), (19, 1, .iload_n 1, (0, 0, 0), 0), (20, 3, .if_icmp .ne 5, (15, 0, 0), 0), (23, 1, .iload_n 2, (0, 0, 0), 0), (24, 1, .ireturn, (0, 0, 0), 0), (25, 3, .iinc 2 1, (0, 0, 0), 0), (28, 3, .goto (-26), (2, 0, 0), 0), (31, 1, .iconst (-1), (0, 0, 0), 0), (32, 1, .ireturn, (0, 0, 0), 0)]
-- AirBed$Plan.blowerNamed(I)I
def am_m20 : am_M := ((1, ⟨"AirBed$Plan", "blowerNamed", "(I)I"⟩, prog_7_method_3_code), (3, some .int, 1), (0, 0, 0, 0), am_m20_c0)
def am_m21_c0 : List am_I := [(0, 1, .iconst 0, (0, 0, 0), 0), (1, 1, .istore_n 2, (0, 0, 0), 0), (2, 1, .iload_n 2, (0, 0, 0), 0), (3, 1, .aload_n 0, (0, 0, 0), 0), (4, 3, .getfield 72, (1, 12, 294), 0), (7, 3, .if_icmp .ge 21, (16, 0, 0), 0), (10, 1, .aload_n 0, (0, 0, 0), 0), (11, 3, .getfield 30, (1, 13, 298), 0), (14, 1, .iload_n 2, (0, 0, 0), 0), (15, 1, .iaload, (0, 0, 0), 0), (16, 1, .iload_n 1, (0, 0, 0), 0), (17, 3, .if_icmp .ne 5, (14, 0, 0), 0), (20, 1, .iload_n 2, (0, 0, 0), 0), (21, 1, .ireturn, (0, 0, 0), 0), (22, 3, .iinc 2 1, (0, 0, 0), 0), (25, 3, .goto (-23), (2, 0, 0), 0), (28, 1, .iconst (-1), (0, 0, 0), 0), (29, 1, .ireturn, (0, 0, 0), 0)]
-- AirBed$Plan.trialNamed(I)I
def am_m21 : am_M := ((1, ⟨"AirBed$Plan", "trialNamed", "(I)I"⟩, prog_7_method_4_code), (3, some .int, 1), (0, 0, 0, 0), am_m21_c0)
def am_m22_c0 : List am_I := [(0, 1, .iconst 0, (0, 0, 0), 0), (1, 1, .istore_n 1, (0, 0, 0), 0), (2, 1, .iconst 0, (0, 0, 0), 0), (3, 1, .istore_n 2, (0, 0, 0), 0), (4, 1, .iload_n 2, (0, 0, 0), 0), (5, 1, .aload_n 0, (0, 0, 0), 0), (6, 3, .getfield 69, (1, 9, 284), 0), (9, 3, .if_icmp .ge 18, (17, 0, 0), 0), (12, 1, .iload_n 1, (0, 0, 0), 0), (13, 1, .aload_n 0, (0, 0, 0), 0), (14, 3, .getfield 24, (1, 10, 287), 0), (17, 1, .iload_n 2, (0, 0, 0), 0), (18, 1, .iaload, (0, 0, 0), 0), (19, 1, .iadd, (0, 0, 0), 0), (20, 1, .istore_n 1, (0, 0, 0), 0), (21, 3, .iinc 2 1, (0, 0, 0), 0), (24, 3, .goto (-20), (4, 0, 0), 0), (27, 1, .aload_n 0, (0, 0, 0), 0), (28, 1, .iconst (-1), (0, 0, 0), 0), (29, 3, .putfield 81, (1, 18, 312), 0), (32, 1, .iload_n 1, (0, 0, 0), 0), (33, 3, .ifCond .ne 4, (23, 0, 0), 0), (36, 1, .return_, (0, 0, 0), 0), (37, 1, .aload_n 0, (0, 0, 0), 0), (38, 3, .getfield 78, (1, 17, 309), 0), (41, 1, .i2l, (0, 0, 0), 0), (42, 3, .invokestatic 88, (23, 876, 3), 0), (45, 3, .invokestatic 92, (24, 882, 3), 0), (48, 1, .iload_n 1, (0, 0, 0), 0), (49, 1, .irem, (0, 0, 0), 0), (50, 1, .istore_n 2, (0, 0, 0), 0), (51, 1, .iconst 0, (0, 0, 0), 0), (52, 1, .istore_n 3, (0, 0, 0), 0), (53, 1, .iload_n 3, (0, 0, 0), 0), (54, 1, .aload_n 0, (0, 0, 0), 0), (55, 3, .getfield 69, (1, 9, 284), 0), (58, 3, .if_icmp .ge 35, (55, 0, 0), 0), (61, 1, .aload_n 0, (0, 0, 0), 0), (62, 3, .getfield 81, (1, 18, 312), 0), (65, 1, .iconst (-1), (0, 0, 0), 0), (66, 3, .if_icmp .ne 27, (55, 0, 0), 0), (69, 1, .iload_n 2, (0, 0, 0), 0), (70, 1, .aload_n 0, (0, 0, 0), 0), (71, 3, .getfield 24, (1, 10, 287), 0), (74, 1, .iload_n 3, (0, 0, 0), 0), (75, 1, .iaload, (0, 0, 0), 0), (76, 1, .isub, (0, 0, 0), 0), (77, 1, .istore_n 2, (0, 0, 0), 0), (78, 1, .iload_n 2, (0, 0, 0), 0), (79, 3, .ifCond .ge 8, (53, 0, 0), 0), (82, 1, .aload_n 0, (0, 0, 0), 0), (83, 1, .iload_n 3, (0, 0, 0), 0), (84, 3, .putfield 81, (1, 18, 312), 0), (87, 3, .iinc 3 1, (0, 0, 0), 0), (90, 3, .goto (-37), (33, 0, 0), 0), (93, 1, .return_, (0, 0, 0), 0)]
-- AirBed$Plan.drawLeak()V
def am_m22 : am_M := ((1, ⟨"AirBed$Plan", "drawLeak", "()V"⟩, prog_7_method_5_code), (4, none, 0), (1, 21, 0, 0), am_m22_c0)
def am_m23_c0 : List am_I := [(0, 1, .lload_n 0, (0, 0, 0), 0), (1, 3, .ldc2_w 375, (0, 0, 879), 1103515245), (4, 1, .lmul, (0, 0, 0), 0), (5, 3, .ldc2_w 377, (0, 0, 880), 12345), (8, 1, .ladd, (0, 0, 0), 0), (9, 3, .ldc2_w 379, (0, 0, 881), 2147483647), (12, 1, .land, (0, 0, 0), 0), (13, 1, .lreturn, (0, 0, 0), 0)]
-- AirBed.drawAfter(J)J
def am_m23 : am_M := ((0, ⟨"AirBed", "drawAfter", "(J)J"⟩, prog_1_method_42_code), (2, some .long, 1), (0, 0, 0, 0), am_m23_c0)
def am_m24_c0 : List am_I := [(0, 1, .lload_n 0, (0, 0, 0), 0), (1, 3, .ldc2_w 381, (0, 0, 885), 65536), (4, 1, .ldiv, (0, 0, 0), 0), (5, 1, .l2i, (0, 0, 0), 0), (6, 1, .ireturn, (0, 0, 0), 0)]
-- AirBed.numberOf(J)I
def am_m24 : am_M := ((0, ⟨"AirBed", "numberOf", "(J)I"⟩, prog_1_method_43_code), (2, some .int, 1), (0, 0, 0, 0), am_m24_c0)
def am_m25_c0 : List am_I := [(0, 1, .aload_n 0, (0, 0, 0), 0), (1, 1, .iconst 0, (0, 0, 0), 0), (2, 3, .putfield 18, (6, 2, 515), 0), (5, 1, .return_, (0, 0, 0), 0)]
-- AirBed$History.clear()V
def am_m25 : am_M := ((6, ⟨"AirBed$History", "clear", "()V"⟩, prog_5_method_2_code), (1, none, 0), (0, 0, 0, 0), am_m25_c0)
def am_m26_c0 : List am_I := [(0, 1, .aload_n 0, (0, 0, 0), 0), (1, 1, .iconst 0, (0, 0, 0), 0), (2, 3, .putfield 32, (7, 0, 530), 0), (5, 1, .aload_n 0, (0, 0, 0), 0), (6, 1, .iconst (-1), (0, 0, 0), 0), (7, 3, .putfield 9, (7, 1, 532), 0), (10, 1, .return_, (0, 0, 0), 0)]
-- AirBed$Cheeks.clear()V
def am_m26 : am_M := ((7, ⟨"AirBed$Cheeks", "clear", "()V"⟩, prog_4_method_2_code), (1, none, 0), (0, 0, 0, 0), am_m26_c0)
def am_m27_c0 : List am_I := [(0, 1, .iload_n 1, (0, 0, 0), 0), (1, 3, .ifCond .ne 11, (6, 0, 0), 0), (4, 1, .aload_n 0, (0, 0, 0), 0), (5, 3, .getfield 30, (0, 4, 665), 0), (8, 3, .getfield 122, (4, 1, 409), 0), (11, 1, .ireturn, (0, 0, 0), 0), (12, 1, .iload_n 1, (0, 0, 0), 0), (13, 1, .iconst 1, (0, 0, 0), 0), (14, 3, .if_icmp .ne 13, (13, 0, 0), 0), (17, 1, .aload_n 0, (0, 0, 0), 0), (18, 3, .getfield 30, (0, 4, 665), 0), (21, 3, .getfield 125, (4, 2, 411), 0), (24, 3, .goto 4, (14, 0, 0), 0), (27, 1, .iconst (-1), (0, 0, 0), 0), (28, 1, .ireturn, (0, 0, 0), 0)]
-- AirBed.fault(I)I
def am_m27 : am_M := ((0, ⟨"AirBed", "fault", "(I)I"⟩, prog_1_method_5_code), (2, some .int, 1), (0, 0, 0, 0), am_m27_c0)
def am_m28_c0 : List am_I := [(0, 1, .iload_n 1, (0, 0, 0), 0), (1, 3, .ifCond .ne 12, (7, 0, 0), 0), (4, 1, .aload_n 0, (0, 0, 0), 0), (5, 3, .getfield 18, (0, 2, 663), 0), (8, 1, .iload_n 2, (0, 0, 0), 0), (9, 3, .invokevirtual 128, (20, 902, 3), 0), (12, 1, .ireturn, (0, 0, 0), 0), (13, 1, .iload_n 1, (0, 0, 0), 0), (14, 1, .iconst 1, (0, 0, 0), 0), (15, 3, .if_icmp .ne 14, (15, 0, 0), 0), (18, 1, .aload_n 0, (0, 0, 0), 0), (19, 3, .getfield 18, (0, 2, 663), 0), (22, 1, .iload_n 2, (0, 0, 0), 0), (23, 3, .invokevirtual 132, (21, 903, 3), 0), (26, 3, .goto 4, (16, 0, 0), 0), (29, 1, .iconst (-1), (0, 0, 0), 0), (30, 1, .ireturn, (0, 0, 0), 0)]
-- AirBed.named(II)I
def am_m28 : am_M := ((0, ⟨"AirBed", "named", "(II)I"⟩, prog_1_method_6_code), (3, some .int, 2), (1, 22, 0, 0), am_m28_c0)
def am_m29_c0 : List am_I := [(0, 1, .iload_n 1, (0, 0, 0), 0), (1, 3, .ifCond .ne 12, (7, 0, 0), 0), (4, 1, .iload_n 2, (0, 0, 0), 0), (5, 1, .iconst 0, (0, 0, 0), 0), (6, 1, .iconst 1, (0, 0, 0), 0), (7, 3, .invokestatic 172, (30, 908, 3), 0), (10, 3, .ifCond .ne 24, (18, 0, 0), 0), (13, 1, .iload_n 1, (0, 0, 0), 0), (14, 1, .iconst 1, (0, 0, 0), 0), (15, 3, .if_icmp .ne 14, (15, 0, 0), 0), (18, 1, .iload_n 2, (0, 0, 0), 0), (19, 1, .iconst 0, (0, 0, 0), 0), (20, 3, .sipush 999, (0, 0, 0), 0), (23, 3, .invokestatic 172, (30, 908, 3), 0), (26, 3, .ifCond .ne 8, (18, 0, 0), 0), (29, 1, .iload_n 1, (0, 0, 0), 0), (30, 1, .iconst 2, (0, 0, 0), 0), (31, 3, .if_icmp .ne 7, (20, 0, 0), 0), (34, 1, .iconst 1, (0, 0, 0), 0), (35, 3, .goto 4, (21, 0, 0), 0), (38, 1, .iconst 0, (0, 0, 0), 0), (39, 1, .istore_n 3, (0, 0, 0), 0), (40, 1, .iload_n 3, (0, 0, 0), 0), (41, 3, .ifCond .ne 7, (26, 0, 0), 0), (44, 3, .ldc2_w 176, (0, 0, 911), (-9223372036854775808)), (47, 1, .lreturn, (0, 0, 0), 0), (48, 1, .aload_n 0, (0, 0, 0), 0), (49, 3, .getfield 64, (0, 11, 672), 0), (52, 1, .aload_n 0, (0, 0, 0), 0), (53, 3, .getfield 18, (0, 2, 663), 0), (56, 1, .aload_n 0, (0, 0, 0), 0), (57, 3, .getfield 37, (0, 5, 666), 0), (60, 3, .invokevirtual 146, (31, 912, 3), 0), (63, 1, .aload_n 0, (0, 0, 0), 0), (64, 3, .getfield 64, (0, 11, 672), 0), (67, 1, .iload_n 1, (0, 0, 0), 0), (68, 1, .iload_n 1, (0, 0, 0), 0), (69, 3, .ifCond .ne 7, (40, 0, 0), 0), (72, 1, .iload_n 2, (0, 0, 0), 0), (73, 3, .goto 4, (41, 0, 0), 0), (76, 1, .iconst 0, (0, 0, 0), 0), (77, 1, .iload_n 1, (0, 0, 0), 0), (78, 1, .iconst 1, (0, 0, 0), 0), (79, 3, .if_icmp .ne 7, (46, 0, 0), 0), (82, 1, .iload_n 2, (0, 0, 0), 0), (83, 3, .goto 4, (47, 0, 0), 0), (86, 1, .iconst 0, (0, 0, 0), 0), (87, 3, .invokevirtual 178, (33, 921, 3), 0), (90, 1, .lreturn, (0, 0, 0), 0)]
-- AirBed.law(II)J
def am_m29 : am_M := ((0, ⟨"AirBed", "law", "(II)J"⟩, prog_1_method_10_code), (4, some .long, 2), (2, 50, 0, 0), am_m29_c0)
def am_m30_c0 : List am_I := [(0, 1, .iload_n 0, (0, 0, 0), 0), (1, 1, .iload_n 1, (0, 0, 0), 0), (2, 3, .if_icmp .lt 12, (8, 0, 0), 0), (5, 1, .iload_n 0, (0, 0, 0), 0), (6, 1, .iload_n 2, (0, 0, 0), 0), (7, 3, .if_icmp .gt 7, (8, 0, 0), 0), (10, 1, .iconst 1, (0, 0, 0), 0), (11, 3, .goto 4, (9, 0, 0), 0), (14, 1, .iconst 0, (0, 0, 0), 0), (15, 1, .ireturn, (0, 0, 0), 0)]
-- AirBed.isWithin(III)Z
def am_m30 : am_M := ((0, ⟨"AirBed", "isWithin", "(III)Z"⟩, prog_1_method_9_code), (3, some .boolean, 3), (0, 0, 0, 0), am_m30_c0)
def am_m31_c0 : List am_I := [(0, 1, .aload_n 0, (0, 0, 0), 0), (1, 1, .aload_n 1, (0, 0, 0), 0), (2, 3, .putfield 18, (8, 0, 566), 0), (5, 1, .aload_n 0, (0, 0, 0), 0), (6, 3, .getfield 12, (8, 1, 569), 0), (9, 1, .aload_n 2, (0, 0, 0), 0), (10, 3, .invokevirtual 22, (32, 916, 3), 0), (13, 1, .aload_n 0, (0, 0, 0), 0), (14, 1, .aload_n 1, (0, 0, 0), 0), (15, 3, .getfield 26, (1, 18, 311), 0), (18, 3, .putfield 32, (8, 2, 573), 0), (21, 1, .aload_n 0, (0, 0, 0), 0), (22, 1, .iconst 0, (0, 0, 0), 0), (23, 3, .putfield 33, (8, 3, 575), 0), (26, 1, .aload_n 0, (0, 0, 0), 0), (27, 1, .iconst 0, (0, 0, 0), 0), (28, 3, .putfield 37, (8, 4, 577), 0), (31, 1, .aload_n 0, (0, 0, 0), 0), (32, 2, .ldc 42, (0, 0, 920), 2147483647), (34, 3, .putfield 43, (8, 5, 580), 0), (37, 1, .aload_n 0, (0, 0, 0), 0), (38, 2, .ldc 42, (0, 0, 920), 2147483647), (40, 3, .putfield 46, (8, 6, 581), 0), (43, 1, .return_, (0, 0, 0), 0)]
-- AirBed$Sim.begin(LAirBed$Plan;LAirBed$State;)V
def am_m31 : am_M := ((8, ⟨"AirBed$Sim", "begin", "(LAirBed$Plan;LAirBed$State;)V"⟩, prog_11_method_2_code), (3, none, 2), (1, 22, 0, 0), am_m31_c0)
def am_m32_c0 : List am_I := [(0, 1, .aload_n 0, (0, 0, 0), 0), (1, 1, .aload_n 1, (0, 0, 0), 0), (2, 3, .getfield 27, (5, 0, 462), 0), (5, 3, .putfield 27, (5, 0, 462), 0), (8, 1, .aload_n 0, (0, 0, 0), 0), (9, 1, .aload_n 1, (0, 0, 0), 0), (10, 3, .getfield 30, (5, 1, 467), 0), (13, 3, .putfield 30, (5, 1, 467), 0), (16, 1, .aload_n 0, (0, 0, 0), 0), (17, 1, .aload_n 1, (0, 0, 0), 0), (18, 3, .getfield 33, (5, 2, 472), 0), (21, 3, .putfield 33, (5, 2, 472), 0), (24, 1, .aload_n 0, (0, 0, 0), 0), (25, 1, .aload_n 1, (0, 0, 0), 0), (26, 3, .getfield 39, (5, 3, 476), 0), (29, 3, .putfield 39, (5, 3, 476), 0), (32, 1, .aload_n 0, (0, 0, 0), 0), (33, 1, .aload_n 1, (0, 0, 0), 0), (34, 3, .getfield 42, (5, 4, 478), 0), (37, 3, .putfield 42, (5, 4, 478), 0), (40, 1, .iconst 0, (0, 0, 0), 0), (41, 1, .istore_n 2, (0, 0, 0), 0), (42, 1, .iload_n 2, (0, 0, 0), 0), (43, 1, .iconst 4, (0, 0, 0), 0), (44, 3, .if_icmp .ge 45, (51, 0, 0), 0), (47, 1, .aload_n 0, (0, 0, 0), 0), (48, 3, .getfield 9, (5, 5, 480), 0), (51, 1, .iload_n 2, (0, 0, 0), 0), (52, 1, .aload_n 1, (0, 0, 0), 0), (53, 3, .getfield 9, (5, 5, 480), 0), (56, 1, .iload_n 2, (0, 0, 0), 0), (57, 1, .iaload, (0, 0, 0), 0), (58, 1, .iastore, (0, 0, 0), 0), (59, 1, .aload_n 0, (0, 0, 0), 0), (60, 3, .getfield 15, (5, 6, 482), 0), (63, 1, .iload_n 2, (0, 0, 0), 0), (64, 1, .aload_n 1, (0, 0, 0), 0), (65, 3, .getfield 15, (5, 6, 482), 0), (68, 1, .iload_n 2, (0, 0, 0), 0), (69, 1, .iaload, (0, 0, 0), 0), (70, 1, .iastore, (0, 0, 0), 0), (71, 1, .aload_n 0, (0, 0, 0), 0), (72, 3, .getfield 18, (5, 7, 485), 0), (75, 1, .iload_n 2, (0, 0, 0), 0), (76, 1, .aload_n 1, (0, 0, 0), 0), (77, 3, .getfield 18, (5, 7, 485), 0), (80, 1, .iload_n 2, (0, 0, 0), 0), (81, 1, .iaload, (0, 0, 0), 0), (82, 1, .iastore, (0, 0, 0), 0), (83, 3, .iinc 2 1, (0, 0, 0), 0), (86, 3, .goto (-44), (22, 0, 0), 0), (89, 1, .return_, (0, 0, 0), 0)]
-- AirBed$State.copy(LAirBed$State;)V
def am_m32 : am_M := ((5, ⟨"AirBed$State", "copy", "(LAirBed$State;)V"⟩, prog_12_method_3_code), (3, none, 1), (0, 0, 0, 0), am_m32_c0)
def am_m33_c0 : List am_I := [(0, 1, .aload_n 0, (0, 0, 0), 0), (1, 3, .getfield 18, (8, 0, 566), 0), (4, 3, .getfield 62, (1, 19, 315), 0), (7, 2, .astore 4, (0, 0, 0), 0), (9, 2, .aload 4, (0, 0, 0), 0), (11, 3, .getfield 66, (2, 7, 174), 0), (14, 1, .iconst 1, (0, 0, 0), 0), (15, 1, .aload_n 0, (0, 0, 0), 0), (16, 3, .getfield 12, (8, 1, 569), 0), (19, 3, .getfield 49, (5, 0, 463), 0), (22, 1, .i2l, (0, 0, 0), 0), (23, 1, .lastore, (0, 0, 0), 0), (24, 2, .aload 4, (0, 0, 0), 0), (26, 3, .getfield 66, (2, 7, 174), 0), (29, 1, .iconst 2, (0, 0, 0), 0), (30, 1, .aload_n 0, (0, 0, 0), 0), (31, 3, .getfield 18, (8, 0, 566), 0), (34, 3, .getfield 52, (1, 0, 249), 0), (37, 1, .aload_n 0, (0, 0, 0), 0), (38, 3, .getfield 12, (8, 1, 569), 0), (41, 3, .getfield 49, (5, 0, 463), 0), (44, 1, .isub, (0, 0, 0), 0), (45, 1, .i2l, (0, 0, 0), 0), (46, 1, .lastore, (0, 0, 0), 0), (47, 2, .aload 4, (0, 0, 0), 0), (49, 3, .getfield 66, (2, 7, 174), 0), (52, 1, .iconst 3, (0, 0, 0), 0), (53, 1, .iload_n 2, (0, 0, 0), 0), (54, 1, .i2l, (0, 0, 0), 0), (55, 1, .lastore, (0, 0, 0), 0), (56, 2, .aload 4, (0, 0, 0), 0), (58, 3, .getfield 66, (2, 7, 174), 0), (61, 1, .iconst 4, (0, 0, 0), 0), (62, 1, .aload_n 0, (0, 0, 0), 0), (63, 3, .getfield 12, (8, 1, 569), 0), (66, 3, .getfield 59, (5, 1, 470), 0), (69, 1, .i2l, (0, 0, 0), 0), (70, 1, .lastore, (0, 0, 0), 0), (71, 2, .aload 4, (0, 0, 0), 0), (73, 3, .getfield 66, (2, 7, 174), 0), (76, 1, .iconst 0, (0, 0, 0), 0), (77, 1, .lconst 0, (0, 0, 0), 0), (78, 1, .lastore, (0, 0, 0), 0), (79, 2, .aload 4, (0, 0, 0), 0), (81, 3, .getfield 66, (2, 7, 174), 0), (84, 1, .iconst 5, (0, 0, 0), 0), (85, 1, .lconst 0, (0, 0, 0), 0), (86, 1, .lastore, (0, 0, 0), 0), (87, 1, .iload_n 1, (0, 0, 0), 0), (88, 1, .iconst 2, (0, 0, 0), 0), (89, 3, .if_icmp .eq 40, (70, 0, 0), 0), (92, 2, .aload 4, (0, 0, 0), 0), (94, 3, .getfield 72, (2, 6, 172), 0), (97, 1, .iload_n 1, (0, 0, 0), 0), (98, 1, .baload, (0, 0, 0), 0), (99, 3, .ifCond .eq 30, (70, 0, 0), 0), (102, 1, .aload_n 0, (0, 0, 0), 0), (103, 3, .getfield 33, (8, 3, 575), 0), (106, 3, .ifCond .ne 23, (70, 0, 0), 0), (109, 2, .aload 4, (0, 0, 0), 0)]
def am_m33_c1 : List am_I := [(111, 3, .getfield 66, (2, 7, 174), 0), (114, 1, .iconst 0, (0, 0, 0), 0), (115, 2, .aload 4, (0, 0, 0), 0), (117, 1, .iconst 2, (0, 0, 0), 0), (118, 3, .invokevirtual 76, (34, 925, 3), 0), (121, 2, .bipush 99, (0, 0, 0), 0), (123, 1, .iconst 0, (0, 0, 0), 0), (124, 3, .invokestatic 80, (35, 935, 3), 0), (127, 1, .i2l, (0, 0, 0), 0), (128, 1, .lastore, (0, 0, 0), 0), (129, 2, .aload 4, (0, 0, 0), 0), (131, 3, .getfield 66, (2, 7, 174), 0), (134, 1, .iconst 5, (0, 0, 0), 0), (135, 1, .iload_n 3, (0, 0, 0), 0), (136, 1, .i2l, (0, 0, 0), 0), (137, 1, .lastore, (0, 0, 0), 0), (138, 2, .aload 4, (0, 0, 0), 0), (140, 1, .iload_n 1, (0, 0, 0), 0), (141, 3, .invokevirtual 76, (34, 925, 3), 0), (144, 1, .lreturn, (0, 0, 0), 0)]
-- AirBed$Sim.worth(III)J
def am_m33 : am_M := ((8, ⟨"AirBed$Sim", "worth", "(III)J"⟩, prog_11_method_5_code), (5, some .long, 3), (1, 26, 0, 0), am_m33_c0 ++ (am_m33_c1))
def am_m34_c0 : List am_I := [(0, 1, .iconst 0, (0, 0, 0), 0), (1, 1, .istore_n 2, (0, 0, 0), 0), (2, 1, .aload_n 0, (0, 0, 0), 0), (3, 3, .getfield 18, (2, 4, 169), 0), (6, 1, .iload_n 1, (0, 0, 0), 0), (7, 1, .iaload, (0, 0, 0), 0), (8, 1, .istore_n 3, (0, 0, 0), 0), (9, 1, .iload_n 3, (0, 0, 0), 0), (10, 1, .aload_n 0, (0, 0, 0), 0), (11, 3, .getfield 21, (2, 5, 170), 0), (14, 1, .iload_n 1, (0, 0, 0), 0), (15, 1, .iaload, (0, 0, 0), 0), (16, 3, .if_icmp .ge 185, (114, 0, 0), 0), (19, 1, .aload_n 0, (0, 0, 0), 0), (20, 3, .getfield 9, (2, 2, 167), 0), (23, 1, .iload_n 3, (0, 0, 0), 0), (24, 1, .iaload, (0, 0, 0), 0), (25, 2, .istore 4, (0, 0, 0), 0), (27, 2, .iload 4, (0, 0, 0), 0), (29, 3, .ifCond .eq 9, (23, 0, 0), 0), (32, 2, .iload 4, (0, 0, 0), 0), (34, 1, .iconst 1, (0, 0, 0), 0), (35, 3, .if_icmp .ne 51, (49, 0, 0), 0), (38, 1, .iload_n 2, (0, 0, 0), 0), (39, 2, .bipush 64, (0, 0, 0), 0), (41, 3, .if_icmp .lt 7, (28, 0, 0), 0), (44, 3, .ldc2_w 42, (0, 0, 929), (-9223372036854775808)), (47, 1, .lreturn, (0, 0, 0), 0), (48, 1, .aload_n 0, (0, 0, 0), 0), (49, 3, .getfield 32, (2, 8, 175), 0), (52, 1, .iload_n 2, (0, 0, 0), 0), (53, 2, .iload 4, (0, 0, 0), 0), (55, 3, .ifCond .ne 13, (39, 0, 0), 0), (58, 1, .aload_n 0, (0, 0, 0), 0), (59, 3, .getfield 15, (2, 3, 168), 0), (62, 1, .iload_n 3, (0, 0, 0), 0), (63, 1, .iaload, (0, 0, 0), 0), (64, 1, .i2l, (0, 0, 0), 0), (65, 3, .goto 14, (46, 0, 0), 0), (68, 1, .aload_n 0, (0, 0, 0), 0), (69, 3, .getfield 28, (2, 7, 173), 0), (72, 1, .aload_n 0, (0, 0, 0), 0), (73, 3, .getfield 15, (2, 3, 168), 0), (76, 1, .iload_n 3, (0, 0, 0), 0), (77, 1, .iaload, (0, 0, 0), 0), (78, 1, .laload, (0, 0, 0), 0), (79, 1, .lastore, (0, 0, 0), 0), (80, 3, .iinc 2 1, (0, 0, 0), 0), (83, 3, .goto 112, (112, 0, 0), 0), (86, 2, .iload 4, (0, 0, 0), 0), (88, 1, .iconst 5, (0, 0, 0), 0), (89, 3, .if_icmp .ne 41, (76, 0, 0), 0), (92, 1, .iload_n 2, (0, 0, 0), 0), (93, 1, .iconst 1, (0, 0, 0), 0), (94, 3, .if_icmp .ge 7, (57, 0, 0), 0), (97, 3, .ldc2_w 42, (0, 0, 929), (-9223372036854775808)), (100, 1, .lreturn, (0, 0, 0), 0), (101, 1, .aload_n 0, (0, 0, 0), 0), (102, 3, .getfield 32, (2, 8, 175), 0), (105, 1, .iload_n 2, (0, 0, 0), 0)]
def am_m34_c1 : List am_I := [(106, 1, .iconst 1, (0, 0, 0), 0), (107, 1, .isub, (0, 0, 0), 0), (108, 1, .aload_n 0, (0, 0, 0), 0), (109, 3, .getfield 32, (2, 8, 175), 0), (112, 1, .iload_n 2, (0, 0, 0), 0), (113, 1, .iconst 1, (0, 0, 0), 0), (114, 1, .isub, (0, 0, 0), 0), (115, 1, .laload, (0, 0, 0), 0), (116, 1, .lconst 0, (0, 0, 0), 0), (117, 1, .lcmp, (0, 0, 0), 0), (118, 3, .ifCond .ne 7, (73, 0, 0), 0), (121, 1, .lconst 1, (0, 0, 0), 0), (122, 3, .goto 4, (74, 0, 0), 0), (125, 1, .lconst 0, (0, 0, 0), 0), (126, 1, .lastore, (0, 0, 0), 0), (127, 3, .goto 68, (112, 0, 0), 0), (130, 1, .iload_n 2, (0, 0, 0), 0), (131, 1, .iconst 2, (0, 0, 0), 0), (132, 3, .if_icmp .ge 7, (81, 0, 0), 0), (135, 3, .ldc2_w 42, (0, 0, 929), (-9223372036854775808)), (138, 1, .lreturn, (0, 0, 0), 0), (139, 3, .iinc 2 (-1), (0, 0, 0), 0), (142, 2, .iload 4, (0, 0, 0), 0), (144, 1, .aload_n 0, (0, 0, 0), 0), (145, 3, .getfield 32, (2, 8, 175), 0), (148, 1, .iload_n 2, (0, 0, 0), 0), (149, 1, .iconst 1, (0, 0, 0), 0), (150, 1, .isub, (0, 0, 0), 0), (151, 1, .laload, (0, 0, 0), 0), (152, 1, .aload_n 0, (0, 0, 0), 0), (153, 3, .getfield 32, (2, 8, 175), 0), (156, 1, .iload_n 2, (0, 0, 0), 0), (157, 1, .laload, (0, 0, 0), 0), (158, 3, .invokestatic 44, (999, 930, 3), 0), (161, 2, .lstore 5, (0, 0, 0), 0), (163, 2, .lload 5, (0, 0, 0), 0), (165, 3, .ldc2_w 48, (0, 0, 933), 1000000000000), (168, 1, .lcmp, (0, 0, 0), 0), (169, 3, .ifCond .gt 12, (103, 0, 0), 0), (172, 2, .lload 5, (0, 0, 0), 0), (174, 3, .ldc2_w 50, (0, 0, 934), (-1000000000000)), (177, 1, .lcmp, (0, 0, 0), 0), (178, 3, .ifCond .ge 7, (105, 0, 0), 0), (181, 3, .ldc2_w 42, (0, 0, 929), (-9223372036854775808)), (184, 1, .lreturn, (0, 0, 0), 0), (185, 1, .aload_n 0, (0, 0, 0), 0), (186, 3, .getfield 32, (2, 8, 175), 0), (189, 1, .iload_n 2, (0, 0, 0), 0), (190, 1, .iconst 1, (0, 0, 0), 0), (191, 1, .isub, (0, 0, 0), 0), (192, 2, .lload 5, (0, 0, 0), 0), (194, 1, .lastore, (0, 0, 0), 0), (195, 3, .iinc 3 1, (0, 0, 0), 0), (198, 3, .goto (-189), (7, 0, 0), 0), (201, 1, .iload_n 2, (0, 0, 0), 0), (202, 1, .iconst 1, (0, 0, 0), 0), (203, 3, .if_icmp .ne 12, (122, 0, 0), 0), (206, 1, .aload_n 0, (0, 0, 0), 0), (207, 3, .getfield 32, (2, 8, 175), 0), (210, 1, .iconst 0, (0, 0, 0), 0)]
def am_m34_c2 : List am_I := [(211, 1, .laload, (0, 0, 0), 0), (212, 3, .goto 6, (123, 0, 0), 0), (215, 3, .ldc2_w 42, (0, 0, 929), (-9223372036854775808)), (218, 1, .lreturn, (0, 0, 0), 0)]
-- AirBed$Laws.valueOf(I)J
def am_m34 : am_M := ((2, ⟨"AirBed$Laws", "valueOf", "(I)J"⟩, prog_6_method_6_code), (7, some .long, 1), (0, 0, 0, 0), am_m34_c0 ++ (am_m34_c1 ++ (am_m34_c2)))
def am_m35_c0 : List am_I := [(0, 1, .lload_n 0, (0, 0, 0), 0), (1, 3, .ldc2_w 84, (0, 0, 938), (-9223372036854775808)), (4, 1, .lcmp, (0, 0, 0), 0), (5, 3, .ifCond .ne 5, (6, 0, 0), 0), (8, 1, .iload_n 3, (0, 0, 0), 0), (9, 1, .ireturn, (0, 0, 0), 0), (10, 1, .lload_n 0, (0, 0, 0), 0), (11, 1, .lconst 0, (0, 0, 0), 0), (12, 1, .lcmp, (0, 0, 0), 0), (13, 3, .ifCond .ge 5, (12, 0, 0), 0), (16, 1, .iconst 0, (0, 0, 0), 0), (17, 1, .ireturn, (0, 0, 0), 0), (18, 1, .lload_n 0, (0, 0, 0), 0), (19, 1, .iload_n 2, (0, 0, 0), 0), (20, 1, .i2l, (0, 0, 0), 0), (21, 1, .lcmp, (0, 0, 0), 0), (22, 3, .ifCond .le 7, (19, 0, 0), 0), (25, 1, .iload_n 2, (0, 0, 0), 0), (26, 3, .goto 5, (21, 0, 0), 0), (29, 1, .lload_n 0, (0, 0, 0), 0), (30, 1, .l2i, (0, 0, 0), 0), (31, 1, .ireturn, (0, 0, 0), 0)]
-- AirBed$Sim.within(JII)I
def am_m35 : am_M := ((8, ⟨"AirBed$Sim", "within", "(JII)I"⟩, prog_11_method_6_code), (4, some .int, 3), (0, 0, 0, 0), am_m35_c0)
def am_m36_c0 : List am_I := [(0, 1, .aload_n 0, (0, 0, 0), 0), (1, 1, .iload_n 1, (0, 0, 0), 0), (2, 3, .invokevirtual 135, (37, 943, 3), 0), (5, 3, .ifCond .eq 13, (9, 0, 0), 0), (8, 1, .iload_n 2, (0, 0, 0), 0), (9, 1, .iconst 1, (0, 0, 0), 0), (10, 2, .bipush 20, (0, 0, 0), 0), (12, 3, .invokestatic 172, (30, 908, 3), 0), (15, 3, .ifCond .ne 5, (11, 0, 0), 0), (18, 1, .iconst (-1), (0, 0, 0), 0), (19, 1, .ireturn, (0, 0, 0), 0), (20, 1, .aload_n 0, (0, 0, 0), 0), (21, 3, .getfield 64, (0, 11, 672), 0), (24, 1, .aload_n 0, (0, 0, 0), 0), (25, 3, .getfield 18, (0, 2, 663), 0), (28, 1, .aload_n 0, (0, 0, 0), 0), (29, 3, .getfield 37, (0, 5, 666), 0), (32, 3, .invokevirtual 146, (31, 912, 3), 0), (35, 1, .aload_n 0, (0, 0, 0), 0), (36, 3, .getfield 64, (0, 11, 672), 0), (39, 1, .iload_n 1, (0, 0, 0), 0), (40, 1, .iload_n 2, (0, 0, 0), 0), (41, 3, .invokevirtual 182, (999, 947, 3), 0), (44, 3, .ifCond .eq 6, (26, 0, 0), 0), (47, 2, .bipush (-2), (0, 0, 0), 0), (49, 1, .ireturn, (0, 0, 0), 0), (50, 1, .aload_n 0, (0, 0, 0), 0), (51, 3, .getfield 64, (0, 11, 672), 0), (54, 1, .iload_n 1, (0, 0, 0), 0), (55, 3, .invokevirtual 186, (999, 959, 3), 0), (58, 1, .iload_n 2, (0, 0, 0), 0), (59, 1, .aload_n 0, (0, 0, 0), 0), (60, 3, .getfield 18, (0, 2, 663), 0), (63, 3, .getfield 189, (1, 3, 264), 0), (66, 1, .iload_n 1, (0, 0, 0), 0), (67, 1, .aaload, (0, 0, 0), 0), (68, 3, .getfield 193, (3, 4, 214), 0), (71, 1, .imul, (0, 0, 0), 0), (72, 1, .iadd, (0, 0, 0), 0), (73, 1, .istore_n 3, (0, 0, 0), 0), (74, 1, .iload_n 3, (0, 0, 0), 0), (75, 2, .ldc 198, (0, 0, 960), 99999), (77, 1, .aload_n 0, (0, 0, 0), 0), (78, 3, .getfield 37, (0, 5, 666), 0), (81, 3, .getfield 199, (5, 1, 471), 0), (84, 1, .isub, (0, 0, 0), 0), (85, 3, .if_icmp .le 5, (49, 0, 0), 0), (88, 1, .iconst (-1), (0, 0, 0), 0), (89, 1, .ireturn, (0, 0, 0), 0), (90, 1, .aload_n 0, (0, 0, 0), 0), (91, 3, .getfield 64, (0, 11, 672), 0), (94, 1, .iload_n 1, (0, 0, 0), 0), (95, 3, .invokevirtual 202, (999, 961, 3), 0), (98, 1, .pop, (0, 0, 0), 0), (99, 1, .iconst 0, (0, 0, 0), 0), (100, 2, .istore 4, (0, 0, 0), 0), (102, 2, .iload 4, (0, 0, 0), 0), (104, 1, .iload_n 2, (0, 0, 0), 0), (105, 3, .if_icmp .ge 18, (66, 0, 0), 0), (108, 1, .aload_n 0, (0, 0, 0), 0)]
def am_m36_c1 : List am_I := [(109, 3, .getfield 64, (0, 11, 672), 0), (112, 1, .iload_n 1, (0, 0, 0), 0), (113, 3, .invokevirtual 205, (999, 976, 3), 0), (116, 1, .pop, (0, 0, 0), 0), (117, 3, .iinc 4 1, (0, 0, 0), 0), (120, 3, .goto (-18), (56, 0, 0), 0), (123, 1, .aload_n 0, (0, 0, 0), 0), (124, 3, .invokevirtual 208, (39, 992, 3), 0), (127, 1, .ireturn, (0, 0, 0), 0)]
-- AirBed.blow(II)I
def am_m36 : am_M := ((0, ⟨"AirBed", "blow", "(II)I"⟩, prog_1_method_11_code), (5, some .int, 2), (3, 63, 0, 0), am_m36_c0 ++ (am_m36_c1))
def am_m37_c0 : List am_I := [(0, 1, .iload_n 1, (0, 0, 0), 0), (1, 3, .ifCond .lt 18, (9, 0, 0), 0), (4, 1, .iload_n 1, (0, 0, 0), 0), (5, 1, .aload_n 0, (0, 0, 0), 0), (6, 3, .getfield 18, (0, 2, 663), 0), (9, 3, .getfield 169, (1, 2, 258), 0), (12, 3, .if_icmp .ge 7, (9, 0, 0), 0), (15, 1, .iconst 1, (0, 0, 0), 0), (16, 3, .goto 4, (10, 0, 0), 0), (19, 1, .iconst 0, (0, 0, 0), 0), (20, 1, .ireturn, (0, 0, 0), 0)]
-- AirBed.isBlower(I)Z
def am_m37 : am_M := ((0, ⟨"AirBed", "isBlower", "(I)Z"⟩, prog_1_method_8_code), (2, some .boolean, 1), (0, 0, 0, 0), am_m37_c0)
def am_m38_c0 : List am_I := [(0, 1, .aload_n 0, (0, 0, 0), 0), (1, 3, .getfield 32, (8, 2, 573), 0), (4, 3, .ifCond .lt 21, (11, 0, 0), 0), (7, 1, .aload_n 0, (0, 0, 0), 0), (8, 3, .getfield 12, (8, 1, 569), 0), (11, 1, .aload_n 0, (0, 0, 0), 0), (12, 3, .getfield 32, (8, 2, 573), 0), (15, 3, .invokevirtual 86, (999, 969, 3), 0), (18, 3, .ifCond .ne 7, (11, 0, 0), 0), (21, 1, .iconst 1, (0, 0, 0), 0), (22, 3, .goto 4, (12, 0, 0), 0), (25, 1, .iconst 0, (0, 0, 0), 0), (26, 1, .istore_n 3, (0, 0, 0), 0), (27, 1, .iload_n 3, (0, 0, 0), 0), (28, 3, .ifCond .eq 18, (22, 0, 0), 0), (31, 1, .aload_n 0, (0, 0, 0), 0), (32, 3, .getfield 18, (8, 0, 566), 0), (35, 3, .getfield 90, (1, 11, 292), 0), (38, 1, .aload_n 0, (0, 0, 0), 0), (39, 3, .getfield 32, (8, 2, 573), 0), (42, 1, .iaload, (0, 0, 0), 0), (43, 3, .goto 4, (23, 0, 0), 0), (46, 1, .iconst 0, (0, 0, 0), 0), (47, 2, .istore 4, (0, 0, 0), 0), (49, 1, .iconst 0, (0, 0, 0), 0), (50, 2, .istore 5, (0, 0, 0), 0), (52, 2, .iload 5, (0, 0, 0), 0), (54, 1, .iload_n 1, (0, 0, 0), 0), (55, 3, .if_icmp .ge 167, (108, 0, 0), 0), (58, 1, .aload_n 0, (0, 0, 0), 0), (59, 3, .getfield 12, (8, 1, 569), 0), (62, 3, .getfield 59, (5, 1, 470), 0), (65, 1, .aload_n 0, (0, 0, 0), 0), (66, 3, .getfield 43, (8, 5, 580), 0), (69, 3, .if_icmp .lt 5, (37, 0, 0), 0), (72, 1, .iconst 0, (0, 0, 0), 0), (73, 1, .ireturn, (0, 0, 0), 0), (74, 1, .aload_n 0, (0, 0, 0), 0), (75, 3, .getfield 12, (8, 1, 569), 0), (78, 3, .getfield 49, (5, 0, 463), 0), (81, 2, .bipush 100, (0, 0, 0), 0), (83, 1, .idiv, (0, 0, 0), 0), (84, 1, .iload_n 2, (0, 0, 0), 0), (85, 3, .ifCond .eq 8, (46, 0, 0), 0), (88, 2, .bipush 20, (0, 0, 0), 0), (90, 3, .goto 4, (47, 0, 0), 0), (93, 1, .iconst 0, (0, 0, 0), 0), (94, 1, .iadd, (0, 0, 0), 0), (95, 2, .istore 6, (0, 0, 0), 0), (97, 1, .aload_n 0, (0, 0, 0), 0), (98, 1, .iconst 0, (0, 0, 0), 0), (99, 1, .iload_n 2, (0, 0, 0), 0), (100, 3, .ifCond .eq 7, (55, 0, 0), 0), (103, 1, .iconst 1, (0, 0, 0), 0), (104, 3, .goto 4, (56, 0, 0), 0), (107, 1, .iconst 0, (0, 0, 0), 0), (108, 1, .iconst 0, (0, 0, 0), 0), (109, 3, .invokevirtual 94, (33, 973, 3), 0), (112, 3, .sipush 999, (0, 0, 0), 0), (115, 2, .iload 6, (0, 0, 0), 0)]
def am_m38_c1 : List am_I := [(117, 3, .invokestatic 80, (35, 935, 3), 0), (120, 2, .iload 4, (0, 0, 0), 0), (122, 1, .iadd, (0, 0, 0), 0), (123, 2, .istore 7, (0, 0, 0), 0), (125, 1, .aload_n 0, (0, 0, 0), 0), (126, 3, .getfield 12, (8, 1, 569), 0), (129, 1, .aload_n 0, (0, 0, 0), 0), (130, 3, .getfield 12, (8, 1, 569), 0), (133, 3, .getfield 49, (5, 0, 463), 0), (136, 2, .iload 7, (0, 0, 0), 0), (138, 1, .isub, (0, 0, 0), 0), (139, 1, .iconst 0, (0, 0, 0), 0), (140, 3, .invokestatic 98, (0, 974, 1), 0), (143, 3, .putfield 49, (5, 0, 463), 0), (146, 1, .aload_n 0, (0, 0, 0), 0), (147, 3, .getfield 37, (8, 4, 577), 0), (150, 3, .ifCond .eq 35, (91, 0, 0), 0), (153, 1, .aload_n 0, (0, 0, 0), 0), (154, 3, .getfield 12, (8, 1, 569), 0), (157, 1, .aload_n 0, (0, 0, 0), 0), (158, 3, .getfield 12, (8, 1, 569), 0), (161, 3, .getfield 49, (5, 0, 463), 0), (164, 1, .aload_n 0, (0, 0, 0), 0), (165, 3, .getfield 18, (8, 0, 566), 0), (168, 3, .getfield 104, (1, 7, 277), 0), (171, 1, .iadd, (0, 0, 0), 0), (172, 1, .aload_n 0, (0, 0, 0), 0), (173, 3, .getfield 18, (8, 0, 566), 0), (176, 3, .getfield 52, (1, 0, 249), 0), (179, 3, .invokestatic 107, (0, 975, 2), 0), (182, 3, .putfield 49, (5, 0, 463), 0), (185, 1, .aload_n 0, (0, 0, 0), 0), (186, 3, .getfield 12, (8, 1, 569), 0), (189, 1, .dup, (0, 0, 0), 0), (190, 3, .getfield 59, (5, 1, 470), 0), (193, 1, .iconst 1, (0, 0, 0), 0), (194, 1, .iadd, (0, 0, 0), 0), (195, 3, .putfield 59, (5, 1, 470), 0), (198, 1, .aload_n 0, (0, 0, 0), 0), (199, 1, .aload_n 0, (0, 0, 0), 0), (200, 3, .getfield 46, (8, 6, 581), 0), (203, 1, .aload_n 0, (0, 0, 0), 0), (204, 3, .getfield 12, (8, 1, 569), 0), (207, 3, .getfield 49, (5, 0, 463), 0), (210, 3, .invokestatic 107, (0, 975, 2), 0), (213, 3, .putfield 46, (8, 6, 581), 0), (216, 3, .iinc 5 1, (0, 0, 0), 0), (219, 3, .goto (-167), (26, 0, 0), 0), (222, 1, .iconst 1, (0, 0, 0), 0), (223, 1, .ireturn, (0, 0, 0), 0)]
-- AirBed$Sim.goBy(IZ)Z
def am_m38 : am_M := ((8, ⟨"AirBed$Sim", "goBy", "(IZ)Z"⟩, prog_11_method_7_code), (8, some .boolean, 2), (2, 50, 0, 0), am_m38_c0 ++ (am_m38_c1))
def am_m39_c0 : List am_I := [(0, 1, .aload_n 0, (0, 0, 0), 0), (1, 3, .getfield 50, (0, 9, 670), 0), (4, 1, .aload_n 0, (0, 0, 0), 0), (5, 3, .getfield 37, (0, 5, 666), 0), (8, 3, .invokevirtual 212, (40, 996, 3), 0), (11, 1, .aload_n 0, (0, 0, 0), 0), (12, 3, .getfield 37, (0, 5, 666), 0), (15, 1, .aload_n 0, (0, 0, 0), 0), (16, 3, .getfield 64, (0, 11, 672), 0), (19, 3, .getfield 216, (8, 1, 572), 0), (22, 3, .invokevirtual 219, (32, 1002, 3), 0), (25, 1, .aload_n 0, (0, 0, 0), 0), (26, 3, .getfield 37, (0, 5, 666), 0), (29, 3, .getfield 222, (5, 0, 466), 0), (32, 1, .ireturn, (0, 0, 0), 0)]
-- AirBed.settle()I
def am_m39 : am_M := ((0, ⟨"AirBed", "settle", "()I"⟩, prog_1_method_12_code), (1, some .int, 0), (2, 43, 0, 0), am_m39_c0)
def am_m40_c0 : List am_I := [(0, 1, .aload_n 0, (0, 0, 0), 0), (1, 3, .getfield 11, (6, 0, 513), 0), (4, 1, .aload_n 0, (0, 0, 0), 0), (5, 3, .getfield 22, (6, 1, 514), 0), (8, 1, .aaload, (0, 0, 0), 0), (9, 1, .aload_n 1, (0, 0, 0), 0), (10, 3, .invokevirtual 25, (32, 1000, 3), 0), (13, 1, .aload_n 0, (0, 0, 0), 0), (14, 1, .aload_n 0, (0, 0, 0), 0), (15, 3, .getfield 22, (6, 1, 514), 0), (18, 1, .iconst 1, (0, 0, 0), 0), (19, 1, .iadd, (0, 0, 0), 0), (20, 2, .bipush 20, (0, 0, 0), 0), (22, 1, .irem, (0, 0, 0), 0), (23, 3, .putfield 22, (6, 1, 514), 0), (26, 1, .aload_n 0, (0, 0, 0), 0), (27, 1, .aload_n 0, (0, 0, 0), 0), (28, 3, .getfield 18, (6, 2, 515), 0), (31, 1, .iconst 1, (0, 0, 0), 0), (32, 1, .iadd, (0, 0, 0), 0), (33, 2, .bipush 20, (0, 0, 0), 0), (35, 3, .invokestatic 29, (0, 1001, 2), 0), (38, 3, .putfield 18, (6, 2, 515), 0), (41, 1, .return_, (0, 0, 0), 0)]
-- AirBed$History.push(LAirBed$State;)V
def am_m40 : am_M := ((6, ⟨"AirBed$History", "push", "(LAirBed$State;)V"⟩, prog_5_method_3_code), (2, none, 1), (1, 22, 0, 0), am_m40_c0)
def am_m41_c0 : List am_I := [(0, 1, .iload_n 1, (0, 0, 0), 0), (1, 1, .iconst 1, (0, 0, 0), 0), (2, 3, .sipush 999, (0, 0, 0), 0), (5, 3, .invokestatic 172, (30, 908, 3), 0), (8, 3, .ifCond .eq 17, (12, 0, 0), 0), (11, 1, .iload_n 1, (0, 0, 0), 0), (12, 2, .ldc 198, (0, 0, 960), 99999), (14, 1, .aload_n 0, (0, 0, 0), 0), (15, 3, .getfield 37, (0, 5, 666), 0), (18, 3, .getfield 199, (5, 1, 471), 0), (21, 1, .isub, (0, 0, 0), 0), (22, 3, .if_icmp .le 5, (14, 0, 0), 0), (25, 1, .iconst (-1), (0, 0, 0), 0), (26, 1, .ireturn, (0, 0, 0), 0), (27, 1, .aload_n 0, (0, 0, 0), 0), (28, 3, .getfield 64, (0, 11, 672), 0), (31, 1, .aload_n 0, (0, 0, 0), 0), (32, 3, .getfield 18, (0, 2, 663), 0), (35, 1, .aload_n 0, (0, 0, 0), 0), (36, 3, .getfield 37, (0, 5, 666), 0), (39, 3, .invokevirtual 146, (31, 912, 3), 0), (42, 1, .aload_n 0, (0, 0, 0), 0), (43, 3, .getfield 64, (0, 11, 672), 0), (46, 1, .iload_n 1, (0, 0, 0), 0), (47, 1, .iload_n 2, (0, 0, 0), 0), (48, 3, .invokevirtual 225, (38, 1007, 3), 0), (51, 1, .pop, (0, 0, 0), 0), (52, 1, .aload_n 0, (0, 0, 0), 0), (53, 3, .invokevirtual 208, (39, 992, 3), 0), (56, 1, .ireturn, (0, 0, 0), 0)]
-- AirBed.waits(IZ)I
def am_m41 : am_M := ((0, ⟨"AirBed", "waits", "(IZ)I"⟩, prog_1_method_13_code), (3, some .int, 2), (3, 77, 0, 0), am_m41_c0)
def am_m42_c0 : List am_I := [(0, 1, .aload_n 0, (0, 0, 0), 0), (1, 3, .getfield 18, (0, 2, 663), 0), (4, 3, .getfield 229, (1, 8, 281), 0), (7, 3, .ifCond .eq 8, (7, 0, 0), 0), (10, 1, .iload_n 1, (0, 0, 0), 0), (11, 1, .iconst 1, (0, 0, 0), 0), (12, 3, .if_icmp .ge 5, (9, 0, 0), 0), (15, 1, .iconst (-1), (0, 0, 0), 0), (16, 1, .ireturn, (0, 0, 0), 0), (17, 1, .iload_n 1, (0, 0, 0), 0), (18, 1, .aload_n 0, (0, 0, 0), 0), (19, 3, .getfield 37, (0, 5, 666), 0), (22, 3, .getfield 232, (5, 3, 477), 0), (25, 3, .if_icmp .le 6, (16, 0, 0), 0), (28, 2, .bipush (-2), (0, 0, 0), 0), (30, 1, .ireturn, (0, 0, 0), 0), (31, 1, .iload_n 1, (0, 0, 0), 0), (32, 2, .ldc 198, (0, 0, 960), 99999), (34, 1, .aload_n 0, (0, 0, 0), 0), (35, 3, .getfield 37, (0, 5, 666), 0), (38, 3, .getfield 199, (5, 1, 471), 0), (41, 1, .isub, (0, 0, 0), 0), (42, 3, .if_icmp .le 5, (25, 0, 0), 0), (45, 1, .iconst (-1), (0, 0, 0), 0), (46, 1, .ireturn, (0, 0, 0), 0), (47, 1, .aload_n 0, (0, 0, 0), 0), (48, 3, .getfield 64, (0, 11, 672), 0), (51, 1, .aload_n 0, (0, 0, 0), 0), (52, 3, .getfield 18, (0, 2, 663), 0), (55, 1, .aload_n 0, (0, 0, 0), 0), (56, 3, .getfield 37, (0, 5, 666), 0), (59, 3, .invokevirtual 146, (31, 912, 3), 0), (62, 1, .aload_n 0, (0, 0, 0), 0), (63, 3, .getfield 64, (0, 11, 672), 0), (66, 1, .iconst 1, (0, 0, 0), 0), (67, 3, .putfield 235, (8, 4, 578), 0), (70, 1, .aload_n 0, (0, 0, 0), 0), (71, 3, .getfield 64, (0, 11, 672), 0), (74, 1, .iload_n 1, (0, 0, 0), 0), (75, 1, .iconst 0, (0, 0, 0), 0), (76, 3, .invokevirtual 225, (38, 1007, 3), 0), (79, 1, .pop, (0, 0, 0), 0), (80, 1, .aload_n 0, (0, 0, 0), 0), (81, 3, .getfield 64, (0, 11, 672), 0), (84, 3, .getfield 216, (8, 1, 572), 0), (87, 1, .dup, (0, 0, 0), 0), (88, 3, .getfield 232, (5, 3, 477), 0), (91, 1, .iload_n 1, (0, 0, 0), 0), (92, 1, .isub, (0, 0, 0), 0), (93, 3, .putfield 232, (5, 3, 477), 0), (96, 1, .aload_n 0, (0, 0, 0), 0), (97, 3, .getfield 64, (0, 11, 672), 0), (100, 3, .getfield 216, (8, 1, 572), 0), (103, 2, .bipush (-2), (0, 0, 0), 0), (105, 3, .putfield 238, (5, 2, 475), 0), (108, 1, .aload_n 0, (0, 0, 0), 0), (109, 3, .invokevirtual 208, (39, 992, 3), 0), (112, 1, .ireturn, (0, 0, 0), 0)]
-- AirBed.pump(I)I
def am_m42 : am_M := ((0, ⟨"AirBed", "pump", "(I)I"⟩, prog_1_method_14_code), (2, some .int, 1), (3, 77, 0, 0), am_m42_c0)
def am_m43_c0 : List am_I := [(0, 1, .iload_n 1, (0, 0, 0), 0), (1, 3, .ifCond .lt 25, (12, 0, 0), 0), (4, 1, .iload_n 1, (0, 0, 0), 0), (5, 1, .aload_n 0, (0, 0, 0), 0), (6, 3, .getfield 18, (0, 2, 663), 0), (9, 3, .getfield 241, (1, 9, 285), 0), (12, 3, .if_icmp .ge 14, (12, 0, 0), 0), (15, 1, .aload_n 0, (0, 0, 0), 0), (16, 3, .getfield 37, (0, 5, 666), 0), (19, 1, .iload_n 1, (0, 0, 0), 0), (20, 3, .invokevirtual 244, (999, 1016, 3), 0), (23, 3, .ifCond .eq 5, (14, 0, 0), 0), (26, 1, .iconst (-1), (0, 0, 0), 0), (27, 1, .ireturn, (0, 0, 0), 0), (28, 1, .aload_n 0, (0, 0, 0), 0), (29, 3, .getfield 50, (0, 9, 670), 0), (32, 1, .aload_n 0, (0, 0, 0), 0), (33, 3, .getfield 37, (0, 5, 666), 0), (36, 3, .invokevirtual 212, (40, 996, 3), 0), (39, 1, .aload_n 0, (0, 0, 0), 0), (40, 3, .getfield 37, (0, 5, 666), 0), (43, 1, .dup, (0, 0, 0), 0), (44, 3, .getfield 247, (5, 4, 479), 0), (47, 1, .iconst 1, (0, 0, 0), 0), (48, 1, .iload_n 1, (0, 0, 0), 0), (49, 1, .ishl, (0, 0, 0), 0), (50, 1, .ior, (0, 0, 0), 0), (51, 3, .putfield 247, (5, 4, 479), 0), (54, 1, .iload_n 1, (0, 0, 0), 0), (55, 1, .aload_n 0, (0, 0, 0), 0), (56, 3, .getfield 18, (0, 2, 663), 0), (59, 3, .getfield 250, (1, 18, 313), 0), (62, 3, .if_icmp .ne 7, (35, 0, 0), 0), (65, 1, .iconst 1, (0, 0, 0), 0), (66, 3, .goto 4, (36, 0, 0), 0), (69, 1, .iconst 0, (0, 0, 0), 0), (70, 1, .ireturn, (0, 0, 0), 0)]
-- AirBed.patch(I)I
def am_m43 : am_M := ((0, ⟨"AirBed", "patch", "(I)I"⟩, prog_1_method_15_code), (2, some .int, 1), (2, 43, 0, 0), am_m43_c0)
def am_m44_c0 : List am_I := [(0, 1, .aload_n 0, (0, 0, 0), 0), (1, 3, .getfield 18, (0, 2, 663), 0), (4, 3, .getfield 250, (1, 18, 313), 0), (7, 1, .ireturn, (0, 0, 0), 0)]
-- AirBed.leak()I
def am_m44 : am_M := ((0, ⟨"AirBed", "leak", "()I"⟩, prog_1_method_16_code), (1, some .int, 0), (0, 0, 0, 0), am_m44_c0)
def am_m45_c0 : List am_I := [(0, 1, .aload_n 0, (0, 0, 0), 0), (1, 3, .getfield 18, (0, 2, 663), 0), (4, 3, .getfield 253, (1, 4, 268), 0), (7, 3, .ifCond .eq 12, (9, 0, 0), 0), (10, 1, .iload_n 1, (0, 0, 0), 0), (11, 1, .iconst 0, (0, 0, 0), 0), (12, 1, .iconst 3, (0, 0, 0), 0), (13, 3, .invokestatic 172, (30, 908, 3), 0), (16, 3, .ifCond .ne 5, (11, 0, 0), 0), (19, 1, .iconst (-1), (0, 0, 0), 0), (20, 1, .ireturn, (0, 0, 0), 0), (21, 1, .aload_n 0, (0, 0, 0), 0), (22, 3, .getfield 76, (0, 13, 674), 0), (25, 1, .iconst 0, (0, 0, 0), 0), (26, 1, .aload_n 0, (0, 0, 0), 0), (27, 3, .getfield 18, (0, 2, 663), 0), (30, 1, .aload_n 0, (0, 0, 0), 0), (31, 3, .getfield 37, (0, 5, 666), 0), (34, 3, .invokevirtual 256, (999, 1025, 3), 0), (37, 1, .istore_n 2, (0, 0, 0), 0), (38, 1, .iload_n 1, (0, 0, 0), 0), (39, 25, .tableswitch 57 0 2 #[25, 37, 49], (0, 0, 0), 0), (64, 1, .iload_n 2, (0, 0, 0), 0), (65, 2, .bipush (-2), (0, 0, 0), 0), (67, 3, .if_icmp .ne 7, (27, 0, 0), 0), (70, 1, .iconst 0, (0, 0, 0), 0), (71, 3, .goto 4, (28, 0, 0), 0), (74, 1, .iconst 1, (0, 0, 0), 0), (75, 1, .ireturn, (0, 0, 0), 0), (76, 1, .iload_n 2, (0, 0, 0), 0), (77, 2, .bipush (-2), (0, 0, 0), 0), (79, 3, .if_icmp .ne 7, (34, 0, 0), 0), (82, 1, .iconst (-1), (0, 0, 0), 0), (83, 3, .goto 4, (35, 0, 0), 0), (86, 1, .iload_n 2, (0, 0, 0), 0), (87, 1, .ireturn, (0, 0, 0), 0), (88, 1, .aload_n 0, (0, 0, 0), 0), (89, 3, .getfield 76, (0, 13, 674), 0), (92, 3, .getfield 260, (9, 1, 606), 0), (95, 1, .ireturn, (0, 0, 0), 0), (96, 1, .aload_n 0, (0, 0, 0), 0), (97, 3, .getfield 76, (0, 13, 674), 0), (100, 3, .getfield 263, (9, 2, 608), 0), (103, 1, .ireturn, (0, 0, 0), 0)]
-- AirBed.ever(I)I
def am_m45 : am_M := ((0, ⟨"AirBed", "ever", "(I)I"⟩, prog_1_method_17_code), (3, some .int, 1), (1, 22, 0, 0), am_m45_c0)
def am_m46_c0 : List am_I := [(0, 1, .iload_n 1, (0, 0, 0), 0), (1, 1, .iconst 1, (0, 0, 0), 0), (2, 1, .iconst 2, (0, 0, 0), 0), (3, 3, .invokestatic 172, (30, 908, 3), 0), (6, 3, .ifCond .eq 17, (11, 0, 0), 0), (9, 1, .iload_n 2, (0, 0, 0), 0), (10, 3, .ifCond .lt 13, (11, 0, 0), 0), (13, 1, .aload_n 0, (0, 0, 0), 0), (14, 3, .getfield 18, (0, 2, 663), 0), (17, 3, .getfield 169, (1, 2, 258), 0), (20, 3, .ifCond .ne 5, (13, 0, 0), 0), (23, 1, .iconst (-1), (0, 0, 0), 0), (24, 1, .ireturn, (0, 0, 0), 0), (25, 1, .iload_n 2, (0, 0, 0), 0), (26, 1, .iconst 2, (0, 0, 0), 0), (27, 1, .iconst 2, (0, 0, 0), 0), (28, 1, .iload_n 1, (0, 0, 0), 0), (29, 1, .imul, (0, 0, 0), 0), (30, 1, .iadd, (0, 0, 0), 0), (31, 3, .if_icmp .lt 6, (22, 0, 0), 0), (34, 2, .bipush (-2), (0, 0, 0), 0), (36, 1, .ireturn, (0, 0, 0), 0), (37, 1, .aload_n 0, (0, 0, 0), 0), (38, 3, .getfield 85, (0, 14, 675), 0), (41, 1, .iload_n 1, (0, 0, 0), 0), (42, 1, .aload_n 0, (0, 0, 0), 0), (43, 3, .getfield 18, (0, 2, 663), 0), (46, 1, .aload_n 0, (0, 0, 0), 0), (47, 3, .getfield 37, (0, 5, 666), 0), (50, 3, .invokevirtual 266, (999, 1084, 3), 0), (53, 3, .ifCond .eq 15, (37, 0, 0), 0), (56, 1, .aload_n 0, (0, 0, 0), 0), (57, 3, .getfield 85, (0, 14, 675), 0), (60, 3, .getfield 270, (10, 2, 625), 0), (63, 1, .iload_n 2, (0, 0, 0), 0), (64, 1, .iaload, (0, 0, 0), 0), (65, 3, .goto 5, (38, 0, 0), 0), (68, 2, .bipush (-2), (0, 0, 0), 0), (70, 1, .ireturn, (0, 0, 0), 0)]
-- AirBed.best(II)I
def am_m46 : am_M := ((0, ⟨"AirBed", "best", "(II)I"⟩, prog_1_method_18_code), (3, some .int, 2), (1, 22, 0, 0), am_m46_c0)
def am_m47_c0 : List am_I := [(0, 1, .iload_n 1, (0, 0, 0), 0), (1, 1, .iconst 0, (0, 0, 0), 0), (2, 1, .aload_n 0, (0, 0, 0), 0), (3, 3, .getfield 18, (0, 2, 663), 0), (6, 3, .getfield 273, (1, 0, 251), 0), (9, 3, .invokestatic 172, (30, 908, 3), 0), (12, 3, .ifCond .eq 14, (12, 0, 0), 0), (15, 1, .iload_n 2, (0, 0, 0), 0), (16, 1, .iconst 0, (0, 0, 0), 0), (17, 3, .sipush 9999, (0, 0, 0), 0), (20, 3, .invokestatic 172, (30, 908, 3), 0), (23, 3, .ifCond .ne 5, (14, 0, 0), 0), (26, 1, .iconst (-1), (0, 0, 0), 0), (27, 1, .ireturn, (0, 0, 0), 0), (28, 1, .aload_n 0, (0, 0, 0), 0), (29, 1, .iload_n 1, (0, 0, 0), 0), (30, 1, .iload_n 2, (0, 0, 0), 0), (31, 3, .sipush 3600, (0, 0, 0), 0), (34, 3, .invokevirtual 276, (48, 1104, 3), 0), (37, 1, .ireturn, (0, 0, 0), 0)]
-- AirBed.lasts(II)I
def am_m47 : am_M := ((0, ⟨"AirBed", "lasts", "(II)I"⟩, prog_1_method_19_code), (3, some .int, 2), (4, 101, 0, 0), am_m47_c0)
def am_m48_c0 : List am_I := [(0, 1, .aload_n 0, (0, 0, 0), 0), (1, 3, .getfield 64, (0, 11, 672), 0), (4, 1, .aload_n 0, (0, 0, 0), 0), (5, 3, .getfield 18, (0, 2, 663), 0), (8, 1, .aload_n 0, (0, 0, 0), 0), (9, 3, .getfield 37, (0, 5, 666), 0), (12, 3, .invokevirtual 146, (31, 912, 3), 0), (15, 1, .aload_n 0, (0, 0, 0), 0), (16, 3, .getfield 64, (0, 11, 672), 0), (19, 3, .getfield 216, (8, 1, 572), 0), (22, 1, .iload_n 1, (0, 0, 0), 0), (23, 3, .putfield 222, (5, 0, 466), 0), (26, 1, .iconst 0, (0, 0, 0), 0), (27, 2, .istore 4, (0, 0, 0), 0), (29, 2, .iload 4, (0, 0, 0), 0), (31, 1, .iload_n 3, (0, 0, 0), 0), (32, 3, .if_icmp .ge 33, (31, 0, 0), 0), (35, 1, .aload_n 0, (0, 0, 0), 0), (36, 3, .getfield 64, (0, 11, 672), 0), (39, 3, .getfield 216, (8, 1, 572), 0), (42, 3, .getfield 222, (5, 0, 466), 0), (45, 1, .iload_n 2, (0, 0, 0), 0), (46, 3, .if_icmp .lt 19, (31, 0, 0), 0), (49, 1, .aload_n 0, (0, 0, 0), 0), (50, 3, .getfield 64, (0, 11, 672), 0), (53, 1, .iconst 1, (0, 0, 0), 0), (54, 1, .iconst 0, (0, 0, 0), 0), (55, 3, .invokevirtual 225, (38, 1007, 3), 0), (58, 1, .pop, (0, 0, 0), 0), (59, 3, .iinc 4 1, (0, 0, 0), 0), (62, 3, .goto (-33), (14, 0, 0), 0), (65, 2, .iload 4, (0, 0, 0), 0), (67, 1, .ireturn, (0, 0, 0), 0)]
-- AirBed.secondsAbove(III)I
def am_m48 : am_M := ((0, ⟨"AirBed", "secondsAbove", "(III)I"⟩, prog_1_method_20_code), (5, some .int, 3), (3, 77, 0, 0), am_m48_c0)
def am_m49_c0 : List am_I := [(0, 1, .iload_n 1, (0, 0, 0), 0), (1, 1, .iconst 0, (0, 0, 0), 0), (2, 2, .bipush 60, (0, 0, 0), 0), (4, 3, .invokestatic 172, (30, 908, 3), 0), (7, 3, .ifCond .eq 14, (10, 0, 0), 0), (10, 1, .iload_n 2, (0, 0, 0), 0), (11, 1, .iconst 0, (0, 0, 0), 0), (12, 3, .sipush 9999, (0, 0, 0), 0), (15, 3, .invokestatic 172, (30, 908, 3), 0), (18, 3, .ifCond .ne 5, (12, 0, 0), 0), (21, 1, .iconst (-1), (0, 0, 0), 0), (22, 1, .ireturn, (0, 0, 0), 0), (23, 1, .iconst 0, (0, 0, 0), 0), (24, 1, .istore_n 3, (0, 0, 0), 0), (25, 1, .iload_n 3, (0, 0, 0), 0), (26, 1, .aload_n 0, (0, 0, 0), 0), (27, 3, .getfield 18, (0, 2, 663), 0), (30, 3, .getfield 273, (1, 0, 251), 0), (33, 3, .if_icmp .gt 22, (30, 0, 0), 0), (36, 1, .aload_n 0, (0, 0, 0), 0), (37, 1, .iload_n 3, (0, 0, 0), 0), (38, 1, .iload_n 2, (0, 0, 0), 0), (39, 1, .iload_n 1, (0, 0, 0), 0), (40, 3, .invokevirtual 276, (48, 1104, 3), 0), (43, 1, .iload_n 1, (0, 0, 0), 0), (44, 3, .if_icmp .lt 5, (28, 0, 0), 0), (47, 1, .iload_n 3, (0, 0, 0), 0), (48, 1, .ireturn, (0, 0, 0), 0), (49, 3, .iinc 3 1, (0, 0, 0), 0), (52, 3, .goto (-27), (14, 0, 0), 0), (55, 2, .bipush (-2), (0, 0, 0), 0), (57, 1, .ireturn, (0, 0, 0), 0)]
-- AirBed.firm(II)I
def am_m49 : am_M := ((0, ⟨"AirBed", "firm", "(II)I"⟩, prog_1_method_21_code), (4, some .int, 2), (4, 101, 0, 0), am_m49_c0)
def am_m50_c0 : List am_I := [(0, 1, .aload_n 0, (0, 0, 0), 0), (1, 1, .iload_n 1, (0, 0, 0), 0), (2, 3, .invokevirtual 135, (37, 943, 3), 0), (5, 3, .ifCond .eq 11, (8, 0, 0), 0), (8, 1, .iload_n 2, (0, 0, 0), 0), (9, 1, .iload_n 3, (0, 0, 0), 0), (10, 3, .invokestatic 280, (51, 1116, 3), 0), (13, 3, .ifCond .ne 5, (10, 0, 0), 0), (16, 1, .iconst (-1), (0, 0, 0), 0), (17, 1, .ireturn, (0, 0, 0), 0), (18, 1, .aload_n 0, (0, 0, 0), 0), (19, 1, .iload_n 1, (0, 0, 0), 0), (20, 1, .iload_n 2, (0, 0, 0), 0), (21, 1, .iload_n 3, (0, 0, 0), 0), (22, 1, .iconst (-1), (0, 0, 0), 0), (23, 3, .invokevirtual 283, (999, 1119, 3), 0), (26, 1, .ireturn, (0, 0, 0), 0)]
-- AirBed.up(III)I
def am_m50 : am_M := ((0, ⟨"AirBed", "up", "(III)I"⟩, prog_1_method_22_code), (4, some .int, 3), (2, 43, 0, 0), am_m50_c0)
def am_m51_c0 : List am_I := [(0, 1, .iload_n 0, (0, 0, 0), 0), (1, 1, .iconst 1, (0, 0, 0), 0), (2, 3, .sipush 3600, (0, 0, 0), 0), (5, 3, .invokestatic 172, (30, 908, 3), 0), (8, 3, .ifCond .eq 18, (12, 0, 0), 0), (11, 1, .iload_n 1, (0, 0, 0), 0), (12, 1, .iconst 0, (0, 0, 0), 0), (13, 3, .sipush 9999, (0, 0, 0), 0), (16, 3, .invokestatic 172, (30, 908, 3), 0), (19, 3, .ifCond .eq 7, (12, 0, 0), 0), (22, 1, .iconst 1, (0, 0, 0), 0), (23, 3, .goto 4, (13, 0, 0), 0), (26, 1, .iconst 0, (0, 0, 0), 0), (27, 1, .ireturn, (0, 0, 0), 0)]
-- AirBed.isNight(II)Z
def am_m51 : am_M := ((0, ⟨"AirBed", "isNight", "(II)Z"⟩, prog_1_method_24_code), (2, some .boolean, 2), (1, 22, 0, 0), am_m51_c0)
def am_m52_c0 : List am_I := [(0, 1, .aload_n 0, (0, 0, 0), 0), (1, 1, .iload_n 1, (0, 0, 0), 0), (2, 3, .invokevirtual 135, (37, 943, 3), 0), (5, 3, .ifCond .eq 16, (10, 0, 0), 0), (8, 1, .iload_n 2, (0, 0, 0), 0), (9, 1, .iload_n 3, (0, 0, 0), 0), (10, 3, .invokestatic 280, (51, 1116, 3), 0), (13, 3, .ifCond .eq 8, (10, 0, 0), 0), (16, 2, .iload 4, (0, 0, 0), 0), (18, 3, .ifCond .ge 5, (12, 0, 0), 0), (21, 1, .iconst (-1), (0, 0, 0), 0), (22, 1, .ireturn, (0, 0, 0), 0), (23, 1, .aload_n 0, (0, 0, 0), 0), (24, 1, .iload_n 1, (0, 0, 0), 0), (25, 1, .iload_n 2, (0, 0, 0), 0), (26, 1, .iload_n 3, (0, 0, 0), 0), (27, 2, .iload 4, (0, 0, 0), 0), (29, 3, .invokevirtual 283, (999, 1119, 3), 0), (32, 1, .ireturn, (0, 0, 0), 0)]
-- AirBed.upAt(IIII)I
def am_m52 : am_M := ((0, ⟨"AirBed", "upAt", "(IIII)I"⟩, prog_1_method_23_code), (5, some .int, 4), (2, 43, 0, 0), am_m52_c0)
def am_m53_c0 : List am_I := [(0, 1, .iload_n 1, (0, 0, 0), 0), (1, 1, .iload_n 2, (0, 0, 0), 0), (2, 3, .invokestatic 280, (51, 1116, 3), 0), (5, 3, .ifCond .eq 12, (9, 0, 0), 0), (8, 1, .iload_n 3, (0, 0, 0), 0), (9, 1, .iconst 0, (0, 0, 0), 0), (10, 1, .iconst 1, (0, 0, 0), 0), (11, 3, .invokestatic 172, (30, 908, 3), 0), (14, 3, .ifCond .ne 5, (11, 0, 0), 0), (17, 1, .iconst (-1), (0, 0, 0), 0), (18, 1, .ireturn, (0, 0, 0), 0), (19, 2, .bipush (-2), (0, 0, 0), 0), (21, 2, .istore 4, (0, 0, 0), 0), (23, 2, .bipush (-2), (0, 0, 0), 0), (25, 2, .istore 5, (0, 0, 0), 0), (27, 1, .iconst 0, (0, 0, 0), 0), (28, 2, .istore 6, (0, 0, 0), 0), (30, 2, .iload 6, (0, 0, 0), 0), (32, 1, .aload_n 0, (0, 0, 0), 0), (33, 3, .getfield 18, (0, 2, 663), 0), (36, 3, .getfield 169, (1, 2, 258), 0), (39, 3, .if_icmp .ge 67, (53, 0, 0), 0), (42, 1, .aload_n 0, (0, 0, 0), 0), (43, 2, .iload 6, (0, 0, 0), 0), (45, 1, .iload_n 1, (0, 0, 0), 0), (46, 1, .iload_n 2, (0, 0, 0), 0), (47, 1, .iconst (-1), (0, 0, 0), 0), (48, 3, .invokevirtual 283, (999, 1119, 3), 0), (51, 2, .istore 7, (0, 0, 0), 0), (53, 2, .iload 7, (0, 0, 0), 0), (55, 1, .aload_n 0, (0, 0, 0), 0), (56, 3, .getfield 18, (0, 2, 663), 0), (59, 3, .getfield 189, (1, 3, 264), 0), (62, 2, .iload 6, (0, 0, 0), 0), (64, 1, .aaload, (0, 0, 0), 0), (65, 3, .getfield 300, (3, 7, 222), 0), (68, 1, .imul, (0, 0, 0), 0), (69, 2, .istore 8, (0, 0, 0), 0), (71, 2, .iload 7, (0, 0, 0), 0), (73, 2, .bipush (-2), (0, 0, 0), 0), (75, 3, .if_icmp .eq 25, (51, 0, 0), 0), (78, 2, .iload 4, (0, 0, 0), 0), (80, 2, .bipush (-2), (0, 0, 0), 0), (82, 3, .if_icmp .eq 10, (47, 0, 0), 0), (85, 2, .iload 8, (0, 0, 0), 0), (87, 2, .iload 5, (0, 0, 0), 0), (89, 3, .if_icmp .ge 11, (51, 0, 0), 0), (92, 2, .iload 6, (0, 0, 0), 0), (94, 2, .istore 4, (0, 0, 0), 0), (96, 2, .iload 8, (0, 0, 0), 0), (98, 2, .istore 5, (0, 0, 0), 0), (100, 3, .iinc 6 1, (0, 0, 0), 0), (103, 3, .goto (-73), (17, 0, 0), 0), (106, 1, .iload_n 3, (0, 0, 0), 0), (107, 3, .ifCond .ne 8, (57, 0, 0), 0), (110, 2, .iload 4, (0, 0, 0), 0), (112, 3, .goto 5, (58, 0, 0), 0), (115, 2, .iload 5, (0, 0, 0), 0), (117, 1, .ireturn, (0, 0, 0), 0)]
-- AirBed.cheapest(III)I
def am_m53 : am_M := ((0, ⟨"AirBed", "cheapest", "(III)I"⟩, prog_1_method_27_code), (9, some .int, 3), (2, 43, 0, 0), am_m53_c0)
def am_m54_c0 : List am_I := [(0, 1, .iload_n 1, (0, 0, 0), 0), (1, 1, .iconst 1, (0, 0, 0), 0), (2, 3, .sipush 600, (0, 0, 0), 0), (5, 3, .invokestatic 172, (30, 908, 3), 0), (8, 3, .ifCond .eq 33, (19, 0, 0), 0), (11, 1, .iload_n 2, (0, 0, 0), 0), (12, 1, .iconst 0, (0, 0, 0), 0), (13, 1, .iconst 1, (0, 0, 0), 0), (14, 3, .invokestatic 172, (30, 908, 3), 0), (17, 3, .ifCond .eq 24, (19, 0, 0), 0), (20, 1, .aload_n 0, (0, 0, 0), 0), (21, 3, .getfield 18, (0, 2, 663), 0), (24, 3, .getfield 229, (1, 8, 281), 0), (27, 3, .ifCond .eq 14, (19, 0, 0), 0), (30, 1, .iload_n 1, (0, 0, 0), 0), (31, 1, .aload_n 0, (0, 0, 0), 0), (32, 3, .getfield 37, (0, 5, 666), 0), (35, 3, .getfield 232, (5, 3, 477), 0), (38, 3, .if_icmp .ge 5, (21, 0, 0), 0), (41, 1, .iconst (-1), (0, 0, 0), 0), (42, 1, .ireturn, (0, 0, 0), 0), (43, 1, .iconst 0, (0, 0, 0), 0), (44, 1, .istore_n 3, (0, 0, 0), 0), (45, 1, .iconst (-1), (0, 0, 0), 0), (46, 2, .istore 4, (0, 0, 0), 0), (48, 1, .aload_n 0, (0, 0, 0), 0), (49, 3, .getfield 68, (0, 12, 673), 0), (52, 1, .aload_n 0, (0, 0, 0), 0), (53, 3, .getfield 18, (0, 2, 663), 0), (56, 1, .aload_n 0, (0, 0, 0), 0), (57, 3, .getfield 37, (0, 5, 666), 0), (60, 3, .invokevirtual 146, (31, 912, 3), 0), (63, 1, .iconst 0, (0, 0, 0), 0), (64, 2, .istore 5, (0, 0, 0), 0), (66, 2, .iload 5, (0, 0, 0), 0), (68, 1, .aload_n 0, (0, 0, 0), 0), (69, 3, .getfield 37, (0, 5, 666), 0), (72, 3, .getfield 232, (5, 3, 477), 0), (75, 1, .iadd, (0, 0, 0), 0), (76, 1, .iload_n 1, (0, 0, 0), 0), (77, 3, .if_icmp .gt 120, (98, 0, 0), 0), (80, 1, .aload_n 0, (0, 0, 0), 0), (81, 3, .getfield 64, (0, 11, 672), 0), (84, 1, .aload_n 0, (0, 0, 0), 0), (85, 3, .getfield 18, (0, 2, 663), 0), (88, 1, .aload_n 0, (0, 0, 0), 0), (89, 3, .getfield 68, (0, 12, 673), 0), (92, 3, .getfield 216, (8, 1, 572), 0), (95, 3, .invokevirtual 146, (31, 912, 3), 0), (98, 1, .aload_n 0, (0, 0, 0), 0), (99, 3, .getfield 64, (0, 11, 672), 0), (102, 1, .iconst 1, (0, 0, 0), 0), (103, 3, .putfield 235, (8, 4, 578), 0), (106, 1, .aload_n 0, (0, 0, 0), 0), (107, 3, .getfield 64, (0, 11, 672), 0), (110, 1, .aload_n 0, (0, 0, 0), 0), (111, 3, .getfield 37, (0, 5, 666), 0), (114, 3, .getfield 232, (5, 3, 477), 0), (117, 1, .iconst 0, (0, 0, 0), 0), (118, 3, .invokevirtual 225, (38, 1007, 3), 0)]
def am_m54_c1 : List am_I := [(121, 1, .pop, (0, 0, 0), 0), (122, 1, .aload_n 0, (0, 0, 0), 0), (123, 3, .getfield 64, (0, 11, 672), 0), (126, 1, .iconst 0, (0, 0, 0), 0), (127, 3, .putfield 235, (8, 4, 578), 0), (130, 1, .aload_n 0, (0, 0, 0), 0), (131, 3, .getfield 64, (0, 11, 672), 0), (134, 1, .iload_n 1, (0, 0, 0), 0), (135, 2, .iload 5, (0, 0, 0), 0), (137, 1, .isub, (0, 0, 0), 0), (138, 1, .aload_n 0, (0, 0, 0), 0), (139, 3, .getfield 37, (0, 5, 666), 0), (142, 3, .getfield 232, (5, 3, 477), 0), (145, 1, .isub, (0, 0, 0), 0), (146, 1, .iconst 0, (0, 0, 0), 0), (147, 3, .invokevirtual 225, (38, 1007, 3), 0), (150, 1, .pop, (0, 0, 0), 0), (151, 1, .aload_n 0, (0, 0, 0), 0), (152, 3, .getfield 64, (0, 11, 672), 0), (155, 3, .getfield 216, (8, 1, 572), 0), (158, 3, .getfield 222, (5, 0, 466), 0), (161, 2, .iload 4, (0, 0, 0), 0), (163, 3, .if_icmp .le 18, (90, 0, 0), 0), (166, 2, .iload 5, (0, 0, 0), 0), (168, 1, .istore_n 3, (0, 0, 0), 0), (169, 1, .aload_n 0, (0, 0, 0), 0), (170, 3, .getfield 64, (0, 11, 672), 0), (173, 3, .getfield 216, (8, 1, 572), 0), (176, 3, .getfield 222, (5, 0, 466), 0), (179, 2, .istore 4, (0, 0, 0), 0), (181, 1, .aload_n 0, (0, 0, 0), 0), (182, 3, .getfield 68, (0, 12, 673), 0), (185, 1, .iconst 1, (0, 0, 0), 0), (186, 1, .iconst 0, (0, 0, 0), 0), (187, 3, .invokevirtual 225, (38, 1007, 3), 0), (190, 1, .pop, (0, 0, 0), 0), (191, 3, .iinc 5 1, (0, 0, 0), 0), (194, 3, .goto (-128), (34, 0, 0), 0), (197, 1, .iload_n 2, (0, 0, 0), 0), (198, 3, .ifCond .ne 7, (102, 0, 0), 0), (201, 1, .iload_n 3, (0, 0, 0), 0), (202, 3, .goto 5, (103, 0, 0), 0), (205, 2, .iload 4, (0, 0, 0), 0), (207, 1, .ireturn, (0, 0, 0), 0)]
-- AirBed.lend(II)I
def am_m54 : am_M := ((0, ⟨"AirBed", "lend", "(II)I"⟩, prog_1_method_28_code), (6, some .int, 2), (3, 77, 0, 0), am_m54_c0 ++ (am_m54_c1))
def am_m55_c0 : List am_I := [(0, 1, .iload_n 1, (0, 0, 0), 0), (1, 3, .ifCond .lt 12, (7, 0, 0), 0), (4, 1, .iload_n 2, (0, 0, 0), 0), (5, 1, .iconst 0, (0, 0, 0), 0), (6, 1, .iconst 1, (0, 0, 0), 0), (7, 3, .invokestatic 172, (30, 908, 3), 0), (10, 3, .ifCond .ne 5, (9, 0, 0), 0), (13, 1, .iconst (-1), (0, 0, 0), 0), (14, 1, .ireturn, (0, 0, 0), 0), (15, 1, .aload_n 0, (0, 0, 0), 0), (16, 3, .getfield 92, (0, 15, 676), 0), (19, 1, .iload_n 1, (0, 0, 0), 0), (20, 1, .aload_n 0, (0, 0, 0), 0), (21, 3, .getfield 18, (0, 2, 663), 0), (24, 1, .aload_n 0, (0, 0, 0), 0), (25, 3, .getfield 37, (0, 5, 666), 0), (28, 3, .invokevirtual 303, (56, 1147, 3), 0), (31, 3, .ifCond .ne 6, (20, 0, 0), 0), (34, 2, .bipush (-2), (0, 0, 0), 0), (36, 1, .ireturn, (0, 0, 0), 0), (37, 1, .iload_n 2, (0, 0, 0), 0), (38, 3, .ifCond .ne 13, (26, 0, 0), 0), (41, 1, .aload_n 0, (0, 0, 0), 0), (42, 3, .getfield 92, (0, 15, 676), 0), (45, 3, .getfield 306, (11, 0, 643), 0), (48, 3, .goto 10, (29, 0, 0), 0), (51, 1, .aload_n 0, (0, 0, 0), 0), (52, 3, .getfield 92, (0, 15, 676), 0), (55, 3, .getfield 309, (11, 1, 645), 0), (58, 1, .ireturn, (0, 0, 0), 0)]
-- AirBed.seek(II)I
def am_m55 : am_M := ((0, ⟨"AirBed", "seek", "(II)I"⟩, prog_1_method_29_code), (3, some .int, 2), (2, 53, 0, 0), am_m55_c0)
def am_m56_c0 : List am_I := [(0, 1, .iconst 0, (0, 0, 0), 0), (1, 2, .istore 4, (0, 0, 0), 0), (3, 2, .iload 4, (0, 0, 0), 0), (5, 1, .aload_n 2, (0, 0, 0), 0), (6, 3, .getfield 19, (1, 9, 283), 0), (9, 3, .if_icmp .ge 49, (30, 0, 0), 0), (12, 1, .aload_n 0, (0, 0, 0), 0), (13, 3, .getfield 9, (11, 2, 646), 0), (16, 2, .iload 4, (0, 0, 0), 0), (18, 1, .aload_n 3, (0, 0, 0), 0), (19, 2, .iload 4, (0, 0, 0), 0), (21, 3, .invokevirtual 25, (999, 1151, 3), 0), (24, 3, .ifCond .eq 7, (15, 0, 0), 0), (27, 1, .lconst 0, (0, 0, 0), 0), (28, 3, .goto 15, (22, 0, 0), 0), (31, 1, .aload_n 2, (0, 0, 0), 0), (32, 3, .getfield 31, (1, 10, 288), 0), (35, 2, .iload 4, (0, 0, 0), 0), (37, 1, .iaload, (0, 0, 0), 0), (38, 1, .i2l, (0, 0, 0), 0), (39, 3, .ldc2_w 34, (0, 0, 1152), 1000000), (42, 1, .lmul, (0, 0, 0), 0), (43, 1, .lastore, (0, 0, 0), 0), (44, 1, .aload_n 0, (0, 0, 0), 0), (45, 3, .getfield 15, (11, 3, 647), 0), (48, 2, .iload 4, (0, 0, 0), 0), (50, 1, .iconst 0, (0, 0, 0), 0), (51, 1, .iastore, (0, 0, 0), 0), (52, 3, .iinc 4 1, (0, 0, 0), 0), (55, 3, .goto (-52), (2, 0, 0), 0), (58, 1, .iload_n 1, (0, 0, 0), 0), (59, 2, .bipush 18, (0, 0, 0), 0), (61, 3, .if_icmp .lt 5, (35, 0, 0), 0), (64, 1, .iconst 0, (0, 0, 0), 0), (65, 1, .ireturn, (0, 0, 0), 0), (66, 1, .iconst 0, (0, 0, 0), 0), (67, 2, .istore 4, (0, 0, 0), 0), (69, 2, .iload 4, (0, 0, 0), 0), (71, 1, .iload_n 1, (0, 0, 0), 0), (72, 3, .if_icmp .gt 68, (78, 0, 0), 0), (75, 1, .aload_n 0, (0, 0, 0), 0), (76, 1, .aload_n 2, (0, 0, 0), 0), (77, 3, .invokevirtual 36, (57, 1153, 3), 0), (80, 3, .ifCond .ne 5, (46, 0, 0), 0), (83, 1, .iconst 0, (0, 0, 0), 0), (84, 1, .ireturn, (0, 0, 0), 0), (85, 1, .aload_n 0, (0, 0, 0), 0), (86, 3, .getfield 9, (11, 2, 646), 0), (89, 1, .aload_n 0, (0, 0, 0), 0), (90, 3, .getfield 40, (11, 0, 642), 0), (93, 1, .aload_n 0, (0, 0, 0), 0), (94, 3, .getfield 9, (11, 2, 646), 0), (97, 1, .aload_n 0, (0, 0, 0), 0), (98, 3, .getfield 40, (11, 0, 642), 0), (101, 1, .laload, (0, 0, 0), 0), (102, 2, .bipush 100, (0, 0, 0), 0), (104, 1, .aload_n 2, (0, 0, 0), 0), (105, 3, .getfield 43, (1, 14, 301), 0), (108, 1, .aload_n 0, (0, 0, 0), 0), (109, 3, .getfield 46, (11, 1, 644), 0)]
def am_m56_c1 : List am_I := [(112, 1, .iaload, (0, 0, 0), 0), (113, 1, .isub, (0, 0, 0), 0), (114, 1, .i2l, (0, 0, 0), 0), (115, 1, .lmul, (0, 0, 0), 0), (116, 3, .ldc2_w 49, (0, 0, 1157), 100), (119, 1, .ldiv, (0, 0, 0), 0), (120, 1, .lastore, (0, 0, 0), 0), (121, 1, .aload_n 0, (0, 0, 0), 0), (122, 3, .getfield 15, (11, 3, 647), 0), (125, 1, .aload_n 0, (0, 0, 0), 0), (126, 3, .getfield 40, (11, 0, 642), 0), (129, 1, .dup2, (0, 0, 0), 0), (130, 1, .iaload, (0, 0, 0), 0), (131, 1, .iconst 1, (0, 0, 0), 0), (132, 1, .iadd, (0, 0, 0), 0), (133, 1, .iastore, (0, 0, 0), 0), (134, 3, .iinc 4 1, (0, 0, 0), 0), (137, 3, .goto (-68), (37, 0, 0), 0), (140, 1, .iconst 1, (0, 0, 0), 0), (141, 1, .ireturn, (0, 0, 0), 0)]
-- AirBed$Search.reach(ILAirBed$Plan;LAirBed$State;)Z
def am_m56 : am_M := ((11, ⟨"AirBed$Search", "reach", "(ILAirBed$Plan;LAirBed$State;)Z"⟩, prog_10_method_2_code), (5, some .boolean, 3), (1, 29, 0, 0), am_m56_c0 ++ (am_m56_c1))
def am_m57_c0 : List am_I := [(0, 1, .lconst 0, (0, 0, 0), 0), (1, 1, .lstore_n 2, (0, 0, 0), 0), (2, 1, .lconst 1, (0, 0, 0), 0), (3, 2, .lstore 4, (0, 0, 0), 0), (5, 1, .iconst 0, (0, 0, 0), 0), (6, 2, .istore 6, (0, 0, 0), 0), (8, 2, .iload 6, (0, 0, 0), 0), (10, 1, .aload_n 1, (0, 0, 0), 0), (11, 3, .getfield 19, (1, 9, 283), 0), (14, 3, .if_icmp .ge 100, (63, 0, 0), 0), (17, 1, .iconst 0, (0, 0, 0), 0), (18, 2, .istore 7, (0, 0, 0), 0), (20, 2, .iload 7, (0, 0, 0), 0), (22, 1, .aload_n 1, (0, 0, 0), 0), (23, 3, .getfield 51, (1, 12, 295), 0), (26, 3, .if_icmp .ge 82, (61, 0, 0), 0), (29, 1, .aload_n 0, (0, 0, 0), 0), (30, 3, .getfield 15, (11, 3, 647), 0), (33, 2, .iload 6, (0, 0, 0), 0), (35, 1, .iaload, (0, 0, 0), 0), (36, 1, .iconst 3, (0, 0, 0), 0), (37, 3, .if_icmp .ge 71, (61, 0, 0), 0), (40, 1, .aload_n 0, (0, 0, 0), 0), (41, 3, .getfield 9, (11, 2, 646), 0), (44, 2, .iload 6, (0, 0, 0), 0), (46, 1, .laload, (0, 0, 0), 0), (47, 1, .aload_n 1, (0, 0, 0), 0), (48, 3, .getfield 43, (1, 14, 301), 0), (51, 2, .iload 7, (0, 0, 0), 0), (53, 1, .iaload, (0, 0, 0), 0), (54, 1, .i2l, (0, 0, 0), 0), (55, 1, .lmul, (0, 0, 0), 0), (56, 2, .lstore 8, (0, 0, 0), 0), (58, 2, .lload 8, (0, 0, 0), 0), (60, 2, .lload 4, (0, 0, 0), 0), (62, 1, .lmul, (0, 0, 0), 0), (63, 1, .lload_n 2, (0, 0, 0), 0), (64, 1, .aload_n 1, (0, 0, 0), 0), (65, 3, .getfield 54, (1, 15, 304), 0), (68, 2, .iload 7, (0, 0, 0), 0), (70, 1, .iaload, (0, 0, 0), 0), (71, 1, .i2l, (0, 0, 0), 0), (72, 1, .lmul, (0, 0, 0), 0), (73, 1, .lcmp, (0, 0, 0), 0), (74, 3, .ifCond .le 28, (59, 0, 0), 0), (77, 2, .lload 8, (0, 0, 0), 0), (79, 1, .lstore_n 2, (0, 0, 0), 0), (80, 1, .aload_n 1, (0, 0, 0), 0), (81, 3, .getfield 54, (1, 15, 304), 0), (84, 2, .iload 7, (0, 0, 0), 0), (86, 1, .iaload, (0, 0, 0), 0), (87, 1, .i2l, (0, 0, 0), 0), (88, 2, .lstore 4, (0, 0, 0), 0), (90, 1, .aload_n 0, (0, 0, 0), 0), (91, 2, .iload 6, (0, 0, 0), 0), (93, 3, .putfield 40, (11, 0, 642), 0), (96, 1, .aload_n 0, (0, 0, 0), 0), (97, 2, .iload 7, (0, 0, 0), 0), (99, 3, .putfield 46, (11, 1, 644), 0), (102, 3, .iinc 7 1, (0, 0, 0), 0)]
def am_m57_c1 : List am_I := [(105, 3, .goto (-85), (12, 0, 0), 0), (108, 3, .iinc 6 1, (0, 0, 0), 0), (111, 3, .goto (-103), (6, 0, 0), 0), (114, 1, .lload_n 2, (0, 0, 0), 0), (115, 1, .lconst 0, (0, 0, 0), 0), (116, 1, .lcmp, (0, 0, 0), 0), (117, 3, .ifCond .le 7, (69, 0, 0), 0), (120, 1, .iconst 1, (0, 0, 0), 0), (121, 3, .goto 4, (70, 0, 0), 0), (124, 1, .iconst 0, (0, 0, 0), 0), (125, 1, .ireturn, (0, 0, 0), 0)]
-- AirBed$Search.findNext(LAirBed$Plan;)Z
def am_m57 : am_M := ((11, ⟨"AirBed$Search", "findNext", "(LAirBed$Plan;)Z"⟩, prog_10_method_3_code), (10, some .boolean, 1), (0, 0, 0, 0), am_m57_c0 ++ (am_m57_c1))
def am_m58_c0 : List am_I := [(0, 1, .aload_n 0, (0, 0, 0), 0), (1, 3, .getfield 18, (0, 2, 663), 0), (4, 3, .invokevirtual 312, (59, 1162, 3), 0), (7, 1, .istore_n 2, (0, 0, 0), 0), (8, 1, .iload_n 1, (0, 0, 0), 0), (9, 1, .iconst 0, (0, 0, 0), 0), (10, 1, .iconst 1, (0, 0, 0), 0), (11, 3, .invokestatic 172, (30, 908, 3), 0), (14, 3, .ifCond .eq 18, (16, 0, 0), 0), (17, 1, .aload_n 0, (0, 0, 0), 0), (18, 3, .getfield 18, (0, 2, 663), 0), (21, 3, .getfield 241, (1, 9, 285), 0), (24, 3, .ifCond .eq 8, (16, 0, 0), 0), (27, 1, .iload_n 2, (0, 0, 0), 0), (28, 1, .iconst (-1), (0, 0, 0), 0), (29, 3, .if_icmp .ne 5, (18, 0, 0), 0), (32, 1, .iconst (-1), (0, 0, 0), 0), (33, 1, .ireturn, (0, 0, 0), 0), (34, 1, .iconst 0, (0, 0, 0), 0), (35, 1, .istore_n 3, (0, 0, 0), 0), (36, 1, .iconst 0, (0, 0, 0), 0), (37, 2, .istore 4, (0, 0, 0), 0), (39, 1, .iconst 0, (0, 0, 0), 0), (40, 2, .istore 5, (0, 0, 0), 0), (42, 2, .iload 5, (0, 0, 0), 0), (44, 1, .aload_n 0, (0, 0, 0), 0), (45, 3, .getfield 18, (0, 2, 663), 0), (48, 3, .getfield 241, (1, 9, 285), 0), (51, 3, .if_icmp .ge 49, (54, 0, 0), 0), (54, 1, .iload_n 3, (0, 0, 0), 0), (55, 1, .iload_n 2, (0, 0, 0), 0), (56, 1, .aload_n 0, (0, 0, 0), 0), (57, 3, .getfield 18, (0, 2, 663), 0), (60, 2, .iload 5, (0, 0, 0), 0), (62, 3, .invokevirtual 315, (999, 1166, 3), 0), (65, 1, .imul, (0, 0, 0), 0), (66, 1, .aload_n 0, (0, 0, 0), 0), (67, 3, .getfield 18, (0, 2, 663), 0), (70, 3, .getfield 318, (1, 10, 290), 0), (73, 2, .iload 5, (0, 0, 0), 0), (75, 1, .iaload, (0, 0, 0), 0), (76, 1, .imul, (0, 0, 0), 0), (77, 1, .iadd, (0, 0, 0), 0), (78, 1, .istore_n 3, (0, 0, 0), 0), (79, 2, .iload 4, (0, 0, 0), 0), (81, 1, .aload_n 0, (0, 0, 0), 0), (82, 3, .getfield 18, (0, 2, 663), 0), (85, 3, .getfield 318, (1, 10, 290), 0), (88, 2, .iload 5, (0, 0, 0), 0), (90, 1, .iaload, (0, 0, 0), 0), (91, 1, .iadd, (0, 0, 0), 0), (92, 2, .istore 4, (0, 0, 0), 0), (94, 3, .iinc 5 1, (0, 0, 0), 0), (97, 3, .goto (-55), (24, 0, 0), 0), (100, 1, .iload_n 3, (0, 0, 0), 0), (101, 2, .iload 4, (0, 0, 0), 0), (103, 3, .invokestatic 321, (999, 1170, 3), 0), (106, 2, .istore 5, (0, 0, 0), 0), (108, 2, .iload 5, (0, 0, 0), 0), (110, 3, .ifCond .ne 5, (62, 0, 0), 0)]
def am_m58_c1 : List am_I := [(113, 1, .iconst (-1), (0, 0, 0), 0), (114, 1, .ireturn, (0, 0, 0), 0), (115, 1, .iload_n 1, (0, 0, 0), 0), (116, 3, .ifCond .ne 10, (68, 0, 0), 0), (119, 1, .iload_n 3, (0, 0, 0), 0), (120, 2, .iload 5, (0, 0, 0), 0), (122, 1, .idiv, (0, 0, 0), 0), (123, 3, .goto 8, (71, 0, 0), 0), (126, 2, .iload 4, (0, 0, 0), 0), (128, 2, .iload 5, (0, 0, 0), 0), (130, 1, .idiv, (0, 0, 0), 0), (131, 1, .ireturn, (0, 0, 0), 0)]
-- AirBed.mean(I)I
def am_m58 : am_M := ((0, ⟨"AirBed", "mean", "(I)I"⟩, prog_1_method_30_code), (6, some .int, 1), (1, 22, 0, 0), am_m58_c0 ++ (am_m58_c1))
def am_m59_c0 : List am_I := [(0, 1, .iconst (-1), (0, 0, 0), 0), (1, 1, .istore_n 1, (0, 0, 0), 0), (2, 1, .iconst 0, (0, 0, 0), 0), (3, 1, .istore_n 2, (0, 0, 0), 0), (4, 1, .iload_n 2, (0, 0, 0), 0), (5, 1, .aload_n 0, (0, 0, 0), 0), (6, 3, .getfield 72, (1, 12, 294), 0), (9, 3, .if_icmp .ge 42, (30, 0, 0), 0), (12, 1, .aload_n 0, (0, 0, 0), 0), (13, 3, .getfield 33, (1, 14, 300), 0), (16, 1, .iload_n 2, (0, 0, 0), 0), (17, 1, .iaload, (0, 0, 0), 0), (18, 2, .bipush 100, (0, 0, 0), 0), (20, 3, .if_icmp .ne 25, (28, 0, 0), 0), (23, 1, .iload_n 1, (0, 0, 0), 0), (24, 1, .iconst (-1), (0, 0, 0), 0), (25, 3, .if_icmp .eq 13, (23, 0, 0), 0), (28, 1, .aload_n 0, (0, 0, 0), 0), (29, 3, .getfield 36, (1, 15, 303), 0), (32, 1, .iload_n 2, (0, 0, 0), 0), (33, 1, .iaload, (0, 0, 0), 0), (34, 1, .iload_n 1, (0, 0, 0), 0), (35, 3, .if_icmp .ge 10, (28, 0, 0), 0), (38, 1, .aload_n 0, (0, 0, 0), 0), (39, 3, .getfield 36, (1, 15, 303), 0), (42, 1, .iload_n 2, (0, 0, 0), 0), (43, 1, .iaload, (0, 0, 0), 0), (44, 1, .istore_n 1, (0, 0, 0), 0), (45, 3, .iinc 2 1, (0, 0, 0), 0), (48, 3, .goto (-44), (4, 0, 0), 0), (51, 1, .iload_n 1, (0, 0, 0), 0), (52, 1, .ireturn, (0, 0, 0), 0)]
-- AirBed$Plan.surestTrialSeconds()I
def am_m59 : am_M := ((1, ⟨"AirBed$Plan", "surestTrialSeconds", "()I"⟩, prog_7_method_6_code), (3, some .int, 0), (0, 0, 0, 0), am_m59_c0)
def am_m60_c0 : List am_I := [(0, 1, .aload_n 0, (0, 0, 0), 0), (1, 1, .iload_n 1, (0, 0, 0), 0), (2, 3, .invokevirtual 325, (61, 1177, 3), 0), (5, 3, .ifCond .ne 5, (6, 0, 0), 0), (8, 1, .iconst (-1), (0, 0, 0), 0), (9, 1, .ireturn, (0, 0, 0), 0), (10, 1, .aload_n 0, (0, 0, 0), 0), (11, 3, .getfield 76, (0, 13, 674), 0), (14, 1, .iload_n 1, (0, 0, 0), 0), (15, 1, .aload_n 0, (0, 0, 0), 0), (16, 3, .getfield 18, (0, 2, 663), 0), (19, 1, .aload_n 0, (0, 0, 0), 0), (20, 3, .getfield 37, (0, 5, 666), 0), (23, 3, .invokevirtual 256, (999, 1025, 3), 0), (26, 1, .ireturn, (0, 0, 0), 0)]
-- AirBed.rule(I)I
def am_m60 : am_M := ((0, ⟨"AirBed", "rule", "(I)I"⟩, prog_1_method_32_code), (2, some .int, 1), (2, 43, 0, 0), am_m60_c0)
def am_m61_c0 : List am_I := [(0, 1, .iload_n 1, (0, 0, 0), 0), (1, 3, .ifCond .ne 21, (10, 0, 0), 0), (4, 1, .aload_n 0, (0, 0, 0), 0), (5, 3, .getfield 18, (0, 2, 663), 0), (8, 3, .getfield 253, (1, 4, 268), 0), (11, 3, .ifCond .le 7, (8, 0, 0), 0), (14, 1, .iconst 1, (0, 0, 0), 0), (15, 3, .goto 31, (22, 0, 0), 0), (18, 1, .iconst 0, (0, 0, 0), 0), (19, 3, .goto 27, (22, 0, 0), 0), (22, 1, .iload_n 1, (0, 0, 0), 0), (23, 1, .iconst 1, (0, 0, 0), 0), (24, 1, .iconst 3, (0, 0, 0), 0), (25, 3, .invokestatic 172, (30, 908, 3), 0), (28, 3, .ifCond .eq 17, (21, 0, 0), 0), (31, 1, .aload_n 0, (0, 0, 0), 0), (32, 3, .getfield 18, (0, 2, 663), 0), (35, 3, .getfield 169, (1, 2, 258), 0), (38, 3, .ifCond .le 7, (21, 0, 0), 0), (41, 1, .iconst 1, (0, 0, 0), 0), (42, 3, .goto 4, (22, 0, 0), 0), (45, 1, .iconst 0, (0, 0, 0), 0), (46, 1, .ireturn, (0, 0, 0), 0)]
-- AirBed.isRule(I)Z
def am_m61 : am_M := ((0, ⟨"AirBed", "isRule", "(I)Z"⟩, prog_1_method_33_code), (2, some .boolean, 1), (1, 22, 0, 0), am_m61_c0)
def am_m62_c0 : List am_I := [(0, 1, .aload_n 0, (0, 0, 0), 0), (1, 3, .getfield 18, (0, 2, 663), 0), (4, 3, .getfield 169, (1, 2, 258), 0), (7, 3, .ifCond .ne 5, (6, 0, 0), 0), (10, 1, .iconst (-1), (0, 0, 0), 0), (11, 1, .ireturn, (0, 0, 0), 0), (12, 2, .bipush (-2), (0, 0, 0), 0), (14, 1, .istore_n 1, (0, 0, 0), 0), (15, 2, .bipush (-2), (0, 0, 0), 0), (17, 1, .istore_n 2, (0, 0, 0), 0), (18, 1, .iconst 0, (0, 0, 0), 0), (19, 1, .istore_n 3, (0, 0, 0), 0), (20, 1, .iload_n 3, (0, 0, 0), 0), (21, 1, .iconst 3, (0, 0, 0), 0), (22, 3, .if_icmp .gt 64, (45, 0, 0), 0), (25, 1, .aload_n 0, (0, 0, 0), 0), (26, 1, .iload_n 3, (0, 0, 0), 0), (27, 3, .invokevirtual 325, (61, 1177, 3), 0), (30, 3, .ifCond .eq 22, (28, 0, 0), 0), (33, 1, .aload_n 0, (0, 0, 0), 0), (34, 3, .getfield 76, (0, 13, 674), 0), (37, 1, .iload_n 3, (0, 0, 0), 0), (38, 1, .aload_n 0, (0, 0, 0), 0), (39, 3, .getfield 18, (0, 2, 663), 0), (42, 1, .aload_n 0, (0, 0, 0), 0), (43, 3, .getfield 37, (0, 5, 666), 0), (46, 3, .invokevirtual 256, (999, 1025, 3), 0), (49, 3, .goto 5, (29, 0, 0), 0), (52, 2, .bipush (-2), (0, 0, 0), 0), (54, 2, .istore 4, (0, 0, 0), 0), (56, 2, .iload 4, (0, 0, 0), 0), (58, 2, .bipush (-2), (0, 0, 0), 0), (60, 3, .if_icmp .eq 20, (43, 0, 0), 0), (63, 1, .iload_n 1, (0, 0, 0), 0), (64, 2, .bipush (-2), (0, 0, 0), 0), (66, 3, .if_icmp .eq 9, (39, 0, 0), 0), (69, 2, .iload 4, (0, 0, 0), 0), (71, 1, .iload_n 2, (0, 0, 0), 0), (72, 3, .if_icmp .ge 8, (43, 0, 0), 0), (75, 1, .iload_n 3, (0, 0, 0), 0), (76, 1, .istore_n 1, (0, 0, 0), 0), (77, 2, .iload 4, (0, 0, 0), 0), (79, 1, .istore_n 2, (0, 0, 0), 0), (80, 3, .iinc 3 1, (0, 0, 0), 0), (83, 3, .goto (-63), (12, 0, 0), 0), (86, 1, .iload_n 1, (0, 0, 0), 0), (87, 1, .ireturn, (0, 0, 0), 0)]
-- AirBed.fairest()I
def am_m62 : am_M := ((0, ⟨"AirBed", "fairest", "()I"⟩, prog_1_method_34_code), (5, some .int, 0), (2, 43, 0, 0), am_m62_c0)
def am_m63_c0 : List am_I := [(0, 1, .aload_n 0, (0, 0, 0), 0), (1, 1, .iload_n 1, (0, 0, 0), 0), (2, 3, .invokevirtual 135, (37, 943, 3), 0), (5, 3, .ifCond .eq 24, (14, 0, 0), 0), (8, 1, .iload_n 2, (0, 0, 0), 0), (9, 1, .iconst 1, (0, 0, 0), 0), (10, 2, .bipush 20, (0, 0, 0), 0), (12, 3, .invokestatic 172, (30, 908, 3), 0), (15, 3, .ifCond .eq 14, (14, 0, 0), 0), (18, 1, .iload_n 3, (0, 0, 0), 0), (19, 1, .iconst 0, (0, 0, 0), 0), (20, 3, .sipush 9999, (0, 0, 0), 0), (23, 3, .invokestatic 172, (30, 908, 3), 0), (26, 3, .ifCond .ne 5, (16, 0, 0), 0), (29, 1, .iconst (-1), (0, 0, 0), 0), (30, 1, .ireturn, (0, 0, 0), 0), (31, 1, .iload_n 2, (0, 0, 0), 0), (32, 1, .aload_n 0, (0, 0, 0), 0), (33, 3, .getfield 18, (0, 2, 663), 0), (36, 3, .getfield 189, (1, 3, 264), 0), (39, 1, .iload_n 1, (0, 0, 0), 0), (40, 1, .aaload, (0, 0, 0), 0), (41, 3, .getfield 290, (3, 3, 212), 0), (44, 3, .if_icmp .le 5, (26, 0, 0), 0), (47, 1, .iconst (-1), (0, 0, 0), 0), (48, 1, .ireturn, (0, 0, 0), 0), (49, 1, .aload_n 0, (0, 0, 0), 0), (50, 3, .getfield 57, (0, 10, 671), 0), (53, 2, .iload 4, (0, 0, 0), 0), (55, 3, .ifCond .eq 7, (32, 0, 0), 0), (58, 1, .iconst 1, (0, 0, 0), 0), (59, 3, .goto 4, (33, 0, 0), 0), (62, 1, .iconst 0, (0, 0, 0), 0), (63, 1, .iload_n 1, (0, 0, 0), 0), (64, 1, .iload_n 2, (0, 0, 0), 0), (65, 1, .iload_n 3, (0, 0, 0), 0), (66, 3, .invokevirtual 328, (999, 1189, 3), 0), (69, 1, .ireturn, (0, 0, 0), 0)]
-- AirBed.cheek(IIIZ)I
def am_m63 : am_M := ((0, ⟨"AirBed", "cheek", "(IIIZ)I"⟩, prog_1_method_35_code), (5, some .int, 4), (1, 22, 0, 0), am_m63_c0)
def am_m64_c0 : List am_I := [(0, 1, .iload_n 1, (0, 0, 0), 0), (1, 3, .ifCond .lt 14, (7, 0, 0), 0), (4, 1, .iload_n 1, (0, 0, 0), 0), (5, 1, .aload_n 0, (0, 0, 0), 0), (6, 3, .getfield 57, (0, 10, 671), 0), (9, 3, .getfield 331, (7, 0, 531), 0), (12, 3, .if_icmp .lt 5, (9, 0, 0), 0), (15, 1, .iconst (-1), (0, 0, 0), 0), (16, 1, .ireturn, (0, 0, 0), 0), (17, 1, .aload_n 0, (0, 0, 0), 0), (18, 3, .getfield 57, (0, 10, 671), 0), (21, 1, .iconst 2, (0, 0, 0), 0), (22, 1, .iload_n 1, (0, 0, 0), 0), (23, 1, .iconst 0, (0, 0, 0), 0), (24, 1, .iconst 0, (0, 0, 0), 0), (25, 3, .invokevirtual 328, (999, 1189, 3), 0), (28, 1, .ireturn, (0, 0, 0), 0)]
-- AirBed.strike(I)I
def am_m64 : am_M := ((0, ⟨"AirBed", "strike", "(I)I"⟩, prog_1_method_36_code), (2, some .int, 1), (0, 0, 0, 0), am_m64_c0)
def am_m65_c0 : List am_I := [(0, 1, .iload_n 1, (0, 0, 0), 0), (1, 1, .iconst (-1), (0, 0, 0), 0), (2, 3, .if_icmp .lt 14, (8, 0, 0), 0), (5, 1, .iload_n 1, (0, 0, 0), 0), (6, 1, .aload_n 0, (0, 0, 0), 0), (7, 3, .getfield 57, (0, 10, 671), 0), (10, 3, .getfield 331, (7, 0, 531), 0), (13, 3, .if_icmp .le 5, (10, 0, 0), 0), (16, 1, .iconst 0, (0, 0, 0), 0), (17, 1, .ireturn, (0, 0, 0), 0), (18, 1, .aload_n 0, (0, 0, 0), 0), (19, 3, .getfield 57, (0, 10, 671), 0), (22, 1, .iload_n 1, (0, 0, 0), 0), (23, 3, .putfield 334, (7, 1, 533), 0), (26, 1, .iconst 1, (0, 0, 0), 0), (27, 1, .ireturn, (0, 0, 0), 0)]
-- AirBed.known(I)Z
def am_m65 : am_M := ((0, ⟨"AirBed", "known", "(I)Z"⟩, prog_1_method_37_code), (2, some .boolean, 1), (0, 0, 0, 0), am_m65_c0)
def am_m66_c0 : List am_I := [(0, 1, .aload_n 0, (0, 0, 0), 0), (1, 3, .getfield 57, (0, 10, 671), 0), (4, 3, .invokevirtual 337, (67, 1205, 3), 0), (7, 1, .aload_n 0, (0, 0, 0), 0), (8, 3, .getfield 41, (0, 6, 667), 0), (11, 1, .aload_n 0, (0, 0, 0), 0), (12, 3, .getfield 18, (0, 2, 663), 0), (15, 3, .invokevirtual 96, (14, 657, 3), 0), (18, 1, .iconst 0, (0, 0, 0), 0), (19, 1, .istore_n 1, (0, 0, 0), 0), (20, 1, .iconst 0, (0, 0, 0), 0), (21, 1, .istore_n 2, (0, 0, 0), 0), (22, 1, .iload_n 2, (0, 0, 0), 0), (23, 1, .aload_n 0, (0, 0, 0), 0), (24, 3, .getfield 18, (0, 2, 663), 0), (27, 3, .getfield 241, (1, 9, 285), 0), (30, 3, .if_icmp .gt 38, (36, 0, 0), 0), (33, 1, .aload_n 0, (0, 0, 0), 0), (34, 1, .iload_n 2, (0, 0, 0), 0), (35, 1, .aload_n 0, (0, 0, 0), 0), (36, 3, .getfield 18, (0, 2, 663), 0), (39, 3, .getfield 241, (1, 9, 285), 0), (42, 3, .if_icmp .ge 7, (25, 0, 0), 0), (45, 1, .iload_n 2, (0, 0, 0), 0), (46, 3, .goto 4, (26, 0, 0), 0), (49, 1, .iconst (-1), (0, 0, 0), 0), (50, 3, .invokevirtual 340, (69, 1213, 3), 0), (53, 3, .ifCond .eq 9, (34, 0, 0), 0), (56, 1, .iload_n 1, (0, 0, 0), 0), (57, 1, .iconst 1, (0, 0, 0), 0), (58, 1, .iload_n 2, (0, 0, 0), 0), (59, 1, .ishl, (0, 0, 0), 0), (60, 1, .ior, (0, 0, 0), 0), (61, 1, .istore_n 1, (0, 0, 0), 0), (62, 3, .iinc 2 1, (0, 0, 0), 0), (65, 3, .goto (-43), (12, 0, 0), 0), (68, 1, .iload_n 1, (0, 0, 0), 0), (69, 1, .ireturn, (0, 0, 0), 0)]
-- AirBed.fits()I
def am_m66 : am_M := ((0, ⟨"AirBed", "fits", "()I"⟩, prog_1_method_38_code), (3, some .int, 0), (2, 43, 0, 0), am_m66_c0)
def am_m67_c0 : List am_I := [(0, 1, .iconst 0, (0, 0, 0), 0), (1, 1, .istore_n 1, (0, 0, 0), 0), (2, 1, .iload_n 1, (0, 0, 0), 0), (3, 1, .aload_n 0, (0, 0, 0), 0), (4, 3, .getfield 32, (7, 0, 530), 0), (7, 3, .if_icmp .ge 16, (13, 0, 0), 0), (10, 1, .aload_n 0, (0, 0, 0), 0), (11, 3, .getfield 28, (7, 6, 542), 0), (14, 1, .iload_n 1, (0, 0, 0), 0), (15, 1, .iconst 0, (0, 0, 0), 0), (16, 1, .bastore, (0, 0, 0), 0), (17, 3, .iinc 1 1, (0, 0, 0), 0), (20, 3, .goto (-18), (2, 0, 0), 0), (23, 1, .aload_n 0, (0, 0, 0), 0), (24, 3, .invokevirtual 35, (68, 1209, 3), 0), (27, 1, .iconst 1, (0, 0, 0), 0), (28, 1, .isub, (0, 0, 0), 0), (29, 1, .istore_n 1, (0, 0, 0), 0), (30, 1, .iload_n 1, (0, 0, 0), 0), (31, 3, .ifCond .lt 40, (41, 0, 0), 0), (34, 1, .aload_n 0, (0, 0, 0), 0), (35, 3, .getfield 15, (7, 2, 534), 0), (38, 1, .iload_n 1, (0, 0, 0), 0), (39, 1, .iaload, (0, 0, 0), 0), (40, 1, .iconst 2, (0, 0, 0), 0), (41, 3, .if_icmp .ne 24, (39, 0, 0), 0), (44, 1, .aload_n 0, (0, 0, 0), 0), (45, 3, .getfield 28, (7, 6, 542), 0), (48, 1, .iload_n 1, (0, 0, 0), 0), (49, 1, .baload, (0, 0, 0), 0), (50, 3, .ifCond .ne 15, (39, 0, 0), 0), (53, 1, .aload_n 0, (0, 0, 0), 0), (54, 3, .getfield 28, (7, 6, 542), 0), (57, 1, .aload_n 0, (0, 0, 0), 0), (58, 3, .getfield 19, (7, 3, 536), 0), (61, 1, .iload_n 1, (0, 0, 0), 0), (62, 1, .iaload, (0, 0, 0), 0), (63, 1, .iconst 1, (0, 0, 0), 0), (64, 1, .bastore, (0, 0, 0), 0), (65, 3, .iinc 1 (-1), (0, 0, 0), 0), (68, 3, .goto (-38), (18, 0, 0), 0), (71, 1, .return_, (0, 0, 0), 0)]
-- AirBed$Cheeks.markStruck()V
def am_m67 : am_M := ((7, ⟨"AirBed$Cheeks", "markStruck", "()V"⟩, prog_4_method_5_code), (2, none, 0), (1, 20, 0, 0), am_m67_c0)
def am_m68_c0 : List am_I := [(0, 1, .aload_n 0, (0, 0, 0), 0), (1, 3, .getfield 9, (7, 1, 532), 0), (4, 3, .ifCond .ge 10, (6, 0, 0), 0), (7, 1, .aload_n 0, (0, 0, 0), 0), (8, 3, .getfield 32, (7, 0, 530), 0), (11, 3, .goto 7, (8, 0, 0), 0), (14, 1, .aload_n 0, (0, 0, 0), 0), (15, 3, .getfield 9, (7, 1, 532), 0), (18, 1, .ireturn, (0, 0, 0), 0)]
-- AirBed$Cheeks.knownBy()I
def am_m68 : am_M := ((7, ⟨"AirBed$Cheeks", "knownBy", "()I"⟩, prog_4_method_4_code), (1, some .int, 0), (0, 0, 0, 0), am_m68_c0)
def am_m69_c0 : List am_I := [(0, 1, .aload_n 0, (0, 0, 0), 0), (1, 3, .getfield 57, (0, 10, 671), 0), (4, 3, .invokevirtual 343, (68, 1217, 3), 0), (7, 1, .istore_n 2, (0, 0, 0), 0), (8, 1, .iconst 0, (0, 0, 0), 0), (9, 1, .istore_n 3, (0, 0, 0), 0), (10, 1, .iload_n 3, (0, 0, 0), 0), (11, 1, .iload_n 2, (0, 0, 0), 0), (12, 3, .if_icmp .ge 31, (23, 0, 0), 0), (15, 1, .aload_n 0, (0, 0, 0), 0), (16, 3, .getfield 57, (0, 10, 671), 0), (19, 1, .iload_n 3, (0, 0, 0), 0), (20, 3, .invokevirtual 346, (999, 1218, 3), 0), (23, 3, .ifCond .eq 14, (21, 0, 0), 0), (26, 1, .aload_n 0, (0, 0, 0), 0), (27, 1, .iload_n 3, (0, 0, 0), 0), (28, 1, .iload_n 1, (0, 0, 0), 0), (29, 3, .invokevirtual 349, (999, 1222, 3), 0), (32, 3, .ifCond .ne 5, (21, 0, 0), 0), (35, 1, .iconst 0, (0, 0, 0), 0), (36, 1, .ireturn, (0, 0, 0), 0), (37, 3, .iinc 3 1, (0, 0, 0), 0), (40, 3, .goto (-30), (6, 0, 0), 0), (43, 1, .iconst 1, (0, 0, 0), 0), (44, 1, .ireturn, (0, 0, 0), 0)]
-- AirBed.fitsLeak(I)Z
def am_m69 : am_M := ((0, ⟨"AirBed", "fitsLeak", "(I)Z"⟩, prog_1_method_39_code), (4, some .boolean, 1), (1, 20, 0, 0), am_m69_c0)
def am_m70_c0 : List am_I := [(0, 1, .iload_n 1, (0, 0, 0), 0), (1, 3, .ifCond .lt 25, (12, 0, 0), 0), (4, 1, .iload_n 2, (0, 0, 0), 0), (5, 1, .iconst 1, (0, 0, 0), 0), (6, 3, .sipush 600, (0, 0, 0), 0), (9, 3, .invokestatic 172, (30, 908, 3), 0), (12, 3, .ifCond .eq 14, (12, 0, 0), 0), (15, 1, .iload_n 3, (0, 0, 0), 0), (16, 1, .iconst 0, (0, 0, 0), 0), (17, 3, .sipush 9999, (0, 0, 0), 0), (20, 3, .invokestatic 172, (30, 908, 3), 0), (23, 3, .ifCond .ne 5, (14, 0, 0), 0), (26, 1, .iconst (-1), (0, 0, 0), 0), (27, 1, .ireturn, (0, 0, 0), 0), (28, 1, .iload_n 1, (0, 0, 0), 0), (29, 1, .i2l, (0, 0, 0), 0), (30, 2, .lstore 4, (0, 0, 0), 0), (32, 1, .iconst 0, (0, 0, 0), 0), (33, 2, .istore 6, (0, 0, 0), 0), (35, 1, .iconst 0, (0, 0, 0), 0), (36, 2, .istore 7, (0, 0, 0), 0), (38, 2, .iload 7, (0, 0, 0), 0), (40, 2, .bipush 10, (0, 0, 0), 0), (42, 3, .if_icmp .ge 96, (66, 0, 0), 0), (45, 1, .aload_n 0, (0, 0, 0), 0), (46, 3, .getfield 64, (0, 11, 672), 0), (49, 1, .aload_n 0, (0, 0, 0), 0), (50, 3, .getfield 18, (0, 2, 663), 0), (53, 1, .aload_n 0, (0, 0, 0), 0), (54, 3, .getfield 37, (0, 5, 666), 0), (57, 3, .invokevirtual 146, (31, 912, 3), 0), (60, 1, .iconst 0, (0, 0, 0), 0), (61, 2, .istore 8, (0, 0, 0), 0), (63, 2, .iload 8, (0, 0, 0), 0), (65, 1, .iload_n 2, (0, 0, 0), 0), (66, 3, .if_icmp .ge 49, (57, 0, 0), 0), (69, 2, .lload 4, (0, 0, 0), 0), (71, 3, .invokestatic 364, (23, 1230, 3), 0), (74, 2, .lstore 4, (0, 0, 0), 0), (76, 1, .aload_n 0, (0, 0, 0), 0), (77, 3, .getfield 64, (0, 11, 672), 0), (80, 1, .iconst 1, (0, 0, 0), 0), (81, 2, .lload 4, (0, 0, 0), 0), (83, 3, .invokestatic 368, (24, 1231, 3), 0), (86, 3, .sipush 1000, (0, 0, 0), 0), (89, 1, .irem, (0, 0, 0), 0), (90, 1, .aload_n 0, (0, 0, 0), 0), (91, 3, .getfield 18, (0, 2, 663), 0), (94, 3, .getfield 372, (1, 16, 308), 0), (97, 3, .if_icmp .ge 7, (52, 0, 0), 0), (100, 1, .iconst 1, (0, 0, 0), 0), (101, 3, .goto 4, (53, 0, 0), 0), (104, 1, .iconst 0, (0, 0, 0), 0), (105, 3, .invokevirtual 225, (38, 1007, 3), 0), (108, 1, .pop, (0, 0, 0), 0), (109, 3, .iinc 8 1, (0, 0, 0), 0), (112, 3, .goto (-49), (33, 0, 0), 0), (115, 1, .aload_n 0, (0, 0, 0), 0), (116, 3, .getfield 64, (0, 11, 672), 0), (119, 3, .getfield 216, (8, 1, 572), 0)]
def am_m70_c1 : List am_I := [(122, 3, .getfield 222, (5, 0, 466), 0), (125, 1, .iload_n 3, (0, 0, 0), 0), (126, 3, .if_icmp .lt 6, (64, 0, 0), 0), (129, 3, .iinc 6 1, (0, 0, 0), 0), (132, 3, .iinc 7 1, (0, 0, 0), 0), (135, 3, .goto (-97), (21, 0, 0), 0), (138, 2, .iload 6, (0, 0, 0), 0), (140, 1, .ireturn, (0, 0, 0), 0)]
-- AirBed.chance(III)I
def am_m70 : am_M := ((0, ⟨"AirBed", "chance", "(III)I"⟩, prog_1_method_41_code), (9, some .int, 3), (3, 77, 0, 0), am_m70_c0 ++ (am_m70_c1))
def am_m71_c0 : List am_I := [(0, 1, .iload_n 1, (0, 0, 0), 0), (1, 1, .iconst 0, (0, 0, 0), 0), (2, 1, .iconst 4, (0, 0, 0), 0), (3, 3, .invokestatic 172, (30, 908, 3), 0), (6, 3, .ifCond .eq 14, (10, 0, 0), 0), (9, 1, .iload_n 3, (0, 0, 0), 0), (10, 1, .iconst 0, (0, 0, 0), 0), (11, 3, .sipush 3600, (0, 0, 0), 0), (14, 3, .invokestatic 172, (30, 908, 3), 0), (17, 3, .ifCond .ne 5, (12, 0, 0), 0), (20, 1, .iconst (-1), (0, 0, 0), 0), (21, 1, .ireturn, (0, 0, 0), 0), (22, 1, .iload_n 1, (0, 0, 0), 0), (23, 1, .iconst 4, (0, 0, 0), 0), (24, 3, .if_icmp .ne 26, (26, 0, 0), 0), (27, 1, .iload_n 2, (0, 0, 0), 0), (28, 3, .ifCond .lt 18, (24, 0, 0), 0), (31, 1, .iload_n 2, (0, 0, 0), 0), (32, 1, .aload_n 0, (0, 0, 0), 0), (33, 3, .getfield 18, (0, 2, 663), 0), (36, 3, .getfield 241, (1, 9, 285), 0), (39, 3, .if_icmp .ge 7, (24, 0, 0), 0), (42, 1, .iconst 1, (0, 0, 0), 0), (43, 3, .goto 16, (31, 0, 0), 0), (46, 1, .iconst 0, (0, 0, 0), 0), (47, 3, .goto 12, (31, 0, 0), 0), (50, 1, .iload_n 2, (0, 0, 0), 0), (51, 3, .ifCond .ne 7, (30, 0, 0), 0), (54, 1, .iconst 1, (0, 0, 0), 0), (55, 3, .goto 4, (31, 0, 0), 0), (58, 1, .iconst 0, (0, 0, 0), 0), (59, 2, .istore 4, (0, 0, 0), 0), (61, 2, .iload 4, (0, 0, 0), 0), (63, 3, .ifCond .eq 18, (41, 0, 0), 0), (66, 1, .iload_n 1, (0, 0, 0), 0), (67, 1, .iconst 3, (0, 0, 0), 0), (68, 3, .if_icmp .ne 15, (43, 0, 0), 0), (71, 1, .aload_n 0, (0, 0, 0), 0), (72, 3, .getfield 18, (0, 2, 663), 0), (75, 3, .getfield 229, (1, 8, 281), 0), (78, 3, .ifCond .ne 5, (43, 0, 0), 0), (81, 1, .iconst (-1), (0, 0, 0), 0), (82, 1, .ireturn, (0, 0, 0), 0), (83, 1, .aload_n 0, (0, 0, 0), 0), (84, 3, .getfield 64, (0, 11, 672), 0), (87, 1, .aload_n 0, (0, 0, 0), 0), (88, 3, .getfield 18, (0, 2, 663), 0), (91, 1, .aload_n 0, (0, 0, 0), 0), (92, 3, .getfield 37, (0, 5, 666), 0), (95, 3, .invokevirtual 146, (31, 912, 3), 0), (98, 1, .iload_n 1, (0, 0, 0), 0), (99, 3, .ifCond .ne 14, (57, 0, 0), 0), (102, 1, .aload_n 0, (0, 0, 0), 0), (103, 3, .getfield 64, (0, 11, 672), 0), (106, 1, .iconst (-1), (0, 0, 0), 0), (107, 3, .putfield 352, (8, 2, 574), 0), (110, 3, .goto 16, (64, 0, 0), 0), (113, 1, .iload_n 1, (0, 0, 0), 0), (114, 1, .iconst 4, (0, 0, 0), 0), (115, 3, .if_icmp .ne 11, (64, 0, 0), 0)]
def am_m71_c1 : List am_I := [(118, 1, .aload_n 0, (0, 0, 0), 0), (119, 3, .getfield 64, (0, 11, 672), 0), (122, 1, .iload_n 2, (0, 0, 0), 0), (123, 3, .putfield 352, (8, 2, 574), 0), (126, 1, .aload_n 0, (0, 0, 0), 0), (127, 3, .getfield 64, (0, 11, 672), 0), (130, 1, .iload_n 1, (0, 0, 0), 0), (131, 1, .iconst 2, (0, 0, 0), 0), (132, 3, .if_icmp .ne 7, (71, 0, 0), 0), (135, 1, .iconst 1, (0, 0, 0), 0), (136, 3, .goto 4, (72, 0, 0), 0), (139, 1, .iconst 0, (0, 0, 0), 0), (140, 3, .putfield 383, (8, 3, 576), 0), (143, 1, .aload_n 0, (0, 0, 0), 0), (144, 3, .getfield 64, (0, 11, 672), 0), (147, 1, .iload_n 1, (0, 0, 0), 0), (148, 1, .iconst 3, (0, 0, 0), 0), (149, 3, .if_icmp .ne 7, (80, 0, 0), 0), (152, 1, .iconst 1, (0, 0, 0), 0), (153, 3, .goto 4, (81, 0, 0), 0), (156, 1, .iconst 0, (0, 0, 0), 0), (157, 3, .putfield 235, (8, 4, 578), 0), (160, 1, .aload_n 0, (0, 0, 0), 0), (161, 3, .getfield 64, (0, 11, 672), 0), (164, 1, .iload_n 3, (0, 0, 0), 0), (165, 1, .iload_n 1, (0, 0, 0), 0), (166, 1, .iconst 1, (0, 0, 0), 0), (167, 3, .if_icmp .ne 7, (90, 0, 0), 0), (170, 1, .iconst 1, (0, 0, 0), 0), (171, 3, .goto 4, (91, 0, 0), 0), (174, 1, .iconst 0, (0, 0, 0), 0), (175, 3, .invokevirtual 225, (38, 1007, 3), 0), (178, 1, .pop, (0, 0, 0), 0), (179, 1, .aload_n 0, (0, 0, 0), 0), (180, 3, .getfield 64, (0, 11, 672), 0), (183, 3, .getfield 216, (8, 1, 572), 0), (186, 3, .getfield 222, (5, 0, 466), 0), (189, 1, .ireturn, (0, 0, 0), 0)]
-- AirBed.tried(III)I
def am_m71 : am_M := ((0, ⟨"AirBed", "tried", "(III)I"⟩, prog_1_method_44_code), (5, some .int, 3), (3, 77, 0, 0), am_m71_c0 ++ (am_m71_c1))
def am_m72_c0 : List am_I := [(0, 1, .aload_n 0, (0, 0, 0), 0), (1, 3, .getfield 50, (0, 9, 670), 0), (4, 1, .aload_n 0, (0, 0, 0), 0), (5, 3, .getfield 37, (0, 5, 666), 0), (8, 3, .invokevirtual 386, (73, 1240, 3), 0), (11, 3, .ifCond .eq 13, (10, 0, 0), 0), (14, 1, .aload_n 0, (0, 0, 0), 0), (15, 3, .getfield 50, (0, 9, 670), 0), (18, 3, .getfield 390, (6, 2, 516), 0), (21, 3, .goto 4, (11, 0, 0), 0), (24, 1, .iconst (-1), (0, 0, 0), 0), (25, 1, .ireturn, (0, 0, 0), 0)]
-- AirBed.undo()I
def am_m72 : am_M := ((0, ⟨"AirBed", "undo", "()I"⟩, prog_1_method_45_code), (1, some .int, 0), (2, 43, 0, 0), am_m72_c0)
def am_m73_c0 : List am_I := [(0, 1, .aload_n 0, (0, 0, 0), 0), (1, 3, .getfield 18, (6, 2, 515), 0), (4, 3, .ifCond .ne 5, (5, 0, 0), 0), (7, 1, .iconst 0, (0, 0, 0), 0), (8, 1, .ireturn, (0, 0, 0), 0), (9, 1, .aload_n 0, (0, 0, 0), 0), (10, 1, .aload_n 0, (0, 0, 0), 0), (11, 3, .getfield 22, (6, 1, 514), 0), (14, 2, .bipush 20, (0, 0, 0), 0), (16, 1, .iadd, (0, 0, 0), 0), (17, 1, .iconst 1, (0, 0, 0), 0), (18, 1, .isub, (0, 0, 0), 0), (19, 2, .bipush 20, (0, 0, 0), 0), (21, 1, .irem, (0, 0, 0), 0), (22, 3, .putfield 22, (6, 1, 514), 0), (25, 1, .aload_n 1, (0, 0, 0), 0), (26, 1, .aload_n 0, (0, 0, 0), 0), (27, 3, .getfield 11, (6, 0, 513), 0), (30, 1, .aload_n 0, (0, 0, 0), 0), (31, 3, .getfield 22, (6, 1, 514), 0), (34, 1, .aaload, (0, 0, 0), 0), (35, 3, .invokevirtual 25, (32, 1000, 3), 0), (38, 1, .aload_n 0, (0, 0, 0), 0), (39, 1, .dup, (0, 0, 0), 0), (40, 3, .getfield 18, (6, 2, 515), 0), (43, 1, .iconst 1, (0, 0, 0), 0), (44, 1, .isub, (0, 0, 0), 0), (45, 3, .putfield 18, (6, 2, 515), 0), (48, 1, .iconst 1, (0, 0, 0), 0), (49, 1, .ireturn, (0, 0, 0), 0)]
-- AirBed$History.pop(LAirBed$State;)Z
def am_m73 : am_M := ((6, ⟨"AirBed$History", "pop", "(LAirBed$State;)Z"⟩, prog_5_method_4_code), (2, some .boolean, 1), (1, 22, 0, 0), am_m73_c0)
def am_m74_c0 : List am_I := [(0, 1, .aload_n 0, (0, 0, 0), 0), (1, 3, .getfield 44, (0, 7, 668), 0), (4, 1, .aload_n 0, (0, 0, 0), 0), (5, 3, .getfield 37, (0, 5, 666), 0), (8, 3, .invokevirtual 219, (32, 1002, 3), 0), (11, 1, .aload_n 0, (0, 0, 0), 0), (12, 1, .iconst 1, (0, 0, 0), 0), (13, 3, .putfield 115, (0, 8, 669), 0), (16, 1, .aload_n 0, (0, 0, 0), 0), (17, 3, .getfield 37, (0, 5, 666), 0), (20, 3, .getfield 199, (5, 1, 471), 0), (23, 1, .ireturn, (0, 0, 0), 0)]
-- AirBed.keep()I
def am_m74 : am_M := ((0, ⟨"AirBed", "keep", "()I"⟩, prog_1_method_46_code), (1, some .int, 0), (1, 22, 0, 0), am_m74_c0)
def am_m75_c0 : List am_I := [(0, 1, .aload_n 0, (0, 0, 0), 0), (1, 3, .getfield 115, (0, 8, 669), 0), (4, 3, .ifCond .ne 5, (5, 0, 0), 0), (7, 1, .iconst (-1), (0, 0, 0), 0), (8, 1, .ireturn, (0, 0, 0), 0), (9, 1, .aload_n 0, (0, 0, 0), 0), (10, 3, .getfield 37, (0, 5, 666), 0), (13, 1, .aload_n 0, (0, 0, 0), 0), (14, 3, .getfield 44, (0, 7, 668), 0), (17, 3, .invokevirtual 219, (32, 1002, 3), 0), (20, 1, .aload_n 0, (0, 0, 0), 0), (21, 3, .getfield 50, (0, 9, 670), 0), (24, 3, .invokevirtual 111, (25, 886, 3), 0), (27, 1, .aload_n 0, (0, 0, 0), 0), (28, 3, .getfield 37, (0, 5, 666), 0), (31, 3, .getfield 199, (5, 1, 471), 0), (34, 1, .ireturn, (0, 0, 0), 0)]
-- AirBed.back()I
def am_m75 : am_M := ((0, ⟨"AirBed", "back", "()I"⟩, prog_1_method_47_code), (1, some .int, 0), (1, 22, 0, 0), am_m75_c0)
def am_m76_c0 : List am_I := [(0, 1, .iload_n 1, (0, 0, 0), 0), (1, 71, .tableswitch 200 0 13 #[71, 79, 87, 95, 103, 111, 119, 130, 138, 146, 168, 176, 184, 192], (0, 0, 0), 0), (72, 1, .aload_n 0, (0, 0, 0), 0), (73, 3, .getfield 18, (0, 2, 663), 0), (76, 3, .getfield 273, (1, 0, 251), 0), (79, 1, .ireturn, (0, 0, 0), 0), (80, 1, .aload_n 0, (0, 0, 0), 0), (81, 3, .getfield 37, (0, 5, 666), 0), (84, 3, .getfield 222, (5, 0, 466), 0), (87, 1, .ireturn, (0, 0, 0), 0), (88, 1, .aload_n 0, (0, 0, 0), 0), (89, 3, .getfield 18, (0, 2, 663), 0), (92, 3, .getfield 169, (1, 2, 258), 0), (95, 1, .ireturn, (0, 0, 0), 0), (96, 1, .aload_n 0, (0, 0, 0), 0), (97, 3, .getfield 18, (0, 2, 663), 0), (100, 3, .getfield 253, (1, 4, 268), 0), (103, 1, .ireturn, (0, 0, 0), 0), (104, 1, .aload_n 0, (0, 0, 0), 0), (105, 3, .getfield 18, (0, 2, 663), 0), (108, 3, .getfield 241, (1, 9, 285), 0), (111, 1, .ireturn, (0, 0, 0), 0), (112, 1, .aload_n 0, (0, 0, 0), 0), (113, 3, .getfield 18, (0, 2, 663), 0), (116, 3, .getfield 391, (1, 12, 297), 0), (119, 1, .ireturn, (0, 0, 0), 0), (120, 1, .aload_n 0, (0, 0, 0), 0), (121, 3, .getfield 18, (0, 2, 663), 0), (124, 3, .getfield 394, (1, 19, 317), 0), (127, 3, .getfield 398, (2, 0, 165), 0), (130, 1, .ireturn, (0, 0, 0), 0), (131, 1, .aload_n 0, (0, 0, 0), 0), (132, 3, .getfield 37, (0, 5, 666), 0), (135, 3, .getfield 199, (5, 1, 471), 0), (138, 1, .ireturn, (0, 0, 0), 0), (139, 1, .aload_n 0, (0, 0, 0), 0), (140, 3, .getfield 37, (0, 5, 666), 0), (143, 3, .getfield 232, (5, 3, 477), 0), (146, 1, .ireturn, (0, 0, 0), 0), (147, 1, .aload_n 0, (0, 0, 0), 0), (148, 3, .getfield 37, (0, 5, 666), 0), (151, 3, .getfield 238, (5, 2, 475), 0), (154, 3, .ifCond .lt 13, (47, 0, 0), 0), (157, 1, .aload_n 0, (0, 0, 0), 0), (158, 3, .getfield 37, (0, 5, 666), 0), (161, 3, .getfield 238, (5, 2, 475), 0), (164, 3, .goto 4, (48, 0, 0), 0), (167, 1, .iconst (-1), (0, 0, 0), 0), (168, 1, .ireturn, (0, 0, 0), 0), (169, 1, .aload_n 0, (0, 0, 0), 0), (170, 3, .getfield 37, (0, 5, 666), 0), (173, 3, .getfield 247, (5, 4, 479), 0), (176, 1, .ireturn, (0, 0, 0), 0), (177, 1, .aload_n 0, (0, 0, 0), 0), (178, 3, .getfield 57, (0, 10, 671), 0), (181, 3, .getfield 331, (7, 0, 531), 0), (184, 1, .ireturn, (0, 0, 0), 0), (185, 1, .aload_n 0, (0, 0, 0), 0), (186, 3, .getfield 57, (0, 10, 671), 0), (189, 3, .invokevirtual 343, (68, 1217, 3), 0)]
def am_m76_c1 : List am_I := [(192, 1, .ireturn, (0, 0, 0), 0), (193, 1, .aload_n 0, (0, 0, 0), 0), (194, 3, .getfield 50, (0, 9, 670), 0), (197, 3, .getfield 390, (6, 2, 516), 0), (200, 1, .ireturn, (0, 0, 0), 0), (201, 1, .iconst (-1), (0, 0, 0), 0), (202, 1, .ireturn, (0, 0, 0), 0)]
-- AirBed.count(I)I
def am_m76 : am_M := ((0, ⟨"AirBed", "count", "(I)I"⟩, prog_1_method_48_code), (2, some .int, 1), (1, 20, 0, 0), am_m76_c0 ++ (am_m76_c1))
def am_m77_c0 : List am_I := [(0, 1, .aload_n 0, (0, 0, 0), 0), (1, 3, .invokespecial 1, (0, 1356, 0), 0), (4, 1, .aload_n 0, (0, 0, 0), 0), (5, 3, .sipush 700, (0, 0, 0), 0), (8, 2, .newarray .int, (0, 0, 195), 0), (10, 3, .putfield 7, (12, 0, 1384), 0), (13, 1, .aload_n 0, (0, 0, 0), 0), (14, 2, .bipush 101, (0, 0, 0), 0), (16, 2, .newarray .int, (0, 0, 195), 0), (18, 1, .dup, (0, 0, 0), 0), (19, 1, .iconst 0, (0, 0, 0), 0), (20, 2, .bipush 98, (0, 0, 0), 0), (22, 1, .iastore, (0, 0, 0), 0), (23, 1, .dup, (0, 0, 0), 0), (24, 1, .iconst 1, (0, 0, 0), 0), (25, 2, .bipush 101, (0, 0, 0), 0), (27, 1, .iastore, (0, 0, 0), 0), (28, 1, .dup, (0, 0, 0), 0), (29, 1, .iconst 2, (0, 0, 0), 0), (30, 2, .bipush 100, (0, 0, 0), 0), (32, 1, .iastore, (0, 0, 0), 0), (33, 1, .dup, (0, 0, 0), 0), (34, 1, .iconst 3, (0, 0, 0), 0), (35, 2, .bipush 32, (0, 0, 0), 0), (37, 1, .iastore, (0, 0, 0), 0), (38, 1, .dup, (0, 0, 0), 0), (39, 1, .iconst 4, (0, 0, 0), 0), (40, 2, .bipush 98, (0, 0, 0), 0), (42, 1, .iastore, (0, 0, 0), 0), (43, 1, .dup, (0, 0, 0), 0), (44, 1, .iconst 5, (0, 0, 0), 0), (45, 2, .bipush 108, (0, 0, 0), 0), (47, 1, .iastore, (0, 0, 0), 0), (48, 1, .dup, (0, 0, 0), 0), (49, 2, .bipush 6, (0, 0, 0), 0), (51, 2, .bipush 111, (0, 0, 0), 0), (53, 1, .iastore, (0, 0, 0), 0), (54, 1, .dup, (0, 0, 0), 0), (55, 2, .bipush 7, (0, 0, 0), 0), (57, 2, .bipush 119, (0, 0, 0), 0), (59, 1, .iastore, (0, 0, 0), 0), (60, 1, .dup, (0, 0, 0), 0), (61, 2, .bipush 8, (0, 0, 0), 0), (63, 2, .bipush 101, (0, 0, 0), 0), (65, 1, .iastore, (0, 0, 0), 0), (66, 1, .dup, (0, 0, 0), 0), (67, 2, .bipush 9, (0, 0, 0), 0), (69, 2, .bipush 114, (0, 0, 0), 0), (71, 1, .iastore, (0, 0, 0), 0), (72, 1, .dup, (0, 0, 0), 0), (73, 2, .bipush 10, (0, 0, 0), 0), (75, 2, .bipush 32, (0, 0, 0), 0), (77, 1, .iastore, (0, 0, 0), 0), (78, 1, .dup, (0, 0, 0), 0), (79, 2, .bipush 11, (0, 0, 0), 0), (81, 2, .bipush 116, (0, 0, 0), 0), (83, 1, .iastore, (0, 0, 0), 0), (84, 1, .dup, (0, 0, 0), 0), (85, 2, .bipush 12, (0, 0, 0), 0), (87, 2, .bipush 117, (0, 0, 0), 0)]
def am_m77_c1 : List am_I := [(89, 1, .iastore, (0, 0, 0), 0), (90, 1, .dup, (0, 0, 0), 0), (91, 2, .bipush 13, (0, 0, 0), 0), (93, 2, .bipush 114, (0, 0, 0), 0), (95, 1, .iastore, (0, 0, 0), 0), (96, 1, .dup, (0, 0, 0), 0), (97, 2, .bipush 14, (0, 0, 0), 0), (99, 2, .bipush 110, (0, 0, 0), 0), (101, 1, .iastore, (0, 0, 0), 0), (102, 1, .dup, (0, 0, 0), 0), (103, 2, .bipush 15, (0, 0, 0), 0), (105, 2, .bipush 32, (0, 0, 0), 0), (107, 1, .iastore, (0, 0, 0), 0), (108, 1, .dup, (0, 0, 0), 0), (109, 2, .bipush 16, (0, 0, 0), 0), (111, 2, .bipush 112, (0, 0, 0), 0), (113, 1, .iastore, (0, 0, 0), 0), (114, 1, .dup, (0, 0, 0), 0), (115, 2, .bipush 17, (0, 0, 0), 0), (117, 2, .bipush 117, (0, 0, 0), 0), (119, 1, .iastore, (0, 0, 0), 0), (120, 1, .dup, (0, 0, 0), 0), (121, 2, .bipush 18, (0, 0, 0), 0), (123, 2, .bipush 109, (0, 0, 0), 0), (125, 1, .iastore, (0, 0, 0), 0), (126, 1, .dup, (0, 0, 0), 0), (127, 2, .bipush 19, (0, 0, 0), 0), (129, 2, .bipush 112, (0, 0, 0), 0), (131, 1, .iastore, (0, 0, 0), 0), (132, 1, .dup, (0, 0, 0), 0), (133, 2, .bipush 20, (0, 0, 0), 0), (135, 2, .bipush 32, (0, 0, 0), 0), (137, 1, .iastore, (0, 0, 0), 0), (138, 1, .dup, (0, 0, 0), 0), (139, 2, .bipush 21, (0, 0, 0), 0), (141, 2, .bipush 108, (0, 0, 0), 0), (143, 1, .iastore, (0, 0, 0), 0), (144, 1, .dup, (0, 0, 0), 0), (145, 2, .bipush 22, (0, 0, 0), 0), (147, 2, .bipush 101, (0, 0, 0), 0), (149, 1, .iastore, (0, 0, 0), 0), (150, 1, .dup, (0, 0, 0), 0), (151, 2, .bipush 23, (0, 0, 0), 0), (153, 2, .bipush 97, (0, 0, 0), 0), (155, 1, .iastore, (0, 0, 0), 0), (156, 1, .dup, (0, 0, 0), 0), (157, 2, .bipush 24, (0, 0, 0), 0), (159, 2, .bipush 107, (0, 0, 0), 0), (161, 1, .iastore, (0, 0, 0), 0), (162, 1, .dup, (0, 0, 0), 0), (163, 2, .bipush 25, (0, 0, 0), 0), (165, 2, .bipush 32, (0, 0, 0), 0), (167, 1, .iastore, (0, 0, 0), 0), (168, 1, .dup, (0, 0, 0), 0), (169, 2, .bipush 26, (0, 0, 0), 0), (171, 2, .bipush 116, (0, 0, 0), 0), (173, 1, .iastore, (0, 0, 0), 0), (174, 1, .dup, (0, 0, 0), 0), (175, 2, .bipush 27, (0, 0, 0), 0), (177, 2, .bipush 114, (0, 0, 0), 0)]
def am_m77_c2 : List am_I := [(179, 1, .iastore, (0, 0, 0), 0), (180, 1, .dup, (0, 0, 0), 0), (181, 2, .bipush 28, (0, 0, 0), 0), (183, 2, .bipush 105, (0, 0, 0), 0), (185, 1, .iastore, (0, 0, 0), 0), (186, 1, .dup, (0, 0, 0), 0), (187, 2, .bipush 29, (0, 0, 0), 0), (189, 2, .bipush 97, (0, 0, 0), 0), (191, 1, .iastore, (0, 0, 0), 0), (192, 1, .dup, (0, 0, 0), 0), (193, 2, .bipush 30, (0, 0, 0), 0), (195, 2, .bipush 108, (0, 0, 0), 0), (197, 1, .iastore, (0, 0, 0), 0), (198, 1, .dup, (0, 0, 0), 0), (199, 2, .bipush 31, (0, 0, 0), 0), (201, 2, .bipush 32, (0, 0, 0), 0), (203, 1, .iastore, (0, 0, 0), 0), (204, 1, .dup, (0, 0, 0), 0), (205, 2, .bipush 32, (0, 0, 0), 0), (207, 2, .bipush 115, (0, 0, 0), 0), (209, 1, .iastore, (0, 0, 0), 0), (210, 1, .dup, (0, 0, 0), 0), (211, 2, .bipush 33, (0, 0, 0), 0), (213, 2, .bipush 108, (0, 0, 0), 0), (215, 1, .iastore, (0, 0, 0), 0), (216, 1, .dup, (0, 0, 0), 0), (217, 2, .bipush 34, (0, 0, 0), 0), (219, 2, .bipush 105, (0, 0, 0), 0), (221, 1, .iastore, (0, 0, 0), 0), (222, 1, .dup, (0, 0, 0), 0), (223, 2, .bipush 35, (0, 0, 0), 0), (225, 2, .bipush 112, (0, 0, 0), 0), (227, 1, .iastore, (0, 0, 0), 0), (228, 1, .dup, (0, 0, 0), 0), (229, 2, .bipush 36, (0, 0, 0), 0), (231, 2, .bipush 32, (0, 0, 0), 0), (233, 1, .iastore, (0, 0, 0), 0), (234, 1, .dup, (0, 0, 0), 0), (235, 2, .bipush 37, (0, 0, 0), 0), (237, 2, .bipush 115, (0, 0, 0), 0), (239, 1, .iastore, (0, 0, 0), 0), (240, 1, .dup, (0, 0, 0), 0), (241, 2, .bipush 38, (0, 0, 0), 0), (243, 2, .bipush 101, (0, 0, 0), 0), (245, 1, .iastore, (0, 0, 0), 0), (246, 1, .dup, (0, 0, 0), 0), (247, 2, .bipush 39, (0, 0, 0), 0), (249, 2, .bipush 101, (0, 0, 0), 0), (251, 1, .iastore, (0, 0, 0), 0), (252, 1, .dup, (0, 0, 0), 0), (253, 2, .bipush 40, (0, 0, 0), 0), (255, 2, .bipush 100, (0, 0, 0), 0), (257, 1, .iastore, (0, 0, 0), 0), (258, 1, .dup, (0, 0, 0), 0), (259, 2, .bipush 41, (0, 0, 0), 0), (261, 2, .bipush 32, (0, 0, 0), 0), (263, 1, .iastore, (0, 0, 0), 0), (264, 1, .dup, (0, 0, 0), 0), (265, 2, .bipush 42, (0, 0, 0), 0), (267, 2, .bipush 108, (0, 0, 0), 0)]
def am_m77_c3 : List am_I := [(269, 1, .iastore, (0, 0, 0), 0), (270, 1, .dup, (0, 0, 0), 0), (271, 2, .bipush 43, (0, 0, 0), 0), (273, 2, .bipush 97, (0, 0, 0), 0), (275, 1, .iastore, (0, 0, 0), 0), (276, 1, .dup, (0, 0, 0), 0), (277, 2, .bipush 44, (0, 0, 0), 0), (279, 2, .bipush 119, (0, 0, 0), 0), (281, 1, .iastore, (0, 0, 0), 0), (282, 1, .dup, (0, 0, 0), 0), (283, 2, .bipush 45, (0, 0, 0), 0), (285, 2, .bipush 32, (0, 0, 0), 0), (287, 1, .iastore, (0, 0, 0), 0), (288, 1, .dup, (0, 0, 0), 0), (289, 2, .bipush 46, (0, 0, 0), 0), (291, 2, .bipush 108, (0, 0, 0), 0), (293, 1, .iastore, (0, 0, 0), 0), (294, 1, .dup, (0, 0, 0), 0), (295, 2, .bipush 47, (0, 0, 0), 0), (297, 2, .bipush 111, (0, 0, 0), 0), (299, 1, .iastore, (0, 0, 0), 0), (300, 1, .dup, (0, 0, 0), 0), (301, 2, .bipush 48, (0, 0, 0), 0), (303, 2, .bipush 115, (0, 0, 0), 0), (305, 1, .iastore, (0, 0, 0), 0), (306, 1, .dup, (0, 0, 0), 0), (307, 2, .bipush 49, (0, 0, 0), 0), (309, 2, .bipush 101, (0, 0, 0), 0), (311, 1, .iastore, (0, 0, 0), 0), (312, 1, .dup, (0, 0, 0), 0), (313, 2, .bipush 50, (0, 0, 0), 0), (315, 2, .bipush 32, (0, 0, 0), 0), (317, 1, .iastore, (0, 0, 0), 0), (318, 1, .dup, (0, 0, 0), 0), (319, 2, .bipush 51, (0, 0, 0), 0), (321, 2, .bipush 102, (0, 0, 0), 0), (323, 1, .iastore, (0, 0, 0), 0), (324, 1, .dup, (0, 0, 0), 0), (325, 2, .bipush 52, (0, 0, 0), 0), (327, 2, .bipush 105, (0, 0, 0), 0), (329, 1, .iastore, (0, 0, 0), 0), (330, 1, .dup, (0, 0, 0), 0), (331, 2, .bipush 53, (0, 0, 0), 0), (333, 2, .bipush 108, (0, 0, 0), 0), (335, 1, .iastore, (0, 0, 0), 0), (336, 1, .dup, (0, 0, 0), 0), (337, 2, .bipush 54, (0, 0, 0), 0), (339, 2, .bipush 108, (0, 0, 0), 0), (341, 1, .iastore, (0, 0, 0), 0), (342, 1, .dup, (0, 0, 0), 0), (343, 2, .bipush 55, (0, 0, 0), 0), (345, 2, .bipush 32, (0, 0, 0), 0), (347, 1, .iastore, (0, 0, 0), 0), (348, 1, .dup, (0, 0, 0), 0), (349, 2, .bipush 56, (0, 0, 0), 0), (351, 2, .bipush 108, (0, 0, 0), 0), (353, 1, .iastore, (0, 0, 0), 0), (354, 1, .dup, (0, 0, 0), 0), (355, 2, .bipush 57, (0, 0, 0), 0), (357, 2, .bipush 111, (0, 0, 0), 0)]
def am_m77_c4 : List am_I := [(359, 1, .iastore, (0, 0, 0), 0), (360, 1, .dup, (0, 0, 0), 0), (361, 2, .bipush 58, (0, 0, 0), 0), (363, 2, .bipush 97, (0, 0, 0), 0), (365, 1, .iastore, (0, 0, 0), 0), (366, 1, .dup, (0, 0, 0), 0), (367, 2, .bipush 59, (0, 0, 0), 0), (369, 2, .bipush 100, (0, 0, 0), 0), (371, 1, .iastore, (0, 0, 0), 0), (372, 1, .dup, (0, 0, 0), 0), (373, 2, .bipush 60, (0, 0, 0), 0), (375, 2, .bipush 32, (0, 0, 0), 0), (377, 1, .iastore, (0, 0, 0), 0), (378, 1, .dup, (0, 0, 0), 0), (379, 2, .bipush 61, (0, 0, 0), 0), (381, 2, .bipush 97, (0, 0, 0), 0), (383, 1, .iastore, (0, 0, 0), 0), (384, 1, .dup, (0, 0, 0), 0), (385, 2, .bipush 62, (0, 0, 0), 0), (387, 2, .bipush 110, (0, 0, 0), 0), (389, 1, .iastore, (0, 0, 0), 0), (390, 1, .dup, (0, 0, 0), 0), (391, 2, .bipush 63, (0, 0, 0), 0), (393, 2, .bipush 100, (0, 0, 0), 0), (395, 1, .iastore, (0, 0, 0), 0), (396, 1, .dup, (0, 0, 0), 0), (397, 2, .bipush 64, (0, 0, 0), 0), (399, 2, .bipush 32, (0, 0, 0), 0), (401, 1, .iastore, (0, 0, 0), 0), (402, 1, .dup, (0, 0, 0), 0), (403, 2, .bipush 65, (0, 0, 0), 0), (405, 2, .bipush 111, (0, 0, 0), 0), (407, 1, .iastore, (0, 0, 0), 0), (408, 1, .dup, (0, 0, 0), 0), (409, 2, .bipush 66, (0, 0, 0), 0), (411, 2, .bipush 114, (0, 0, 0), 0), (413, 1, .iastore, (0, 0, 0), 0), (414, 1, .dup, (0, 0, 0), 0), (415, 2, .bipush 67, (0, 0, 0), 0), (417, 2, .bipush 32, (0, 0, 0), 0), (419, 1, .iastore, (0, 0, 0), 0), (420, 1, .dup, (0, 0, 0), 0), (421, 2, .bipush 68, (0, 0, 0), 0), (423, 2, .bipush 110, (0, 0, 0), 0), (425, 1, .iastore, (0, 0, 0), 0), (426, 1, .dup, (0, 0, 0), 0), (427, 2, .bipush 69, (0, 0, 0), 0), (429, 2, .bipush 111, (0, 0, 0), 0), (431, 1, .iastore, (0, 0, 0), 0), (432, 1, .dup, (0, 0, 0), 0), (433, 2, .bipush 70, (0, 0, 0), 0), (435, 2, .bipush 116, (0, 0, 0), 0), (437, 1, .iastore, (0, 0, 0), 0), (438, 1, .dup, (0, 0, 0), 0), (439, 2, .bipush 71, (0, 0, 0), 0), (441, 2, .bipush 32, (0, 0, 0), 0), (443, 1, .iastore, (0, 0, 0), 0), (444, 1, .dup, (0, 0, 0), 0), (445, 2, .bipush 72, (0, 0, 0), 0), (447, 2, .bipush 102, (0, 0, 0), 0)]
def am_m77_c5 : List am_I := [(449, 1, .iastore, (0, 0, 0), 0), (450, 1, .dup, (0, 0, 0), 0), (451, 2, .bipush 73, (0, 0, 0), 0), (453, 2, .bipush 117, (0, 0, 0), 0), (455, 1, .iastore, (0, 0, 0), 0), (456, 1, .dup, (0, 0, 0), 0), (457, 2, .bipush 74, (0, 0, 0), 0), (459, 2, .bipush 108, (0, 0, 0), 0), (461, 1, .iastore, (0, 0, 0), 0), (462, 1, .dup, (0, 0, 0), 0), (463, 2, .bipush 75, (0, 0, 0), 0), (465, 2, .bipush 108, (0, 0, 0), 0), (467, 1, .iastore, (0, 0, 0), 0), (468, 1, .dup, (0, 0, 0), 0), (469, 2, .bipush 76, (0, 0, 0), 0), (471, 2, .bipush 32, (0, 0, 0), 0), (473, 1, .iastore, (0, 0, 0), 0), (474, 1, .dup, (0, 0, 0), 0), (475, 2, .bipush 77, (0, 0, 0), 0), (477, 2, .bipush 114, (0, 0, 0), 0), (479, 1, .iastore, (0, 0, 0), 0), (480, 1, .dup, (0, 0, 0), 0), (481, 2, .bipush 78, (0, 0, 0), 0), (483, 2, .bipush 111, (0, 0, 0), 0), (485, 1, .iastore, (0, 0, 0), 0), (486, 1, .dup, (0, 0, 0), 0), (487, 2, .bipush 79, (0, 0, 0), 0), (489, 2, .bipush 111, (0, 0, 0), 0), (491, 1, .iastore, (0, 0, 0), 0), (492, 1, .dup, (0, 0, 0), 0), (493, 2, .bipush 80, (0, 0, 0), 0), (495, 2, .bipush 109, (0, 0, 0), 0), (497, 1, .iastore, (0, 0, 0), 0), (498, 1, .dup, (0, 0, 0), 0), (499, 2, .bipush 81, (0, 0, 0), 0), (501, 2, .bipush 32, (0, 0, 0), 0), (503, 1, .iastore, (0, 0, 0), 0), (504, 1, .dup, (0, 0, 0), 0), (505, 2, .bipush 82, (0, 0, 0), 0), (507, 2, .bipush 111, (0, 0, 0), 0), (509, 1, .iastore, (0, 0, 0), 0), (510, 1, .dup, (0, 0, 0), 0), (511, 2, .bipush 83, (0, 0, 0), 0), (513, 2, .bipush 112, (0, 0, 0), 0), (515, 1, .iastore, (0, 0, 0), 0), (516, 1, .dup, (0, 0, 0), 0), (517, 2, .bipush 84, (0, 0, 0), 0), (519, 2, .bipush 101, (0, 0, 0), 0), (521, 1, .iastore, (0, 0, 0), 0), (522, 1, .dup, (0, 0, 0), 0), (523, 2, .bipush 85, (0, 0, 0), 0), (525, 2, .bipush 110, (0, 0, 0), 0), (527, 1, .iastore, (0, 0, 0), 0), (528, 1, .dup, (0, 0, 0), 0), (529, 2, .bipush 86, (0, 0, 0), 0), (531, 2, .bipush 32, (0, 0, 0), 0), (533, 1, .iastore, (0, 0, 0), 0), (534, 1, .dup, (0, 0, 0), 0), (535, 2, .bipush 87, (0, 0, 0), 0), (537, 2, .bipush 115, (0, 0, 0), 0)]
def am_m77_c6 : List am_I := [(539, 1, .iastore, (0, 0, 0), 0), (540, 1, .dup, (0, 0, 0), 0), (541, 2, .bipush 88, (0, 0, 0), 0), (543, 2, .bipush 101, (0, 0, 0), 0), (545, 1, .iastore, (0, 0, 0), 0), (546, 1, .dup, (0, 0, 0), 0), (547, 2, .bipush 89, (0, 0, 0), 0), (549, 2, .bipush 99, (0, 0, 0), 0), (551, 1, .iastore, (0, 0, 0), 0), (552, 1, .dup, (0, 0, 0), 0), (553, 2, .bipush 90, (0, 0, 0), 0), (555, 2, .bipush 111, (0, 0, 0), 0), (557, 1, .iastore, (0, 0, 0), 0), (558, 1, .dup, (0, 0, 0), 0), (559, 2, .bipush 91, (0, 0, 0), 0), (561, 2, .bipush 110, (0, 0, 0), 0), (563, 1, .iastore, (0, 0, 0), 0), (564, 1, .dup, (0, 0, 0), 0), (565, 2, .bipush 92, (0, 0, 0), 0), (567, 2, .bipush 100, (0, 0, 0), 0), (569, 1, .iastore, (0, 0, 0), 0), (570, 1, .dup, (0, 0, 0), 0), (571, 2, .bipush 93, (0, 0, 0), 0), (573, 2, .bipush 32, (0, 0, 0), 0), (575, 1, .iastore, (0, 0, 0), 0), (576, 1, .dup, (0, 0, 0), 0), (577, 2, .bipush 94, (0, 0, 0), 0), (579, 2, .bipush 98, (0, 0, 0), 0), (581, 1, .iastore, (0, 0, 0), 0), (582, 1, .dup, (0, 0, 0), 0), (583, 2, .bipush 95, (0, 0, 0), 0), (585, 2, .bipush 114, (0, 0, 0), 0), (587, 1, .iastore, (0, 0, 0), 0), (588, 1, .dup, (0, 0, 0), 0), (589, 2, .bipush 96, (0, 0, 0), 0), (591, 2, .bipush 101, (0, 0, 0), 0), (593, 1, .iastore, (0, 0, 0), 0), (594, 1, .dup, (0, 0, 0), 0), (595, 2, .bipush 97, (0, 0, 0), 0), (597, 2, .bipush 97, (0, 0, 0), 0), (599, 1, .iastore, (0, 0, 0), 0), (600, 1, .dup, (0, 0, 0), 0), (601, 2, .bipush 98, (0, 0, 0), 0), (603, 2, .bipush 116, (0, 0, 0), 0), (605, 1, .iastore, (0, 0, 0), 0), (606, 1, .dup, (0, 0, 0), 0), (607, 2, .bipush 99, (0, 0, 0), 0), (609, 2, .bipush 104, (0, 0, 0), 0), (611, 1, .iastore, (0, 0, 0), 0), (612, 1, .dup, (0, 0, 0), 0), (613, 2, .bipush 100, (0, 0, 0), 0), (615, 2, .bipush 32, (0, 0, 0), 0), (617, 1, .iastore, (0, 0, 0), 0), (618, 3, .putfield 13, (12, 3, 1387), 0), (621, 1, .aload_n 0, (0, 0, 0), 0), (622, 1, .iconst (-1), (0, 0, 0), 0), (623, 3, .putfield 16, (12, 5, 1389), 0), (626, 1, .aload_n 0, (0, 0, 0), 0), (627, 1, .iconst 4, (0, 0, 0), 0), (628, 2, .newarray .boolean, (0, 0, 196), 0)]
def am_m77_c7 : List am_I := [(630, 3, .putfield 20, (12, 22, 1406), 0), (633, 1, .aload_n 0, (0, 0, 0), 0), (634, 2, .bipush 12, (0, 0, 0), 0), (636, 2, .newarray .int, (0, 0, 195), 0), (638, 3, .putfield 24, (12, 23, 1407), 0), (641, 1, .aload_n 0, (0, 0, 0), 0), (642, 2, .bipush 8, (0, 0, 0), 0), (644, 2, .newarray .int, (0, 0, 195), 0), (646, 3, .putfield 27, (12, 24, 1408), 0), (649, 1, .aload_n 0, (0, 0, 0), 0), (650, 2, .bipush 56, (0, 0, 0), 0), (652, 2, .newarray .int, (0, 0, 195), 0), (654, 3, .putfield 30, (12, 25, 1409), 0), (657, 1, .aload_n 0, (0, 0, 0), 0), (658, 2, .bipush 16, (0, 0, 0), 0), (660, 2, .newarray .int, (0, 0, 195), 0), (662, 3, .putfield 33, (12, 26, 1410), 0), (665, 1, .aload_n 0, (0, 0, 0), 0), (666, 2, .bipush 16, (0, 0, 0), 0), (668, 2, .newarray .int, (0, 0, 195), 0), (670, 3, .putfield 36, (12, 27, 1411), 0), (673, 1, .aload_n 0, (0, 0, 0), 0), (674, 2, .bipush 12, (0, 0, 0), 0), (676, 2, .newarray .int, (0, 0, 195), 0), (678, 3, .putfield 39, (12, 28, 1412), 0), (681, 1, .aload_n 0, (0, 0, 0), 0), (682, 2, .bipush 12, (0, 0, 0), 0), (684, 2, .newarray .int, (0, 0, 195), 0), (686, 3, .putfield 42, (12, 29, 1413), 0), (689, 1, .aload_n 0, (0, 0, 0), 0), (690, 2, .bipush 6, (0, 0, 0), 0), (692, 2, .newarray .int, (0, 0, 195), 0), (694, 3, .putfield 45, (12, 30, 1414), 0), (697, 1, .aload_n 0, (0, 0, 0), 0), (698, 2, .bipush 6, (0, 0, 0), 0), (700, 2, .newarray .int, (0, 0, 195), 0), (702, 3, .putfield 48, (12, 31, 1415), 0), (705, 1, .aload_n 0, (0, 0, 0), 0), (706, 2, .bipush 6, (0, 0, 0), 0), (708, 2, .newarray .int, (0, 0, 195), 0), (710, 3, .putfield 51, (12, 32, 1416), 0), (713, 1, .aload_n 0, (0, 0, 0), 0), (714, 2, .bipush 6, (0, 0, 0), 0), (716, 2, .newarray .boolean, (0, 0, 196), 0), (718, 3, .putfield 54, (12, 33, 1417), 0), (721, 1, .aload_n 0, (0, 0, 0), 0), (722, 2, .bipush 6, (0, 0, 0), 0), (724, 2, .newarray .int, (0, 0, 195), 0), (726, 3, .putfield 57, (12, 34, 1418), 0), (729, 1, .aload_n 0, (0, 0, 0), 0), (730, 2, .bipush 6, (0, 0, 0), 0), (732, 2, .newarray .int, (0, 0, 195), 0), (734, 3, .putfield 60, (12, 35, 1419), 0), (737, 1, .aload_n 0, (0, 0, 0), 0), (738, 3, .sipush 128, (0, 0, 0), 0), (741, 2, .newarray .int, (0, 0, 195), 0), (743, 3, .putfield 63, (12, 36, 1420), 0), (746, 1, .aload_n 0, (0, 0, 0), 0), (747, 3, .sipush 128, (0, 0, 0), 0), (750, 2, .newarray .int, (0, 0, 195), 0)]
def am_m77_c8 : List am_I := [(752, 3, .putfield 66, (12, 37, 1421), 0), (755, 1, .aload_n 0, (0, 0, 0), 0), (756, 3, .sipush 128, (0, 0, 0), 0), (759, 2, .newarray .int, (0, 0, 195), 0), (761, 3, .putfield 69, (12, 38, 1422), 0), (764, 1, .aload_n 0, (0, 0, 0), 0), (765, 2, .bipush 96, (0, 0, 0), 0), (767, 2, .newarray .int, (0, 0, 195), 0), (769, 3, .putfield 72, (12, 39, 1423), 0), (772, 1, .aload_n 0, (0, 0, 0), 0), (773, 2, .bipush 96, (0, 0, 0), 0), (775, 2, .newarray .int, (0, 0, 195), 0), (777, 3, .putfield 75, (12, 40, 1424), 0), (780, 1, .aload_n 0, (0, 0, 0), 0), (781, 2, .bipush 6, (0, 0, 0), 0), (783, 2, .newarray .long, (0, 0, 197), 0), (785, 3, .putfield 78, (12, 47, 1431), 0), (788, 1, .aload_n 0, (0, 0, 0), 0), (789, 2, .bipush 64, (0, 0, 0), 0), (791, 2, .newarray .long, (0, 0, 197), 0), (793, 3, .putfield 82, (12, 48, 1432), 0), (796, 1, .aload_n 0, (0, 0, 0), 0), (797, 1, .iconst 4, (0, 0, 0), 0), (798, 2, .newarray .int, (0, 0, 195), 0), (800, 3, .putfield 85, (12, 50, 1434), 0), (803, 1, .aload_n 0, (0, 0, 0), 0), (804, 1, .iconst 4, (0, 0, 0), 0), (805, 2, .newarray .int, (0, 0, 195), 0), (807, 3, .putfield 88, (12, 51, 1435), 0), (810, 1, .aload_n 0, (0, 0, 0), 0), (811, 1, .iconst 4, (0, 0, 0), 0), (812, 2, .newarray .int, (0, 0, 195), 0), (814, 3, .putfield 91, (12, 52, 1436), 0), (817, 1, .aload_n 0, (0, 0, 0), 0), (818, 2, .bipush 16, (0, 0, 0), 0), (820, 2, .newarray .int, (0, 0, 195), 0), (822, 3, .putfield 94, (12, 53, 1437), 0), (825, 1, .aload_n 0, (0, 0, 0), 0), (826, 2, .bipush 16, (0, 0, 0), 0), (828, 2, .newarray .int, (0, 0, 195), 0), (830, 3, .putfield 97, (12, 54, 1438), 0), (833, 1, .aload_n 0, (0, 0, 0), 0), (834, 2, .bipush 16, (0, 0, 0), 0), (836, 2, .newarray .int, (0, 0, 195), 0), (838, 3, .putfield 100, (12, 55, 1439), 0), (841, 1, .aload_n 0, (0, 0, 0), 0), (842, 1, .iconst 4, (0, 0, 0), 0), (843, 2, .newarray .int, (0, 0, 195), 0), (845, 3, .putfield 103, (12, 56, 1440), 0), (848, 1, .aload_n 0, (0, 0, 0), 0), (849, 1, .iconst (-1), (0, 0, 0), 0), (850, 3, .putfield 106, (12, 62, 1446), 0), (853, 1, .aload_n 0, (0, 0, 0), 0), (854, 1, .iconst 4, (0, 0, 0), 0), (855, 2, .newarray .int, (0, 0, 195), 0), (857, 3, .putfield 109, (12, 68, 1452), 0), (860, 1, .aload_n 0, (0, 0, 0), 0), (861, 2, .bipush 6, (0, 0, 0), 0), (863, 2, .newarray .long, (0, 0, 197), 0), (865, 3, .putfield 112, (12, 71, 1455), 0)]
def am_m77_c9 : List am_I := [(868, 1, .aload_n 0, (0, 0, 0), 0), (869, 2, .bipush 6, (0, 0, 0), 0), (871, 2, .newarray .int, (0, 0, 195), 0), (873, 3, .putfield 115, (12, 72, 1456), 0), (876, 1, .aload_n 0, (0, 0, 0), 0), (877, 1, .iconst (-1), (0, 0, 0), 0), (878, 3, .putfield 118, (12, 74, 1458), 0), (881, 1, .aload_n 0, (0, 0, 0), 0), (882, 2, .bipush 96, (0, 0, 0), 0), (884, 2, .newarray .int, (0, 0, 195), 0), (886, 3, .putfield 121, (12, 75, 1459), 0), (889, 1, .aload_n 0, (0, 0, 0), 0), (890, 2, .bipush 24, (0, 0, 0), 0), (892, 2, .newarray .boolean, (0, 0, 196), 0), (894, 3, .putfield 124, (12, 76, 1460), 0), (897, 1, .aload_n 0, (0, 0, 0), 0), (898, 3, .sipush 340, (0, 0, 0), 0), (901, 2, .newarray .int, (0, 0, 195), 0), (903, 3, .putfield 127, (12, 78, 1462), 0), (906, 1, .aload_n 0, (0, 0, 0), 0), (907, 2, .bipush 17, (0, 0, 0), 0), (909, 2, .newarray .int, (0, 0, 195), 0), (911, 3, .putfield 130, (12, 80, 1464), 0), (914, 1, .aload_n 0, (0, 0, 0), 0), (915, 3, .invokevirtual 133, (78, 1357, 3), 0), (918, 1, .aload_n 0, (0, 0, 0), 0), (919, 3, .invokevirtual 136, (79, 1361, 3), 0), (922, 1, .return_, (0, 0, 0), 0)]
-- AirBedModel.<init>()V
def am_m77 : am_M := ((12, ⟨"AirBedModel", "<init>", "()V"⟩, prog_14_method_1_code), (1, none, 0), (3, 65, 37, 2176), am_m77_c0 ++ (am_m77_c1 ++ (am_m77_c2 ++ (am_m77_c3 ++ (am_m77_c4 ++ (am_m77_c5 ++ (am_m77_c6 ++ (am_m77_c7 ++ (am_m77_c8 ++ (am_m77_c9))))))))))
def am_m78_c0 : List am_I := [(0, 1, .aload_n 0, (0, 0, 0), 0), (1, 1, .iconst 0, (0, 0, 0), 0), (2, 3, .putfield 201, (12, 17, 1401), 0), (5, 1, .aload_n 0, (0, 0, 0), 0), (6, 1, .iconst 0, (0, 0, 0), 0), (7, 3, .putfield 204, (12, 18, 1402), 0), (10, 1, .aload_n 0, (0, 0, 0), 0), (11, 1, .iconst 0, (0, 0, 0), 0), (12, 3, .putfield 207, (12, 19, 1403), 0), (15, 1, .aload_n 0, (0, 0, 0), 0), (16, 1, .iconst 0, (0, 0, 0), 0), (17, 3, .putfield 210, (12, 20, 1404), 0), (20, 1, .aload_n 0, (0, 0, 0), 0), (21, 1, .iconst 0, (0, 0, 0), 0), (22, 3, .putfield 213, (12, 21, 1405), 0), (25, 1, .aload_n 0, (0, 0, 0), 0), (26, 1, .iconst 0, (0, 0, 0), 0), (27, 3, .putfield 216, (12, 44, 1428), 0), (30, 1, .iconst 0, (0, 0, 0), 0), (31, 1, .istore_n 1, (0, 0, 0), 0), (32, 1, .iload_n 1, (0, 0, 0), 0), (33, 1, .iconst 4, (0, 0, 0), 0), (34, 3, .if_icmp .ge 16, (30, 0, 0), 0), (37, 1, .aload_n 0, (0, 0, 0), 0), (38, 3, .getfield 20, (12, 22, 1406), 0), (41, 1, .iload_n 1, (0, 0, 0), 0), (42, 1, .iconst 0, (0, 0, 0), 0), (43, 1, .bastore, (0, 0, 0), 0), (44, 3, .iinc 1 1, (0, 0, 0), 0), (47, 3, .goto (-15), (20, 0, 0), 0), (50, 1, .aload_n 0, (0, 0, 0), 0), (51, 3, .getfield 24, (12, 23, 1407), 0), (54, 2, .bipush 6, (0, 0, 0), 0), (56, 3, .sipush 500, (0, 0, 0), 0), (59, 1, .iastore, (0, 0, 0), 0), (60, 2, .bipush 7, (0, 0, 0), 0), (62, 1, .istore_n 1, (0, 0, 0), 0), (63, 1, .iload_n 1, (0, 0, 0), 0), (64, 2, .bipush 12, (0, 0, 0), 0), (66, 3, .if_icmp .ge 16, (47, 0, 0), 0), (69, 1, .aload_n 0, (0, 0, 0), 0), (70, 3, .getfield 24, (12, 23, 1407), 0), (73, 1, .iload_n 1, (0, 0, 0), 0), (74, 1, .iconst 0, (0, 0, 0), 0), (75, 1, .iastore, (0, 0, 0), 0), (76, 3, .iinc 1 1, (0, 0, 0), 0), (79, 3, .goto (-16), (37, 0, 0), 0), (82, 1, .iconst 3, (0, 0, 0), 0), (83, 1, .istore_n 1, (0, 0, 0), 0), (84, 1, .iload_n 1, (0, 0, 0), 0), (85, 2, .bipush 6, (0, 0, 0), 0), (87, 3, .if_icmp .ge 16, (59, 0, 0), 0), (90, 1, .aload_n 0, (0, 0, 0), 0), (91, 3, .getfield 54, (12, 33, 1417), 0), (94, 1, .iload_n 1, (0, 0, 0), 0), (95, 1, .iconst 0, (0, 0, 0), 0), (96, 1, .bastore, (0, 0, 0), 0), (97, 3, .iinc 1 1, (0, 0, 0), 0), (100, 3, .goto (-16), (49, 0, 0), 0), (103, 1, .return_, (0, 0, 0), 0)]
-- AirBedModel.plain()V
def am_m78 : am_M := ((12, ⟨"AirBedModel", "plain", "()V"⟩, prog_14_method_17_code), (2, none, 0), (0, 0, 0, 0), am_m78_c0)
def am_m79_c0 : List am_I := [(0, 1, .aload_n 0, (0, 0, 0), 0), (1, 1, .aload_n 0, (0, 0, 0), 0), (2, 3, .getfield 201, (12, 17, 1401), 0), (5, 3, .putfield 219, (12, 12, 1396), 0), (8, 1, .aload_n 0, (0, 0, 0), 0), (9, 1, .aload_n 0, (0, 0, 0), 0), (10, 3, .getfield 204, (12, 18, 1402), 0), (13, 3, .putfield 222, (12, 13, 1397), 0), (16, 1, .aload_n 0, (0, 0, 0), 0), (17, 1, .aload_n 0, (0, 0, 0), 0), (18, 3, .getfield 207, (12, 19, 1403), 0), (21, 3, .putfield 225, (12, 14, 1398), 0), (24, 1, .aload_n 0, (0, 0, 0), 0), (25, 1, .aload_n 0, (0, 0, 0), 0), (26, 3, .getfield 210, (12, 20, 1404), 0), (29, 3, .putfield 228, (12, 15, 1399), 0), (32, 1, .aload_n 0, (0, 0, 0), 0), (33, 1, .aload_n 0, (0, 0, 0), 0), (34, 3, .getfield 213, (12, 21, 1405), 0), (37, 3, .putfield 231, (12, 16, 1400), 0), (40, 1, .aload_n 0, (0, 0, 0), 0), (41, 3, .getfield 24, (12, 23, 1407), 0), (44, 2, .bipush 6, (0, 0, 0), 0), (46, 3, .invokestatic 234, (80, 1365, 3), 0), (49, 1, .aload_n 0, (0, 0, 0), 0), (50, 3, .getfield 27, (12, 24, 1408), 0), (53, 1, .iconst 4, (0, 0, 0), 0), (54, 3, .invokestatic 234, (80, 1365, 3), 0), (57, 1, .aload_n 0, (0, 0, 0), 0), (58, 3, .getfield 30, (12, 25, 1409), 0), (61, 2, .bipush 28, (0, 0, 0), 0), (63, 3, .invokestatic 234, (80, 1365, 3), 0), (66, 1, .aload_n 0, (0, 0, 0), 0), (67, 3, .getfield 33, (12, 26, 1410), 0), (70, 2, .bipush 8, (0, 0, 0), 0), (72, 3, .invokestatic 234, (80, 1365, 3), 0), (75, 1, .aload_n 0, (0, 0, 0), 0), (76, 3, .getfield 36, (12, 27, 1411), 0), (79, 2, .bipush 8, (0, 0, 0), 0), (81, 3, .invokestatic 234, (80, 1365, 3), 0), (84, 1, .aload_n 0, (0, 0, 0), 0), (85, 3, .getfield 39, (12, 28, 1412), 0), (88, 2, .bipush 6, (0, 0, 0), 0), (90, 3, .invokestatic 234, (80, 1365, 3), 0), (93, 1, .aload_n 0, (0, 0, 0), 0), (94, 3, .getfield 42, (12, 29, 1413), 0), (97, 2, .bipush 6, (0, 0, 0), 0), (99, 3, .invokestatic 234, (80, 1365, 3), 0), (102, 1, .aload_n 0, (0, 0, 0), 0), (103, 3, .getfield 45, (12, 30, 1414), 0), (106, 1, .iconst 3, (0, 0, 0), 0), (107, 3, .invokestatic 234, (80, 1365, 3), 0), (110, 1, .aload_n 0, (0, 0, 0), 0), (111, 3, .getfield 48, (12, 31, 1415), 0), (114, 1, .iconst 3, (0, 0, 0), 0), (115, 3, .invokestatic 234, (80, 1365, 3), 0), (118, 1, .aload_n 0, (0, 0, 0), 0), (119, 3, .getfield 51, (12, 32, 1416), 0), (122, 1, .iconst 3, (0, 0, 0), 0), (123, 3, .invokestatic 234, (80, 1365, 3), 0)]
def am_m79_c1 : List am_I := [(126, 1, .iconst 0, (0, 0, 0), 0), (127, 1, .istore_n 1, (0, 0, 0), 0), (128, 1, .iload_n 1, (0, 0, 0), 0), (129, 1, .iconst 3, (0, 0, 0), 0), (130, 3, .if_icmp .ge 23, (77, 0, 0), 0), (133, 1, .aload_n 0, (0, 0, 0), 0), (134, 3, .getfield 54, (12, 33, 1417), 0), (137, 1, .iload_n 1, (0, 0, 0), 0), (138, 1, .aload_n 0, (0, 0, 0), 0), (139, 3, .getfield 54, (12, 33, 1417), 0), (142, 1, .iconst 3, (0, 0, 0), 0), (143, 1, .iload_n 1, (0, 0, 0), 0), (144, 1, .iadd, (0, 0, 0), 0), (145, 1, .baload, (0, 0, 0), 0), (146, 1, .bastore, (0, 0, 0), 0), (147, 3, .iinc 1 1, (0, 0, 0), 0), (150, 3, .goto (-22), (62, 0, 0), 0), (153, 1, .aload_n 0, (0, 0, 0), 0), (154, 3, .getfield 57, (12, 34, 1418), 0), (157, 1, .iconst 3, (0, 0, 0), 0), (158, 3, .invokestatic 234, (80, 1365, 3), 0), (161, 1, .aload_n 0, (0, 0, 0), 0), (162, 3, .getfield 60, (12, 35, 1419), 0), (165, 1, .iconst 3, (0, 0, 0), 0), (166, 3, .invokestatic 234, (80, 1365, 3), 0), (169, 1, .aload_n 0, (0, 0, 0), 0), (170, 3, .getfield 63, (12, 36, 1420), 0), (173, 2, .bipush 64, (0, 0, 0), 0), (175, 3, .invokestatic 234, (80, 1365, 3), 0), (178, 1, .aload_n 0, (0, 0, 0), 0), (179, 3, .getfield 66, (12, 37, 1421), 0), (182, 2, .bipush 64, (0, 0, 0), 0), (184, 3, .invokestatic 234, (80, 1365, 3), 0), (187, 1, .aload_n 0, (0, 0, 0), 0), (188, 3, .getfield 69, (12, 38, 1422), 0), (191, 2, .bipush 64, (0, 0, 0), 0), (193, 3, .invokestatic 234, (80, 1365, 3), 0), (196, 1, .aload_n 0, (0, 0, 0), 0), (197, 3, .invokevirtual 238, (81, 1368, 3), 0), (200, 1, .return_, (0, 0, 0), 0)]
-- AirBedModel.keepText()V
def am_m79 : am_M := ((12, ⟨"AirBedModel", "keepText", "()V"⟩, prog_14_method_19_code), (2, none, 0), (2, 44, 0, 0), am_m79_c0 ++ (am_m79_c1))
def am_m80_c0 : List am_I := [(0, 1, .iconst 0, (0, 0, 0), 0), (1, 1, .istore_n 2, (0, 0, 0), 0), (2, 1, .iload_n 2, (0, 0, 0), 0), (3, 1, .iload_n 1, (0, 0, 0), 0), (4, 3, .if_icmp .ge 17, (15, 0, 0), 0), (7, 1, .aload_n 0, (0, 0, 0), 0), (8, 1, .iload_n 2, (0, 0, 0), 0), (9, 1, .aload_n 0, (0, 0, 0), 0), (10, 1, .iload_n 1, (0, 0, 0), 0), (11, 1, .iload_n 2, (0, 0, 0), 0), (12, 1, .iadd, (0, 0, 0), 0), (13, 1, .iaload, (0, 0, 0), 0), (14, 1, .iastore, (0, 0, 0), 0), (15, 3, .iinc 2 1, (0, 0, 0), 0), (18, 3, .goto (-16), (2, 0, 0), 0), (21, 1, .return_, (0, 0, 0), 0)]
-- AirBedModel.copies([II)V
def am_m80 : am_M := ((12, ⟨"AirBedModel", "copies", "([II)V"⟩, prog_14_method_18_code), (3, none, 2), (0, 0, 0, 0), am_m80_c0)
def am_m81_c0 : List am_I := [(0, 1, .aload_n 0, (0, 0, 0), 0), (1, 1, .iconst 0, (0, 0, 0), 0), (2, 3, .invokevirtual 346, (82, 1372, 3), 0), (5, 1, .aload_n 0, (0, 0, 0), 0), (6, 1, .iconst 0, (0, 0, 0), 0), (7, 3, .putfield 349, (12, 57, 1441), 0), (10, 1, .aload_n 0, (0, 0, 0), 0), (11, 1, .iconst 0, (0, 0, 0), 0), (12, 3, .putfield 352, (12, 60, 1444), 0), (15, 1, .aload_n 0, (0, 0, 0), 0), (16, 1, .iconst 0, (0, 0, 0), 0), (17, 3, .putfield 355, (12, 61, 1445), 0), (20, 1, .aload_n 0, (0, 0, 0), 0), (21, 1, .iconst (-1), (0, 0, 0), 0), (22, 3, .putfield 106, (12, 62, 1446), 0), (25, 1, .aload_n 0, (0, 0, 0), 0), (26, 1, .aload_n 0, (0, 0, 0), 0), (27, 3, .getfield 24, (12, 23, 1407), 0), (30, 1, .iconst 5, (0, 0, 0), 0), (31, 1, .iaload, (0, 0, 0), 0), (32, 1, .i2l, (0, 0, 0), 0), (33, 3, .putfield 358, (12, 59, 1443), 0), (36, 1, .aload_n 0, (0, 0, 0), 0), (37, 1, .iconst (-1), (0, 0, 0), 0), (38, 3, .putfield 362, (12, 58, 1442), 0), (41, 1, .aload_n 0, (0, 0, 0), 0), (42, 3, .getfield 225, (12, 14, 1398), 0), (45, 3, .ifCond .le 79, (74, 0, 0), 0), (48, 1, .iconst 0, (0, 0, 0), 0), (49, 1, .istore_n 1, (0, 0, 0), 0), (50, 1, .iconst 0, (0, 0, 0), 0), (51, 1, .istore_n 2, (0, 0, 0), 0), (52, 1, .iload_n 2, (0, 0, 0), 0), (53, 1, .aload_n 0, (0, 0, 0), 0), (54, 3, .getfield 225, (12, 14, 1398), 0), (57, 3, .if_icmp .ge 18, (45, 0, 0), 0), (60, 1, .iload_n 1, (0, 0, 0), 0), (61, 1, .aload_n 0, (0, 0, 0), 0), (62, 3, .getfield 39, (12, 28, 1412), 0), (65, 1, .iload_n 2, (0, 0, 0), 0), (66, 1, .iaload, (0, 0, 0), 0), (67, 1, .iadd, (0, 0, 0), 0), (68, 1, .istore_n 1, (0, 0, 0), 0), (69, 3, .iinc 2 1, (0, 0, 0), 0), (72, 3, .goto (-20), (32, 0, 0), 0), (75, 1, .aload_n 0, (0, 0, 0), 0), (76, 1, .iload_n 1, (0, 0, 0), 0), (77, 3, .invokevirtual 365, (83, 1376, 3), 0), (80, 1, .istore_n 2, (0, 0, 0), 0), (81, 1, .aload_n 0, (0, 0, 0), 0), (82, 1, .iconst 0, (0, 0, 0), 0), (83, 3, .putfield 362, (12, 58, 1442), 0), (86, 1, .iload_n 2, (0, 0, 0), 0), (87, 1, .aload_n 0, (0, 0, 0), 0), (88, 3, .getfield 39, (12, 28, 1412), 0), (91, 1, .aload_n 0, (0, 0, 0), 0), (92, 3, .getfield 362, (12, 58, 1442), 0), (95, 1, .iaload, (0, 0, 0), 0), (96, 3, .if_icmp .lt 28, (74, 0, 0), 0), (99, 1, .iload_n 2, (0, 0, 0), 0)]
def am_m81_c1 : List am_I := [(100, 1, .aload_n 0, (0, 0, 0), 0), (101, 3, .getfield 39, (12, 28, 1412), 0), (104, 1, .aload_n 0, (0, 0, 0), 0), (105, 3, .getfield 362, (12, 58, 1442), 0), (108, 1, .iaload, (0, 0, 0), 0), (109, 1, .isub, (0, 0, 0), 0), (110, 1, .istore_n 2, (0, 0, 0), 0), (111, 1, .aload_n 0, (0, 0, 0), 0), (112, 1, .dup, (0, 0, 0), 0), (113, 3, .getfield 362, (12, 58, 1442), 0), (116, 1, .iconst 1, (0, 0, 0), 0), (117, 1, .iadd, (0, 0, 0), 0), (118, 3, .putfield 362, (12, 58, 1442), 0), (121, 3, .goto (-35), (52, 0, 0), 0), (124, 1, .aload_n 0, (0, 0, 0), 0), (125, 1, .iconst 0, (0, 0, 0), 0), (126, 3, .putfield 368, (12, 73, 1457), 0), (129, 1, .aload_n 0, (0, 0, 0), 0), (130, 1, .iconst (-1), (0, 0, 0), 0), (131, 3, .putfield 118, (12, 74, 1458), 0), (134, 1, .aload_n 0, (0, 0, 0), 0), (135, 1, .iconst 0, (0, 0, 0), 0), (136, 3, .putfield 371, (12, 77, 1461), 0), (139, 1, .aload_n 0, (0, 0, 0), 0), (140, 1, .iconst 0, (0, 0, 0), 0), (141, 3, .putfield 374, (12, 79, 1463), 0), (144, 1, .return_, (0, 0, 0), 0)]
-- AirBedModel.begin()V
def am_m81 : am_M := ((12, ⟨"AirBedModel", "begin", "()V"⟩, prog_14_method_49_code), (3, none, 0), (1, 22, 0, 0), am_m81_c0 ++ (am_m81_c1))
def am_m82_c0 : List am_I := [(0, 1, .aload_n 0, (0, 0, 0), 0), (1, 3, .getfield 85, (12, 50, 1434), 0), (4, 1, .iload_n 1, (0, 0, 0), 0), (5, 1, .aload_n 0, (0, 0, 0), 0), (6, 3, .getfield 24, (12, 23, 1407), 0), (9, 1, .iconst 1, (0, 0, 0), 0), (10, 1, .iaload, (0, 0, 0), 0), (11, 1, .iastore, (0, 0, 0), 0), (12, 1, .aload_n 0, (0, 0, 0), 0), (13, 3, .getfield 88, (12, 51, 1435), 0), (16, 1, .iload_n 1, (0, 0, 0), 0), (17, 1, .iconst 0, (0, 0, 0), 0), (18, 1, .iastore, (0, 0, 0), 0), (19, 1, .aload_n 0, (0, 0, 0), 0), (20, 3, .getfield 91, (12, 52, 1436), 0), (23, 1, .iload_n 1, (0, 0, 0), 0), (24, 1, .iconst (-1), (0, 0, 0), 0), (25, 1, .iastore, (0, 0, 0), 0), (26, 1, .aload_n 0, (0, 0, 0), 0), (27, 3, .getfield 103, (12, 56, 1440), 0), (30, 1, .iload_n 1, (0, 0, 0), 0), (31, 1, .aload_n 0, (0, 0, 0), 0), (32, 3, .getfield 24, (12, 23, 1407), 0), (35, 1, .iconst 3, (0, 0, 0), 0), (36, 1, .iaload, (0, 0, 0), 0), (37, 1, .iastore, (0, 0, 0), 0), (38, 1, .iconst 0, (0, 0, 0), 0), (39, 1, .istore_n 2, (0, 0, 0), 0), (40, 1, .iload_n 2, (0, 0, 0), 0), (41, 1, .iconst 4, (0, 0, 0), 0), (42, 3, .if_icmp .ge 42, (60, 0, 0), 0), (45, 1, .aload_n 0, (0, 0, 0), 0), (46, 3, .getfield 94, (12, 53, 1437), 0), (49, 1, .iconst 4, (0, 0, 0), 0), (50, 1, .iload_n 1, (0, 0, 0), 0), (51, 1, .imul, (0, 0, 0), 0), (52, 1, .iload_n 2, (0, 0, 0), 0), (53, 1, .iadd, (0, 0, 0), 0), (54, 1, .iconst 0, (0, 0, 0), 0), (55, 1, .iastore, (0, 0, 0), 0), (56, 1, .aload_n 0, (0, 0, 0), 0), (57, 3, .getfield 97, (12, 54, 1438), 0), (60, 1, .iconst 4, (0, 0, 0), 0), (61, 1, .iload_n 1, (0, 0, 0), 0), (62, 1, .imul, (0, 0, 0), 0), (63, 1, .iload_n 2, (0, 0, 0), 0), (64, 1, .iadd, (0, 0, 0), 0), (65, 1, .iconst 0, (0, 0, 0), 0), (66, 1, .iastore, (0, 0, 0), 0), (67, 1, .aload_n 0, (0, 0, 0), 0), (68, 3, .getfield 100, (12, 55, 1439), 0), (71, 1, .iconst 4, (0, 0, 0), 0), (72, 1, .iload_n 1, (0, 0, 0), 0), (73, 1, .imul, (0, 0, 0), 0), (74, 1, .iload_n 2, (0, 0, 0), 0), (75, 1, .iadd, (0, 0, 0), 0), (76, 1, .iconst 0, (0, 0, 0), 0), (77, 1, .iastore, (0, 0, 0), 0), (78, 3, .iinc 2 1, (0, 0, 0), 0), (81, 3, .goto (-41), (28, 0, 0), 0)]
def am_m82_c1 : List am_I := [(84, 1, .return_, (0, 0, 0), 0)]
-- AirBedModel.atFirst(I)V
def am_m82 : am_M := ((12, ⟨"AirBedModel", "atFirst", "(I)V"⟩, prog_14_method_48_code), (3, none, 1), (0, 0, 0, 0), am_m82_c0 ++ (am_m82_c1))
def am_m83_c0 : List am_I := [(0, 1, .aload_n 0, (0, 0, 0), 0), (1, 1, .aload_n 0, (0, 0, 0), 0), (2, 3, .getfield 358, (12, 59, 1443), 0), (5, 3, .ldc2_w 377, (0, 0, 1380), 1103515245), (8, 1, .lmul, (0, 0, 0), 0), (9, 3, .ldc2_w 379, (0, 0, 1381), 12345), (12, 1, .ladd, (0, 0, 0), 0), (13, 3, .ldc2_w 381, (0, 0, 1382), 2147483647), (16, 1, .land, (0, 0, 0), 0), (17, 3, .putfield 358, (12, 59, 1443), 0), (20, 1, .aload_n 0, (0, 0, 0), 0), (21, 3, .getfield 358, (12, 59, 1443), 0), (24, 3, .ldc2_w 383, (0, 0, 1383), 65536), (27, 1, .ldiv, (0, 0, 0), 0), (28, 1, .iload_n 1, (0, 0, 0), 0), (29, 1, .i2l, (0, 0, 0), 0), (30, 1, .lrem, (0, 0, 0), 0), (31, 1, .l2i, (0, 0, 0), 0), (32, 1, .ireturn, (0, 0, 0), 0)]
-- AirBedModel.number1(I)I
def am_m83 : am_M := ((12, ⟨"AirBedModel", "number1", "(I)I"⟩, prog_14_method_51_code), (2, some .int, 1), (0, 0, 0, 0), am_m83_c0)
def am_m84_c0 : List am_I := [(0, 1, .aload_n 0, (0, 0, 0), 0), (1, 1, .iconst 0, (0, 0, 0), 0), (2, 3, .putfield 139, (12, 2, 1386), 0), (5, 1, .aload_n 0, (0, 0, 0), 0), (6, 3, .getfield 142, (12, 1, 1385), 0), (9, 2, .bipush 20, (0, 0, 0), 0), (11, 1, .iadd, (0, 0, 0), 0), (12, 3, .sipush 700, (0, 0, 0), 0), (15, 3, .if_icmp .le 5, (11, 0, 0), 0), (18, 1, .iconst (-1), (0, 0, 0), 0), (19, 1, .ireturn, (0, 0, 0), 0), (20, 1, .iconst 0, (0, 0, 0), 0), (21, 2, .istore 6, (0, 0, 0), 0), (23, 2, .iload 6, (0, 0, 0), 0), (25, 2, .bipush 20, (0, 0, 0), 0), (27, 3, .if_icmp .ge 86, (58, 0, 0), 0), (30, 2, .iload 6, (0, 0, 0), 0), (32, 1, .iconst 4, (0, 0, 0), 0), (33, 3, .if_icmp .ge 7, (21, 0, 0), 0), (36, 1, .iload_n 1, (0, 0, 0), 0), (37, 3, .goto 39, (37, 0, 0), 0), (40, 2, .iload 6, (0, 0, 0), 0), (42, 2, .bipush 8, (0, 0, 0), 0), (44, 3, .if_icmp .ge 7, (26, 0, 0), 0), (47, 1, .iload_n 2, (0, 0, 0), 0), (48, 3, .goto 28, (37, 0, 0), 0), (51, 2, .iload 6, (0, 0, 0), 0), (53, 2, .bipush 12, (0, 0, 0), 0), (55, 3, .if_icmp .ge 7, (31, 0, 0), 0), (58, 1, .iload_n 3, (0, 0, 0), 0), (59, 3, .goto 17, (37, 0, 0), 0), (62, 2, .iload 6, (0, 0, 0), 0), (64, 2, .bipush 16, (0, 0, 0), 0), (66, 3, .if_icmp .ge 8, (36, 0, 0), 0), (69, 2, .iload 4, (0, 0, 0), 0), (71, 3, .goto 5, (37, 0, 0), 0), (74, 2, .iload 5, (0, 0, 0), 0), (76, 2, .istore 7, (0, 0, 0), 0), (78, 1, .aload_n 0, (0, 0, 0), 0), (79, 3, .getfield 7, (12, 0, 1384), 0), (82, 1, .aload_n 0, (0, 0, 0), 0), (83, 3, .getfield 142, (12, 1, 1385), 0), (86, 2, .iload 6, (0, 0, 0), 0), (88, 1, .iadd, (0, 0, 0), 0), (89, 2, .iload 7, (0, 0, 0), 0), (91, 2, .bipush 24, (0, 0, 0), 0), (93, 2, .bipush 8, (0, 0, 0), 0), (95, 2, .iload 6, (0, 0, 0), 0), (97, 1, .iconst 4, (0, 0, 0), 0), (98, 1, .irem, (0, 0, 0), 0), (99, 1, .imul, (0, 0, 0), 0), (100, 1, .isub, (0, 0, 0), 0), (101, 1, .ishr, (0, 0, 0), 0), (102, 3, .sipush 255, (0, 0, 0), 0), (105, 1, .iand, (0, 0, 0), 0), (106, 1, .iastore, (0, 0, 0), 0), (107, 3, .iinc 6 1, (0, 0, 0), 0), (110, 3, .goto (-87), (13, 0, 0), 0), (113, 1, .aload_n 0, (0, 0, 0), 0), (114, 1, .dup, (0, 0, 0), 0)]
def am_m84_c1 : List am_I := [(115, 3, .getfield 142, (12, 1, 1385), 0), (118, 2, .bipush 20, (0, 0, 0), 0), (120, 1, .iadd, (0, 0, 0), 0), (121, 3, .putfield 142, (12, 1, 1385), 0), (124, 1, .aload_n 0, (0, 0, 0), 0), (125, 3, .getfield 142, (12, 1, 1385), 0), (128, 1, .ireturn, (0, 0, 0), 0)]
-- AirBedModel.feed(IIIII)I
def am_m84 : am_M := ((12, ⟨"AirBedModel", "feed", "(IIIII)I"⟩, prog_14_method_3_code), (8, some .int, 5), (0, 0, 0, 0), am_m84_c0 ++ (am_m84_c1))
def am_m85_c0 : List am_I := [(0, 1, .aload_n 0, (0, 0, 0), 0), (1, 1, .iconst 0, (0, 0, 0), 0), (2, 3, .putfield 139, (12, 2, 1386), 0), (5, 1, .iload_n 1, (0, 0, 0), 0), (6, 3, .ifCond .lt 11, (9, 0, 0), 0), (9, 1, .iload_n 1, (0, 0, 0), 0), (10, 1, .aload_n 0, (0, 0, 0), 0), (11, 3, .getfield 142, (12, 1, 1385), 0), (14, 3, .if_icmp .le 6, (11, 0, 0), 0), (17, 2, .bipush (-2), (0, 0, 0), 0), (19, 1, .ireturn, (0, 0, 0), 0), (20, 1, .aload_n 0, (0, 0, 0), 0), (21, 1, .iload_n 1, (0, 0, 0), 0), (22, 3, .putfield 151, (12, 6, 1390), 0), (25, 1, .aload_n 0, (0, 0, 0), 0), (26, 1, .iconst 0, (0, 0, 0), 0), (27, 3, .putfield 142, (12, 1, 1385), 0), (30, 1, .aload_n 0, (0, 0, 0), 0), (31, 1, .iconst 0, (0, 0, 0), 0), (32, 3, .putfield 145, (12, 4, 1388), 0), (35, 1, .aload_n 0, (0, 0, 0), 0), (36, 1, .iconst (-1), (0, 0, 0), 0), (37, 3, .putfield 16, (12, 5, 1389), 0), (40, 1, .aload_n 0, (0, 0, 0), 0), (41, 1, .iconst 0, (0, 0, 0), 0), (42, 3, .putfield 154, (12, 7, 1391), 0), (45, 1, .aload_n 0, (0, 0, 0), 0), (46, 3, .invokevirtual 133, (78, 1357, 3), 0), (49, 1, .aload_n 0, (0, 0, 0), 0), (50, 3, .invokevirtual 191, (86, 1640, 3), 0), (53, 1, .iconst 0, (0, 0, 0), 0), (54, 1, .istore_n 2, (0, 0, 0), 0), (55, 1, .aload_n 0, (0, 0, 0), 0), (56, 3, .getfield 157, (12, 8, 1392), 0), (59, 3, .ifCond .eq 18, (42, 0, 0), 0), (62, 1, .aload_n 0, (0, 0, 0), 0), (63, 3, .invokevirtual 274, (999, 1665, 3), 0), (66, 3, .ifCond .ne 5, (40, 0, 0), 0), (69, 1, .iconst (-1), (0, 0, 0), 0), (70, 1, .ireturn, (0, 0, 0), 0), (71, 3, .iinc 2 1, (0, 0, 0), 0), (74, 3, .goto (-19), (32, 0, 0), 0), (77, 1, .aload_n 0, (0, 0, 0), 0), (78, 3, .invokevirtual 136, (79, 1361, 3), 0), (81, 1, .iload_n 2, (0, 0, 0), 0), (82, 1, .ireturn, (0, 0, 0), 0)]
-- AirBedModel.text(I)I
def am_m85 : am_M := ((12, ⟨"AirBedModel", "text", "(I)I"⟩, prog_14_method_30_code), (3, some .int, 1), (3, 65, 0, 0), am_m85_c0)
def am_m86_c0 : List am_I := [(0, 1, .aload_n 0, (0, 0, 0), 0), (1, 3, .getfield 154, (12, 7, 1391), 0), (4, 1, .aload_n 0, (0, 0, 0), 0), (5, 3, .getfield 151, (12, 6, 1390), 0), (8, 3, .if_icmp .ge 44, (26, 0, 0), 0), (11, 1, .aload_n 0, (0, 0, 0), 0), (12, 3, .getfield 7, (12, 0, 1384), 0), (15, 1, .aload_n 0, (0, 0, 0), 0), (16, 3, .getfield 154, (12, 7, 1391), 0), (19, 1, .iaload, (0, 0, 0), 0), (20, 2, .bipush 10, (0, 0, 0), 0), (22, 3, .if_icmp .eq 17, (19, 0, 0), 0), (25, 1, .aload_n 0, (0, 0, 0), 0), (26, 3, .getfield 7, (12, 0, 1384), 0), (29, 1, .aload_n 0, (0, 0, 0), 0), (30, 3, .getfield 154, (12, 7, 1391), 0), (33, 1, .iaload, (0, 0, 0), 0), (34, 2, .bipush 32, (0, 0, 0), 0), (36, 3, .if_icmp .ne 16, (26, 0, 0), 0), (39, 1, .aload_n 0, (0, 0, 0), 0), (40, 1, .dup, (0, 0, 0), 0), (41, 3, .getfield 154, (12, 7, 1391), 0), (44, 1, .iconst 1, (0, 0, 0), 0), (45, 1, .iadd, (0, 0, 0), 0), (46, 3, .putfield 154, (12, 7, 1391), 0), (49, 3, .goto (-49), (0, 0, 0), 0), (52, 1, .aload_n 0, (0, 0, 0), 0), (53, 1, .aload_n 0, (0, 0, 0), 0), (54, 3, .getfield 154, (12, 7, 1391), 0), (57, 3, .putfield 148, (12, 10, 1394), 0), (60, 1, .aload_n 0, (0, 0, 0), 0), (61, 3, .getfield 154, (12, 7, 1391), 0), (64, 1, .aload_n 0, (0, 0, 0), 0), (65, 3, .getfield 151, (12, 6, 1390), 0), (68, 3, .if_icmp .ne 11, (39, 0, 0), 0), (71, 1, .aload_n 0, (0, 0, 0), 0), (72, 1, .iconst 0, (0, 0, 0), 0), (73, 3, .putfield 157, (12, 8, 1392), 0), (76, 3, .goto 205, (140, 0, 0), 0), (79, 1, .aload_n 0, (0, 0, 0), 0), (80, 1, .aload_n 0, (0, 0, 0), 0), (81, 3, .getfield 154, (12, 7, 1391), 0), (84, 3, .invokevirtual 160, (999, 1644, 3), 0), (87, 3, .ifCond .eq 105, (94, 0, 0), 0), (90, 1, .aload_n 0, (0, 0, 0), 0), (91, 1, .aload_n 0, (0, 0, 0), 0), (92, 3, .getfield 154, (12, 7, 1391), 0), (95, 3, .invokevirtual 160, (999, 1644, 3), 0), (98, 3, .ifCond .eq 16, (56, 0, 0), 0), (101, 1, .aload_n 0, (0, 0, 0), 0), (102, 1, .dup, (0, 0, 0), 0), (103, 3, .getfield 154, (12, 7, 1391), 0), (106, 1, .iconst 1, (0, 0, 0), 0), (107, 1, .iadd, (0, 0, 0), 0), (108, 3, .putfield 154, (12, 7, 1391), 0), (111, 3, .goto (-21), (44, 0, 0), 0), (114, 1, .aload_n 0, (0, 0, 0), 0), (115, 1, .aload_n 0, (0, 0, 0), 0), (116, 1, .aload_n 0, (0, 0, 0), 0), (117, 3, .getfield 148, (12, 10, 1394), 0)]
def am_m86_c1 : List am_I := [(120, 1, .aload_n 0, (0, 0, 0), 0), (121, 3, .getfield 154, (12, 7, 1391), 0), (124, 3, .invokevirtual 164, (999, 1648, 3), 0), (127, 3, .putfield 168, (12, 9, 1393), 0), (130, 1, .aload_n 0, (0, 0, 0), 0), (131, 1, .aload_n 0, (0, 0, 0), 0), (132, 3, .getfield 168, (12, 9, 1393), 0), (135, 3, .ifCond .lt 7, (70, 0, 0), 0), (138, 1, .iconst 1, (0, 0, 0), 0), (139, 3, .goto 23, (80, 0, 0), 0), (142, 1, .aload_n 0, (0, 0, 0), 0), (143, 3, .getfield 154, (12, 7, 1391), 0), (146, 1, .aload_n 0, (0, 0, 0), 0), (147, 3, .getfield 148, (12, 10, 1394), 0), (150, 1, .isub, (0, 0, 0), 0), (151, 2, .bipush 6, (0, 0, 0), 0), (153, 3, .if_icmp .le 8, (79, 0, 0), 0), (156, 2, .bipush 6, (0, 0, 0), 0), (158, 3, .goto 4, (80, 0, 0), 0), (161, 1, .iconst 2, (0, 0, 0), 0), (162, 3, .putfield 157, (12, 8, 1392), 0), (165, 1, .aload_n 0, (0, 0, 0), 0), (166, 3, .getfield 157, (12, 8, 1392), 0), (169, 1, .iconst 2, (0, 0, 0), 0), (170, 3, .if_icmp .ne 111, (140, 0, 0), 0), (173, 1, .aload_n 0, (0, 0, 0), 0), (174, 1, .aload_n 0, (0, 0, 0), 0), (175, 1, .aload_n 0, (0, 0, 0), 0), (176, 3, .getfield 148, (12, 10, 1394), 0), (179, 1, .aload_n 0, (0, 0, 0), 0), (180, 3, .getfield 154, (12, 7, 1391), 0), (183, 3, .invokevirtual 171, (999, 1652, 3), 0), (186, 3, .putfield 168, (12, 9, 1393), 0), (189, 3, .goto 92, (140, 0, 0), 0), (192, 1, .aload_n 0, (0, 0, 0), 0), (193, 1, .aload_n 0, (0, 0, 0), 0), (194, 3, .getfield 154, (12, 7, 1391), 0), (197, 3, .invokevirtual 174, (999, 1656, 3), 0), (200, 3, .ifCond .eq 77, (138, 0, 0), 0), (203, 1, .aload_n 0, (0, 0, 0), 0), (204, 1, .iconst 3, (0, 0, 0), 0), (205, 3, .putfield 157, (12, 8, 1392), 0), (208, 1, .aload_n 0, (0, 0, 0), 0), (209, 1, .iconst 0, (0, 0, 0), 0), (210, 3, .putfield 168, (12, 9, 1393), 0), (213, 1, .aload_n 0, (0, 0, 0), 0), (214, 1, .aload_n 0, (0, 0, 0), 0), (215, 3, .getfield 154, (12, 7, 1391), 0), (218, 3, .invokevirtual 174, (999, 1656, 3), 0), (221, 3, .ifCond .eq 60, (140, 0, 0), 0), (224, 1, .aload_n 0, (0, 0, 0), 0), (225, 1, .aload_n 0, (0, 0, 0), 0), (226, 3, .getfield 168, (12, 9, 1393), 0), (229, 2, .ldc 177, (0, 0, 1660), 99999), (231, 3, .if_icmp .le 10, (118, 0, 0), 0), (234, 1, .aload_n 0, (0, 0, 0), 0), (235, 3, .getfield 168, (12, 9, 1393), 0), (238, 3, .goto 23, (130, 0, 0), 0), (241, 2, .bipush 10, (0, 0, 0), 0), (243, 1, .aload_n 0, (0, 0, 0), 0)]
def am_m86_c2 : List am_I := [(244, 3, .getfield 168, (12, 9, 1393), 0), (247, 1, .imul, (0, 0, 0), 0), (248, 1, .aload_n 0, (0, 0, 0), 0), (249, 3, .getfield 7, (12, 0, 1384), 0), (252, 1, .aload_n 0, (0, 0, 0), 0), (253, 3, .getfield 154, (12, 7, 1391), 0), (256, 1, .iaload, (0, 0, 0), 0), (257, 1, .iadd, (0, 0, 0), 0), (258, 2, .bipush 48, (0, 0, 0), 0), (260, 1, .isub, (0, 0, 0), 0), (261, 3, .putfield 168, (12, 9, 1393), 0), (264, 1, .aload_n 0, (0, 0, 0), 0), (265, 1, .dup, (0, 0, 0), 0), (266, 3, .getfield 154, (12, 7, 1391), 0), (269, 1, .iconst 1, (0, 0, 0), 0), (270, 1, .iadd, (0, 0, 0), 0), (271, 3, .putfield 154, (12, 7, 1391), 0), (274, 3, .goto (-61), (105, 0, 0), 0), (277, 1, .aload_n 0, (0, 0, 0), 0), (278, 3, .invokevirtual 178, (999, 1661, 3), 0), (281, 1, .return_, (0, 0, 0), 0)]
-- AirBedModel.token()V
def am_m86 : am_M := ((12, ⟨"AirBedModel", "token", "()V"⟩, prog_14_method_10_code), (1, none, 0), (0, 0, 0, 0), am_m86_c0 ++ (am_m86_c1 ++ (am_m86_c2)))
def am_m87_c0 : List am_I := [(0, 1, .iload_n 0, (0, 0, 0), 0), (1, 1, .iload_n 1, (0, 0, 0), 0), (2, 3, .if_icmp .lt 12, (8, 0, 0), 0), (5, 1, .iload_n 0, (0, 0, 0), 0), (6, 1, .iload_n 2, (0, 0, 0), 0), (7, 3, .if_icmp .gt 7, (8, 0, 0), 0), (10, 1, .iconst 1, (0, 0, 0), 0), (11, 3, .goto 4, (9, 0, 0), 0), (14, 1, .iconst 0, (0, 0, 0), 0), (15, 1, .ireturn, (0, 0, 0), 0)]
-- AirBedModel.isIn(III)Z
def am_m87 : am_M := ((12, ⟨"AirBedModel", "isIn", "(III)Z"⟩, prog_14_method_4_code), (3, some .boolean, 3), (0, 0, 0, 0), am_m87_c0)
def am_m88_c0 : List am_I := [(0, 1, .iconst 0, (0, 0, 0), 0), (1, 2, .istore 4, (0, 0, 0), 0), (3, 2, .iload 4, (0, 0, 0), 0), (5, 1, .iload_n 2, (0, 0, 0), 0), (6, 3, .if_icmp .ge 22, (16, 0, 0), 0), (9, 1, .aload_n 0, (0, 0, 0), 0), (10, 1, .iload_n 1, (0, 0, 0), 0), (11, 2, .iload 4, (0, 0, 0), 0), (13, 1, .iadd, (0, 0, 0), 0), (14, 1, .iaload, (0, 0, 0), 0), (15, 1, .iload_n 3, (0, 0, 0), 0), (16, 3, .if_icmp .ne 6, (14, 0, 0), 0), (19, 2, .iload 4, (0, 0, 0), 0), (21, 1, .ireturn, (0, 0, 0), 0), (22, 3, .iinc 4 1, (0, 0, 0), 0), (25, 3, .goto (-22), (2, 0, 0), 0), (28, 1, .iconst (-1), (0, 0, 0), 0), (29, 1, .ireturn, (0, 0, 0), 0)]
-- AirBedModel.find([IIII)I
def am_m88 : am_M := ((12, ⟨"AirBedModel", "find", "([IIII)I"⟩, prog_14_method_20_code), (5, some .int, 4), (0, 0, 0, 0), am_m88_c0)
def am_m89_c0 : List am_I := [(0, 1, .aload_n 0, (0, 0, 0), 0), (1, 1, .iconst 0, (0, 0, 0), 0), (2, 3, .putfield 139, (12, 2, 1386), 0), (5, 1, .iload_n 1, (0, 0, 0), 0), (6, 3, .ifCond .ne 10, (8, 0, 0), 0), (9, 1, .aload_n 0, (0, 0, 0), 0), (10, 3, .getfield 145, (12, 4, 1388), 0), (13, 3, .goto 16, (15, 0, 0), 0), (16, 1, .iload_n 1, (0, 0, 0), 0), (17, 1, .iconst 1, (0, 0, 0), 0), (18, 3, .if_icmp .ne 10, (14, 0, 0), 0), (21, 1, .aload_n 0, (0, 0, 0), 0), (22, 3, .getfield 16, (12, 5, 1389), 0), (25, 3, .goto 4, (15, 0, 0), 0), (28, 1, .iconst (-1), (0, 0, 0), 0), (29, 1, .ireturn, (0, 0, 0), 0)]
-- AirBedModel.fault(I)I
def am_m89 : am_M := ((12, ⟨"AirBedModel", "fault", "(I)I"⟩, prog_14_method_31_code), (2, some .int, 1), (0, 0, 0, 0), am_m89_c0)
def am_m90_c0 : List am_I := [(0, 1, .aload_n 0, (0, 0, 0), 0), (1, 1, .iconst 0, (0, 0, 0), 0), (2, 3, .putfield 139, (12, 2, 1386), 0), (5, 1, .iload_n 1, (0, 0, 0), 0), (6, 3, .ifCond .ne 19, (13, 0, 0), 0), (9, 1, .aload_n 0, (0, 0, 0), 0), (10, 3, .getfield 27, (12, 24, 1408), 0), (13, 1, .iconst 0, (0, 0, 0), 0), (14, 1, .aload_n 0, (0, 0, 0), 0), (15, 3, .getfield 219, (12, 12, 1396), 0), (18, 1, .iload_n 2, (0, 0, 0), 0), (19, 3, .invokestatic 241, (88, 1696, 3), 0), (22, 3, .goto 25, (25, 0, 0), 0), (25, 1, .iload_n 1, (0, 0, 0), 0), (26, 1, .iconst 1, (0, 0, 0), 0), (27, 3, .if_icmp .ne 19, (24, 0, 0), 0), (30, 1, .aload_n 0, (0, 0, 0), 0), (31, 3, .getfield 45, (12, 30, 1414), 0), (34, 1, .iconst 0, (0, 0, 0), 0), (35, 1, .aload_n 0, (0, 0, 0), 0), (36, 3, .getfield 228, (12, 15, 1399), 0), (39, 1, .iload_n 2, (0, 0, 0), 0), (40, 3, .invokestatic 241, (88, 1696, 3), 0), (43, 3, .goto 4, (25, 0, 0), 0), (46, 1, .iconst (-1), (0, 0, 0), 0), (47, 1, .ireturn, (0, 0, 0), 0)]
-- AirBedModel.named(II)I
def am_m90 : am_M := ((12, ⟨"AirBedModel", "named", "(II)I"⟩, prog_14_method_32_code), (3, some .int, 2), (1, 24, 0, 0), am_m90_c0)
def am_m91_c0 : List am_I := [(0, 1, .iload_n 1, (0, 0, 0), 0), (1, 3, .ifCond .lt 15, (8, 0, 0), 0), (4, 1, .iload_n 1, (0, 0, 0), 0), (5, 1, .aload_n 0, (0, 0, 0), 0), (6, 3, .getfield 219, (12, 12, 1396), 0), (9, 3, .if_icmp .ge 7, (8, 0, 0), 0), (12, 1, .iconst 1, (0, 0, 0), 0), (13, 3, .goto 4, (9, 0, 0), 0), (16, 1, .iconst 0, (0, 0, 0), 0), (17, 1, .ireturn, (0, 0, 0), 0)]
-- AirBedModel.isBlower(I)Z
def am_m91 : am_M := ((12, ⟨"AirBedModel", "isBlower", "(I)Z"⟩, prog_14_method_47_code), (2, some .boolean, 1), (0, 0, 0, 0), am_m91_c0)
def am_m92_c0 : List am_I := [(0, 1, .aload_n 0, (0, 0, 0), 0), (1, 1, .iconst 0, (0, 0, 0), 0), (2, 3, .putfield 139, (12, 2, 1386), 0), (5, 1, .iload_n 1, (0, 0, 0), 0), (6, 1, .iconst 0, (0, 0, 0), 0), (7, 1, .iconst 2, (0, 0, 0), 0), (8, 3, .invokestatic 184, (87, 1685, 3), 0), (11, 3, .ifCond .eq 32, (23, 0, 0), 0), (14, 1, .iload_n 1, (0, 0, 0), 0), (15, 3, .ifCond .ne 12, (15, 0, 0), 0), (18, 1, .iload_n 2, (0, 0, 0), 0), (19, 1, .iconst 0, (0, 0, 0), 0), (20, 1, .iconst 1, (0, 0, 0), 0), (21, 3, .invokestatic 184, (87, 1685, 3), 0), (24, 3, .ifCond .eq 19, (23, 0, 0), 0), (27, 1, .iload_n 1, (0, 0, 0), 0), (28, 1, .iconst 1, (0, 0, 0), 0), (29, 3, .if_icmp .ne 18, (25, 0, 0), 0), (32, 1, .iload_n 2, (0, 0, 0), 0), (33, 1, .iconst 0, (0, 0, 0), 0), (34, 3, .sipush 999, (0, 0, 0), 0), (37, 3, .invokestatic 184, (87, 1685, 3), 0), (40, 3, .ifCond .ne 7, (25, 0, 0), 0), (43, 3, .ldc2_w 426, (0, 0, 1786), (-9223372036854775808)), (46, 1, .lreturn, (0, 0, 0), 0), (47, 1, .iload_n 1, (0, 0, 0), 0), (48, 1, .istore_n 3, (0, 0, 0), 0), (49, 1, .aload_n 0, (0, 0, 0), 0), (50, 3, .getfield 54, (12, 33, 1417), 0), (53, 1, .iload_n 3, (0, 0, 0), 0), (54, 1, .baload, (0, 0, 0), 0), (55, 3, .ifCond .ne 7, (34, 0, 0), 0), (58, 3, .ldc2_w 426, (0, 0, 1786), (-9223372036854775808)), (61, 1, .lreturn, (0, 0, 0), 0), (62, 1, .iload_n 1, (0, 0, 0), 0), (63, 3, .ifCond .ne 7, (38, 0, 0), 0), (66, 1, .iload_n 2, (0, 0, 0), 0), (67, 3, .goto 4, (39, 0, 0), 0), (70, 1, .iconst 0, (0, 0, 0), 0), (71, 2, .istore 4, (0, 0, 0), 0), (73, 1, .iload_n 1, (0, 0, 0), 0), (74, 1, .iconst 2, (0, 0, 0), 0), (75, 3, .if_icmp .ne 7, (45, 0, 0), 0), (78, 1, .iconst 0, (0, 0, 0), 0), (79, 3, .goto 10, (49, 0, 0), 0), (82, 1, .aload_n 0, (0, 0, 0), 0), (83, 1, .iconst 0, (0, 0, 0), 0), (84, 2, .iload 4, (0, 0, 0), 0), (86, 3, .invokevirtual 403, (93, 1787, 3), 0), (89, 2, .istore 5, (0, 0, 0), 0), (91, 1, .aload_n 0, (0, 0, 0), 0), (92, 1, .iconst 0, (0, 0, 0), 0), (93, 2, .iload 4, (0, 0, 0), 0), (95, 2, .iload 5, (0, 0, 0), 0), (97, 1, .iload_n 1, (0, 0, 0), 0), (98, 1, .iconst 1, (0, 0, 0), 0), (99, 3, .if_icmp .ne 7, (59, 0, 0), 0), (102, 1, .iload_n 2, (0, 0, 0), 0), (103, 3, .goto 4, (60, 0, 0), 0), (106, 1, .iconst 0, (0, 0, 0), 0)]
def am_m92_c1 : List am_I := [(107, 3, .invokevirtual 392, (94, 1791, 3), 0), (110, 1, .aload_n 0, (0, 0, 0), 0), (111, 1, .iload_n 3, (0, 0, 0), 0), (112, 3, .invokevirtual 389, (999, 1799, 3), 0), (115, 2, .lstore 6, (0, 0, 0), 0), (117, 1, .aload_n 0, (0, 0, 0), 0), (118, 3, .getfield 327, (12, 49, 1433), 0), (121, 3, .ifCond .eq 9, (70, 0, 0), 0), (124, 3, .ldc2_w 426, (0, 0, 1786), (-9223372036854775808)), (127, 3, .goto 5, (71, 0, 0), 0), (130, 2, .lload 6, (0, 0, 0), 0), (132, 1, .lreturn, (0, 0, 0), 0)]
-- AirBedModel.law(II)J
def am_m92 : am_M := ((12, ⟨"AirBedModel", "law", "(II)J"⟩, prog_14_method_66_code), (8, some .long, 2), (2, 47, 0, 0), am_m92_c0 ++ (am_m92_c1))
def am_m93_c0 : List am_I := [(0, 1, .aload_n 0, (0, 0, 0), 0), (1, 3, .getfield 355, (12, 61, 1445), 0), (4, 3, .ifCond .eq 5, (5, 0, 0), 0), (7, 1, .iconst 0, (0, 0, 0), 0), (8, 1, .ireturn, (0, 0, 0), 0), (9, 1, .aload_n 0, (0, 0, 0), 0), (10, 1, .iload_n 1, (0, 0, 0), 0), (11, 1, .iload_n 2, (0, 0, 0), 0), (12, 1, .iconst 0, (0, 0, 0), 0), (13, 1, .iconst 0, (0, 0, 0), 0), (14, 3, .invokevirtual 392, (94, 1791, 3), 0), (17, 1, .aload_n 0, (0, 0, 0), 0), (18, 1, .iconst 2, (0, 0, 0), 0), (19, 1, .iconst 0, (0, 0, 0), 0), (20, 2, .bipush 99, (0, 0, 0), 0), (22, 3, .invokevirtual 396, (95, 1795, 3), 0), (25, 1, .ireturn, (0, 0, 0), 0)]
-- AirBedModel.loadOf(II)I
def am_m93 : am_M := ((12, ⟨"AirBedModel", "loadOf", "(II)I"⟩, prog_14_method_55_code), (3, some .int, 2), (1, 25, 0, 0), am_m93_c0)
def am_m94_c0 : List am_I := [(0, 1, .aload_n 0, (0, 0, 0), 0), (1, 3, .getfield 78, (12, 47, 1431), 0), (4, 1, .iconst 0, (0, 0, 0), 0), (5, 1, .aload_n 0, (0, 0, 0), 0), (6, 3, .getfield 85, (12, 50, 1434), 0), (9, 1, .iload_n 1, (0, 0, 0), 0), (10, 1, .iaload, (0, 0, 0), 0), (11, 1, .i2l, (0, 0, 0), 0), (12, 1, .lastore, (0, 0, 0), 0), (13, 1, .aload_n 0, (0, 0, 0), 0), (14, 3, .getfield 78, (12, 47, 1431), 0), (17, 1, .iconst 1, (0, 0, 0), 0), (18, 1, .aload_n 0, (0, 0, 0), 0), (19, 3, .getfield 24, (12, 23, 1407), 0), (22, 1, .iconst 0, (0, 0, 0), 0), (23, 1, .iaload, (0, 0, 0), 0), (24, 1, .aload_n 0, (0, 0, 0), 0), (25, 3, .getfield 85, (12, 50, 1434), 0), (28, 1, .iload_n 1, (0, 0, 0), 0), (29, 1, .iaload, (0, 0, 0), 0), (30, 1, .isub, (0, 0, 0), 0), (31, 1, .i2l, (0, 0, 0), 0), (32, 1, .lastore, (0, 0, 0), 0), (33, 1, .aload_n 0, (0, 0, 0), 0), (34, 3, .getfield 78, (12, 47, 1431), 0), (37, 1, .iconst 2, (0, 0, 0), 0), (38, 1, .iload_n 2, (0, 0, 0), 0), (39, 1, .i2l, (0, 0, 0), 0), (40, 1, .lastore, (0, 0, 0), 0), (41, 1, .aload_n 0, (0, 0, 0), 0), (42, 3, .getfield 78, (12, 47, 1431), 0), (45, 1, .iconst 3, (0, 0, 0), 0), (46, 1, .iload_n 3, (0, 0, 0), 0), (47, 1, .i2l, (0, 0, 0), 0), (48, 1, .lastore, (0, 0, 0), 0), (49, 1, .aload_n 0, (0, 0, 0), 0), (50, 3, .getfield 78, (12, 47, 1431), 0), (53, 1, .iconst 4, (0, 0, 0), 0), (54, 1, .aload_n 0, (0, 0, 0), 0), (55, 3, .getfield 88, (12, 51, 1435), 0), (58, 1, .iload_n 1, (0, 0, 0), 0), (59, 1, .iaload, (0, 0, 0), 0), (60, 1, .i2l, (0, 0, 0), 0), (61, 1, .lastore, (0, 0, 0), 0), (62, 1, .aload_n 0, (0, 0, 0), 0), (63, 3, .getfield 78, (12, 47, 1431), 0), (66, 1, .iconst 5, (0, 0, 0), 0), (67, 2, .iload 4, (0, 0, 0), 0), (69, 1, .i2l, (0, 0, 0), 0), (70, 1, .lastore, (0, 0, 0), 0), (71, 1, .return_, (0, 0, 0), 0)]
-- AirBedModel.layNames(IIII)V
def am_m94 : am_M := ((12, ⟨"AirBedModel", "layNames", "(IIII)V"⟩, prog_14_method_52_code), (5, none, 4), (0, 0, 0, 0), am_m94_c0)
def am_m95_c0 : List am_I := [(0, 1, .aload_n 0, (0, 0, 0), 0), (1, 3, .getfield 54, (12, 33, 1417), 0), (4, 1, .iload_n 1, (0, 0, 0), 0), (5, 1, .baload, (0, 0, 0), 0), (6, 3, .ifCond .ne 5, (7, 0, 0), 0), (9, 1, .iload_n 2, (0, 0, 0), 0), (10, 1, .ireturn, (0, 0, 0), 0), (11, 1, .aload_n 0, (0, 0, 0), 0), (12, 1, .iload_n 1, (0, 0, 0), 0), (13, 3, .invokevirtual 389, (999, 1799, 3), 0), (16, 2, .lstore 4, (0, 0, 0), 0), (18, 1, .aload_n 0, (0, 0, 0), 0), (19, 3, .getfield 327, (12, 49, 1433), 0), (22, 3, .ifCond .eq 5, (16, 0, 0), 0), (25, 1, .iload_n 2, (0, 0, 0), 0), (26, 1, .ireturn, (0, 0, 0), 0), (27, 2, .lload 4, (0, 0, 0), 0), (29, 1, .lconst 0, (0, 0, 0), 0), (30, 1, .lcmp, (0, 0, 0), 0), (31, 3, .ifCond .ge 7, (22, 0, 0), 0), (34, 1, .iconst 0, (0, 0, 0), 0), (35, 3, .goto 18, (31, 0, 0), 0), (38, 2, .lload 4, (0, 0, 0), 0), (40, 1, .iload_n 3, (0, 0, 0), 0), (41, 1, .i2l, (0, 0, 0), 0), (42, 1, .lcmp, (0, 0, 0), 0), (43, 3, .ifCond .le 7, (29, 0, 0), 0), (46, 1, .iload_n 3, (0, 0, 0), 0), (47, 3, .goto 6, (31, 0, 0), 0), (50, 2, .lload 4, (0, 0, 0), 0), (52, 1, .l2i, (0, 0, 0), 0), (53, 1, .ireturn, (0, 0, 0), 0)]
-- AirBedModel.boundLaw(III)I
def am_m95 : am_M := ((12, ⟨"AirBedModel", "boundLaw", "(III)I"⟩, prog_14_method_54_code), (6, some .int, 3), (0, 0, 0, 0), am_m95_c0)
def am_m96_c0 : List am_I := [(0, 1, .aload_n 0, (0, 0, 0), 0), (1, 1, .iconst 0, (0, 0, 0), 0), (2, 3, .putfield 139, (12, 2, 1386), 0), (5, 1, .aload_n 0, (0, 0, 0), 0), (6, 1, .iload_n 1, (0, 0, 0), 0), (7, 3, .invokevirtual 420, (91, 1774, 3), 0), (10, 3, .ifCond .eq 13, (12, 0, 0), 0), (13, 1, .iload_n 2, (0, 0, 0), 0), (14, 1, .iconst 1, (0, 0, 0), 0), (15, 2, .bipush 20, (0, 0, 0), 0), (17, 3, .invokestatic 184, (87, 1685, 3), 0), (20, 3, .ifCond .ne 5, (14, 0, 0), 0), (23, 1, .iconst (-1), (0, 0, 0), 0), (24, 1, .ireturn, (0, 0, 0), 0), (25, 1, .aload_n 0, (0, 0, 0), 0), (26, 1, .iconst 1, (0, 0, 0), 0), (27, 1, .iconst 0, (0, 0, 0), 0), (28, 3, .invokevirtual 428, (97, 1824, 3), 0), (31, 1, .iconst 0, (0, 0, 0), 0), (32, 1, .istore_n 3, (0, 0, 0), 0), (33, 1, .iload_n 3, (0, 0, 0), 0), (34, 1, .aload_n 0, (0, 0, 0), 0), (35, 3, .getfield 30, (12, 25, 1409), 0), (38, 2, .bipush 7, (0, 0, 0), 0), (40, 1, .iload_n 1, (0, 0, 0), 0), (41, 1, .imul, (0, 0, 0), 0), (42, 1, .iconst 5, (0, 0, 0), 0), (43, 1, .iadd, (0, 0, 0), 0), (44, 1, .iaload, (0, 0, 0), 0), (45, 3, .if_icmp .ge 25, (42, 0, 0), 0), (48, 1, .aload_n 0, (0, 0, 0), 0), (49, 1, .iconst 1, (0, 0, 0), 0), (50, 1, .iload_n 1, (0, 0, 0), 0), (51, 3, .invokevirtual 431, (999, 1828, 3), 0), (54, 3, .ifCond .eq 16, (42, 0, 0), 0), (57, 1, .aload_n 0, (0, 0, 0), 0), (58, 1, .iconst 1, (0, 0, 0), 0), (59, 1, .iconst 1, (0, 0, 0), 0), (60, 1, .iconst 0, (0, 0, 0), 0), (61, 3, .invokevirtual 434, (98, 1832, 3), 0), (64, 3, .iinc 3 1, (0, 0, 0), 0), (67, 3, .goto (-34), (20, 0, 0), 0), (70, 1, .iconst 0, (0, 0, 0), 0), (71, 1, .istore_n 3, (0, 0, 0), 0), (72, 1, .iload_n 3, (0, 0, 0), 0), (73, 1, .iload_n 2, (0, 0, 0), 0), (74, 3, .if_icmp .ge 59, (79, 0, 0), 0), (77, 1, .aload_n 0, (0, 0, 0), 0), (78, 1, .iconst 1, (0, 0, 0), 0), (79, 1, .iload_n 1, (0, 0, 0), 0), (80, 3, .invokevirtual 438, (999, 1847, 3), 0), (83, 3, .ifCond .eq 6, (54, 0, 0), 0), (86, 2, .bipush (-2), (0, 0, 0), 0), (88, 1, .ireturn, (0, 0, 0), 0), (89, 1, .iconst 0, (0, 0, 0), 0), (90, 2, .istore 4, (0, 0, 0), 0), (92, 2, .iload 4, (0, 0, 0), 0), (94, 1, .aload_n 0, (0, 0, 0), 0), (95, 3, .getfield 30, (12, 25, 1409), 0), (98, 2, .bipush 7, (0, 0, 0), 0)]
def am_m96_c1 : List am_I := [(100, 1, .iload_n 1, (0, 0, 0), 0), (101, 1, .imul, (0, 0, 0), 0), (102, 1, .iconst 3, (0, 0, 0), 0), (103, 1, .iadd, (0, 0, 0), 0), (104, 1, .iaload, (0, 0, 0), 0), (105, 3, .if_icmp .ge 16, (73, 0, 0), 0), (108, 1, .aload_n 0, (0, 0, 0), 0), (109, 1, .iconst 1, (0, 0, 0), 0), (110, 1, .iconst 0, (0, 0, 0), 0), (111, 1, .iconst 0, (0, 0, 0), 0), (112, 3, .invokevirtual 434, (98, 1832, 3), 0), (115, 3, .iinc 4 1, (0, 0, 0), 0), (118, 3, .goto (-26), (56, 0, 0), 0), (121, 1, .aload_n 0, (0, 0, 0), 0), (122, 1, .iconst 1, (0, 0, 0), 0), (123, 1, .iload_n 1, (0, 0, 0), 0), (124, 3, .invokevirtual 441, (999, 1855, 3), 0), (127, 3, .iinc 3 1, (0, 0, 0), 0), (130, 3, .goto (-58), (44, 0, 0), 0), (133, 1, .aload_n 0, (0, 0, 0), 0), (134, 3, .getfield 88, (12, 51, 1435), 0), (137, 1, .iconst 1, (0, 0, 0), 0), (138, 1, .iaload, (0, 0, 0), 0), (139, 2, .ldc 177, (0, 0, 1660), 99999), (141, 3, .if_icmp .le 5, (87, 0, 0), 0), (144, 1, .iconst (-1), (0, 0, 0), 0), (145, 1, .ireturn, (0, 0, 0), 0), (146, 1, .aload_n 0, (0, 0, 0), 0), (147, 3, .invokevirtual 444, (101, 1863, 3), 0), (150, 1, .aload_n 0, (0, 0, 0), 0), (151, 1, .iconst 0, (0, 0, 0), 0), (152, 1, .iconst 1, (0, 0, 0), 0), (153, 3, .invokevirtual 428, (97, 1824, 3), 0), (156, 1, .aload_n 0, (0, 0, 0), 0), (157, 3, .getfield 85, (12, 50, 1434), 0), (160, 1, .iconst 0, (0, 0, 0), 0), (161, 1, .iaload, (0, 0, 0), 0), (162, 1, .ireturn, (0, 0, 0), 0)]
-- AirBedModel.blow(II)I
def am_m96 : am_M := ((12, ⟨"AirBedModel", "blow", "(II)I"⟩, prog_14_method_67_code), (5, some .int, 2), (4, 96, 0, 0), am_m96_c0 ++ (am_m96_c1))
def am_m97_c0 : List am_I := [(0, 1, .aload_n 0, (0, 0, 0), 0), (1, 3, .getfield 85, (12, 50, 1434), 0), (4, 1, .iload_n 1, (0, 0, 0), 0), (5, 1, .aload_n 0, (0, 0, 0), 0), (6, 3, .getfield 85, (12, 50, 1434), 0), (9, 1, .iload_n 2, (0, 0, 0), 0), (10, 1, .iaload, (0, 0, 0), 0), (11, 1, .iastore, (0, 0, 0), 0), (12, 1, .aload_n 0, (0, 0, 0), 0), (13, 3, .getfield 88, (12, 51, 1435), 0), (16, 1, .iload_n 1, (0, 0, 0), 0), (17, 1, .aload_n 0, (0, 0, 0), 0), (18, 3, .getfield 88, (12, 51, 1435), 0), (21, 1, .iload_n 2, (0, 0, 0), 0), (22, 1, .iaload, (0, 0, 0), 0), (23, 1, .iastore, (0, 0, 0), 0), (24, 1, .aload_n 0, (0, 0, 0), 0), (25, 3, .getfield 91, (12, 52, 1436), 0), (28, 1, .iload_n 1, (0, 0, 0), 0), (29, 1, .aload_n 0, (0, 0, 0), 0), (30, 3, .getfield 91, (12, 52, 1436), 0), (33, 1, .iload_n 2, (0, 0, 0), 0), (34, 1, .iaload, (0, 0, 0), 0), (35, 1, .iastore, (0, 0, 0), 0), (36, 1, .aload_n 0, (0, 0, 0), 0), (37, 3, .getfield 103, (12, 56, 1440), 0), (40, 1, .iload_n 1, (0, 0, 0), 0), (41, 1, .aload_n 0, (0, 0, 0), 0), (42, 3, .getfield 103, (12, 56, 1440), 0), (45, 1, .iload_n 2, (0, 0, 0), 0), (46, 1, .iaload, (0, 0, 0), 0), (47, 1, .iastore, (0, 0, 0), 0), (48, 1, .iconst 0, (0, 0, 0), 0), (49, 1, .istore_n 3, (0, 0, 0), 0), (50, 1, .iload_n 3, (0, 0, 0), 0), (51, 1, .iconst 4, (0, 0, 0), 0), (52, 3, .if_icmp .ge 69, (87, 0, 0), 0), (55, 1, .aload_n 0, (0, 0, 0), 0), (56, 3, .getfield 94, (12, 53, 1437), 0), (59, 1, .iconst 4, (0, 0, 0), 0), (60, 1, .iload_n 1, (0, 0, 0), 0), (61, 1, .imul, (0, 0, 0), 0), (62, 1, .iload_n 3, (0, 0, 0), 0), (63, 1, .iadd, (0, 0, 0), 0), (64, 1, .aload_n 0, (0, 0, 0), 0), (65, 3, .getfield 94, (12, 53, 1437), 0), (68, 1, .iconst 4, (0, 0, 0), 0), (69, 1, .iload_n 2, (0, 0, 0), 0), (70, 1, .imul, (0, 0, 0), 0), (71, 1, .iload_n 3, (0, 0, 0), 0), (72, 1, .iadd, (0, 0, 0), 0), (73, 1, .iaload, (0, 0, 0), 0), (74, 1, .iastore, (0, 0, 0), 0), (75, 1, .aload_n 0, (0, 0, 0), 0), (76, 3, .getfield 97, (12, 54, 1438), 0), (79, 1, .iconst 4, (0, 0, 0), 0), (80, 1, .iload_n 1, (0, 0, 0), 0), (81, 1, .imul, (0, 0, 0), 0), (82, 1, .iload_n 3, (0, 0, 0), 0), (83, 1, .iadd, (0, 0, 0), 0)]
def am_m97_c1 : List am_I := [(84, 1, .aload_n 0, (0, 0, 0), 0), (85, 3, .getfield 97, (12, 54, 1438), 0), (88, 1, .iconst 4, (0, 0, 0), 0), (89, 1, .iload_n 2, (0, 0, 0), 0), (90, 1, .imul, (0, 0, 0), 0), (91, 1, .iload_n 3, (0, 0, 0), 0), (92, 1, .iadd, (0, 0, 0), 0), (93, 1, .iaload, (0, 0, 0), 0), (94, 1, .iastore, (0, 0, 0), 0), (95, 1, .aload_n 0, (0, 0, 0), 0), (96, 3, .getfield 100, (12, 55, 1439), 0), (99, 1, .iconst 4, (0, 0, 0), 0), (100, 1, .iload_n 1, (0, 0, 0), 0), (101, 1, .imul, (0, 0, 0), 0), (102, 1, .iload_n 3, (0, 0, 0), 0), (103, 1, .iadd, (0, 0, 0), 0), (104, 1, .aload_n 0, (0, 0, 0), 0), (105, 3, .getfield 100, (12, 55, 1439), 0), (108, 1, .iconst 4, (0, 0, 0), 0), (109, 1, .iload_n 2, (0, 0, 0), 0), (110, 1, .imul, (0, 0, 0), 0), (111, 1, .iload_n 3, (0, 0, 0), 0), (112, 1, .iadd, (0, 0, 0), 0), (113, 1, .iaload, (0, 0, 0), 0), (114, 1, .iastore, (0, 0, 0), 0), (115, 3, .iinc 3 1, (0, 0, 0), 0), (118, 3, .goto (-68), (34, 0, 0), 0), (121, 1, .return_, (0, 0, 0), 0)]
-- AirBedModel.copyBed(II)V
def am_m97 : am_M := ((12, ⟨"AirBedModel", "copyBed", "(II)V"⟩, prog_14_method_50_code), (4, none, 2), (0, 0, 0, 0), am_m97_c0 ++ (am_m97_c1))
def am_m98_c0 : List am_I := [(0, 1, .aload_n 0, (0, 0, 0), 0), (1, 3, .getfield 85, (12, 50, 1434), 0), (4, 1, .iload_n 1, (0, 0, 0), 0), (5, 1, .aload_n 0, (0, 0, 0), 0), (6, 1, .iload_n 1, (0, 0, 0), 0), (7, 1, .iload_n 2, (0, 0, 0), 0), (8, 1, .iload_n 3, (0, 0, 0), 0), (9, 3, .invokevirtual 409, (99, 1836, 3), 0), (12, 1, .iastore, (0, 0, 0), 0), (13, 1, .aload_n 0, (0, 0, 0), 0), (14, 3, .getfield 88, (12, 51, 1435), 0), (17, 1, .iload_n 1, (0, 0, 0), 0), (18, 1, .dup2, (0, 0, 0), 0), (19, 1, .iaload, (0, 0, 0), 0), (20, 1, .iconst 1, (0, 0, 0), 0), (21, 1, .iadd, (0, 0, 0), 0), (22, 1, .iastore, (0, 0, 0), 0), (23, 1, .return_, (0, 0, 0), 0)]
-- AirBedModel.aSecond(IZZ)V
def am_m98 : am_M := ((12, ⟨"AirBedModel", "aSecond", "(IZZ)V"⟩, prog_14_method_58_code), (4, none, 3), (3, 73, 0, 0), am_m98_c0)
def am_m99_c0 : List am_I := [(0, 1, .iload_n 2, (0, 0, 0), 0), (1, 3, .ifCond .eq 7, (4, 0, 0), 0), (4, 1, .iconst 1, (0, 0, 0), 0), (5, 3, .goto 4, (5, 0, 0), 0), (8, 1, .iconst 0, (0, 0, 0), 0), (9, 2, .istore 4, (0, 0, 0), 0), (11, 1, .aload_n 0, (0, 0, 0), 0), (12, 1, .iload_n 1, (0, 0, 0), 0), (13, 2, .iload 4, (0, 0, 0), 0), (15, 3, .invokevirtual 403, (93, 1787, 3), 0), (18, 2, .istore 5, (0, 0, 0), 0), (20, 1, .aload_n 0, (0, 0, 0), 0), (21, 1, .iload_n 1, (0, 0, 0), 0), (22, 2, .iload 4, (0, 0, 0), 0), (24, 2, .iload 5, (0, 0, 0), 0), (26, 1, .iconst 0, (0, 0, 0), 0), (27, 3, .invokevirtual 392, (94, 1791, 3), 0), (30, 1, .aload_n 0, (0, 0, 0), 0), (31, 3, .getfield 85, (12, 50, 1434), 0), (34, 1, .iload_n 1, (0, 0, 0), 0), (35, 1, .iaload, (0, 0, 0), 0), (36, 1, .aload_n 0, (0, 0, 0), 0), (37, 1, .iconst 0, (0, 0, 0), 0), (38, 1, .aload_n 0, (0, 0, 0), 0), (39, 3, .getfield 85, (12, 50, 1434), 0), (42, 1, .iload_n 1, (0, 0, 0), 0), (43, 1, .iaload, (0, 0, 0), 0), (44, 2, .bipush 100, (0, 0, 0), 0), (46, 1, .idiv, (0, 0, 0), 0), (47, 2, .bipush 20, (0, 0, 0), 0), (49, 2, .iload 4, (0, 0, 0), 0), (51, 1, .imul, (0, 0, 0), 0), (52, 1, .iadd, (0, 0, 0), 0), (53, 3, .sipush 999, (0, 0, 0), 0), (56, 3, .invokevirtual 396, (95, 1795, 3), 0), (59, 1, .isub, (0, 0, 0), 0), (60, 1, .aload_n 0, (0, 0, 0), 0), (61, 3, .invokevirtual 406, (100, 1840, 3), 0), (64, 1, .isub, (0, 0, 0), 0), (65, 2, .istore 6, (0, 0, 0), 0), (67, 2, .iload 6, (0, 0, 0), 0), (69, 3, .ifCond .ge 7, (44, 0, 0), 0), (72, 1, .iconst 0, (0, 0, 0), 0), (73, 3, .goto 5, (45, 0, 0), 0), (76, 2, .iload 6, (0, 0, 0), 0), (78, 2, .istore 6, (0, 0, 0), 0), (80, 1, .iload_n 3, (0, 0, 0), 0), (81, 3, .ifCond .ne 6, (50, 0, 0), 0), (84, 2, .iload 6, (0, 0, 0), 0), (86, 1, .ireturn, (0, 0, 0), 0), (87, 2, .iload 6, (0, 0, 0), 0), (89, 1, .aload_n 0, (0, 0, 0), 0), (90, 3, .getfield 24, (12, 23, 1407), 0), (93, 1, .iconst 2, (0, 0, 0), 0), (94, 1, .iaload, (0, 0, 0), 0), (95, 1, .iadd, (0, 0, 0), 0), (96, 1, .aload_n 0, (0, 0, 0), 0), (97, 3, .getfield 24, (12, 23, 1407), 0), (100, 1, .iconst 0, (0, 0, 0), 0), (101, 1, .iaload, (0, 0, 0), 0)]
def am_m99_c1 : List am_I := [(102, 3, .if_icmp .le 12, (66, 0, 0), 0), (105, 1, .aload_n 0, (0, 0, 0), 0), (106, 3, .getfield 24, (12, 23, 1407), 0), (109, 1, .iconst 0, (0, 0, 0), 0), (110, 1, .iaload, (0, 0, 0), 0), (111, 3, .goto 12, (72, 0, 0), 0), (114, 2, .iload 6, (0, 0, 0), 0), (116, 1, .aload_n 0, (0, 0, 0), 0), (117, 3, .getfield 24, (12, 23, 1407), 0), (120, 1, .iconst 2, (0, 0, 0), 0), (121, 1, .iaload, (0, 0, 0), 0), (122, 1, .iadd, (0, 0, 0), 0), (123, 1, .ireturn, (0, 0, 0), 0)]
-- AirBedModel.fullNext(IZZ)I
def am_m99 : am_M := ((12, ⟨"AirBedModel", "fullNext", "(IZZ)I"⟩, prog_14_method_57_code), (7, some .int, 3), (2, 47, 0, 0), am_m99_c0 ++ (am_m99_c1))
def am_m100_c0 : List am_I := [(0, 1, .aload_n 0, (0, 0, 0), 0), (1, 3, .getfield 106, (12, 62, 1446), 0), (4, 3, .ifCond .lt 10, (6, 0, 0), 0), (7, 1, .aload_n 0, (0, 0, 0), 0), (8, 3, .getfield 106, (12, 62, 1446), 0), (11, 3, .goto 7, (8, 0, 0), 0), (14, 1, .aload_n 0, (0, 0, 0), 0), (15, 3, .getfield 362, (12, 58, 1442), 0), (18, 1, .istore_n 1, (0, 0, 0), 0), (19, 1, .aload_n 0, (0, 0, 0), 0), (20, 3, .getfield 352, (12, 60, 1444), 0), (23, 3, .ifCond .ne 26, (23, 0, 0), 0), (26, 1, .iload_n 1, (0, 0, 0), 0), (27, 3, .ifCond .lt 22, (23, 0, 0), 0), (30, 1, .iload_n 1, (0, 0, 0), 0), (31, 1, .aload_n 0, (0, 0, 0), 0), (32, 3, .getfield 225, (12, 14, 1398), 0), (35, 3, .if_icmp .ge 14, (23, 0, 0), 0), (38, 1, .aload_n 0, (0, 0, 0), 0), (39, 3, .getfield 349, (12, 57, 1441), 0), (42, 1, .iload_n 1, (0, 0, 0), 0), (43, 3, .invokestatic 400, (999, 1844, 3), 0), (46, 3, .ifCond .eq 7, (25, 0, 0), 0), (49, 1, .iconst 0, (0, 0, 0), 0), (50, 3, .goto 9, (29, 0, 0), 0), (53, 1, .aload_n 0, (0, 0, 0), 0), (54, 3, .getfield 42, (12, 29, 1413), 0), (57, 1, .iload_n 1, (0, 0, 0), 0), (58, 1, .iaload, (0, 0, 0), 0), (59, 1, .ireturn, (0, 0, 0), 0)]
-- AirBedModel.leakOf()I
def am_m100 : am_M := ((12, ⟨"AirBedModel", "leakOf", "()I"⟩, prog_14_method_56_code), (2, some .int, 0), (0, 0, 0, 0), am_m100_c0)
def am_m101_c0 : List am_I := [(0, 1, .aload_n 0, (0, 0, 0), 0), (1, 3, .getfield 371, (12, 77, 1461), 0), (4, 2, .bipush 20, (0, 0, 0), 0), (6, 3, .if_icmp .ne 43, (27, 0, 0), 0), (9, 1, .iconst 0, (0, 0, 0), 0), (10, 1, .istore_n 1, (0, 0, 0), 0), (11, 1, .iload_n 1, (0, 0, 0), 0), (12, 3, .sipush 323, (0, 0, 0), 0), (15, 3, .if_icmp .ge 24, (21, 0, 0), 0), (18, 1, .aload_n 0, (0, 0, 0), 0), (19, 3, .getfield 127, (12, 78, 1462), 0), (22, 1, .iload_n 1, (0, 0, 0), 0), (23, 1, .aload_n 0, (0, 0, 0), 0), (24, 3, .getfield 127, (12, 78, 1462), 0), (27, 1, .iload_n 1, (0, 0, 0), 0), (28, 2, .bipush 17, (0, 0, 0), 0), (30, 1, .iadd, (0, 0, 0), 0), (31, 1, .iaload, (0, 0, 0), 0), (32, 1, .iastore, (0, 0, 0), 0), (33, 3, .iinc 1 1, (0, 0, 0), 0), (36, 3, .goto (-25), (6, 0, 0), 0), (39, 1, .aload_n 0, (0, 0, 0), 0), (40, 1, .dup, (0, 0, 0), 0), (41, 3, .getfield 371, (12, 77, 1461), 0), (44, 1, .iconst 1, (0, 0, 0), 0), (45, 1, .isub, (0, 0, 0), 0), (46, 3, .putfield 371, (12, 77, 1461), 0), (49, 1, .aload_n 0, (0, 0, 0), 0), (50, 1, .aload_n 0, (0, 0, 0), 0), (51, 3, .getfield 127, (12, 78, 1462), 0), (54, 2, .bipush 17, (0, 0, 0), 0), (56, 1, .aload_n 0, (0, 0, 0), 0), (57, 3, .getfield 371, (12, 77, 1461), 0), (60, 1, .imul, (0, 0, 0), 0), (61, 3, .invokevirtual 530, (102, 1867, 3), 0), (64, 1, .aload_n 0, (0, 0, 0), 0), (65, 1, .dup, (0, 0, 0), 0), (66, 3, .getfield 371, (12, 77, 1461), 0), (69, 1, .iconst 1, (0, 0, 0), 0), (70, 1, .iadd, (0, 0, 0), 0), (71, 3, .putfield 371, (12, 77, 1461), 0), (74, 1, .return_, (0, 0, 0), 0)]
-- AirBedModel.remember()V
def am_m101 : am_M := ((12, ⟨"AirBedModel", "remember", "()V"⟩, prog_14_method_110_code), (2, none, 0), (1, 23, 0, 0), am_m101_c0)
def am_m102_c0 : List am_I := [(0, 1, .aload_n 1, (0, 0, 0), 0), (1, 1, .iload_n 2, (0, 0, 0), 0), (2, 1, .aload_n 0, (0, 0, 0), 0), (3, 3, .getfield 85, (12, 50, 1434), 0), (6, 1, .iconst 0, (0, 0, 0), 0), (7, 1, .iaload, (0, 0, 0), 0), (8, 1, .iastore, (0, 0, 0), 0), (9, 1, .aload_n 1, (0, 0, 0), 0), (10, 1, .iload_n 2, (0, 0, 0), 0), (11, 1, .iconst 1, (0, 0, 0), 0), (12, 1, .iadd, (0, 0, 0), 0), (13, 1, .aload_n 0, (0, 0, 0), 0), (14, 3, .getfield 88, (12, 51, 1435), 0), (17, 1, .iconst 0, (0, 0, 0), 0), (18, 1, .iaload, (0, 0, 0), 0), (19, 1, .iastore, (0, 0, 0), 0), (20, 1, .aload_n 1, (0, 0, 0), 0), (21, 1, .iload_n 2, (0, 0, 0), 0), (22, 1, .iconst 2, (0, 0, 0), 0), (23, 1, .iadd, (0, 0, 0), 0), (24, 1, .aload_n 0, (0, 0, 0), 0), (25, 3, .getfield 91, (12, 52, 1436), 0), (28, 1, .iconst 0, (0, 0, 0), 0), (29, 1, .iaload, (0, 0, 0), 0), (30, 1, .iastore, (0, 0, 0), 0), (31, 1, .aload_n 1, (0, 0, 0), 0), (32, 1, .iload_n 2, (0, 0, 0), 0), (33, 1, .iconst 3, (0, 0, 0), 0), (34, 1, .iadd, (0, 0, 0), 0), (35, 1, .aload_n 0, (0, 0, 0), 0), (36, 3, .getfield 103, (12, 56, 1440), 0), (39, 1, .iconst 0, (0, 0, 0), 0), (40, 1, .iaload, (0, 0, 0), 0), (41, 1, .iastore, (0, 0, 0), 0), (42, 1, .aload_n 1, (0, 0, 0), 0), (43, 1, .iload_n 2, (0, 0, 0), 0), (44, 1, .iconst 4, (0, 0, 0), 0), (45, 1, .iadd, (0, 0, 0), 0), (46, 1, .aload_n 0, (0, 0, 0), 0), (47, 3, .getfield 349, (12, 57, 1441), 0), (50, 1, .iastore, (0, 0, 0), 0), (51, 1, .iconst 0, (0, 0, 0), 0), (52, 1, .istore_n 3, (0, 0, 0), 0), (53, 1, .iload_n 3, (0, 0, 0), 0), (54, 1, .iconst 4, (0, 0, 0), 0), (55, 3, .if_icmp .ge 50, (81, 0, 0), 0), (58, 1, .aload_n 1, (0, 0, 0), 0), (59, 1, .iload_n 2, (0, 0, 0), 0), (60, 1, .iconst 5, (0, 0, 0), 0), (61, 1, .iadd, (0, 0, 0), 0), (62, 1, .iload_n 3, (0, 0, 0), 0), (63, 1, .iadd, (0, 0, 0), 0), (64, 1, .aload_n 0, (0, 0, 0), 0), (65, 3, .getfield 94, (12, 53, 1437), 0), (68, 1, .iload_n 3, (0, 0, 0), 0), (69, 1, .iaload, (0, 0, 0), 0), (70, 1, .iastore, (0, 0, 0), 0), (71, 1, .aload_n 1, (0, 0, 0), 0), (72, 1, .iload_n 2, (0, 0, 0), 0), (73, 2, .bipush 9, (0, 0, 0), 0)]
def am_m102_c1 : List am_I := [(75, 1, .iadd, (0, 0, 0), 0), (76, 1, .iload_n 3, (0, 0, 0), 0), (77, 1, .iadd, (0, 0, 0), 0), (78, 1, .aload_n 0, (0, 0, 0), 0), (79, 3, .getfield 97, (12, 54, 1438), 0), (82, 1, .iload_n 3, (0, 0, 0), 0), (83, 1, .iaload, (0, 0, 0), 0), (84, 1, .iastore, (0, 0, 0), 0), (85, 1, .aload_n 1, (0, 0, 0), 0), (86, 1, .iload_n 2, (0, 0, 0), 0), (87, 2, .bipush 13, (0, 0, 0), 0), (89, 1, .iadd, (0, 0, 0), 0), (90, 1, .iload_n 3, (0, 0, 0), 0), (91, 1, .iadd, (0, 0, 0), 0), (92, 1, .aload_n 0, (0, 0, 0), 0), (93, 3, .getfield 100, (12, 55, 1439), 0), (96, 1, .iload_n 3, (0, 0, 0), 0), (97, 1, .iaload, (0, 0, 0), 0), (98, 1, .iastore, (0, 0, 0), 0), (99, 3, .iinc 3 1, (0, 0, 0), 0), (102, 3, .goto (-49), (43, 0, 0), 0), (105, 1, .return_, (0, 0, 0), 0)]
-- AirBedModel.put([II)V
def am_m102 : am_M := ((12, ⟨"AirBedModel", "put", "([II)V"⟩, prog_14_method_108_code), (4, none, 2), (0, 0, 0, 0), am_m102_c0 ++ (am_m102_c1))
def am_m103_c0 : List am_I := [(0, 1, .aload_n 0, (0, 0, 0), 0), (1, 1, .iconst 0, (0, 0, 0), 0), (2, 3, .putfield 139, (12, 2, 1386), 0), (5, 1, .iload_n 1, (0, 0, 0), 0), (6, 1, .iconst 1, (0, 0, 0), 0), (7, 3, .sipush 999, (0, 0, 0), 0), (10, 3, .invokestatic 184, (87, 1685, 3), 0), (13, 3, .ifCond .eq 16, (16, 0, 0), 0), (16, 1, .aload_n 0, (0, 0, 0), 0), (17, 3, .getfield 88, (12, 51, 1435), 0), (20, 1, .iconst 0, (0, 0, 0), 0), (21, 1, .iaload, (0, 0, 0), 0), (22, 1, .iload_n 1, (0, 0, 0), 0), (23, 1, .iadd, (0, 0, 0), 0), (24, 2, .ldc 177, (0, 0, 1660), 99999), (26, 3, .if_icmp .le 5, (18, 0, 0), 0), (29, 1, .iconst (-1), (0, 0, 0), 0), (30, 1, .ireturn, (0, 0, 0), 0), (31, 1, .aload_n 0, (0, 0, 0), 0), (32, 3, .invokevirtual 444, (101, 1863, 3), 0), (35, 1, .iconst 0, (0, 0, 0), 0), (36, 1, .istore_n 3, (0, 0, 0), 0), (37, 1, .iload_n 3, (0, 0, 0), 0), (38, 1, .iload_n 1, (0, 0, 0), 0), (39, 3, .if_icmp .ge 16, (32, 0, 0), 0), (42, 1, .aload_n 0, (0, 0, 0), 0), (43, 1, .iconst 0, (0, 0, 0), 0), (44, 1, .iload_n 2, (0, 0, 0), 0), (45, 1, .iconst 0, (0, 0, 0), 0), (46, 3, .invokevirtual 434, (98, 1832, 3), 0), (49, 3, .iinc 3 1, (0, 0, 0), 0), (52, 3, .goto (-15), (22, 0, 0), 0), (55, 1, .aload_n 0, (0, 0, 0), 0), (56, 3, .getfield 85, (12, 50, 1434), 0), (59, 1, .iconst 0, (0, 0, 0), 0), (60, 1, .iaload, (0, 0, 0), 0), (61, 1, .ireturn, (0, 0, 0), 0)]
-- AirBedModel.waits(IZ)I
def am_m103 : am_M := ((12, ⟨"AirBedModel", "waits", "(IZ)I"⟩, prog_14_method_68_code), (4, some .int, 2), (4, 96, 0, 0), am_m103_c0)
def am_m104_c0 : List am_I := [(0, 1, .aload_n 0, (0, 0, 0), 0), (1, 1, .iconst 0, (0, 0, 0), 0), (2, 3, .putfield 139, (12, 2, 1386), 0), (5, 1, .aload_n 0, (0, 0, 0), 0), (6, 3, .getfield 24, (12, 23, 1407), 0), (9, 1, .iconst 2, (0, 0, 0), 0), (10, 1, .iaload, (0, 0, 0), 0), (11, 3, .ifCond .eq 8, (11, 0, 0), 0), (14, 1, .iload_n 1, (0, 0, 0), 0), (15, 1, .iconst 1, (0, 0, 0), 0), (16, 3, .if_icmp .ge 5, (13, 0, 0), 0), (19, 1, .iconst (-1), (0, 0, 0), 0), (20, 1, .ireturn, (0, 0, 0), 0), (21, 1, .iload_n 1, (0, 0, 0), 0), (22, 1, .aload_n 0, (0, 0, 0), 0), (23, 3, .getfield 103, (12, 56, 1440), 0), (26, 1, .iconst 0, (0, 0, 0), 0), (27, 1, .iaload, (0, 0, 0), 0), (28, 3, .if_icmp .le 6, (21, 0, 0), 0), (31, 2, .bipush (-2), (0, 0, 0), 0), (33, 1, .ireturn, (0, 0, 0), 0), (34, 1, .aload_n 0, (0, 0, 0), 0), (35, 3, .getfield 88, (12, 51, 1435), 0), (38, 1, .iconst 0, (0, 0, 0), 0), (39, 1, .iaload, (0, 0, 0), 0), (40, 1, .iload_n 1, (0, 0, 0), 0), (41, 1, .iadd, (0, 0, 0), 0), (42, 2, .ldc 177, (0, 0, 1660), 99999), (44, 3, .if_icmp .le 5, (31, 0, 0), 0), (47, 1, .iconst (-1), (0, 0, 0), 0), (48, 1, .ireturn, (0, 0, 0), 0), (49, 1, .aload_n 0, (0, 0, 0), 0), (50, 3, .invokevirtual 444, (101, 1863, 3), 0), (53, 1, .iconst 0, (0, 0, 0), 0), (54, 1, .istore_n 2, (0, 0, 0), 0), (55, 1, .iload_n 2, (0, 0, 0), 0), (56, 1, .iload_n 1, (0, 0, 0), 0), (57, 3, .if_icmp .ge 16, (45, 0, 0), 0), (60, 1, .aload_n 0, (0, 0, 0), 0), (61, 1, .iconst 0, (0, 0, 0), 0), (62, 1, .iconst 0, (0, 0, 0), 0), (63, 1, .iconst 1, (0, 0, 0), 0), (64, 3, .invokevirtual 434, (98, 1832, 3), 0), (67, 3, .iinc 2 1, (0, 0, 0), 0), (70, 3, .goto (-15), (35, 0, 0), 0), (73, 1, .aload_n 0, (0, 0, 0), 0), (74, 3, .getfield 103, (12, 56, 1440), 0), (77, 1, .iconst 0, (0, 0, 0), 0), (78, 1, .dup2, (0, 0, 0), 0), (79, 1, .iaload, (0, 0, 0), 0), (80, 1, .iload_n 1, (0, 0, 0), 0), (81, 1, .isub, (0, 0, 0), 0), (82, 1, .iastore, (0, 0, 0), 0), (83, 1, .aload_n 0, (0, 0, 0), 0), (84, 3, .getfield 91, (12, 52, 1436), 0), (87, 1, .iconst 0, (0, 0, 0), 0), (88, 2, .bipush (-2), (0, 0, 0), 0), (90, 1, .iastore, (0, 0, 0), 0), (91, 1, .aload_n 0, (0, 0, 0), 0), (92, 3, .getfield 85, (12, 50, 1434), 0)]
def am_m104_c1 : List am_I := [(95, 1, .iconst 0, (0, 0, 0), 0), (96, 1, .iaload, (0, 0, 0), 0), (97, 1, .ireturn, (0, 0, 0), 0)]
-- AirBedModel.pump(I)I
def am_m104 : am_M := ((12, ⟨"AirBedModel", "pump", "(I)I"⟩, prog_14_method_69_code), (3, some .int, 1), (4, 96, 0, 0), am_m104_c0 ++ (am_m104_c1))
def am_m105_c0 : List am_I := [(0, 1, .aload_n 0, (0, 0, 0), 0), (1, 1, .iconst 0, (0, 0, 0), 0), (2, 3, .putfield 139, (12, 2, 1386), 0), (5, 1, .iload_n 1, (0, 0, 0), 0), (6, 3, .ifCond .lt 22, (14, 0, 0), 0), (9, 1, .iload_n 1, (0, 0, 0), 0), (10, 1, .aload_n 0, (0, 0, 0), 0), (11, 3, .getfield 225, (12, 14, 1398), 0), (14, 3, .if_icmp .ge 14, (14, 0, 0), 0), (17, 1, .aload_n 0, (0, 0, 0), 0), (18, 3, .getfield 349, (12, 57, 1441), 0), (21, 1, .iload_n 1, (0, 0, 0), 0), (22, 3, .invokestatic 400, (999, 1844, 3), 0), (25, 3, .ifCond .eq 5, (16, 0, 0), 0), (28, 1, .iconst (-1), (0, 0, 0), 0), (29, 1, .ireturn, (0, 0, 0), 0), (30, 1, .aload_n 0, (0, 0, 0), 0), (31, 3, .invokevirtual 444, (101, 1863, 3), 0), (34, 1, .aload_n 0, (0, 0, 0), 0), (35, 1, .dup, (0, 0, 0), 0), (36, 3, .getfield 349, (12, 57, 1441), 0), (39, 1, .iconst 1, (0, 0, 0), 0), (40, 1, .iload_n 1, (0, 0, 0), 0), (41, 1, .ishl, (0, 0, 0), 0), (42, 1, .ior, (0, 0, 0), 0), (43, 3, .putfield 349, (12, 57, 1441), 0), (46, 1, .iload_n 1, (0, 0, 0), 0), (47, 1, .aload_n 0, (0, 0, 0), 0), (48, 3, .getfield 362, (12, 58, 1442), 0), (51, 3, .if_icmp .ne 7, (32, 0, 0), 0), (54, 1, .iconst 1, (0, 0, 0), 0), (55, 3, .goto 4, (33, 0, 0), 0), (58, 1, .iconst 0, (0, 0, 0), 0), (59, 1, .ireturn, (0, 0, 0), 0)]
-- AirBedModel.patch(I)I
def am_m105 : am_M := ((12, ⟨"AirBedModel", "patch", "(I)I"⟩, prog_14_method_70_code), (2, some .int, 1), (2, 44, 0, 0), am_m105_c0)
def am_m106_c0 : List am_I := [(0, 1, .aload_n 0, (0, 0, 0), 0), (1, 1, .iconst 0, (0, 0, 0), 0), (2, 3, .putfield 139, (12, 2, 1386), 0), (5, 1, .aload_n 0, (0, 0, 0), 0), (6, 3, .getfield 362, (12, 58, 1442), 0), (9, 1, .ireturn, (0, 0, 0), 0)]
-- AirBedModel.leak()I
def am_m106 : am_M := ((12, ⟨"AirBedModel", "leak", "()I"⟩, prog_14_method_71_code), (1, some .int, 0), (0, 0, 0, 0), am_m106_c0)
def am_m107_c0 : List am_I := [(0, 1, .aload_n 0, (0, 0, 0), 0), (1, 1, .iconst 0, (0, 0, 0), 0), (2, 3, .putfield 139, (12, 2, 1386), 0), (5, 1, .aload_n 0, (0, 0, 0), 0), (6, 3, .getfield 222, (12, 13, 1397), 0), (9, 3, .ifCond .eq 12, (11, 0, 0), 0), (12, 1, .iload_n 1, (0, 0, 0), 0), (13, 1, .iconst 0, (0, 0, 0), 0), (14, 1, .iconst 3, (0, 0, 0), 0), (15, 3, .invokestatic 184, (87, 1685, 3), 0), (18, 3, .ifCond .ne 5, (13, 0, 0), 0), (21, 1, .iconst (-1), (0, 0, 0), 0), (22, 1, .ireturn, (0, 0, 0), 0), (23, 1, .aload_n 0, (0, 0, 0), 0), (24, 3, .invokevirtual 464, (999, 1891, 3), 0), (27, 1, .istore_n 2, (0, 0, 0), 0), (28, 1, .iload_n 1, (0, 0, 0), 0), (29, 3, .ifCond .ne 15, (24, 0, 0), 0), (32, 1, .iload_n 2, (0, 0, 0), 0), (33, 3, .ifCond .eq 7, (22, 0, 0), 0), (36, 1, .iconst 1, (0, 0, 0), 0), (37, 3, .goto 50, (47, 0, 0), 0), (40, 1, .iconst 0, (0, 0, 0), 0), (41, 3, .goto 46, (47, 0, 0), 0), (44, 1, .iload_n 1, (0, 0, 0), 0), (45, 1, .iconst 1, (0, 0, 0), 0), (46, 3, .if_icmp .ne 25, (39, 0, 0), 0), (49, 1, .iload_n 2, (0, 0, 0), 0), (50, 3, .ifCond .eq 17, (37, 0, 0), 0), (53, 1, .aload_n 0, (0, 0, 0), 0), (54, 3, .getfield 88, (12, 51, 1435), 0), (57, 1, .iconst 1, (0, 0, 0), 0), (58, 1, .iaload, (0, 0, 0), 0), (59, 1, .aload_n 0, (0, 0, 0), 0), (60, 3, .getfield 447, (12, 63, 1447), 0), (63, 1, .isub, (0, 0, 0), 0), (64, 3, .goto 23, (47, 0, 0), 0), (67, 1, .iconst (-1), (0, 0, 0), 0), (68, 3, .goto 19, (47, 0, 0), 0), (71, 1, .iload_n 1, (0, 0, 0), 0), (72, 1, .iconst 2, (0, 0, 0), 0), (73, 3, .if_icmp .ne 10, (45, 0, 0), 0), (76, 1, .aload_n 0, (0, 0, 0), 0), (77, 3, .getfield 454, (12, 64, 1448), 0), (80, 3, .goto 7, (47, 0, 0), 0), (83, 1, .aload_n 0, (0, 0, 0), 0), (84, 3, .getfield 457, (12, 65, 1449), 0), (87, 1, .ireturn, (0, 0, 0), 0)]
-- AirBedModel.ever(I)I
def am_m107 : am_M := ((12, ⟨"AirBedModel", "ever", "(I)I"⟩, prog_14_method_75_code), (3, some .int, 1), (1, 22, 0, 0), am_m107_c0)
def am_m108_c0 : List am_I := [(0, 1, .aload_n 0, (0, 0, 0), 0), (1, 1, .iconst 0, (0, 0, 0), 0), (2, 3, .putfield 139, (12, 2, 1386), 0), (5, 1, .iload_n 1, (0, 0, 0), 0), (6, 1, .iconst 1, (0, 0, 0), 0), (7, 1, .iconst 2, (0, 0, 0), 0), (8, 3, .invokestatic 184, (87, 1685, 3), 0), (11, 3, .ifCond .eq 14, (13, 0, 0), 0), (14, 1, .iload_n 2, (0, 0, 0), 0), (15, 3, .ifCond .lt 10, (13, 0, 0), 0), (18, 1, .aload_n 0, (0, 0, 0), 0), (19, 3, .getfield 219, (12, 12, 1396), 0), (22, 3, .ifCond .ne 5, (15, 0, 0), 0), (25, 1, .iconst (-1), (0, 0, 0), 0), (26, 1, .ireturn, (0, 0, 0), 0), (27, 1, .iload_n 2, (0, 0, 0), 0), (28, 1, .iconst 1, (0, 0, 0), 0), (29, 1, .iconst 2, (0, 0, 0), 0), (30, 1, .iload_n 1, (0, 0, 0), 0), (31, 1, .imul, (0, 0, 0), 0), (32, 1, .iadd, (0, 0, 0), 0), (33, 3, .if_icmp .le 6, (24, 0, 0), 0), (36, 2, .bipush (-2), (0, 0, 0), 0), (38, 1, .ireturn, (0, 0, 0), 0), (39, 1, .aload_n 0, (0, 0, 0), 0), (40, 1, .iload_n 1, (0, 0, 0), 0), (41, 3, .invokevirtual 486, (999, 1907, 3), 0), (44, 1, .aload_n 0, (0, 0, 0), 0), (45, 3, .getfield 467, (12, 66, 1450), 0), (48, 3, .ifCond .ge 6, (32, 0, 0), 0), (51, 2, .bipush (-2), (0, 0, 0), 0), (53, 1, .ireturn, (0, 0, 0), 0), (54, 1, .iload_n 2, (0, 0, 0), 0), (55, 3, .ifCond .ne 10, (37, 0, 0), 0), (58, 1, .aload_n 0, (0, 0, 0), 0), (59, 3, .getfield 467, (12, 66, 1450), 0), (62, 3, .goto 23, (49, 0, 0), 0), (65, 1, .iload_n 2, (0, 0, 0), 0), (66, 1, .iconst 1, (0, 0, 0), 0), (67, 3, .if_icmp .ne 10, (43, 0, 0), 0), (70, 1, .aload_n 0, (0, 0, 0), 0), (71, 3, .getfield 470, (12, 67, 1451), 0), (74, 3, .goto 11, (49, 0, 0), 0), (77, 1, .aload_n 0, (0, 0, 0), 0), (78, 3, .getfield 109, (12, 68, 1452), 0), (81, 1, .iload_n 2, (0, 0, 0), 0), (82, 1, .iconst 2, (0, 0, 0), 0), (83, 1, .isub, (0, 0, 0), 0), (84, 1, .iaload, (0, 0, 0), 0), (85, 1, .ireturn, (0, 0, 0), 0)]
-- AirBedModel.best(II)I
def am_m108 : am_M := ((12, ⟨"AirBedModel", "best", "(II)I"⟩, prog_14_method_81_code), (3, some .int, 2), (1, 22, 0, 0), am_m108_c0)
def am_m109_c0 : List am_I := [(0, 1, .aload_n 0, (0, 0, 0), 0), (1, 1, .iconst 0, (0, 0, 0), 0), (2, 3, .putfield 139, (12, 2, 1386), 0), (5, 1, .iload_n 1, (0, 0, 0), 0), (6, 1, .iconst 0, (0, 0, 0), 0), (7, 1, .aload_n 0, (0, 0, 0), 0), (8, 3, .getfield 24, (12, 23, 1407), 0), (11, 1, .iconst 0, (0, 0, 0), 0), (12, 1, .iaload, (0, 0, 0), 0), (13, 3, .invokestatic 184, (87, 1685, 3), 0), (16, 3, .ifCond .eq 26, (22, 0, 0), 0), (19, 1, .iload_n 2, (0, 0, 0), 0), (20, 1, .iconst 0, (0, 0, 0), 0), (21, 3, .sipush 9999, (0, 0, 0), 0), (24, 3, .invokestatic 184, (87, 1685, 3), 0), (27, 3, .ifCond .eq 15, (22, 0, 0), 0), (30, 1, .aload_n 0, (0, 0, 0), 0), (31, 1, .iload_n 1, (0, 0, 0), 0), (32, 1, .iload_n 2, (0, 0, 0), 0), (33, 3, .sipush 3600, (0, 0, 0), 0), (36, 3, .invokevirtual 489, (110, 1931, 3), 0), (39, 3, .goto 4, (23, 0, 0), 0), (42, 1, .iconst (-1), (0, 0, 0), 0), (43, 1, .ireturn, (0, 0, 0), 0)]
-- AirBedModel.lasts(II)I
def am_m109 : am_M := ((12, ⟨"AirBedModel", "lasts", "(II)I"⟩, prog_14_method_83_code), (3, some .int, 2), (5, 120, 0, 0), am_m109_c0)
def am_m110_c0 : List am_I := [(0, 1, .aload_n 0, (0, 0, 0), 0), (1, 1, .iconst 1, (0, 0, 0), 0), (2, 1, .iconst 0, (0, 0, 0), 0), (3, 3, .invokevirtual 428, (97, 1824, 3), 0), (6, 1, .aload_n 0, (0, 0, 0), 0), (7, 3, .getfield 85, (12, 50, 1434), 0), (10, 1, .iconst 1, (0, 0, 0), 0), (11, 1, .iload_n 1, (0, 0, 0), 0), (12, 1, .iastore, (0, 0, 0), 0), (13, 1, .iconst 0, (0, 0, 0), 0), (14, 2, .istore 4, (0, 0, 0), 0), (16, 2, .iload 4, (0, 0, 0), 0), (18, 1, .iload_n 3, (0, 0, 0), 0), (19, 3, .if_icmp .ge 26, (27, 0, 0), 0), (22, 1, .aload_n 0, (0, 0, 0), 0), (23, 3, .getfield 85, (12, 50, 1434), 0), (26, 1, .iconst 1, (0, 0, 0), 0), (27, 1, .iaload, (0, 0, 0), 0), (28, 1, .iload_n 2, (0, 0, 0), 0), (29, 3, .if_icmp .lt 16, (27, 0, 0), 0), (32, 1, .aload_n 0, (0, 0, 0), 0), (33, 1, .iconst 1, (0, 0, 0), 0), (34, 1, .iconst 0, (0, 0, 0), 0), (35, 1, .iconst 0, (0, 0, 0), 0), (36, 3, .invokevirtual 434, (98, 1832, 3), 0), (39, 3, .iinc 4 1, (0, 0, 0), 0), (42, 3, .goto (-26), (11, 0, 0), 0), (45, 2, .iload 4, (0, 0, 0), 0), (47, 1, .ireturn, (0, 0, 0), 0)]
-- AirBedModel.lastsBy(III)I
def am_m110 : am_M := ((12, ⟨"AirBedModel", "lastsBy", "(III)I"⟩, prog_14_method_82_code), (5, some .int, 3), (4, 96, 0, 0), am_m110_c0)
def am_m111_c0 : List am_I := [(0, 1, .aload_n 0, (0, 0, 0), 0), (1, 1, .iconst 0, (0, 0, 0), 0), (2, 3, .putfield 139, (12, 2, 1386), 0), (5, 1, .iload_n 1, (0, 0, 0), 0), (6, 1, .iconst 0, (0, 0, 0), 0), (7, 2, .bipush 60, (0, 0, 0), 0), (9, 3, .invokestatic 184, (87, 1685, 3), 0), (12, 3, .ifCond .eq 14, (13, 0, 0), 0), (15, 1, .iload_n 2, (0, 0, 0), 0), (16, 1, .iconst 0, (0, 0, 0), 0), (17, 3, .sipush 9999, (0, 0, 0), 0), (20, 3, .invokestatic 184, (87, 1685, 3), 0), (23, 3, .ifCond .ne 5, (15, 0, 0), 0), (26, 1, .iconst (-1), (0, 0, 0), 0), (27, 1, .ireturn, (0, 0, 0), 0), (28, 1, .iconst 0, (0, 0, 0), 0), (29, 1, .istore_n 3, (0, 0, 0), 0), (30, 1, .iload_n 3, (0, 0, 0), 0), (31, 1, .aload_n 0, (0, 0, 0), 0), (32, 3, .getfield 24, (12, 23, 1407), 0), (35, 1, .iconst 0, (0, 0, 0), 0), (36, 1, .iaload, (0, 0, 0), 0), (37, 3, .if_icmp .gt 22, (34, 0, 0), 0), (40, 1, .aload_n 0, (0, 0, 0), 0), (41, 1, .iload_n 3, (0, 0, 0), 0), (42, 1, .iload_n 2, (0, 0, 0), 0), (43, 1, .iload_n 1, (0, 0, 0), 0), (44, 3, .invokevirtual 489, (110, 1931, 3), 0), (47, 1, .iload_n 1, (0, 0, 0), 0), (48, 3, .if_icmp .lt 5, (32, 0, 0), 0), (51, 1, .iload_n 3, (0, 0, 0), 0), (52, 1, .ireturn, (0, 0, 0), 0), (53, 3, .iinc 3 1, (0, 0, 0), 0), (56, 3, .goto (-26), (17, 0, 0), 0), (59, 2, .bipush (-2), (0, 0, 0), 0), (61, 1, .ireturn, (0, 0, 0), 0)]
-- AirBedModel.firm(II)I
def am_m111 : am_M := ((12, ⟨"AirBedModel", "firm", "(II)I"⟩, prog_14_method_84_code), (4, some .int, 2), (5, 120, 0, 0), am_m111_c0)
def am_m112_c0 : List am_I := [(0, 1, .aload_n 0, (0, 0, 0), 0), (1, 1, .iconst 0, (0, 0, 0), 0), (2, 3, .putfield 139, (12, 2, 1386), 0), (5, 1, .aload_n 0, (0, 0, 0), 0), (6, 1, .iload_n 1, (0, 0, 0), 0), (7, 3, .invokevirtual 420, (91, 1774, 3), 0), (10, 3, .ifCond .eq 11, (11, 0, 0), 0), (13, 1, .iload_n 2, (0, 0, 0), 0), (14, 1, .iload_n 3, (0, 0, 0), 0), (15, 3, .invokestatic 501, (113, 1943, 3), 0), (18, 3, .ifCond .ne 5, (13, 0, 0), 0), (21, 1, .iconst (-1), (0, 0, 0), 0), (22, 1, .ireturn, (0, 0, 0), 0), (23, 1, .aload_n 0, (0, 0, 0), 0), (24, 1, .iload_n 1, (0, 0, 0), 0), (25, 1, .iload_n 2, (0, 0, 0), 0), (26, 1, .iload_n 3, (0, 0, 0), 0), (27, 1, .iconst (-1), (0, 0, 0), 0), (28, 3, .invokevirtual 504, (999, 1946, 3), 0), (31, 1, .aload_n 0, (0, 0, 0), 0), (32, 3, .getfield 492, (12, 69, 1453), 0), (35, 1, .ireturn, (0, 0, 0), 0)]
-- AirBedModel.up(III)I
def am_m112 : am_M := ((12, ⟨"AirBedModel", "up", "(III)I"⟩, prog_14_method_88_code), (4, some .int, 3), (2, 43, 0, 0), am_m112_c0)
def am_m113_c0 : List am_I := [(0, 1, .iload_n 0, (0, 0, 0), 0), (1, 1, .iconst 1, (0, 0, 0), 0), (2, 3, .sipush 3600, (0, 0, 0), 0), (5, 3, .invokestatic 184, (87, 1685, 3), 0), (8, 3, .ifCond .eq 18, (12, 0, 0), 0), (11, 1, .iload_n 1, (0, 0, 0), 0), (12, 1, .iconst 0, (0, 0, 0), 0), (13, 3, .sipush 9999, (0, 0, 0), 0), (16, 3, .invokestatic 184, (87, 1685, 3), 0), (19, 3, .ifCond .eq 7, (12, 0, 0), 0), (22, 1, .iconst 1, (0, 0, 0), 0), (23, 3, .goto 4, (13, 0, 0), 0), (26, 1, .iconst 0, (0, 0, 0), 0), (27, 1, .ireturn, (0, 0, 0), 0)]
-- AirBedModel.isUp(II)Z
def am_m113 : am_M := ((12, ⟨"AirBedModel", "isUp", "(II)Z"⟩, prog_14_method_87_code), (2, some .boolean, 2), (1, 22, 0, 0), am_m113_c0)
def am_m114_c0 : List am_I := [(0, 1, .aload_n 0, (0, 0, 0), 0), (1, 1, .iconst 0, (0, 0, 0), 0), (2, 3, .putfield 139, (12, 2, 1386), 0), (5, 1, .aload_n 0, (0, 0, 0), 0), (6, 1, .iload_n 1, (0, 0, 0), 0), (7, 3, .invokevirtual 420, (91, 1774, 3), 0), (10, 3, .ifCond .eq 16, (13, 0, 0), 0), (13, 1, .iload_n 2, (0, 0, 0), 0), (14, 1, .iload_n 3, (0, 0, 0), 0), (15, 3, .invokestatic 501, (113, 1943, 3), 0), (18, 3, .ifCond .eq 8, (13, 0, 0), 0), (21, 2, .iload 4, (0, 0, 0), 0), (23, 3, .ifCond .ge 5, (15, 0, 0), 0), (26, 1, .iconst (-1), (0, 0, 0), 0), (27, 1, .ireturn, (0, 0, 0), 0), (28, 1, .aload_n 0, (0, 0, 0), 0), (29, 1, .iload_n 1, (0, 0, 0), 0), (30, 1, .iload_n 2, (0, 0, 0), 0), (31, 1, .iload_n 3, (0, 0, 0), 0), (32, 2, .iload 4, (0, 0, 0), 0), (34, 3, .invokevirtual 504, (999, 1946, 3), 0), (37, 1, .aload_n 0, (0, 0, 0), 0), (38, 3, .getfield 492, (12, 69, 1453), 0), (41, 3, .ifCond .ge 8, (26, 0, 0), 0), (44, 2, .bipush (-2), (0, 0, 0), 0), (46, 3, .goto 7, (28, 0, 0), 0), (49, 1, .aload_n 0, (0, 0, 0), 0), (50, 3, .getfield 495, (12, 70, 1454), 0), (53, 1, .ireturn, (0, 0, 0), 0)]
-- AirBedModel.upAt(IIII)I
def am_m114 : am_M := ((12, ⟨"AirBedModel", "upAt", "(IIII)I"⟩, prog_14_method_89_code), (5, some .int, 4), (2, 43, 0, 0), am_m114_c0)
def am_m115_c0 : List am_I := [(0, 1, .aload_n 0, (0, 0, 0), 0), (1, 1, .iconst 0, (0, 0, 0), 0), (2, 3, .putfield 139, (12, 2, 1386), 0), (5, 1, .iload_n 1, (0, 0, 0), 0), (6, 1, .iload_n 2, (0, 0, 0), 0), (7, 3, .invokestatic 501, (113, 1943, 3), 0), (10, 3, .ifCond .eq 12, (12, 0, 0), 0), (13, 1, .iload_n 3, (0, 0, 0), 0), (14, 1, .iconst 0, (0, 0, 0), 0), (15, 1, .iconst 1, (0, 0, 0), 0), (16, 3, .invokestatic 184, (87, 1685, 3), 0), (19, 3, .ifCond .ne 5, (14, 0, 0), 0), (22, 1, .iconst (-1), (0, 0, 0), 0), (23, 1, .ireturn, (0, 0, 0), 0), (24, 2, .bipush (-2), (0, 0, 0), 0), (26, 2, .istore 4, (0, 0, 0), 0), (28, 2, .bipush (-2), (0, 0, 0), 0), (30, 2, .istore 5, (0, 0, 0), 0), (32, 1, .iconst 0, (0, 0, 0), 0), (33, 2, .istore 6, (0, 0, 0), 0), (35, 2, .iload 6, (0, 0, 0), 0), (37, 1, .aload_n 0, (0, 0, 0), 0), (38, 3, .getfield 219, (12, 12, 1396), 0), (41, 3, .if_icmp .ge 68, (57, 0, 0), 0), (44, 1, .aload_n 0, (0, 0, 0), 0), (45, 2, .iload 6, (0, 0, 0), 0), (47, 1, .iload_n 1, (0, 0, 0), 0), (48, 1, .iload_n 2, (0, 0, 0), 0), (49, 1, .iconst (-1), (0, 0, 0), 0), (50, 3, .invokevirtual 504, (999, 1946, 3), 0), (53, 1, .aload_n 0, (0, 0, 0), 0), (54, 3, .getfield 492, (12, 69, 1453), 0), (57, 1, .aload_n 0, (0, 0, 0), 0), (58, 3, .getfield 30, (12, 25, 1409), 0), (61, 2, .bipush 7, (0, 0, 0), 0), (63, 2, .iload 6, (0, 0, 0), 0), (65, 1, .imul, (0, 0, 0), 0), (66, 2, .bipush 6, (0, 0, 0), 0), (68, 1, .iadd, (0, 0, 0), 0), (69, 1, .iaload, (0, 0, 0), 0), (70, 1, .imul, (0, 0, 0), 0), (71, 2, .istore 7, (0, 0, 0), 0), (73, 1, .aload_n 0, (0, 0, 0), 0), (74, 3, .getfield 492, (12, 69, 1453), 0), (77, 3, .ifCond .lt 26, (55, 0, 0), 0), (80, 2, .iload 4, (0, 0, 0), 0), (82, 3, .ifCond .lt 13, (51, 0, 0), 0), (85, 2, .iload 7, (0, 0, 0), 0), (87, 2, .iload 5, (0, 0, 0), 0), (89, 3, .if_icmp .lt 6, (51, 0, 0), 0), (92, 3, .goto 11, (55, 0, 0), 0), (95, 2, .iload 6, (0, 0, 0), 0), (97, 2, .istore 4, (0, 0, 0), 0), (99, 2, .iload 7, (0, 0, 0), 0), (101, 2, .istore 5, (0, 0, 0), 0), (103, 3, .iinc 6 1, (0, 0, 0), 0), (106, 3, .goto (-71), (20, 0, 0), 0), (109, 1, .iload_n 3, (0, 0, 0), 0), (110, 3, .ifCond .ne 8, (61, 0, 0), 0), (113, 2, .iload 4, (0, 0, 0), 0)]
def am_m115_c1 : List am_I := [(115, 3, .goto 5, (62, 0, 0), 0), (118, 2, .iload 5, (0, 0, 0), 0), (120, 1, .ireturn, (0, 0, 0), 0)]
-- AirBedModel.cheapest(III)I
def am_m115 : am_M := ((12, ⟨"AirBedModel", "cheapest", "(III)I"⟩, prog_14_method_90_code), (8, some .int, 3), (2, 43, 0, 0), am_m115_c0 ++ (am_m115_c1))
def am_m116_c0 : List am_I := [(0, 1, .aload_n 0, (0, 0, 0), 0), (1, 1, .iconst 0, (0, 0, 0), 0), (2, 3, .putfield 139, (12, 2, 1386), 0), (5, 1, .aload_n 0, (0, 0, 0), 0), (6, 3, .getfield 24, (12, 23, 1407), 0), (9, 1, .iconst 2, (0, 0, 0), 0), (10, 1, .iaload, (0, 0, 0), 0), (11, 3, .ifCond .eq 33, (24, 0, 0), 0), (14, 1, .iload_n 1, (0, 0, 0), 0), (15, 1, .iconst 1, (0, 0, 0), 0), (16, 3, .sipush 600, (0, 0, 0), 0), (19, 3, .invokestatic 184, (87, 1685, 3), 0), (22, 3, .ifCond .eq 22, (24, 0, 0), 0), (25, 1, .iload_n 2, (0, 0, 0), 0), (26, 1, .iconst 0, (0, 0, 0), 0), (27, 1, .iconst 1, (0, 0, 0), 0), (28, 3, .invokestatic 184, (87, 1685, 3), 0), (31, 3, .ifCond .eq 13, (24, 0, 0), 0), (34, 1, .iload_n 1, (0, 0, 0), 0), (35, 1, .aload_n 0, (0, 0, 0), 0), (36, 3, .getfield 103, (12, 56, 1440), 0), (39, 1, .iconst 0, (0, 0, 0), 0), (40, 1, .iaload, (0, 0, 0), 0), (41, 3, .if_icmp .ge 5, (26, 0, 0), 0), (44, 1, .iconst (-1), (0, 0, 0), 0), (45, 1, .ireturn, (0, 0, 0), 0), (46, 1, .iconst 0, (0, 0, 0), 0), (47, 1, .istore_n 3, (0, 0, 0), 0), (48, 1, .iconst (-1), (0, 0, 0), 0), (49, 2, .istore 4, (0, 0, 0), 0), (51, 1, .iconst 0, (0, 0, 0), 0), (52, 2, .istore 5, (0, 0, 0), 0), (54, 2, .iload 5, (0, 0, 0), 0), (56, 1, .iload_n 1, (0, 0, 0), 0), (57, 1, .aload_n 0, (0, 0, 0), 0), (58, 3, .getfield 103, (12, 56, 1440), 0), (61, 1, .iconst 0, (0, 0, 0), 0), (62, 1, .iaload, (0, 0, 0), 0), (63, 1, .isub, (0, 0, 0), 0), (64, 3, .if_icmp .gt 87, (85, 0, 0), 0), (67, 1, .aload_n 0, (0, 0, 0), 0), (68, 1, .iconst 1, (0, 0, 0), 0), (69, 1, .iconst 0, (0, 0, 0), 0), (70, 3, .invokevirtual 428, (97, 1824, 3), 0), (73, 1, .iconst 0, (0, 0, 0), 0), (74, 2, .istore 6, (0, 0, 0), 0), (76, 2, .iload 6, (0, 0, 0), 0), (78, 1, .iload_n 1, (0, 0, 0), 0), (79, 3, .if_icmp .ge 41, (69, 0, 0), 0), (82, 1, .aload_n 0, (0, 0, 0), 0), (83, 1, .iconst 1, (0, 0, 0), 0), (84, 1, .iconst 0, (0, 0, 0), 0), (85, 2, .iload 6, (0, 0, 0), 0), (87, 2, .iload 5, (0, 0, 0), 0), (89, 3, .if_icmp .lt 21, (65, 0, 0), 0), (92, 2, .iload 6, (0, 0, 0), 0), (94, 2, .iload 5, (0, 0, 0), 0), (96, 1, .aload_n 0, (0, 0, 0), 0), (97, 3, .getfield 103, (12, 56, 1440), 0), (100, 1, .iconst 0, (0, 0, 0), 0)]
def am_m116_c1 : List am_I := [(101, 1, .iaload, (0, 0, 0), 0), (102, 1, .iadd, (0, 0, 0), 0), (103, 3, .if_icmp .ge 7, (65, 0, 0), 0), (106, 1, .iconst 1, (0, 0, 0), 0), (107, 3, .goto 4, (66, 0, 0), 0), (110, 1, .iconst 0, (0, 0, 0), 0), (111, 3, .invokevirtual 434, (98, 1832, 3), 0), (114, 3, .iinc 6 1, (0, 0, 0), 0), (117, 3, .goto (-41), (46, 0, 0), 0), (120, 1, .aload_n 0, (0, 0, 0), 0), (121, 3, .getfield 85, (12, 50, 1434), 0), (124, 1, .iconst 1, (0, 0, 0), 0), (125, 1, .iaload, (0, 0, 0), 0), (126, 2, .iload 4, (0, 0, 0), 0), (128, 3, .if_icmp .gt 6, (76, 0, 0), 0), (131, 3, .goto 14, (83, 0, 0), 0), (134, 2, .iload 5, (0, 0, 0), 0), (136, 1, .istore_n 3, (0, 0, 0), 0), (137, 1, .aload_n 0, (0, 0, 0), 0), (138, 3, .getfield 85, (12, 50, 1434), 0), (141, 1, .iconst 1, (0, 0, 0), 0), (142, 1, .iaload, (0, 0, 0), 0), (143, 2, .istore 4, (0, 0, 0), 0), (145, 3, .iinc 5 1, (0, 0, 0), 0), (148, 3, .goto (-94), (32, 0, 0), 0), (151, 1, .iload_n 2, (0, 0, 0), 0), (152, 3, .ifCond .ne 7, (89, 0, 0), 0), (155, 1, .iload_n 3, (0, 0, 0), 0), (156, 3, .goto 5, (90, 0, 0), 0), (159, 2, .iload 4, (0, 0, 0), 0), (161, 1, .ireturn, (0, 0, 0), 0)]
-- AirBedModel.lend(II)I
def am_m116 : am_M := ((12, ⟨"AirBedModel", "lend", "(II)I"⟩, prog_14_method_91_code), (7, some .int, 2), (4, 96, 0, 0), am_m116_c0 ++ (am_m116_c1))
def am_m117_c0 : List am_I := [(0, 1, .aload_n 0, (0, 0, 0), 0), (1, 1, .iconst 0, (0, 0, 0), 0), (2, 3, .putfield 139, (12, 2, 1386), 0), (5, 1, .iload_n 1, (0, 0, 0), 0), (6, 3, .ifCond .lt 12, (10, 0, 0), 0), (9, 1, .iload_n 2, (0, 0, 0), 0), (10, 1, .iconst 0, (0, 0, 0), 0), (11, 1, .iconst 1, (0, 0, 0), 0), (12, 3, .invokestatic 184, (87, 1685, 3), 0), (15, 3, .ifCond .ne 5, (12, 0, 0), 0), (18, 1, .iconst (-1), (0, 0, 0), 0), (19, 1, .ireturn, (0, 0, 0), 0), (20, 1, .iconst 0, (0, 0, 0), 0), (21, 1, .istore_n 3, (0, 0, 0), 0), (22, 1, .iload_n 3, (0, 0, 0), 0), (23, 1, .aload_n 0, (0, 0, 0), 0), (24, 3, .getfield 225, (12, 14, 1398), 0), (27, 3, .if_icmp .ge 48, (43, 0, 0), 0), (30, 1, .aload_n 0, (0, 0, 0), 0), (31, 3, .getfield 112, (12, 71, 1455), 0), (34, 1, .iload_n 3, (0, 0, 0), 0), (35, 1, .aload_n 0, (0, 0, 0), 0), (36, 3, .getfield 349, (12, 57, 1441), 0), (39, 1, .iload_n 3, (0, 0, 0), 0), (40, 3, .invokestatic 400, (999, 1844, 3), 0), (43, 3, .ifCond .eq 7, (28, 0, 0), 0), (46, 1, .lconst 0, (0, 0, 0), 0), (47, 3, .goto 14, (35, 0, 0), 0), (50, 3, .ldc2_w 507, (0, 0, 1970), 1000000), (53, 1, .aload_n 0, (0, 0, 0), 0), (54, 3, .getfield 39, (12, 28, 1412), 0), (57, 1, .iload_n 3, (0, 0, 0), 0), (58, 1, .iaload, (0, 0, 0), 0), (59, 1, .i2l, (0, 0, 0), 0), (60, 1, .lmul, (0, 0, 0), 0), (61, 1, .lastore, (0, 0, 0), 0), (62, 1, .aload_n 0, (0, 0, 0), 0), (63, 3, .getfield 115, (12, 72, 1456), 0), (66, 1, .iload_n 3, (0, 0, 0), 0), (67, 1, .iconst 0, (0, 0, 0), 0), (68, 1, .iastore, (0, 0, 0), 0), (69, 3, .iinc 3 1, (0, 0, 0), 0), (72, 3, .goto (-50), (14, 0, 0), 0), (75, 2, .bipush (-2), (0, 0, 0), 0), (77, 1, .istore_n 3, (0, 0, 0), 0), (78, 2, .bipush (-2), (0, 0, 0), 0), (80, 2, .istore 4, (0, 0, 0), 0), (82, 1, .iconst 0, (0, 0, 0), 0), (83, 2, .istore 5, (0, 0, 0), 0), (85, 2, .iload 5, (0, 0, 0), 0), (87, 1, .iload_n 1, (0, 0, 0), 0), (88, 3, .if_icmp .gt 176, (150, 0, 0), 0), (91, 2, .bipush (-2), (0, 0, 0), 0), (93, 1, .istore_n 3, (0, 0, 0), 0), (94, 2, .bipush (-2), (0, 0, 0), 0), (96, 2, .istore 4, (0, 0, 0), 0), (98, 1, .lconst 0, (0, 0, 0), 0), (99, 2, .lstore 6, (0, 0, 0), 0), (101, 1, .lconst 1, (0, 0, 0), 0), (102, 2, .lstore 8, (0, 0, 0), 0)]
def am_m117_c1 : List am_I := [(104, 1, .iconst 0, (0, 0, 0), 0), (105, 2, .istore 10, (0, 0, 0), 0), (107, 2, .iload 10, (0, 0, 0), 0), (109, 1, .aload_n 0, (0, 0, 0), 0), (110, 3, .getfield 225, (12, 14, 1398), 0), (113, 3, .if_icmp .ge 100, (118, 0, 0), 0), (116, 1, .iconst 0, (0, 0, 0), 0), (117, 2, .istore 11, (0, 0, 0), 0), (119, 2, .iload 11, (0, 0, 0), 0), (121, 1, .aload_n 0, (0, 0, 0), 0), (122, 3, .getfield 228, (12, 15, 1399), 0), (125, 3, .if_icmp .ge 82, (116, 0, 0), 0), (128, 1, .aload_n 0, (0, 0, 0), 0), (129, 3, .getfield 115, (12, 72, 1456), 0), (132, 2, .iload 10, (0, 0, 0), 0), (134, 1, .iaload, (0, 0, 0), 0), (135, 1, .iconst 3, (0, 0, 0), 0), (136, 3, .if_icmp .ge 71, (116, 0, 0), 0), (139, 1, .aload_n 0, (0, 0, 0), 0), (140, 3, .getfield 112, (12, 71, 1455), 0), (143, 2, .iload 10, (0, 0, 0), 0), (145, 1, .laload, (0, 0, 0), 0), (146, 1, .aload_n 0, (0, 0, 0), 0), (147, 3, .getfield 48, (12, 31, 1415), 0), (150, 2, .iload 11, (0, 0, 0), 0), (152, 1, .iaload, (0, 0, 0), 0), (153, 1, .i2l, (0, 0, 0), 0), (154, 1, .lmul, (0, 0, 0), 0), (155, 2, .lstore 12, (0, 0, 0), 0), (157, 2, .lload 12, (0, 0, 0), 0), (159, 2, .lload 8, (0, 0, 0), 0), (161, 1, .lmul, (0, 0, 0), 0), (162, 2, .lload 6, (0, 0, 0), 0), (164, 1, .aload_n 0, (0, 0, 0), 0), (165, 3, .getfield 51, (12, 32, 1416), 0), (168, 2, .iload 11, (0, 0, 0), 0), (170, 1, .iaload, (0, 0, 0), 0), (171, 1, .i2l, (0, 0, 0), 0), (172, 1, .lmul, (0, 0, 0), 0), (173, 1, .lcmp, (0, 0, 0), 0), (174, 3, .ifCond .gt 6, (102, 0, 0), 0), (177, 3, .goto 24, (114, 0, 0), 0), (180, 2, .iload 10, (0, 0, 0), 0), (182, 1, .istore_n 3, (0, 0, 0), 0), (183, 2, .iload 11, (0, 0, 0), 0), (185, 2, .istore 4, (0, 0, 0), 0), (187, 2, .lload 12, (0, 0, 0), 0), (189, 2, .lstore 6, (0, 0, 0), 0), (191, 1, .aload_n 0, (0, 0, 0), 0), (192, 3, .getfield 51, (12, 32, 1416), 0), (195, 2, .iload 11, (0, 0, 0), 0), (197, 1, .iaload, (0, 0, 0), 0), (198, 1, .i2l, (0, 0, 0), 0), (199, 2, .lstore 8, (0, 0, 0), 0), (201, 3, .iinc 11 1, (0, 0, 0), 0), (204, 3, .goto (-85), (68, 0, 0), 0), (207, 3, .iinc 10 1, (0, 0, 0), 0), (210, 3, .goto (-103), (62, 0, 0), 0), (213, 1, .iload_n 3, (0, 0, 0), 0), (214, 3, .ifCond .ge 6, (122, 0, 0), 0)]
def am_m117_c2 : List am_I := [(217, 2, .bipush (-2), (0, 0, 0), 0), (219, 1, .ireturn, (0, 0, 0), 0), (220, 1, .aload_n 0, (0, 0, 0), 0), (221, 3, .getfield 112, (12, 71, 1455), 0), (224, 1, .iload_n 3, (0, 0, 0), 0), (225, 1, .aload_n 0, (0, 0, 0), 0), (226, 3, .getfield 112, (12, 71, 1455), 0), (229, 1, .iload_n 3, (0, 0, 0), 0), (230, 1, .laload, (0, 0, 0), 0), (231, 2, .bipush 100, (0, 0, 0), 0), (233, 1, .aload_n 0, (0, 0, 0), 0), (234, 3, .getfield 48, (12, 31, 1415), 0), (237, 2, .iload 4, (0, 0, 0), 0), (239, 1, .iaload, (0, 0, 0), 0), (240, 1, .isub, (0, 0, 0), 0), (241, 1, .i2l, (0, 0, 0), 0), (242, 1, .lmul, (0, 0, 0), 0), (243, 3, .ldc2_w 509, (0, 0, 1971), 100), (246, 1, .ldiv, (0, 0, 0), 0), (247, 1, .lastore, (0, 0, 0), 0), (248, 1, .aload_n 0, (0, 0, 0), 0), (249, 3, .getfield 115, (12, 72, 1456), 0), (252, 1, .iload_n 3, (0, 0, 0), 0), (253, 1, .dup2, (0, 0, 0), 0), (254, 1, .iaload, (0, 0, 0), 0), (255, 1, .iconst 1, (0, 0, 0), 0), (256, 1, .iadd, (0, 0, 0), 0), (257, 1, .iastore, (0, 0, 0), 0), (258, 3, .iinc 5 1, (0, 0, 0), 0), (261, 3, .goto (-176), (49, 0, 0), 0), (264, 1, .iload_n 2, (0, 0, 0), 0), (265, 3, .ifCond .ne 7, (154, 0, 0), 0), (268, 1, .iload_n 3, (0, 0, 0), 0), (269, 3, .goto 5, (155, 0, 0), 0), (272, 2, .iload 4, (0, 0, 0), 0), (274, 1, .ireturn, (0, 0, 0), 0)]
-- AirBedModel.seek(II)I
def am_m117 : am_M := ((12, ⟨"AirBedModel", "seek", "(II)I"⟩, prog_14_method_92_code), (14, some .int, 2), (1, 22, 0, 0), am_m117_c0 ++ (am_m117_c1 ++ (am_m117_c2)))
def am_m118_c0 : List am_I := [(0, 1, .aload_n 0, (0, 0, 0), 0), (1, 1, .iconst 0, (0, 0, 0), 0), (2, 3, .putfield 139, (12, 2, 1386), 0), (5, 1, .iconst (-1), (0, 0, 0), 0), (6, 1, .istore_n 2, (0, 0, 0), 0), (7, 1, .iconst 0, (0, 0, 0), 0), (8, 1, .istore_n 3, (0, 0, 0), 0), (9, 1, .iload_n 3, (0, 0, 0), 0), (10, 1, .aload_n 0, (0, 0, 0), 0), (11, 3, .getfield 228, (12, 15, 1399), 0), (14, 3, .if_icmp .ge 45, (34, 0, 0), 0), (17, 1, .aload_n 0, (0, 0, 0), 0), (18, 3, .getfield 48, (12, 31, 1415), 0), (21, 1, .iload_n 3, (0, 0, 0), 0), (22, 1, .iaload, (0, 0, 0), 0), (23, 2, .bipush 100, (0, 0, 0), 0), (25, 3, .if_icmp .ne 26, (30, 0, 0), 0), (28, 1, .iload_n 2, (0, 0, 0), 0), (29, 3, .ifCond .lt 13, (25, 0, 0), 0), (32, 1, .aload_n 0, (0, 0, 0), 0), (33, 3, .getfield 51, (12, 32, 1416), 0), (36, 1, .iload_n 3, (0, 0, 0), 0), (37, 1, .iaload, (0, 0, 0), 0), (38, 1, .iload_n 2, (0, 0, 0), 0), (39, 3, .if_icmp .ge 12, (30, 0, 0), 0), (42, 1, .aload_n 0, (0, 0, 0), 0), (43, 3, .getfield 51, (12, 32, 1416), 0), (46, 1, .iload_n 3, (0, 0, 0), 0), (47, 1, .iaload, (0, 0, 0), 0), (48, 3, .goto 4, (31, 0, 0), 0), (51, 1, .iload_n 2, (0, 0, 0), 0), (52, 1, .istore_n 2, (0, 0, 0), 0), (53, 3, .iinc 3 1, (0, 0, 0), 0), (56, 3, .goto (-47), (7, 0, 0), 0), (59, 1, .iload_n 1, (0, 0, 0), 0), (60, 1, .iconst 0, (0, 0, 0), 0), (61, 1, .iconst 1, (0, 0, 0), 0), (62, 3, .invokestatic 184, (87, 1685, 3), 0), (65, 3, .ifCond .eq 14, (44, 0, 0), 0), (68, 1, .aload_n 0, (0, 0, 0), 0), (69, 3, .getfield 225, (12, 14, 1398), 0), (72, 3, .ifCond .eq 7, (44, 0, 0), 0), (75, 1, .iload_n 2, (0, 0, 0), 0), (76, 3, .ifCond .ge 5, (46, 0, 0), 0), (79, 1, .iconst (-1), (0, 0, 0), 0), (80, 1, .ireturn, (0, 0, 0), 0), (81, 1, .iconst 0, (0, 0, 0), 0), (82, 1, .istore_n 3, (0, 0, 0), 0), (83, 1, .iconst 0, (0, 0, 0), 0), (84, 2, .istore 4, (0, 0, 0), 0), (86, 1, .iconst 0, (0, 0, 0), 0), (87, 2, .istore 5, (0, 0, 0), 0), (89, 2, .iload 5, (0, 0, 0), 0), (91, 1, .aload_n 0, (0, 0, 0), 0), (92, 3, .getfield 225, (12, 14, 1398), 0), (95, 3, .if_icmp .ge 108, (113, 0, 0), 0), (98, 1, .iconst 1, (0, 0, 0), 0), (99, 2, .istore 6, (0, 0, 0), 0), (101, 1, .iconst 0, (0, 0, 0), 0), (102, 2, .istore 7, (0, 0, 0), 0)]
def am_m118_c1 : List am_I := [(104, 2, .iload 7, (0, 0, 0), 0), (106, 1, .aload_n 0, (0, 0, 0), 0), (107, 3, .getfield 225, (12, 14, 1398), 0), (110, 3, .if_icmp .ge 60, (93, 0, 0), 0), (113, 2, .iload 6, (0, 0, 0), 0), (115, 1, .aload_n 0, (0, 0, 0), 0), (116, 3, .getfield 39, (12, 28, 1412), 0), (119, 2, .iload 7, (0, 0, 0), 0), (121, 1, .iaload, (0, 0, 0), 0), (122, 1, .aload_n 0, (0, 0, 0), 0), (123, 3, .getfield 39, (12, 28, 1412), 0), (126, 2, .iload 5, (0, 0, 0), 0), (128, 1, .iaload, (0, 0, 0), 0), (129, 3, .if_icmp .gt 27, (86, 0, 0), 0), (132, 1, .aload_n 0, (0, 0, 0), 0), (133, 3, .getfield 39, (12, 28, 1412), 0), (136, 2, .iload 7, (0, 0, 0), 0), (138, 1, .iaload, (0, 0, 0), 0), (139, 1, .aload_n 0, (0, 0, 0), 0), (140, 3, .getfield 39, (12, 28, 1412), 0), (143, 2, .iload 5, (0, 0, 0), 0), (145, 1, .iaload, (0, 0, 0), 0), (146, 3, .if_icmp .ne 14, (88, 0, 0), 0), (149, 2, .iload 7, (0, 0, 0), 0), (151, 2, .iload 5, (0, 0, 0), 0), (153, 3, .if_icmp .ge 7, (88, 0, 0), 0), (156, 1, .iconst 1, (0, 0, 0), 0), (157, 3, .goto 4, (89, 0, 0), 0), (160, 1, .iconst 0, (0, 0, 0), 0), (161, 1, .iadd, (0, 0, 0), 0), (162, 2, .istore 6, (0, 0, 0), 0), (164, 3, .iinc 7 1, (0, 0, 0), 0), (167, 3, .goto (-63), (60, 0, 0), 0), (170, 1, .iload_n 3, (0, 0, 0), 0), (171, 2, .iload 6, (0, 0, 0), 0), (173, 1, .iload_n 2, (0, 0, 0), 0), (174, 1, .imul, (0, 0, 0), 0), (175, 1, .aload_n 0, (0, 0, 0), 0), (176, 3, .getfield 39, (12, 28, 1412), 0), (179, 2, .iload 5, (0, 0, 0), 0), (181, 1, .iaload, (0, 0, 0), 0), (182, 1, .imul, (0, 0, 0), 0), (183, 1, .iadd, (0, 0, 0), 0), (184, 1, .istore_n 3, (0, 0, 0), 0), (185, 2, .iload 4, (0, 0, 0), 0), (187, 1, .aload_n 0, (0, 0, 0), 0), (188, 3, .getfield 39, (12, 28, 1412), 0), (191, 2, .iload 5, (0, 0, 0), 0), (193, 1, .iaload, (0, 0, 0), 0), (194, 1, .iadd, (0, 0, 0), 0), (195, 2, .istore 4, (0, 0, 0), 0), (197, 3, .iinc 5 1, (0, 0, 0), 0), (200, 3, .goto (-111), (52, 0, 0), 0), (203, 1, .iload_n 3, (0, 0, 0), 0), (204, 2, .iload 4, (0, 0, 0), 0), (206, 3, .invokestatic 511, (999, 1976, 3), 0), (209, 2, .istore 5, (0, 0, 0), 0), (211, 1, .iload_n 1, (0, 0, 0), 0), (212, 3, .ifCond .ne 7, (121, 0, 0), 0), (215, 1, .iload_n 3, (0, 0, 0), 0)]
def am_m118_c2 : List am_I := [(216, 3, .goto 5, (122, 0, 0), 0), (219, 2, .iload 4, (0, 0, 0), 0), (221, 2, .iload 5, (0, 0, 0), 0), (223, 1, .idiv, (0, 0, 0), 0), (224, 1, .ireturn, (0, 0, 0), 0)]
-- AirBedModel.mean(I)I
def am_m118 : am_M := ((12, ⟨"AirBedModel", "mean", "(I)I"⟩, prog_14_method_94_code), (8, some .int, 1), (1, 22, 0, 0), am_m118_c0 ++ (am_m118_c1 ++ (am_m118_c2)))
def am_m119_c0 : List am_I := [(0, 1, .aload_n 0, (0, 0, 0), 0), (1, 1, .iconst 0, (0, 0, 0), 0), (2, 3, .putfield 139, (12, 2, 1386), 0), (5, 1, .iload_n 1, (0, 0, 0), 0), (6, 1, .iconst 0, (0, 0, 0), 0), (7, 1, .iconst 3, (0, 0, 0), 0), (8, 3, .invokestatic 184, (87, 1685, 3), 0), (11, 3, .ifCond .eq 21, (16, 0, 0), 0), (14, 1, .aload_n 0, (0, 0, 0), 0), (15, 3, .getfield 219, (12, 12, 1396), 0), (18, 3, .ifCond .eq 14, (16, 0, 0), 0), (21, 1, .iload_n 1, (0, 0, 0), 0), (22, 3, .ifCond .ne 12, (18, 0, 0), 0), (25, 1, .aload_n 0, (0, 0, 0), 0), (26, 3, .getfield 222, (12, 13, 1397), 0), (29, 3, .ifCond .ne 5, (18, 0, 0), 0), (32, 1, .iconst (-1), (0, 0, 0), 0), (33, 1, .ireturn, (0, 0, 0), 0), (34, 1, .aload_n 0, (0, 0, 0), 0), (35, 1, .iload_n 1, (0, 0, 0), 0), (36, 3, .invokevirtual 517, (999, 1983, 3), 0), (39, 1, .ireturn, (0, 0, 0), 0)]
-- AirBedModel.rule(I)I
def am_m119 : am_M := ((12, ⟨"AirBedModel", "rule", "(I)I"⟩, prog_14_method_97_code), (2, some .int, 1), (1, 22, 0, 0), am_m119_c0)
def am_m120_c0 : List am_I := [(0, 1, .aload_n 0, (0, 0, 0), 0), (1, 1, .iconst 0, (0, 0, 0), 0), (2, 3, .putfield 139, (12, 2, 1386), 0), (5, 1, .aload_n 0, (0, 0, 0), 0), (6, 3, .getfield 219, (12, 12, 1396), 0), (9, 3, .ifCond .ne 5, (8, 0, 0), 0), (12, 1, .iconst (-1), (0, 0, 0), 0), (13, 1, .ireturn, (0, 0, 0), 0), (14, 2, .bipush (-2), (0, 0, 0), 0), (16, 1, .istore_n 1, (0, 0, 0), 0), (17, 1, .iconst 0, (0, 0, 0), 0), (18, 1, .istore_n 2, (0, 0, 0), 0), (19, 1, .aload_n 0, (0, 0, 0), 0), (20, 3, .getfield 222, (12, 13, 1397), 0), (23, 3, .ifCond .ne 7, (17, 0, 0), 0), (26, 1, .iconst 1, (0, 0, 0), 0), (27, 3, .goto 4, (18, 0, 0), 0), (30, 1, .iconst 0, (0, 0, 0), 0), (31, 1, .istore_n 3, (0, 0, 0), 0), (32, 1, .iload_n 3, (0, 0, 0), 0), (33, 1, .iconst 4, (0, 0, 0), 0), (34, 3, .if_icmp .ge 39, (40, 0, 0), 0), (37, 1, .aload_n 0, (0, 0, 0), 0), (38, 1, .iload_n 3, (0, 0, 0), 0), (39, 3, .invokevirtual 517, (999, 1983, 3), 0), (42, 2, .istore 4, (0, 0, 0), 0), (44, 2, .iload 4, (0, 0, 0), 0), (46, 3, .ifCond .lt 21, (38, 0, 0), 0), (49, 1, .iload_n 1, (0, 0, 0), 0), (50, 3, .ifCond .lt 12, (34, 0, 0), 0), (53, 2, .iload 4, (0, 0, 0), 0), (55, 1, .iload_n 2, (0, 0, 0), 0), (56, 3, .if_icmp .lt 6, (34, 0, 0), 0), (59, 3, .goto 8, (38, 0, 0), 0), (62, 1, .iload_n 3, (0, 0, 0), 0), (63, 1, .istore_n 1, (0, 0, 0), 0), (64, 2, .iload 4, (0, 0, 0), 0), (66, 1, .istore_n 2, (0, 0, 0), 0), (67, 3, .iinc 3 1, (0, 0, 0), 0), (70, 3, .goto (-38), (19, 0, 0), 0), (73, 1, .iload_n 1, (0, 0, 0), 0), (74, 1, .ireturn, (0, 0, 0), 0)]
-- AirBedModel.fairest()I
def am_m120 : am_M := ((12, ⟨"AirBedModel", "fairest", "()I"⟩, prog_14_method_98_code), (5, some .int, 0), (0, 0, 0, 0), am_m120_c0)
def am_m121_c0 : List am_I := [(0, 1, .aload_n 0, (0, 0, 0), 0), (1, 1, .iconst 0, (0, 0, 0), 0), (2, 3, .putfield 139, (12, 2, 1386), 0), (5, 1, .aload_n 0, (0, 0, 0), 0), (6, 3, .getfield 368, (12, 73, 1457), 0), (9, 2, .bipush 24, (0, 0, 0), 0), (11, 3, .if_icmp .eq 41, (28, 0, 0), 0), (14, 1, .aload_n 0, (0, 0, 0), 0), (15, 1, .iload_n 1, (0, 0, 0), 0), (16, 3, .invokevirtual 420, (91, 1774, 3), 0), (19, 3, .ifCond .eq 33, (28, 0, 0), 0), (22, 1, .iload_n 2, (0, 0, 0), 0), (23, 1, .iconst 1, (0, 0, 0), 0), (24, 1, .aload_n 0, (0, 0, 0), 0), (25, 3, .getfield 30, (12, 25, 1409), 0), (28, 2, .bipush 7, (0, 0, 0), 0), (30, 1, .iload_n 1, (0, 0, 0), 0), (31, 1, .imul, (0, 0, 0), 0), (32, 1, .iconst 2, (0, 0, 0), 0), (33, 1, .iadd, (0, 0, 0), 0), (34, 1, .iaload, (0, 0, 0), 0), (35, 3, .invokestatic 184, (87, 1685, 3), 0), (38, 3, .ifCond .eq 14, (28, 0, 0), 0), (41, 1, .iload_n 3, (0, 0, 0), 0), (42, 1, .iconst 0, (0, 0, 0), 0), (43, 3, .sipush 9999, (0, 0, 0), 0), (46, 3, .invokestatic 184, (87, 1685, 3), 0), (49, 3, .ifCond .ne 7, (30, 0, 0), 0), (52, 1, .iconst (-1), (0, 0, 0), 0), (53, 3, .goto 20, (40, 0, 0), 0), (56, 1, .aload_n 0, (0, 0, 0), 0), (57, 1, .iload_n 1, (0, 0, 0), 0), (58, 1, .iload_n 2, (0, 0, 0), 0), (59, 1, .iload_n 3, (0, 0, 0), 0), (60, 2, .iload 4, (0, 0, 0), 0), (62, 3, .ifCond .eq 7, (38, 0, 0), 0), (65, 1, .iconst 1, (0, 0, 0), 0), (66, 3, .goto 4, (39, 0, 0), 0), (69, 1, .iconst 0, (0, 0, 0), 0), (70, 3, .invokevirtual 520, (999, 1999, 3), 0), (73, 1, .ireturn, (0, 0, 0), 0)]
-- AirBedModel.cheek(IIIZ)I
def am_m121 : am_M := ((12, ⟨"AirBedModel", "cheek", "(IIIZ)I"⟩, prog_14_method_100_code), (5, some .int, 4), (1, 22, 0, 0), am_m121_c0)
def am_m122_c0 : List am_I := [(0, 1, .aload_n 0, (0, 0, 0), 0), (1, 1, .iconst 0, (0, 0, 0), 0), (2, 3, .putfield 139, (12, 2, 1386), 0), (5, 1, .aload_n 0, (0, 0, 0), 0), (6, 3, .getfield 368, (12, 73, 1457), 0), (9, 2, .bipush 24, (0, 0, 0), 0), (11, 3, .if_icmp .eq 15, (13, 0, 0), 0), (14, 1, .iload_n 1, (0, 0, 0), 0), (15, 3, .ifCond .lt 11, (13, 0, 0), 0), (18, 1, .iload_n 1, (0, 0, 0), 0), (19, 1, .aload_n 0, (0, 0, 0), 0), (20, 3, .getfield 368, (12, 73, 1457), 0), (23, 3, .if_icmp .lt 7, (15, 0, 0), 0), (26, 1, .iconst (-1), (0, 0, 0), 0), (27, 3, .goto 11, (21, 0, 0), 0), (30, 1, .aload_n 0, (0, 0, 0), 0), (31, 1, .iconst (-1), (0, 0, 0), 0), (32, 1, .iload_n 1, (0, 0, 0), 0), (33, 1, .iconst 0, (0, 0, 0), 0), (34, 1, .iconst 0, (0, 0, 0), 0), (35, 3, .invokevirtual 520, (999, 1999, 3), 0), (38, 1, .ireturn, (0, 0, 0), 0)]
-- AirBedModel.strike(I)I
def am_m122 : am_M := ((12, ⟨"AirBedModel", "strike", "(I)I"⟩, prog_14_method_101_code), (2, some .int, 1), (0, 0, 0, 0), am_m122_c0)
def am_m123_c0 : List am_I := [(0, 1, .aload_n 0, (0, 0, 0), 0), (1, 1, .iconst 0, (0, 0, 0), 0), (2, 3, .putfield 139, (12, 2, 1386), 0), (5, 1, .iload_n 1, (0, 0, 0), 0), (6, 1, .iconst (-1), (0, 0, 0), 0), (7, 1, .aload_n 0, (0, 0, 0), 0), (8, 3, .getfield 368, (12, 73, 1457), 0), (11, 3, .invokestatic 184, (87, 1685, 3), 0), (14, 3, .ifCond .ne 5, (11, 0, 0), 0), (17, 1, .iconst 0, (0, 0, 0), 0), (18, 1, .ireturn, (0, 0, 0), 0), (19, 1, .aload_n 0, (0, 0, 0), 0), (20, 1, .iload_n 1, (0, 0, 0), 0), (21, 3, .putfield 118, (12, 74, 1458), 0), (24, 1, .iconst 1, (0, 0, 0), 0), (25, 1, .ireturn, (0, 0, 0), 0)]
-- AirBedModel.known(I)Z
def am_m123 : am_M := ((12, ⟨"AirBedModel", "known", "(I)Z"⟩, prog_14_method_102_code), (2, some .boolean, 1), (1, 22, 0, 0), am_m123_c0)
def am_m124_c0 : List am_I := [(0, 1, .aload_n 0, (0, 0, 0), 0), (1, 1, .iconst 0, (0, 0, 0), 0), (2, 3, .putfield 139, (12, 2, 1386), 0), (5, 1, .iconst 0, (0, 0, 0), 0), (6, 1, .istore_n 1, (0, 0, 0), 0), (7, 1, .iload_n 1, (0, 0, 0), 0), (8, 1, .aload_n 0, (0, 0, 0), 0), (9, 3, .invokevirtual 524, (125, 2015, 3), 0), (12, 3, .if_icmp .ge 16, (16, 0, 0), 0), (15, 1, .aload_n 0, (0, 0, 0), 0), (16, 3, .getfield 124, (12, 76, 1460), 0), (19, 1, .iload_n 1, (0, 0, 0), 0), (20, 1, .iconst 1, (0, 0, 0), 0), (21, 1, .bastore, (0, 0, 0), 0), (22, 3, .iinc 1 1, (0, 0, 0), 0), (25, 3, .goto (-18), (5, 0, 0), 0), (28, 1, .aload_n 0, (0, 0, 0), 0), (29, 3, .invokevirtual 524, (125, 2015, 3), 0), (32, 1, .iconst 1, (0, 0, 0), 0), (33, 1, .isub, (0, 0, 0), 0), (34, 1, .istore_n 1, (0, 0, 0), 0), (35, 1, .iload_n 1, (0, 0, 0), 0), (36, 3, .ifCond .lt 45, (49, 0, 0), 0), (39, 1, .aload_n 0, (0, 0, 0), 0), (40, 3, .getfield 124, (12, 76, 1460), 0), (43, 1, .iload_n 1, (0, 0, 0), 0), (44, 1, .baload, (0, 0, 0), 0), (45, 3, .ifCond .eq 30, (47, 0, 0), 0), (48, 1, .aload_n 0, (0, 0, 0), 0), (49, 3, .getfield 121, (12, 75, 1459), 0), (52, 1, .iconst 4, (0, 0, 0), 0), (53, 1, .iload_n 1, (0, 0, 0), 0), (54, 1, .imul, (0, 0, 0), 0), (55, 1, .iaload, (0, 0, 0), 0), (56, 3, .ifCond .ge 19, (47, 0, 0), 0), (59, 1, .aload_n 0, (0, 0, 0), 0), (60, 3, .getfield 124, (12, 76, 1460), 0), (63, 1, .aload_n 0, (0, 0, 0), 0), (64, 3, .getfield 121, (12, 75, 1459), 0), (67, 1, .iconst 4, (0, 0, 0), 0), (68, 1, .iload_n 1, (0, 0, 0), 0), (69, 1, .imul, (0, 0, 0), 0), (70, 1, .iconst 1, (0, 0, 0), 0), (71, 1, .iadd, (0, 0, 0), 0), (72, 1, .iaload, (0, 0, 0), 0), (73, 1, .iconst 0, (0, 0, 0), 0), (74, 1, .bastore, (0, 0, 0), 0), (75, 3, .iinc 1 (-1), (0, 0, 0), 0), (78, 3, .goto (-43), (21, 0, 0), 0), (81, 1, .iconst 0, (0, 0, 0), 0), (82, 1, .istore_n 1, (0, 0, 0), 0), (83, 1, .aload_n 0, (0, 0, 0), 0), (84, 3, .getfield 349, (12, 57, 1441), 0), (87, 1, .istore_n 2, (0, 0, 0), 0), (88, 1, .aload_n 0, (0, 0, 0), 0), (89, 1, .iconst 0, (0, 0, 0), 0), (90, 3, .putfield 349, (12, 57, 1441), 0), (93, 1, .iconst 0, (0, 0, 0), 0), (94, 1, .istore_n 3, (0, 0, 0), 0), (95, 1, .iload_n 3, (0, 0, 0), 0)]
def am_m124_c1 : List am_I := [(96, 1, .aload_n 0, (0, 0, 0), 0), (97, 3, .getfield 225, (12, 14, 1398), 0), (100, 3, .if_icmp .gt 31, (79, 0, 0), 0), (103, 1, .aload_n 0, (0, 0, 0), 0), (104, 1, .iload_n 3, (0, 0, 0), 0), (105, 3, .putfield 106, (12, 62, 1446), 0), (108, 1, .iload_n 1, (0, 0, 0), 0), (109, 1, .aload_n 0, (0, 0, 0), 0), (110, 3, .invokevirtual 527, (126, 2019, 3), 0), (113, 3, .ifCond .eq 9, (74, 0, 0), 0), (116, 1, .iconst 1, (0, 0, 0), 0), (117, 1, .iload_n 3, (0, 0, 0), 0), (118, 1, .ishl, (0, 0, 0), 0), (119, 3, .goto 4, (75, 0, 0), 0), (122, 1, .iconst 0, (0, 0, 0), 0), (123, 1, .ior, (0, 0, 0), 0), (124, 1, .istore_n 1, (0, 0, 0), 0), (125, 3, .iinc 3 1, (0, 0, 0), 0), (128, 3, .goto (-33), (59, 0, 0), 0), (131, 1, .aload_n 0, (0, 0, 0), 0), (132, 1, .iload_n 2, (0, 0, 0), 0), (133, 3, .putfield 349, (12, 57, 1441), 0), (136, 1, .aload_n 0, (0, 0, 0), 0), (137, 1, .iconst (-1), (0, 0, 0), 0), (138, 3, .putfield 106, (12, 62, 1446), 0), (141, 1, .iload_n 1, (0, 0, 0), 0), (142, 1, .ireturn, (0, 0, 0), 0)]
-- AirBedModel.fits()I
def am_m124 : am_M := ((12, ⟨"AirBedModel", "fits", "()I"⟩, prog_14_method_105_code), (4, some .int, 0), (2, 45, 0, 0), am_m124_c0 ++ (am_m124_c1))
def am_m125_c0 : List am_I := [(0, 1, .aload_n 0, (0, 0, 0), 0), (1, 3, .getfield 118, (12, 74, 1458), 0), (4, 3, .ifCond .ge 10, (6, 0, 0), 0), (7, 1, .aload_n 0, (0, 0, 0), 0), (8, 3, .getfield 368, (12, 73, 1457), 0), (11, 3, .goto 7, (8, 0, 0), 0), (14, 1, .aload_n 0, (0, 0, 0), 0), (15, 3, .getfield 118, (12, 74, 1458), 0), (18, 1, .ireturn, (0, 0, 0), 0)]
-- AirBedModel.knownBy()I
def am_m125 : am_M := ((12, ⟨"AirBedModel", "knownBy", "()I"⟩, prog_14_method_103_code), (1, some .int, 0), (0, 0, 0, 0), am_m125_c0)
def am_m126_c0 : List am_I := [(0, 1, .iconst 0, (0, 0, 0), 0), (1, 1, .istore_n 1, (0, 0, 0), 0), (2, 1, .iload_n 1, (0, 0, 0), 0), (3, 1, .aload_n 0, (0, 0, 0), 0), (4, 3, .invokevirtual 524, (125, 2015, 3), 0), (7, 3, .if_icmp .ge 118, (79, 0, 0), 0), (10, 1, .aload_n 0, (0, 0, 0), 0), (11, 3, .getfield 121, (12, 75, 1459), 0), (14, 1, .iconst 4, (0, 0, 0), 0), (15, 1, .iload_n 1, (0, 0, 0), 0), (16, 1, .imul, (0, 0, 0), 0), (17, 1, .iaload, (0, 0, 0), 0), (18, 1, .istore_n 2, (0, 0, 0), 0), (19, 1, .aload_n 0, (0, 0, 0), 0), (20, 3, .getfield 124, (12, 76, 1460), 0), (23, 1, .iload_n 1, (0, 0, 0), 0), (24, 1, .baload, (0, 0, 0), 0), (25, 3, .ifCond .eq 94, (77, 0, 0), 0), (28, 1, .iload_n 2, (0, 0, 0), 0), (29, 3, .ifCond .ge 6, (21, 0, 0), 0), (32, 3, .goto 87, (77, 0, 0), 0), (35, 1, .aload_n 0, (0, 0, 0), 0), (36, 1, .iconst 1, (0, 0, 0), 0), (37, 3, .invokevirtual 346, (82, 1372, 3), 0), (40, 1, .iconst 0, (0, 0, 0), 0), (41, 1, .istore_n 3, (0, 0, 0), 0), (42, 1, .iload_n 3, (0, 0, 0), 0), (43, 1, .aload_n 0, (0, 0, 0), 0), (44, 3, .getfield 121, (12, 75, 1459), 0), (47, 1, .iconst 4, (0, 0, 0), 0), (48, 1, .iload_n 1, (0, 0, 0), 0), (49, 1, .imul, (0, 0, 0), 0), (50, 1, .iconst 1, (0, 0, 0), 0), (51, 1, .iadd, (0, 0, 0), 0), (52, 1, .iaload, (0, 0, 0), 0), (53, 3, .if_icmp .ge 16, (43, 0, 0), 0), (56, 1, .aload_n 0, (0, 0, 0), 0), (57, 1, .iconst 1, (0, 0, 0), 0), (58, 1, .iload_n 2, (0, 0, 0), 0), (59, 3, .invokevirtual 476, (999, 1915, 3), 0), (62, 1, .pop, (0, 0, 0), 0), (63, 3, .iinc 3 1, (0, 0, 0), 0), (66, 3, .goto (-24), (26, 0, 0), 0), (69, 1, .aload_n 0, (0, 0, 0), 0), (70, 3, .getfield 85, (12, 50, 1434), 0), (73, 1, .iconst 1, (0, 0, 0), 0), (74, 1, .iaload, (0, 0, 0), 0), (75, 1, .aload_n 0, (0, 0, 0), 0), (76, 3, .getfield 121, (12, 75, 1459), 0), (79, 1, .iconst 4, (0, 0, 0), 0), (80, 1, .iload_n 1, (0, 0, 0), 0), (81, 1, .imul, (0, 0, 0), 0), (82, 1, .iconst 2, (0, 0, 0), 0), (83, 1, .iadd, (0, 0, 0), 0), (84, 1, .iaload, (0, 0, 0), 0), (85, 3, .if_icmp .lt 7, (58, 0, 0), 0), (88, 1, .iconst 1, (0, 0, 0), 0), (89, 3, .goto 4, (59, 0, 0), 0), (92, 1, .iconst 0, (0, 0, 0), 0), (93, 1, .istore_n 3, (0, 0, 0), 0)]
def am_m126_c1 : List am_I := [(94, 1, .iload_n 3, (0, 0, 0), 0), (95, 1, .aload_n 0, (0, 0, 0), 0), (96, 3, .getfield 121, (12, 75, 1459), 0), (99, 1, .iconst 4, (0, 0, 0), 0), (100, 1, .iload_n 1, (0, 0, 0), 0), (101, 1, .imul, (0, 0, 0), 0), (102, 1, .iconst 3, (0, 0, 0), 0), (103, 1, .iadd, (0, 0, 0), 0), (104, 1, .iaload, (0, 0, 0), 0), (105, 1, .iconst 1, (0, 0, 0), 0), (106, 3, .if_icmp .ne 7, (73, 0, 0), 0), (109, 1, .iconst 1, (0, 0, 0), 0), (110, 3, .goto 4, (74, 0, 0), 0), (113, 1, .iconst 0, (0, 0, 0), 0), (114, 3, .if_icmp .eq 5, (77, 0, 0), 0), (117, 1, .iconst 0, (0, 0, 0), 0), (118, 1, .ireturn, (0, 0, 0), 0), (119, 3, .iinc 1 1, (0, 0, 0), 0), (122, 3, .goto (-120), (2, 0, 0), 0), (125, 1, .iconst 1, (0, 0, 0), 0), (126, 1, .ireturn, (0, 0, 0), 0)]
-- AirBedModel.isSo()Z
def am_m126 : am_M := ((12, ⟨"AirBedModel", "isSo", "()Z"⟩, prog_14_method_104_code), (4, some .boolean, 0), (1, 22, 0, 0), am_m126_c0 ++ (am_m126_c1))
def am_m127_c0 : List am_I := [(0, 1, .aload_n 0, (0, 0, 0), 0), (1, 1, .iconst 0, (0, 0, 0), 0), (2, 3, .putfield 139, (12, 2, 1386), 0), (5, 1, .iload_n 1, (0, 0, 0), 0), (6, 3, .ifCond .lt 25, (15, 0, 0), 0), (9, 1, .iload_n 2, (0, 0, 0), 0), (10, 1, .iconst 1, (0, 0, 0), 0), (11, 3, .sipush 600, (0, 0, 0), 0), (14, 3, .invokestatic 184, (87, 1685, 3), 0), (17, 3, .ifCond .eq 14, (15, 0, 0), 0), (20, 1, .iload_n 3, (0, 0, 0), 0), (21, 1, .iconst 0, (0, 0, 0), 0), (22, 3, .sipush 9999, (0, 0, 0), 0), (25, 3, .invokestatic 184, (87, 1685, 3), 0), (28, 3, .ifCond .ne 5, (17, 0, 0), 0), (31, 1, .iconst (-1), (0, 0, 0), 0), (32, 1, .ireturn, (0, 0, 0), 0), (33, 1, .aload_n 0, (0, 0, 0), 0), (34, 3, .getfield 358, (12, 59, 1443), 0), (37, 2, .lstore 4, (0, 0, 0), 0), (39, 1, .aload_n 0, (0, 0, 0), 0), (40, 1, .iload_n 1, (0, 0, 0), 0), (41, 1, .i2l, (0, 0, 0), 0), (42, 3, .putfield 358, (12, 59, 1443), 0), (45, 1, .iconst 0, (0, 0, 0), 0), (46, 2, .istore 6, (0, 0, 0), 0), (48, 1, .iconst 0, (0, 0, 0), 0), (49, 2, .istore 7, (0, 0, 0), 0), (51, 2, .iload 7, (0, 0, 0), 0), (53, 2, .bipush 10, (0, 0, 0), 0), (55, 3, .if_icmp .ge 81, (73, 0, 0), 0), (58, 1, .aload_n 0, (0, 0, 0), 0), (59, 1, .iconst 1, (0, 0, 0), 0), (60, 1, .iconst 0, (0, 0, 0), 0), (61, 3, .invokevirtual 428, (97, 1824, 3), 0), (64, 1, .iconst 0, (0, 0, 0), 0), (65, 2, .istore 8, (0, 0, 0), 0), (67, 2, .iload 8, (0, 0, 0), 0), (69, 1, .iload_n 2, (0, 0, 0), 0), (70, 3, .if_icmp .ge 40, (59, 0, 0), 0), (73, 1, .aload_n 0, (0, 0, 0), 0), (74, 3, .sipush 1000, (0, 0, 0), 0), (77, 3, .invokevirtual 365, (83, 1376, 3), 0), (80, 1, .aload_n 0, (0, 0, 0), 0), (81, 3, .getfield 24, (12, 23, 1407), 0), (84, 1, .iconst 4, (0, 0, 0), 0), (85, 1, .iaload, (0, 0, 0), 0), (86, 3, .if_icmp .ge 7, (50, 0, 0), 0), (89, 1, .iconst 1, (0, 0, 0), 0), (90, 3, .goto 4, (51, 0, 0), 0), (93, 1, .iconst 0, (0, 0, 0), 0), (94, 2, .istore 9, (0, 0, 0), 0), (96, 1, .aload_n 0, (0, 0, 0), 0), (97, 1, .iconst 1, (0, 0, 0), 0), (98, 2, .iload 9, (0, 0, 0), 0), (100, 1, .iconst 0, (0, 0, 0), 0), (101, 3, .invokevirtual 434, (98, 1832, 3), 0), (104, 3, .iinc 8 1, (0, 0, 0), 0), (107, 3, .goto (-40), (37, 0, 0), 0), (110, 2, .iload 6, (0, 0, 0), 0)]
def am_m127_c1 : List am_I := [(112, 1, .aload_n 0, (0, 0, 0), 0), (113, 3, .getfield 85, (12, 50, 1434), 0), (116, 1, .iconst 1, (0, 0, 0), 0), (117, 1, .iaload, (0, 0, 0), 0), (118, 1, .iload_n 3, (0, 0, 0), 0), (119, 3, .if_icmp .lt 7, (68, 0, 0), 0), (122, 1, .iconst 1, (0, 0, 0), 0), (123, 3, .goto 4, (69, 0, 0), 0), (126, 1, .iconst 0, (0, 0, 0), 0), (127, 1, .iadd, (0, 0, 0), 0), (128, 2, .istore 6, (0, 0, 0), 0), (130, 3, .iinc 7 1, (0, 0, 0), 0), (133, 3, .goto (-82), (28, 0, 0), 0), (136, 1, .aload_n 0, (0, 0, 0), 0), (137, 2, .lload 4, (0, 0, 0), 0), (139, 3, .putfield 358, (12, 59, 1443), 0), (142, 2, .iload 6, (0, 0, 0), 0), (144, 1, .ireturn, (0, 0, 0), 0)]
-- AirBedModel.chance(III)I
def am_m127 : am_M := ((12, ⟨"AirBedModel", "chance", "(III)I"⟩, prog_14_method_106_code), (10, some .int, 3), (4, 96, 0, 0), am_m127_c0 ++ (am_m127_c1))
def am_m128_c0 : List am_I := [(0, 1, .aload_n 0, (0, 0, 0), 0), (1, 1, .iconst 0, (0, 0, 0), 0), (2, 3, .putfield 139, (12, 2, 1386), 0), (5, 1, .iload_n 1, (0, 0, 0), 0), (6, 1, .iconst 0, (0, 0, 0), 0), (7, 1, .iconst 4, (0, 0, 0), 0), (8, 3, .invokestatic 184, (87, 1685, 3), 0), (11, 3, .ifCond .eq 52, (33, 0, 0), 0), (14, 1, .iload_n 3, (0, 0, 0), 0), (15, 1, .iconst 0, (0, 0, 0), 0), (16, 3, .sipush 3600, (0, 0, 0), 0), (19, 3, .invokestatic 184, (87, 1685, 3), 0), (22, 3, .ifCond .eq 41, (33, 0, 0), 0), (25, 1, .iload_n 1, (0, 0, 0), 0), (26, 1, .iconst 4, (0, 0, 0), 0), (27, 3, .if_icmp .ne 18, (23, 0, 0), 0), (30, 1, .iload_n 2, (0, 0, 0), 0), (31, 3, .ifCond .lt 32, (33, 0, 0), 0), (34, 1, .iload_n 2, (0, 0, 0), 0), (35, 1, .aload_n 0, (0, 0, 0), 0), (36, 3, .getfield 225, (12, 14, 1398), 0), (39, 3, .if_icmp .lt 10, (25, 0, 0), 0), (42, 3, .goto 21, (33, 0, 0), 0), (45, 1, .iload_n 2, (0, 0, 0), 0), (46, 3, .ifCond .ne 17, (33, 0, 0), 0), (49, 1, .iload_n 1, (0, 0, 0), 0), (50, 1, .iconst 3, (0, 0, 0), 0), (51, 3, .if_icmp .ne 14, (35, 0, 0), 0), (54, 1, .aload_n 0, (0, 0, 0), 0), (55, 3, .getfield 24, (12, 23, 1407), 0), (58, 1, .iconst 2, (0, 0, 0), 0), (59, 1, .iaload, (0, 0, 0), 0), (60, 3, .ifCond .ne 5, (35, 0, 0), 0), (63, 1, .iconst (-1), (0, 0, 0), 0), (64, 1, .ireturn, (0, 0, 0), 0), (65, 1, .aload_n 0, (0, 0, 0), 0), (66, 1, .iconst 1, (0, 0, 0), 0), (67, 1, .iconst 0, (0, 0, 0), 0), (68, 3, .invokevirtual 428, (97, 1824, 3), 0), (71, 1, .aload_n 0, (0, 0, 0), 0), (72, 1, .iload_n 1, (0, 0, 0), 0), (73, 3, .ifCond .ne 7, (44, 0, 0), 0), (76, 1, .iconst 1, (0, 0, 0), 0), (77, 3, .goto 4, (45, 0, 0), 0), (80, 1, .iconst 0, (0, 0, 0), 0), (81, 3, .putfield 352, (12, 60, 1444), 0), (84, 1, .aload_n 0, (0, 0, 0), 0), (85, 1, .iload_n 1, (0, 0, 0), 0), (86, 1, .iconst 2, (0, 0, 0), 0), (87, 3, .if_icmp .ne 7, (52, 0, 0), 0), (90, 1, .iconst 1, (0, 0, 0), 0), (91, 3, .goto 4, (53, 0, 0), 0), (94, 1, .iconst 0, (0, 0, 0), 0), (95, 3, .putfield 355, (12, 61, 1445), 0), (98, 1, .aload_n 0, (0, 0, 0), 0), (99, 1, .iload_n 1, (0, 0, 0), 0), (100, 1, .iconst 4, (0, 0, 0), 0), (101, 3, .if_icmp .ne 7, (60, 0, 0), 0), (104, 1, .iload_n 2, (0, 0, 0), 0), (105, 3, .goto 4, (61, 0, 0), 0)]
def am_m128_c1 : List am_I := [(108, 1, .iconst (-1), (0, 0, 0), 0), (109, 3, .putfield 106, (12, 62, 1446), 0), (112, 1, .iconst 0, (0, 0, 0), 0), (113, 2, .istore 4, (0, 0, 0), 0), (115, 2, .iload 4, (0, 0, 0), 0), (117, 1, .iload_n 3, (0, 0, 0), 0), (118, 3, .if_icmp .ge 34, (84, 0, 0), 0), (121, 1, .aload_n 0, (0, 0, 0), 0), (122, 1, .iconst 1, (0, 0, 0), 0), (123, 1, .iload_n 1, (0, 0, 0), 0), (124, 1, .iconst 1, (0, 0, 0), 0), (125, 3, .if_icmp .ne 7, (74, 0, 0), 0), (128, 1, .iconst 1, (0, 0, 0), 0), (129, 3, .goto 4, (75, 0, 0), 0), (132, 1, .iconst 0, (0, 0, 0), 0), (133, 1, .iload_n 1, (0, 0, 0), 0), (134, 1, .iconst 3, (0, 0, 0), 0), (135, 3, .if_icmp .ne 7, (80, 0, 0), 0), (138, 1, .iconst 1, (0, 0, 0), 0), (139, 3, .goto 4, (81, 0, 0), 0), (142, 1, .iconst 0, (0, 0, 0), 0), (143, 3, .invokevirtual 434, (98, 1832, 3), 0), (146, 3, .iinc 4 1, (0, 0, 0), 0), (149, 3, .goto (-34), (64, 0, 0), 0), (152, 1, .aload_n 0, (0, 0, 0), 0), (153, 1, .iconst 0, (0, 0, 0), 0), (154, 3, .putfield 352, (12, 60, 1444), 0), (157, 1, .aload_n 0, (0, 0, 0), 0), (158, 1, .iconst 0, (0, 0, 0), 0), (159, 3, .putfield 355, (12, 61, 1445), 0), (162, 1, .aload_n 0, (0, 0, 0), 0), (163, 1, .iconst (-1), (0, 0, 0), 0), (164, 3, .putfield 106, (12, 62, 1446), 0), (167, 1, .aload_n 0, (0, 0, 0), 0), (168, 3, .getfield 85, (12, 50, 1434), 0), (171, 1, .iconst 1, (0, 0, 0), 0), (172, 1, .iaload, (0, 0, 0), 0), (173, 1, .ireturn, (0, 0, 0), 0)]
-- AirBedModel.tried(III)I
def am_m128 : am_M := ((12, ⟨"AirBedModel", "tried", "(III)I"⟩, prog_14_method_107_code), (5, some .int, 3), (4, 96, 0, 0), am_m128_c0 ++ (am_m128_c1))
def am_m129_c0 : List am_I := [(0, 1, .aload_n 0, (0, 0, 0), 0), (1, 1, .iconst 0, (0, 0, 0), 0), (2, 3, .putfield 139, (12, 2, 1386), 0), (5, 1, .aload_n 0, (0, 0, 0), 0), (6, 3, .getfield 371, (12, 77, 1461), 0), (9, 3, .ifCond .ne 5, (8, 0, 0), 0), (12, 1, .iconst (-1), (0, 0, 0), 0), (13, 1, .ireturn, (0, 0, 0), 0), (14, 1, .aload_n 0, (0, 0, 0), 0), (15, 1, .dup, (0, 0, 0), 0), (16, 3, .getfield 371, (12, 77, 1461), 0), (19, 1, .iconst 1, (0, 0, 0), 0), (20, 1, .isub, (0, 0, 0), 0), (21, 3, .putfield 371, (12, 77, 1461), 0), (24, 1, .aload_n 0, (0, 0, 0), 0), (25, 1, .aload_n 0, (0, 0, 0), 0), (26, 3, .getfield 127, (12, 78, 1462), 0), (29, 2, .bipush 17, (0, 0, 0), 0), (31, 1, .aload_n 0, (0, 0, 0), 0), (32, 3, .getfield 371, (12, 77, 1461), 0), (35, 1, .imul, (0, 0, 0), 0), (36, 3, .invokevirtual 533, (999, 2035, 3), 0), (39, 1, .aload_n 0, (0, 0, 0), 0), (40, 3, .getfield 371, (12, 77, 1461), 0), (43, 1, .ireturn, (0, 0, 0), 0)]
-- AirBedModel.undo()I
def am_m129 : am_M := ((12, ⟨"AirBedModel", "undo", "()I"⟩, prog_14_method_111_code), (1, some .int, 0), (0, 0, 0, 0), am_m129_c0)
def am_m130_c0 : List am_I := [(0, 1, .aload_n 0, (0, 0, 0), 0), (1, 1, .iconst 0, (0, 0, 0), 0), (2, 3, .putfield 139, (12, 2, 1386), 0), (5, 1, .aload_n 0, (0, 0, 0), 0), (6, 1, .iconst 1, (0, 0, 0), 0), (7, 3, .putfield 374, (12, 79, 1463), 0), (10, 1, .aload_n 0, (0, 0, 0), 0), (11, 1, .aload_n 0, (0, 0, 0), 0), (12, 3, .getfield 130, (12, 80, 1464), 0), (15, 1, .iconst 0, (0, 0, 0), 0), (16, 3, .invokevirtual 530, (102, 1867, 3), 0), (19, 1, .aload_n 0, (0, 0, 0), 0), (20, 3, .getfield 88, (12, 51, 1435), 0), (23, 1, .iconst 0, (0, 0, 0), 0), (24, 1, .iaload, (0, 0, 0), 0), (25, 1, .ireturn, (0, 0, 0), 0)]
-- AirBedModel.keep()I
def am_m130 : am_M := ((12, ⟨"AirBedModel", "keep", "()I"⟩, prog_14_method_112_code), (1, some .int, 0), (1, 23, 0, 0), am_m130_c0)
def am_m131_c0 : List am_I := [(0, 1, .aload_n 0, (0, 0, 0), 0), (1, 1, .iconst 0, (0, 0, 0), 0), (2, 3, .putfield 139, (12, 2, 1386), 0), (5, 1, .aload_n 0, (0, 0, 0), 0), (6, 3, .getfield 374, (12, 79, 1463), 0), (9, 3, .ifCond .ne 5, (8, 0, 0), 0), (12, 1, .iconst (-1), (0, 0, 0), 0), (13, 1, .ireturn, (0, 0, 0), 0), (14, 1, .aload_n 0, (0, 0, 0), 0), (15, 1, .aload_n 0, (0, 0, 0), 0), (16, 3, .getfield 130, (12, 80, 1464), 0), (19, 1, .iconst 0, (0, 0, 0), 0), (20, 3, .invokevirtual 533, (999, 2035, 3), 0), (23, 1, .aload_n 0, (0, 0, 0), 0), (24, 1, .iconst 0, (0, 0, 0), 0), (25, 3, .putfield 371, (12, 77, 1461), 0), (28, 1, .aload_n 0, (0, 0, 0), 0), (29, 3, .getfield 88, (12, 51, 1435), 0), (32, 1, .iconst 0, (0, 0, 0), 0), (33, 1, .iaload, (0, 0, 0), 0), (34, 1, .ireturn, (0, 0, 0), 0)]
-- AirBedModel.back()I
def am_m131 : am_M := ((12, ⟨"AirBedModel", "back", "()I"⟩, prog_14_method_113_code), (1, some .int, 0), (0, 0, 0, 0), am_m131_c0)
def am_m132_c0 : List am_I := [(0, 1, .aload_n 0, (0, 0, 0), 0), (1, 1, .iconst 0, (0, 0, 0), 0), (2, 3, .putfield 139, (12, 2, 1386), 0), (5, 1, .iload_n 1, (0, 0, 0), 0), (6, 70, .tableswitch 163 0 13 #[70, 77, 84, 89, 94, 99, 104, 109, 116, 123, 143, 148, 153, 158], (0, 0, 0), 0), (76, 1, .aload_n 0, (0, 0, 0), 0), (77, 3, .getfield 24, (12, 23, 1407), 0), (80, 1, .iconst 0, (0, 0, 0), 0), (81, 1, .iaload, (0, 0, 0), 0), (82, 1, .ireturn, (0, 0, 0), 0), (83, 1, .aload_n 0, (0, 0, 0), 0), (84, 3, .getfield 85, (12, 50, 1434), 0), (87, 1, .iconst 0, (0, 0, 0), 0), (88, 1, .iaload, (0, 0, 0), 0), (89, 1, .ireturn, (0, 0, 0), 0), (90, 1, .aload_n 0, (0, 0, 0), 0), (91, 3, .getfield 219, (12, 12, 1396), 0), (94, 1, .ireturn, (0, 0, 0), 0), (95, 1, .aload_n 0, (0, 0, 0), 0), (96, 3, .getfield 222, (12, 13, 1397), 0), (99, 1, .ireturn, (0, 0, 0), 0), (100, 1, .aload_n 0, (0, 0, 0), 0), (101, 3, .getfield 225, (12, 14, 1398), 0), (104, 1, .ireturn, (0, 0, 0), 0), (105, 1, .aload_n 0, (0, 0, 0), 0), (106, 3, .getfield 228, (12, 15, 1399), 0), (109, 1, .ireturn, (0, 0, 0), 0), (110, 1, .aload_n 0, (0, 0, 0), 0), (111, 3, .getfield 231, (12, 16, 1400), 0), (114, 1, .ireturn, (0, 0, 0), 0), (115, 1, .aload_n 0, (0, 0, 0), 0), (116, 3, .getfield 88, (12, 51, 1435), 0), (119, 1, .iconst 0, (0, 0, 0), 0), (120, 1, .iaload, (0, 0, 0), 0), (121, 1, .ireturn, (0, 0, 0), 0), (122, 1, .aload_n 0, (0, 0, 0), 0), (123, 3, .getfield 103, (12, 56, 1440), 0), (126, 1, .iconst 0, (0, 0, 0), 0), (127, 1, .iaload, (0, 0, 0), 0), (128, 1, .ireturn, (0, 0, 0), 0), (129, 1, .aload_n 0, (0, 0, 0), 0), (130, 3, .getfield 91, (12, 52, 1436), 0), (133, 1, .iconst 0, (0, 0, 0), 0), (134, 1, .iaload, (0, 0, 0), 0), (135, 3, .ifCond .ge 7, (47, 0, 0), 0), (138, 1, .iconst (-1), (0, 0, 0), 0), (139, 3, .goto 9, (51, 0, 0), 0), (142, 1, .aload_n 0, (0, 0, 0), 0), (143, 3, .getfield 91, (12, 52, 1436), 0), (146, 1, .iconst 0, (0, 0, 0), 0), (147, 1, .iaload, (0, 0, 0), 0), (148, 1, .ireturn, (0, 0, 0), 0), (149, 1, .aload_n 0, (0, 0, 0), 0), (150, 3, .getfield 349, (12, 57, 1441), 0), (153, 1, .ireturn, (0, 0, 0), 0), (154, 1, .aload_n 0, (0, 0, 0), 0), (155, 3, .getfield 368, (12, 73, 1457), 0), (158, 1, .ireturn, (0, 0, 0), 0), (159, 1, .aload_n 0, (0, 0, 0), 0), (160, 3, .invokevirtual 524, (125, 2015, 3), 0)]
def am_m132_c1 : List am_I := [(163, 1, .ireturn, (0, 0, 0), 0), (164, 1, .aload_n 0, (0, 0, 0), 0), (165, 3, .getfield 371, (12, 77, 1461), 0), (168, 1, .ireturn, (0, 0, 0), 0), (169, 1, .iconst (-1), (0, 0, 0), 0), (170, 1, .ireturn, (0, 0, 0), 0)]
-- AirBedModel.count(I)I
def am_m132 : am_M := ((12, ⟨"AirBedModel", "count", "(I)I"⟩, prog_14_method_114_code), (2, some .int, 1), (1, 20, 0, 0), am_m132_c0 ++ (am_m132_c1))
def am_m133_c0 : List am_I := [(0, 3, .new 8, (0, 141, 0), 0), (3, 1, .dup, (0, 0, 0), 0), (4, 3, .invokespecial 17, (0, 143, 3), 0), (7, 1, .astore_n 1, (0, 0, 0), 0), (8, 3, .new 18, (12, 1351, 0), 0), (11, 1, .dup, (0, 0, 0), 0), (12, 3, .invokespecial 20, (77, 1353, 3), 0), (15, 1, .astore_n 2, (0, 0, 0), 0), (16, 1, .iconst 1, (0, 0, 0), 0), (17, 2, .newarray .long, (0, 0, 197), 0), (19, 1, .astore_n 3, (0, 0, 0), 0), (20, 1, .iconst 0, (0, 0, 0), 0), (21, 2, .istore 4, (0, 0, 0), 0), (23, 2, .iload 4, (0, 0, 0), 0), (25, 1, .aload_n 0, (0, 0, 0), 0), (26, 1, .arraylength, (0, 0, 0), 0), (27, 2, .bipush 6, (0, 0, 0), 0), (29, 1, .isub, (0, 0, 0), 0), (30, 3, .if_icmp .gt 1317, (843, 0, 0), 0), (33, 1, .aload_n 0, (0, 0, 0), 0), (34, 2, .iload 4, (0, 0, 0), 0), (36, 1, .iaload, (0, 0, 0), 0), (37, 2, .bipush 63, (0, 0, 0), 0), (39, 1, .iand, (0, 0, 0), 0), (40, 148, .tableswitch 1301 0 32 #[148, 221, 246, 271, 308, 376, 414, 451, 504, 529, 554, 567, 592, 629, 666, 703, 752, 813, 862, 899, 936, 961, 986, 999, 1076, 1101, 1126, 1139, 1188, 1237, 1250, 1263, 1276], (0, 0, 0), 0), (188, 1, .aload_n 1, (0, 0, 0), 0), (189, 1, .aload_n 0, (0, 0, 0), 0), (190, 2, .iload 4, (0, 0, 0), 0), (192, 1, .iconst 1, (0, 0, 0), 0), (193, 1, .iadd, (0, 0, 0), 0), (194, 1, .iaload, (0, 0, 0), 0), (195, 1, .aload_n 0, (0, 0, 0), 0), (196, 2, .iload 4, (0, 0, 0), 0), (198, 1, .iconst 2, (0, 0, 0), 0), (199, 1, .iadd, (0, 0, 0), 0), (200, 1, .iaload, (0, 0, 0), 0), (201, 1, .aload_n 0, (0, 0, 0), 0), (202, 2, .iload 4, (0, 0, 0), 0), (204, 1, .iconst 3, (0, 0, 0), 0), (205, 1, .iadd, (0, 0, 0), 0), (206, 1, .iaload, (0, 0, 0), 0), (207, 1, .aload_n 0, (0, 0, 0), 0), (208, 2, .iload 4, (0, 0, 0), 0), (210, 1, .iconst 4, (0, 0, 0), 0), (211, 1, .iadd, (0, 0, 0), 0), (212, 1, .iaload, (0, 0, 0), 0), (213, 1, .aload_n 0, (0, 0, 0), 0), (214, 2, .iload 4, (0, 0, 0), 0), (216, 1, .iconst 5, (0, 0, 0), 0), (217, 1, .iadd, (0, 0, 0), 0), (218, 1, .iaload, (0, 0, 0), 0), (219, 3, .invokevirtual 21, (15, 710, 3), 0), (222, 1, .aload_n 2, (0, 0, 0), 0), (223, 1, .aload_n 0, (0, 0, 0), 0), (224, 2, .iload 4, (0, 0, 0), 0), (226, 1, .iconst 1, (0, 0, 0), 0), (227, 1, .iadd, (0, 0, 0), 0), (228, 1, .iaload, (0, 0, 0), 0), (229, 1, .aload_n 0, (0, 0, 0), 0), (230, 2, .iload 4, (0, 0, 0), 0)]
def am_m133_c1 : List am_I := [(232, 1, .iconst 2, (0, 0, 0), 0), (233, 1, .iadd, (0, 0, 0), 0), (234, 1, .iaload, (0, 0, 0), 0), (235, 1, .aload_n 0, (0, 0, 0), 0), (236, 2, .iload 4, (0, 0, 0), 0), (238, 1, .iconst 3, (0, 0, 0), 0), (239, 1, .iadd, (0, 0, 0), 0), (240, 1, .iaload, (0, 0, 0), 0), (241, 1, .aload_n 0, (0, 0, 0), 0), (242, 2, .iload 4, (0, 0, 0), 0), (244, 1, .iconst 4, (0, 0, 0), 0), (245, 1, .iadd, (0, 0, 0), 0), (246, 1, .iaload, (0, 0, 0), 0), (247, 1, .aload_n 0, (0, 0, 0), 0), (248, 2, .iload 4, (0, 0, 0), 0), (250, 1, .iconst 5, (0, 0, 0), 0), (251, 1, .iadd, (0, 0, 0), 0), (252, 1, .iaload, (0, 0, 0), 0), (253, 3, .invokevirtual 25, (84, 1632, 3), 0), (256, 3, .if_icmp .eq 1085, (841, 0, 0), 0), (259, 1, .iconst 0, (0, 0, 0), 0), (260, 1, .ireturn, (0, 0, 0), 0), (261, 1, .aload_n 1, (0, 0, 0), 0), (262, 1, .aload_n 0, (0, 0, 0), 0), (263, 2, .iload 4, (0, 0, 0), 0), (265, 1, .iconst 1, (0, 0, 0), 0), (266, 1, .iadd, (0, 0, 0), 0), (267, 1, .iaload, (0, 0, 0), 0), (268, 3, .invokevirtual 26, (17, 718, 3), 0), (271, 1, .aload_n 2, (0, 0, 0), 0), (272, 1, .aload_n 0, (0, 0, 0), 0), (273, 2, .iload 4, (0, 0, 0), 0), (275, 1, .iconst 1, (0, 0, 0), 0), (276, 1, .iadd, (0, 0, 0), 0), (277, 1, .iaload, (0, 0, 0), 0), (278, 3, .invokevirtual 30, (85, 1636, 3), 0), (281, 3, .if_icmp .eq 1060, (841, 0, 0), 0), (284, 1, .iconst 0, (0, 0, 0), 0), (285, 1, .ireturn, (0, 0, 0), 0), (286, 1, .aload_n 1, (0, 0, 0), 0), (287, 1, .aload_n 0, (0, 0, 0), 0), (288, 2, .iload 4, (0, 0, 0), 0), (290, 1, .iconst 1, (0, 0, 0), 0), (291, 1, .iadd, (0, 0, 0), 0), (292, 1, .iaload, (0, 0, 0), 0), (293, 3, .invokevirtual 31, (27, 894, 3), 0), (296, 1, .aload_n 2, (0, 0, 0), 0), (297, 1, .aload_n 0, (0, 0, 0), 0), (298, 2, .iload 4, (0, 0, 0), 0), (300, 1, .iconst 1, (0, 0, 0), 0), (301, 1, .iadd, (0, 0, 0), 0), (302, 1, .iaload, (0, 0, 0), 0), (303, 3, .invokevirtual 34, (89, 1762, 3), 0), (306, 3, .if_icmp .eq 1035, (841, 0, 0), 0), (309, 1, .iconst 0, (0, 0, 0), 0), (310, 1, .ireturn, (0, 0, 0), 0), (311, 1, .aload_n 1, (0, 0, 0), 0), (312, 1, .aload_n 0, (0, 0, 0), 0), (313, 2, .iload 4, (0, 0, 0), 0), (315, 1, .iconst 1, (0, 0, 0), 0)]
def am_m133_c2 : List am_I := [(316, 1, .iadd, (0, 0, 0), 0), (317, 1, .iaload, (0, 0, 0), 0), (318, 1, .aload_n 0, (0, 0, 0), 0), (319, 2, .iload 4, (0, 0, 0), 0), (321, 1, .iconst 2, (0, 0, 0), 0), (322, 1, .iadd, (0, 0, 0), 0), (323, 1, .iaload, (0, 0, 0), 0), (324, 3, .invokevirtual 35, (28, 898, 3), 0), (327, 1, .aload_n 2, (0, 0, 0), 0), (328, 1, .aload_n 0, (0, 0, 0), 0), (329, 2, .iload 4, (0, 0, 0), 0), (331, 1, .iconst 1, (0, 0, 0), 0), (332, 1, .iadd, (0, 0, 0), 0), (333, 1, .iaload, (0, 0, 0), 0), (334, 1, .aload_n 0, (0, 0, 0), 0), (335, 2, .iload 4, (0, 0, 0), 0), (337, 1, .iconst 2, (0, 0, 0), 0), (338, 1, .iadd, (0, 0, 0), 0), (339, 1, .iaload, (0, 0, 0), 0), (340, 3, .invokevirtual 38, (90, 1766, 3), 0), (343, 3, .if_icmp .eq 998, (841, 0, 0), 0), (346, 1, .iconst 0, (0, 0, 0), 0), (347, 1, .ireturn, (0, 0, 0), 0), (348, 1, .aload_n 1, (0, 0, 0), 0), (349, 1, .aload_n 0, (0, 0, 0), 0), (350, 2, .iload 4, (0, 0, 0), 0), (352, 1, .iconst 1, (0, 0, 0), 0), (353, 1, .iadd, (0, 0, 0), 0), (354, 1, .iaload, (0, 0, 0), 0), (355, 1, .aload_n 0, (0, 0, 0), 0), (356, 2, .iload 4, (0, 0, 0), 0), (358, 1, .iconst 2, (0, 0, 0), 0), (359, 1, .iadd, (0, 0, 0), 0), (360, 1, .iaload, (0, 0, 0), 0), (361, 1, .aload_n 3, (0, 0, 0), 0), (362, 3, .invokestatic 39, (998, 1256, 0), 0), (365, 2, .istore 5, (0, 0, 0), 0), (367, 1, .aload_n 2, (0, 0, 0), 0), (368, 1, .aload_n 0, (0, 0, 0), 0), (369, 2, .iload 4, (0, 0, 0), 0), (371, 1, .iconst 1, (0, 0, 0), 0), (372, 1, .iadd, (0, 0, 0), 0), (373, 1, .iaload, (0, 0, 0), 0), (374, 1, .aload_n 0, (0, 0, 0), 0), (375, 2, .iload 4, (0, 0, 0), 0), (377, 1, .iconst 2, (0, 0, 0), 0), (378, 1, .iadd, (0, 0, 0), 0), (379, 1, .iaload, (0, 0, 0), 0), (380, 3, .invokevirtual 44, (999, 1770, 3), 0), (383, 2, .istore 6, (0, 0, 0), 0), (385, 1, .aload_n 2, (0, 0, 0), 0), (386, 3, .invokevirtual 45, (999, 1628, 3), 0), (389, 2, .iload 5, (0, 0, 0), 0), (391, 3, .if_icmp .eq 5, (176, 0, 0), 0), (394, 1, .iconst 0, (0, 0, 0), 0), (395, 1, .ireturn, (0, 0, 0), 0), (396, 2, .iload 5, (0, 0, 0), 0), (398, 3, .ifCond .ne 15, (187, 0, 0), 0), (401, 1, .aload_n 3, (0, 0, 0), 0), (402, 1, .iconst 0, (0, 0, 0), 0)]
def am_m133_c3 : List am_I := [(403, 1, .laload, (0, 0, 0), 0), (404, 2, .iload 6, (0, 0, 0), 0), (406, 1, .i2l, (0, 0, 0), 0), (407, 1, .lcmp, (0, 0, 0), 0), (408, 3, .ifCond .eq 5, (187, 0, 0), 0), (411, 1, .iconst 0, (0, 0, 0), 0), (412, 1, .ireturn, (0, 0, 0), 0), (413, 3, .goto 928, (841, 0, 0), 0), (416, 1, .aload_n 1, (0, 0, 0), 0), (417, 1, .aload_n 0, (0, 0, 0), 0), (418, 2, .iload 4, (0, 0, 0), 0), (420, 1, .iconst 1, (0, 0, 0), 0), (421, 1, .iadd, (0, 0, 0), 0), (422, 1, .iaload, (0, 0, 0), 0), (423, 1, .aload_n 0, (0, 0, 0), 0), (424, 2, .iload 4, (0, 0, 0), 0), (426, 1, .iconst 2, (0, 0, 0), 0), (427, 1, .iadd, (0, 0, 0), 0), (428, 1, .iaload, (0, 0, 0), 0), (429, 3, .invokevirtual 49, (29, 904, 3), 0), (432, 1, .aload_n 2, (0, 0, 0), 0), (433, 1, .aload_n 0, (0, 0, 0), 0), (434, 2, .iload 4, (0, 0, 0), 0), (436, 1, .iconst 1, (0, 0, 0), 0), (437, 1, .iadd, (0, 0, 0), 0), (438, 1, .iaload, (0, 0, 0), 0), (439, 1, .aload_n 0, (0, 0, 0), 0), (440, 2, .iload 4, (0, 0, 0), 0), (442, 1, .iconst 2, (0, 0, 0), 0), (443, 1, .iadd, (0, 0, 0), 0), (444, 1, .iaload, (0, 0, 0), 0), (445, 3, .invokevirtual 53, (92, 1782, 3), 0), (448, 1, .lcmp, (0, 0, 0), 0), (449, 3, .ifCond .eq 892, (841, 0, 0), 0), (452, 1, .iconst 0, (0, 0, 0), 0), (453, 1, .ireturn, (0, 0, 0), 0), (454, 1, .aload_n 1, (0, 0, 0), 0), (455, 1, .aload_n 0, (0, 0, 0), 0), (456, 2, .iload 4, (0, 0, 0), 0), (458, 1, .iconst 1, (0, 0, 0), 0), (459, 1, .iadd, (0, 0, 0), 0), (460, 1, .iaload, (0, 0, 0), 0), (461, 1, .aload_n 0, (0, 0, 0), 0), (462, 2, .iload 4, (0, 0, 0), 0), (464, 1, .iconst 2, (0, 0, 0), 0), (465, 1, .iadd, (0, 0, 0), 0), (466, 1, .iaload, (0, 0, 0), 0), (467, 3, .invokevirtual 54, (36, 939, 3), 0), (470, 1, .aload_n 2, (0, 0, 0), 0), (471, 1, .aload_n 0, (0, 0, 0), 0), (472, 2, .iload 4, (0, 0, 0), 0), (474, 1, .iconst 1, (0, 0, 0), 0), (475, 1, .iadd, (0, 0, 0), 0), (476, 1, .iaload, (0, 0, 0), 0), (477, 1, .aload_n 0, (0, 0, 0), 0), (478, 2, .iload 4, (0, 0, 0), 0), (480, 1, .iconst 2, (0, 0, 0), 0), (481, 1, .iadd, (0, 0, 0), 0), (482, 1, .iaload, (0, 0, 0), 0), (483, 3, .invokevirtual 57, (96, 1820, 3), 0)]
def am_m133_c4 : List am_I := [(486, 3, .if_icmp .eq 855, (841, 0, 0), 0), (489, 1, .iconst 0, (0, 0, 0), 0), (490, 1, .ireturn, (0, 0, 0), 0), (491, 1, .aload_n 1, (0, 0, 0), 0), (492, 1, .aload_n 0, (0, 0, 0), 0), (493, 2, .iload 4, (0, 0, 0), 0), (495, 1, .iconst 1, (0, 0, 0), 0), (496, 1, .iadd, (0, 0, 0), 0), (497, 1, .iaload, (0, 0, 0), 0), (498, 1, .aload_n 0, (0, 0, 0), 0), (499, 2, .iload 4, (0, 0, 0), 0), (501, 1, .iconst 2, (0, 0, 0), 0), (502, 1, .iadd, (0, 0, 0), 0), (503, 1, .iaload, (0, 0, 0), 0), (504, 3, .ifCond .eq 7, (257, 0, 0), 0), (507, 1, .iconst 1, (0, 0, 0), 0), (508, 3, .goto 4, (258, 0, 0), 0), (511, 1, .iconst 0, (0, 0, 0), 0), (512, 3, .invokevirtual 58, (41, 1003, 3), 0), (515, 1, .aload_n 2, (0, 0, 0), 0), (516, 1, .aload_n 0, (0, 0, 0), 0), (517, 2, .iload 4, (0, 0, 0), 0), (519, 1, .iconst 1, (0, 0, 0), 0), (520, 1, .iadd, (0, 0, 0), 0), (521, 1, .iaload, (0, 0, 0), 0), (522, 1, .aload_n 0, (0, 0, 0), 0), (523, 2, .iload 4, (0, 0, 0), 0), (525, 1, .iconst 2, (0, 0, 0), 0), (526, 1, .iadd, (0, 0, 0), 0), (527, 1, .iaload, (0, 0, 0), 0), (528, 3, .ifCond .eq 7, (273, 0, 0), 0), (531, 1, .iconst 1, (0, 0, 0), 0), (532, 3, .goto 4, (274, 0, 0), 0), (535, 1, .iconst 0, (0, 0, 0), 0), (536, 3, .invokevirtual 62, (103, 1871, 3), 0), (539, 3, .if_icmp .eq 802, (841, 0, 0), 0), (542, 1, .iconst 0, (0, 0, 0), 0), (543, 1, .ireturn, (0, 0, 0), 0), (544, 1, .aload_n 1, (0, 0, 0), 0), (545, 1, .aload_n 0, (0, 0, 0), 0), (546, 2, .iload 4, (0, 0, 0), 0), (548, 1, .iconst 1, (0, 0, 0), 0), (549, 1, .iadd, (0, 0, 0), 0), (550, 1, .iaload, (0, 0, 0), 0), (551, 3, .invokevirtual 63, (42, 1008, 3), 0), (554, 1, .aload_n 2, (0, 0, 0), 0), (555, 1, .aload_n 0, (0, 0, 0), 0), (556, 2, .iload 4, (0, 0, 0), 0), (558, 1, .iconst 1, (0, 0, 0), 0), (559, 1, .iadd, (0, 0, 0), 0), (560, 1, .iaload, (0, 0, 0), 0), (561, 3, .invokevirtual 66, (104, 1875, 3), 0), (564, 3, .if_icmp .eq 777, (841, 0, 0), 0), (567, 1, .iconst 0, (0, 0, 0), 0), (568, 1, .ireturn, (0, 0, 0), 0), (569, 1, .aload_n 1, (0, 0, 0), 0), (570, 1, .aload_n 0, (0, 0, 0), 0), (571, 2, .iload 4, (0, 0, 0), 0), (573, 1, .iconst 1, (0, 0, 0), 0), (574, 1, .iadd, (0, 0, 0), 0)]
def am_m133_c5 : List am_I := [(575, 1, .iaload, (0, 0, 0), 0), (576, 3, .invokevirtual 67, (43, 1012, 3), 0), (579, 1, .aload_n 2, (0, 0, 0), 0), (580, 1, .aload_n 0, (0, 0, 0), 0), (581, 2, .iload 4, (0, 0, 0), 0), (583, 1, .iconst 1, (0, 0, 0), 0), (584, 1, .iadd, (0, 0, 0), 0), (585, 1, .iaload, (0, 0, 0), 0), (586, 3, .invokevirtual 70, (105, 1879, 3), 0), (589, 3, .if_icmp .eq 752, (841, 0, 0), 0), (592, 1, .iconst 0, (0, 0, 0), 0), (593, 1, .ireturn, (0, 0, 0), 0), (594, 1, .aload_n 1, (0, 0, 0), 0), (595, 3, .invokevirtual 71, (44, 1017, 3), 0), (598, 1, .aload_n 2, (0, 0, 0), 0), (599, 3, .invokevirtual 74, (106, 1883, 3), 0), (602, 3, .if_icmp .eq 739, (841, 0, 0), 0), (605, 1, .iconst 0, (0, 0, 0), 0), (606, 1, .ireturn, (0, 0, 0), 0), (607, 1, .aload_n 1, (0, 0, 0), 0), (608, 1, .aload_n 0, (0, 0, 0), 0), (609, 2, .iload 4, (0, 0, 0), 0), (611, 1, .iconst 1, (0, 0, 0), 0), (612, 1, .iadd, (0, 0, 0), 0), (613, 1, .iaload, (0, 0, 0), 0), (614, 3, .invokevirtual 75, (45, 1021, 3), 0), (617, 1, .aload_n 2, (0, 0, 0), 0), (618, 1, .aload_n 0, (0, 0, 0), 0), (619, 2, .iload 4, (0, 0, 0), 0), (621, 1, .iconst 1, (0, 0, 0), 0), (622, 1, .iadd, (0, 0, 0), 0), (623, 1, .iaload, (0, 0, 0), 0), (624, 3, .invokevirtual 78, (107, 1887, 3), 0), (627, 3, .if_icmp .eq 714, (841, 0, 0), 0), (630, 1, .iconst 0, (0, 0, 0), 0), (631, 1, .ireturn, (0, 0, 0), 0), (632, 1, .aload_n 1, (0, 0, 0), 0), (633, 1, .aload_n 0, (0, 0, 0), 0), (634, 2, .iload 4, (0, 0, 0), 0), (636, 1, .iconst 1, (0, 0, 0), 0), (637, 1, .iadd, (0, 0, 0), 0), (638, 1, .iaload, (0, 0, 0), 0), (639, 1, .aload_n 0, (0, 0, 0), 0), (640, 2, .iload 4, (0, 0, 0), 0), (642, 1, .iconst 2, (0, 0, 0), 0), (643, 1, .iadd, (0, 0, 0), 0), (644, 1, .iaload, (0, 0, 0), 0), (645, 3, .invokevirtual 79, (46, 1080, 3), 0), (648, 1, .aload_n 2, (0, 0, 0), 0), (649, 1, .aload_n 0, (0, 0, 0), 0), (650, 2, .iload 4, (0, 0, 0), 0), (652, 1, .iconst 1, (0, 0, 0), 0), (653, 1, .iadd, (0, 0, 0), 0), (654, 1, .iaload, (0, 0, 0), 0), (655, 1, .aload_n 0, (0, 0, 0), 0), (656, 2, .iload 4, (0, 0, 0), 0), (658, 1, .iconst 2, (0, 0, 0), 0), (659, 1, .iadd, (0, 0, 0), 0), (660, 1, .iaload, (0, 0, 0), 0), (661, 3, .invokevirtual 82, (108, 1903, 3), 0)]
def am_m133_c6 : List am_I := [(664, 3, .if_icmp .eq 677, (841, 0, 0), 0), (667, 1, .iconst 0, (0, 0, 0), 0), (668, 1, .ireturn, (0, 0, 0), 0), (669, 1, .aload_n 1, (0, 0, 0), 0), (670, 1, .aload_n 0, (0, 0, 0), 0), (671, 2, .iload 4, (0, 0, 0), 0), (673, 1, .iconst 1, (0, 0, 0), 0), (674, 1, .iadd, (0, 0, 0), 0), (675, 1, .iaload, (0, 0, 0), 0), (676, 1, .aload_n 0, (0, 0, 0), 0), (677, 2, .iload 4, (0, 0, 0), 0), (679, 1, .iconst 2, (0, 0, 0), 0), (680, 1, .iadd, (0, 0, 0), 0), (681, 1, .iaload, (0, 0, 0), 0), (682, 3, .invokevirtual 83, (47, 1100, 3), 0), (685, 1, .aload_n 2, (0, 0, 0), 0), (686, 1, .aload_n 0, (0, 0, 0), 0), (687, 2, .iload 4, (0, 0, 0), 0), (689, 1, .iconst 1, (0, 0, 0), 0), (690, 1, .iadd, (0, 0, 0), 0), (691, 1, .iaload, (0, 0, 0), 0), (692, 1, .aload_n 0, (0, 0, 0), 0), (693, 2, .iload 4, (0, 0, 0), 0), (695, 1, .iconst 2, (0, 0, 0), 0), (696, 1, .iadd, (0, 0, 0), 0), (697, 1, .iaload, (0, 0, 0), 0), (698, 3, .invokevirtual 86, (109, 1927, 3), 0), (701, 3, .if_icmp .eq 640, (841, 0, 0), 0), (704, 1, .iconst 0, (0, 0, 0), 0), (705, 1, .ireturn, (0, 0, 0), 0), (706, 1, .aload_n 1, (0, 0, 0), 0), (707, 1, .aload_n 0, (0, 0, 0), 0), (708, 2, .iload 4, (0, 0, 0), 0), (710, 1, .iconst 1, (0, 0, 0), 0), (711, 1, .iadd, (0, 0, 0), 0), (712, 1, .iaload, (0, 0, 0), 0), (713, 1, .aload_n 0, (0, 0, 0), 0), (714, 2, .iload 4, (0, 0, 0), 0), (716, 1, .iconst 2, (0, 0, 0), 0), (717, 1, .iadd, (0, 0, 0), 0), (718, 1, .iaload, (0, 0, 0), 0), (719, 3, .invokevirtual 87, (49, 1108, 3), 0), (722, 1, .aload_n 2, (0, 0, 0), 0), (723, 1, .aload_n 0, (0, 0, 0), 0), (724, 2, .iload 4, (0, 0, 0), 0), (726, 1, .iconst 1, (0, 0, 0), 0), (727, 1, .iadd, (0, 0, 0), 0), (728, 1, .iaload, (0, 0, 0), 0), (729, 1, .aload_n 0, (0, 0, 0), 0), (730, 2, .iload 4, (0, 0, 0), 0), (732, 1, .iconst 2, (0, 0, 0), 0), (733, 1, .iadd, (0, 0, 0), 0), (734, 1, .iaload, (0, 0, 0), 0), (735, 3, .invokevirtual 90, (111, 1935, 3), 0), (738, 3, .if_icmp .eq 603, (841, 0, 0), 0), (741, 1, .iconst 0, (0, 0, 0), 0), (742, 1, .ireturn, (0, 0, 0), 0), (743, 1, .aload_n 1, (0, 0, 0), 0), (744, 1, .aload_n 0, (0, 0, 0), 0), (745, 2, .iload 4, (0, 0, 0), 0)]
def am_m133_c7 : List am_I := [(747, 1, .iconst 1, (0, 0, 0), 0), (748, 1, .iadd, (0, 0, 0), 0), (749, 1, .iaload, (0, 0, 0), 0), (750, 1, .aload_n 0, (0, 0, 0), 0), (751, 2, .iload 4, (0, 0, 0), 0), (753, 1, .iconst 2, (0, 0, 0), 0), (754, 1, .iadd, (0, 0, 0), 0), (755, 1, .iaload, (0, 0, 0), 0), (756, 1, .aload_n 0, (0, 0, 0), 0), (757, 2, .iload 4, (0, 0, 0), 0), (759, 1, .iconst 3, (0, 0, 0), 0), (760, 1, .iadd, (0, 0, 0), 0), (761, 1, .iaload, (0, 0, 0), 0), (762, 3, .invokevirtual 91, (50, 1112, 3), 0), (765, 1, .aload_n 2, (0, 0, 0), 0), (766, 1, .aload_n 0, (0, 0, 0), 0), (767, 2, .iload 4, (0, 0, 0), 0), (769, 1, .iconst 1, (0, 0, 0), 0), (770, 1, .iadd, (0, 0, 0), 0), (771, 1, .iaload, (0, 0, 0), 0), (772, 1, .aload_n 0, (0, 0, 0), 0), (773, 2, .iload 4, (0, 0, 0), 0), (775, 1, .iconst 2, (0, 0, 0), 0), (776, 1, .iadd, (0, 0, 0), 0), (777, 1, .iaload, (0, 0, 0), 0), (778, 1, .aload_n 0, (0, 0, 0), 0), (779, 2, .iload 4, (0, 0, 0), 0), (781, 1, .iconst 3, (0, 0, 0), 0), (782, 1, .iadd, (0, 0, 0), 0), (783, 1, .iaload, (0, 0, 0), 0), (784, 3, .invokevirtual 95, (112, 1939, 3), 0), (787, 3, .if_icmp .eq 554, (841, 0, 0), 0), (790, 1, .iconst 0, (0, 0, 0), 0), (791, 1, .ireturn, (0, 0, 0), 0), (792, 1, .aload_n 1, (0, 0, 0), 0), (793, 1, .aload_n 0, (0, 0, 0), 0), (794, 2, .iload 4, (0, 0, 0), 0), (796, 1, .iconst 1, (0, 0, 0), 0), (797, 1, .iadd, (0, 0, 0), 0), (798, 1, .iaload, (0, 0, 0), 0), (799, 1, .aload_n 0, (0, 0, 0), 0), (800, 2, .iload 4, (0, 0, 0), 0), (802, 1, .iconst 2, (0, 0, 0), 0), (803, 1, .iadd, (0, 0, 0), 0), (804, 1, .iaload, (0, 0, 0), 0), (805, 1, .aload_n 0, (0, 0, 0), 0), (806, 2, .iload 4, (0, 0, 0), 0), (808, 1, .iconst 3, (0, 0, 0), 0), (809, 1, .iadd, (0, 0, 0), 0), (810, 1, .iaload, (0, 0, 0), 0), (811, 1, .aload_n 0, (0, 0, 0), 0), (812, 2, .iload 4, (0, 0, 0), 0), (814, 1, .iconst 4, (0, 0, 0), 0), (815, 1, .iadd, (0, 0, 0), 0), (816, 1, .iaload, (0, 0, 0), 0), (817, 3, .invokevirtual 96, (52, 1131, 3), 0), (820, 1, .aload_n 2, (0, 0, 0), 0), (821, 1, .aload_n 0, (0, 0, 0), 0), (822, 2, .iload 4, (0, 0, 0), 0), (824, 1, .iconst 1, (0, 0, 0), 0)]
def am_m133_c8 : List am_I := [(825, 1, .iadd, (0, 0, 0), 0), (826, 1, .iaload, (0, 0, 0), 0), (827, 1, .aload_n 0, (0, 0, 0), 0), (828, 2, .iload 4, (0, 0, 0), 0), (830, 1, .iconst 2, (0, 0, 0), 0), (831, 1, .iadd, (0, 0, 0), 0), (832, 1, .iaload, (0, 0, 0), 0), (833, 1, .aload_n 0, (0, 0, 0), 0), (834, 2, .iload 4, (0, 0, 0), 0), (836, 1, .iconst 3, (0, 0, 0), 0), (837, 1, .iadd, (0, 0, 0), 0), (838, 1, .iaload, (0, 0, 0), 0), (839, 1, .aload_n 0, (0, 0, 0), 0), (840, 2, .iload 4, (0, 0, 0), 0), (842, 1, .iconst 4, (0, 0, 0), 0), (843, 1, .iadd, (0, 0, 0), 0), (844, 1, .iaload, (0, 0, 0), 0), (845, 3, .invokevirtual 100, (114, 1954, 3), 0), (848, 3, .if_icmp .eq 493, (841, 0, 0), 0), (851, 1, .iconst 0, (0, 0, 0), 0), (852, 1, .ireturn, (0, 0, 0), 0), (853, 1, .aload_n 1, (0, 0, 0), 0), (854, 1, .aload_n 0, (0, 0, 0), 0), (855, 2, .iload 4, (0, 0, 0), 0), (857, 1, .iconst 1, (0, 0, 0), 0), (858, 1, .iadd, (0, 0, 0), 0), (859, 1, .iaload, (0, 0, 0), 0), (860, 1, .aload_n 0, (0, 0, 0), 0), (861, 2, .iload 4, (0, 0, 0), 0), (863, 1, .iconst 2, (0, 0, 0), 0), (864, 1, .iadd, (0, 0, 0), 0), (865, 1, .iaload, (0, 0, 0), 0), (866, 1, .aload_n 0, (0, 0, 0), 0), (867, 2, .iload 4, (0, 0, 0), 0), (869, 1, .iconst 3, (0, 0, 0), 0), (870, 1, .iadd, (0, 0, 0), 0), (871, 1, .iaload, (0, 0, 0), 0), (872, 3, .invokevirtual 101, (53, 1135, 3), 0), (875, 1, .aload_n 2, (0, 0, 0), 0), (876, 1, .aload_n 0, (0, 0, 0), 0), (877, 2, .iload 4, (0, 0, 0), 0), (879, 1, .iconst 1, (0, 0, 0), 0), (880, 1, .iadd, (0, 0, 0), 0), (881, 1, .iaload, (0, 0, 0), 0), (882, 1, .aload_n 0, (0, 0, 0), 0), (883, 2, .iload 4, (0, 0, 0), 0), (885, 1, .iconst 2, (0, 0, 0), 0), (886, 1, .iadd, (0, 0, 0), 0), (887, 1, .iaload, (0, 0, 0), 0), (888, 1, .aload_n 0, (0, 0, 0), 0), (889, 2, .iload 4, (0, 0, 0), 0), (891, 1, .iconst 3, (0, 0, 0), 0), (892, 1, .iadd, (0, 0, 0), 0), (893, 1, .iaload, (0, 0, 0), 0), (894, 3, .invokevirtual 104, (115, 1958, 3), 0), (897, 3, .if_icmp .eq 444, (841, 0, 0), 0), (900, 1, .iconst 0, (0, 0, 0), 0), (901, 1, .ireturn, (0, 0, 0), 0), (902, 1, .aload_n 1, (0, 0, 0), 0), (903, 1, .aload_n 0, (0, 0, 0), 0)]
def am_m133_c9 : List am_I := [(904, 2, .iload 4, (0, 0, 0), 0), (906, 1, .iconst 1, (0, 0, 0), 0), (907, 1, .iadd, (0, 0, 0), 0), (908, 1, .iaload, (0, 0, 0), 0), (909, 1, .aload_n 0, (0, 0, 0), 0), (910, 2, .iload 4, (0, 0, 0), 0), (912, 1, .iconst 2, (0, 0, 0), 0), (913, 1, .iadd, (0, 0, 0), 0), (914, 1, .iaload, (0, 0, 0), 0), (915, 3, .invokevirtual 105, (54, 1139, 3), 0), (918, 1, .aload_n 2, (0, 0, 0), 0), (919, 1, .aload_n 0, (0, 0, 0), 0), (920, 2, .iload 4, (0, 0, 0), 0), (922, 1, .iconst 1, (0, 0, 0), 0), (923, 1, .iadd, (0, 0, 0), 0), (924, 1, .iaload, (0, 0, 0), 0), (925, 1, .aload_n 0, (0, 0, 0), 0), (926, 2, .iload 4, (0, 0, 0), 0), (928, 1, .iconst 2, (0, 0, 0), 0), (929, 1, .iadd, (0, 0, 0), 0), (930, 1, .iaload, (0, 0, 0), 0), (931, 3, .invokevirtual 108, (116, 1962, 3), 0), (934, 3, .if_icmp .eq 407, (841, 0, 0), 0), (937, 1, .iconst 0, (0, 0, 0), 0), (938, 1, .ireturn, (0, 0, 0), 0), (939, 1, .aload_n 1, (0, 0, 0), 0), (940, 1, .aload_n 0, (0, 0, 0), 0), (941, 2, .iload 4, (0, 0, 0), 0), (943, 1, .iconst 1, (0, 0, 0), 0), (944, 1, .iadd, (0, 0, 0), 0), (945, 1, .iaload, (0, 0, 0), 0), (946, 1, .aload_n 0, (0, 0, 0), 0), (947, 2, .iload 4, (0, 0, 0), 0), (949, 1, .iconst 2, (0, 0, 0), 0), (950, 1, .iadd, (0, 0, 0), 0), (951, 1, .iaload, (0, 0, 0), 0), (952, 3, .invokevirtual 109, (55, 1143, 3), 0), (955, 1, .aload_n 2, (0, 0, 0), 0), (956, 1, .aload_n 0, (0, 0, 0), 0), (957, 2, .iload 4, (0, 0, 0), 0), (959, 1, .iconst 1, (0, 0, 0), 0), (960, 1, .iadd, (0, 0, 0), 0), (961, 1, .iaload, (0, 0, 0), 0), (962, 1, .aload_n 0, (0, 0, 0), 0), (963, 2, .iload 4, (0, 0, 0), 0), (965, 1, .iconst 2, (0, 0, 0), 0), (966, 1, .iadd, (0, 0, 0), 0), (967, 1, .iaload, (0, 0, 0), 0), (968, 3, .invokevirtual 112, (117, 1966, 3), 0), (971, 3, .if_icmp .eq 370, (841, 0, 0), 0), (974, 1, .iconst 0, (0, 0, 0), 0), (975, 1, .ireturn, (0, 0, 0), 0), (976, 1, .aload_n 1, (0, 0, 0), 0), (977, 1, .aload_n 0, (0, 0, 0), 0), (978, 2, .iload 4, (0, 0, 0), 0), (980, 1, .iconst 1, (0, 0, 0), 0), (981, 1, .iadd, (0, 0, 0), 0), (982, 1, .iaload, (0, 0, 0), 0), (983, 3, .invokevirtual 113, (58, 1158, 3), 0), (986, 1, .aload_n 2, (0, 0, 0), 0)]
def am_m133_c10 : List am_I := [(987, 1, .aload_n 0, (0, 0, 0), 0), (988, 2, .iload 4, (0, 0, 0), 0), (990, 1, .iconst 1, (0, 0, 0), 0), (991, 1, .iadd, (0, 0, 0), 0), (992, 1, .iaload, (0, 0, 0), 0), (993, 3, .invokevirtual 116, (118, 1972, 3), 0), (996, 3, .if_icmp .eq 345, (841, 0, 0), 0), (999, 1, .iconst 0, (0, 0, 0), 0), (1000, 1, .ireturn, (0, 0, 0), 0), (1001, 1, .aload_n 1, (0, 0, 0), 0), (1002, 1, .aload_n 0, (0, 0, 0), 0), (1003, 2, .iload 4, (0, 0, 0), 0), (1005, 1, .iconst 1, (0, 0, 0), 0), (1006, 1, .iadd, (0, 0, 0), 0), (1007, 1, .iaload, (0, 0, 0), 0), (1008, 3, .invokevirtual 117, (60, 1173, 3), 0), (1011, 1, .aload_n 2, (0, 0, 0), 0), (1012, 1, .aload_n 0, (0, 0, 0), 0), (1013, 2, .iload 4, (0, 0, 0), 0), (1015, 1, .iconst 1, (0, 0, 0), 0), (1016, 1, .iadd, (0, 0, 0), 0), (1017, 1, .iaload, (0, 0, 0), 0), (1018, 3, .invokevirtual 120, (119, 1979, 3), 0), (1021, 3, .if_icmp .eq 320, (841, 0, 0), 0), (1024, 1, .iconst 0, (0, 0, 0), 0), (1025, 1, .ireturn, (0, 0, 0), 0), (1026, 1, .aload_n 1, (0, 0, 0), 0), (1027, 3, .invokevirtual 121, (62, 1181, 3), 0), (1030, 1, .aload_n 2, (0, 0, 0), 0), (1031, 3, .invokevirtual 124, (120, 1991, 3), 0), (1034, 3, .if_icmp .eq 307, (841, 0, 0), 0), (1037, 1, .iconst 0, (0, 0, 0), 0), (1038, 1, .ireturn, (0, 0, 0), 0), (1039, 1, .aload_n 1, (0, 0, 0), 0), (1040, 1, .aload_n 0, (0, 0, 0), 0), (1041, 2, .iload 4, (0, 0, 0), 0), (1043, 1, .iconst 1, (0, 0, 0), 0), (1044, 1, .iadd, (0, 0, 0), 0), (1045, 1, .iaload, (0, 0, 0), 0), (1046, 1, .aload_n 0, (0, 0, 0), 0), (1047, 2, .iload 4, (0, 0, 0), 0), (1049, 1, .iconst 2, (0, 0, 0), 0), (1050, 1, .iadd, (0, 0, 0), 0), (1051, 1, .iaload, (0, 0, 0), 0), (1052, 1, .aload_n 0, (0, 0, 0), 0), (1053, 2, .iload 4, (0, 0, 0), 0), (1055, 1, .iconst 3, (0, 0, 0), 0), (1056, 1, .iadd, (0, 0, 0), 0), (1057, 1, .iaload, (0, 0, 0), 0), (1058, 1, .aload_n 0, (0, 0, 0), 0), (1059, 2, .iload 4, (0, 0, 0), 0), (1061, 1, .iconst 4, (0, 0, 0), 0), (1062, 1, .iadd, (0, 0, 0), 0), (1063, 1, .iaload, (0, 0, 0), 0), (1064, 3, .ifCond .eq 7, (657, 0, 0), 0), (1067, 1, .iconst 1, (0, 0, 0), 0), (1068, 3, .goto 4, (658, 0, 0), 0), (1071, 1, .iconst 0, (0, 0, 0), 0), (1072, 3, .invokevirtual 125, (63, 1185, 3), 0), (1075, 1, .aload_n 2, (0, 0, 0), 0)]
def am_m133_c11 : List am_I := [(1076, 1, .aload_n 0, (0, 0, 0), 0), (1077, 2, .iload 4, (0, 0, 0), 0), (1079, 1, .iconst 1, (0, 0, 0), 0), (1080, 1, .iadd, (0, 0, 0), 0), (1081, 1, .iaload, (0, 0, 0), 0), (1082, 1, .aload_n 0, (0, 0, 0), 0), (1083, 2, .iload 4, (0, 0, 0), 0), (1085, 1, .iconst 2, (0, 0, 0), 0), (1086, 1, .iadd, (0, 0, 0), 0), (1087, 1, .iaload, (0, 0, 0), 0), (1088, 1, .aload_n 0, (0, 0, 0), 0), (1089, 2, .iload 4, (0, 0, 0), 0), (1091, 1, .iconst 3, (0, 0, 0), 0), (1092, 1, .iadd, (0, 0, 0), 0), (1093, 1, .iaload, (0, 0, 0), 0), (1094, 1, .aload_n 0, (0, 0, 0), 0), (1095, 2, .iload 4, (0, 0, 0), 0), (1097, 1, .iconst 4, (0, 0, 0), 0), (1098, 1, .iadd, (0, 0, 0), 0), (1099, 1, .iaload, (0, 0, 0), 0), (1100, 3, .ifCond .eq 7, (683, 0, 0), 0), (1103, 1, .iconst 1, (0, 0, 0), 0), (1104, 3, .goto 4, (684, 0, 0), 0), (1107, 1, .iconst 0, (0, 0, 0), 0), (1108, 3, .invokevirtual 129, (121, 1995, 3), 0), (1111, 3, .if_icmp .eq 230, (841, 0, 0), 0), (1114, 1, .iconst 0, (0, 0, 0), 0), (1115, 1, .ireturn, (0, 0, 0), 0), (1116, 1, .aload_n 1, (0, 0, 0), 0), (1117, 1, .aload_n 0, (0, 0, 0), 0), (1118, 2, .iload 4, (0, 0, 0), 0), (1120, 1, .iconst 1, (0, 0, 0), 0), (1121, 1, .iadd, (0, 0, 0), 0), (1122, 1, .iaload, (0, 0, 0), 0), (1123, 3, .invokevirtual 130, (64, 1193, 3), 0), (1126, 1, .aload_n 2, (0, 0, 0), 0), (1127, 1, .aload_n 0, (0, 0, 0), 0), (1128, 2, .iload 4, (0, 0, 0), 0), (1130, 1, .iconst 1, (0, 0, 0), 0), (1131, 1, .iadd, (0, 0, 0), 0), (1132, 1, .iaload, (0, 0, 0), 0), (1133, 3, .invokevirtual 133, (122, 2003, 3), 0), (1136, 3, .if_icmp .eq 205, (841, 0, 0), 0), (1139, 1, .iconst 0, (0, 0, 0), 0), (1140, 1, .ireturn, (0, 0, 0), 0), (1141, 1, .aload_n 1, (0, 0, 0), 0), (1142, 1, .aload_n 0, (0, 0, 0), 0), (1143, 2, .iload 4, (0, 0, 0), 0), (1145, 1, .iconst 1, (0, 0, 0), 0), (1146, 1, .iadd, (0, 0, 0), 0), (1147, 1, .iaload, (0, 0, 0), 0), (1148, 3, .invokevirtual 134, (65, 1197, 3), 0), (1151, 1, .aload_n 2, (0, 0, 0), 0), (1152, 1, .aload_n 0, (0, 0, 0), 0), (1153, 2, .iload 4, (0, 0, 0), 0), (1155, 1, .iconst 1, (0, 0, 0), 0), (1156, 1, .iadd, (0, 0, 0), 0), (1157, 1, .iaload, (0, 0, 0), 0), (1158, 3, .invokevirtual 138, (123, 2007, 3), 0), (1161, 3, .if_icmp .eq 180, (841, 0, 0), 0)]
def am_m133_c12 : List am_I := [(1164, 1, .iconst 0, (0, 0, 0), 0), (1165, 1, .ireturn, (0, 0, 0), 0), (1166, 1, .aload_n 1, (0, 0, 0), 0), (1167, 3, .invokevirtual 139, (66, 1201, 3), 0), (1170, 1, .aload_n 2, (0, 0, 0), 0), (1171, 3, .invokevirtual 142, (124, 2011, 3), 0), (1174, 3, .if_icmp .eq 167, (841, 0, 0), 0), (1177, 1, .iconst 0, (0, 0, 0), 0), (1178, 1, .ireturn, (0, 0, 0), 0), (1179, 1, .aload_n 1, (0, 0, 0), 0), (1180, 1, .aload_n 0, (0, 0, 0), 0), (1181, 2, .iload 4, (0, 0, 0), 0), (1183, 1, .iconst 1, (0, 0, 0), 0), (1184, 1, .iadd, (0, 0, 0), 0), (1185, 1, .iaload, (0, 0, 0), 0), (1186, 1, .aload_n 0, (0, 0, 0), 0), (1187, 2, .iload 4, (0, 0, 0), 0), (1189, 1, .iconst 2, (0, 0, 0), 0), (1190, 1, .iadd, (0, 0, 0), 0), (1191, 1, .iaload, (0, 0, 0), 0), (1192, 1, .aload_n 0, (0, 0, 0), 0), (1193, 2, .iload 4, (0, 0, 0), 0), (1195, 1, .iconst 3, (0, 0, 0), 0), (1196, 1, .iadd, (0, 0, 0), 0), (1197, 1, .iaload, (0, 0, 0), 0), (1198, 3, .invokevirtual 143, (70, 1226, 3), 0), (1201, 1, .aload_n 2, (0, 0, 0), 0), (1202, 1, .aload_n 0, (0, 0, 0), 0), (1203, 2, .iload 4, (0, 0, 0), 0), (1205, 1, .iconst 1, (0, 0, 0), 0), (1206, 1, .iadd, (0, 0, 0), 0), (1207, 1, .iaload, (0, 0, 0), 0), (1208, 1, .aload_n 0, (0, 0, 0), 0), (1209, 2, .iload 4, (0, 0, 0), 0), (1211, 1, .iconst 2, (0, 0, 0), 0), (1212, 1, .iadd, (0, 0, 0), 0), (1213, 1, .iaload, (0, 0, 0), 0), (1214, 1, .aload_n 0, (0, 0, 0), 0), (1215, 2, .iload 4, (0, 0, 0), 0), (1217, 1, .iconst 3, (0, 0, 0), 0), (1218, 1, .iadd, (0, 0, 0), 0), (1219, 1, .iaload, (0, 0, 0), 0), (1220, 3, .invokevirtual 146, (127, 2023, 3), 0), (1223, 3, .if_icmp .eq 118, (841, 0, 0), 0), (1226, 1, .iconst 0, (0, 0, 0), 0), (1227, 1, .ireturn, (0, 0, 0), 0), (1228, 1, .aload_n 1, (0, 0, 0), 0), (1229, 1, .aload_n 0, (0, 0, 0), 0), (1230, 2, .iload 4, (0, 0, 0), 0), (1232, 1, .iconst 1, (0, 0, 0), 0), (1233, 1, .iadd, (0, 0, 0), 0), (1234, 1, .iaload, (0, 0, 0), 0), (1235, 1, .aload_n 0, (0, 0, 0), 0), (1236, 2, .iload 4, (0, 0, 0), 0), (1238, 1, .iconst 2, (0, 0, 0), 0), (1239, 1, .iadd, (0, 0, 0), 0), (1240, 1, .iaload, (0, 0, 0), 0), (1241, 1, .aload_n 0, (0, 0, 0), 0), (1242, 2, .iload 4, (0, 0, 0), 0), (1244, 1, .iconst 3, (0, 0, 0), 0)]
def am_m133_c13 : List am_I := [(1245, 1, .iadd, (0, 0, 0), 0), (1246, 1, .iaload, (0, 0, 0), 0), (1247, 3, .invokevirtual 147, (71, 1232, 3), 0), (1250, 1, .aload_n 2, (0, 0, 0), 0), (1251, 1, .aload_n 0, (0, 0, 0), 0), (1252, 2, .iload 4, (0, 0, 0), 0), (1254, 1, .iconst 1, (0, 0, 0), 0), (1255, 1, .iadd, (0, 0, 0), 0), (1256, 1, .iaload, (0, 0, 0), 0), (1257, 1, .aload_n 0, (0, 0, 0), 0), (1258, 2, .iload 4, (0, 0, 0), 0), (1260, 1, .iconst 2, (0, 0, 0), 0), (1261, 1, .iadd, (0, 0, 0), 0), (1262, 1, .iaload, (0, 0, 0), 0), (1263, 1, .aload_n 0, (0, 0, 0), 0), (1264, 2, .iload 4, (0, 0, 0), 0), (1266, 1, .iconst 3, (0, 0, 0), 0), (1267, 1, .iadd, (0, 0, 0), 0), (1268, 1, .iaload, (0, 0, 0), 0), (1269, 3, .invokevirtual 150, (128, 2027, 3), 0), (1272, 3, .if_icmp .eq 69, (841, 0, 0), 0), (1275, 1, .iconst 0, (0, 0, 0), 0), (1276, 1, .ireturn, (0, 0, 0), 0), (1277, 1, .aload_n 1, (0, 0, 0), 0), (1278, 3, .invokevirtual 151, (72, 1236, 3), 0), (1281, 1, .aload_n 2, (0, 0, 0), 0), (1282, 3, .invokevirtual 154, (129, 2031, 3), 0), (1285, 3, .if_icmp .eq 56, (841, 0, 0), 0), (1288, 1, .iconst 0, (0, 0, 0), 0), (1289, 1, .ireturn, (0, 0, 0), 0), (1290, 1, .aload_n 1, (0, 0, 0), 0), (1291, 3, .invokevirtual 155, (74, 1244, 3), 0), (1294, 1, .aload_n 2, (0, 0, 0), 0), (1295, 3, .invokevirtual 158, (130, 2039, 3), 0), (1298, 3, .if_icmp .eq 43, (841, 0, 0), 0), (1301, 1, .iconst 0, (0, 0, 0), 0), (1302, 1, .ireturn, (0, 0, 0), 0), (1303, 1, .aload_n 1, (0, 0, 0), 0), (1304, 3, .invokevirtual 159, (75, 1248, 3), 0), (1307, 1, .aload_n 2, (0, 0, 0), 0), (1308, 3, .invokevirtual 162, (131, 2043, 3), 0), (1311, 3, .if_icmp .eq 30, (841, 0, 0), 0), (1314, 1, .iconst 0, (0, 0, 0), 0), (1315, 1, .ireturn, (0, 0, 0), 0), (1316, 1, .aload_n 1, (0, 0, 0), 0), (1317, 1, .aload_n 0, (0, 0, 0), 0), (1318, 2, .iload 4, (0, 0, 0), 0), (1320, 1, .iconst 1, (0, 0, 0), 0), (1321, 1, .iadd, (0, 0, 0), 0), (1322, 1, .iaload, (0, 0, 0), 0), (1323, 3, .invokevirtual 163, (76, 1252, 3), 0), (1326, 1, .aload_n 2, (0, 0, 0), 0), (1327, 1, .aload_n 0, (0, 0, 0), 0), (1328, 2, .iload 4, (0, 0, 0), 0), (1330, 1, .iconst 1, (0, 0, 0), 0), (1331, 1, .iadd, (0, 0, 0), 0), (1332, 1, .iaload, (0, 0, 0), 0), (1333, 3, .invokevirtual 166, (132, 2047, 3), 0), (1336, 3, .if_icmp .eq 5, (841, 0, 0), 0), (1339, 1, .iconst 0, (0, 0, 0), 0)]
def am_m133_c14 : List am_I := [(1340, 1, .ireturn, (0, 0, 0), 0), (1341, 3, .iinc 4 6, (0, 0, 0), 0), (1344, 3, .goto (-1321), (13, 0, 0), 0), (1347, 1, .iconst 1, (0, 0, 0), 0), (1348, 1, .ireturn, (0, 0, 0), 0)]
-- AirBedLaw.law([I)Z
def am_m133 : am_M := ((13, ⟨"AirBedLaw", "law", "([I)Z"⟩, code), (7, some .boolean, 1), (14, 570, 600002, 7302231), am_m133_c0 ++ (am_m133_c1 ++ (am_m133_c2 ++ (am_m133_c3 ++ (am_m133_c4 ++ (am_m133_c5 ++ (am_m133_c6 ++ (am_m133_c7 ++ (am_m133_c8 ++ (am_m133_c9 ++ (am_m133_c10 ++ (am_m133_c11 ++ (am_m133_c12 ++ (am_m133_c13 ++ (am_m133_c14)))))))))))))))
def am_prog : List am_M := [am_m0, am_m1, am_m2, am_m3, am_m4, am_m5, am_m6, am_m7, am_m8, am_m9, am_m10, am_m11, am_m12, am_m13, am_m14, am_m15, am_m16, am_m17, am_m18, am_m19, am_m20, am_m21, am_m22, am_m23, am_m24, am_m25, am_m26, am_m27, am_m28, am_m29, am_m30, am_m31, am_m32, am_m33, am_m34, am_m35, am_m36, am_m37, am_m38, am_m39, am_m40, am_m41, am_m42, am_m43, am_m44, am_m45, am_m46, am_m47, am_m48, am_m49, am_m50, am_m51, am_m52, am_m53, am_m54, am_m55, am_m56, am_m57, am_m58, am_m59, am_m60, am_m61, am_m62, am_m63, am_m64, am_m65, am_m66, am_m67, am_m68, am_m69, am_m70, am_m71, am_m72, am_m73, am_m74, am_m75, am_m76, am_m77, am_m78, am_m79, am_m80, am_m81, am_m82, am_m83, am_m84, am_m85, am_m86, am_m87, am_m88, am_m89, am_m90, am_m91, am_m92, am_m93, am_m94, am_m95, am_m96, am_m97, am_m98, am_m99, am_m100, am_m101, am_m102, am_m103, am_m104, am_m105, am_m106, am_m107, am_m108, am_m109, am_m110, am_m111, am_m112, am_m113, am_m114, am_m115, am_m116, am_m117, am_m118, am_m119, am_m120, am_m121, am_m122, am_m123, am_m124, am_m125, am_m126, am_m127, am_m128, am_m129, am_m130, am_m131, am_m132]
/-- where the tables have the words of a method: code, initialized, instance or static, selects; whether it is static -/
def am_hint : List (Nat × Nat × Nat × Nat × Bool) := [(145, 118, 144, 0, false), (153, 119, 152, 0, false), (161, 120, 160, 0, false), (201, 121, 200, 0, false), (243, 119, 241, 242, false), (247, 120, 245, 246, false), (363, 122, 362, 0, false), (460, 127, 459, 0, false), (508, 128, 507, 0, false), (528, 129, 527, 0, false), (562, 130, 561, 0, false), (602, 131, 601, 0, false), (620, 132, 619, 0, false), (640, 133, 639, 0, false), (660, 127, 658, 659, false), (713, 118, 711, 712, false), (717, 118, 716, 0, false), (721, 118, 719, 720, false), (725, 122, 723, 724, false), (730, 122, 729, 1, false), (792, 119, 790, 791, false), (812, 119, 810, 811, false), (875, 119, 873, 874, false), (878, 118, 877, 0, true), (884, 118, 883, 0, true), (889, 128, 887, 888, false), (893, 129, 891, 892, false), (897, 118, 895, 896, false), (901, 118, 899, 900, false), (907, 118, 905, 906, false), (910, 118, 909, 0, true), (915, 130, 913, 914, false), (919, 127, 917, 918, false), (924, 130, 922, 923, false), (928, 120, 926, 927, false), (937, 130, 936, 0, true), (942, 118, 940, 941, false), (946, 118, 945, 28, false), (968, 130, 966, 967, false), (995, 118, 994, 31, false), (999, 128, 997, 998, false), (1006, 118, 1004, 1005, false), (1011, 118, 1009, 1010, false), (1015, 118, 1013, 1014, false), (1020, 118, 1018, 1019, false), (1024, 118, 1022, 1023, false), (1083, 118, 1081, 1082, false), (1103, 118, 1101, 1102, false), (1107, 118, 1106, 39, false), (1111, 118, 1109, 1110, false), (1115, 118, 1113, 1114, false), (1118, 118, 1117, 0, true), (1134, 118, 1132, 1133, false), (1138, 118, 1136, 1137, false), (1142, 118, 1140, 1141, false), (1146, 118, 1144, 1145, false), (1150, 133, 1148, 1149, false), (1156, 133, 1155, 42, false), (1161, 118, 1159, 1160, false), (1165, 119, 1163, 1164, false), (1176, 118, 1174, 1175, false), (1180, 118, 1179, 43, false), (1184, 118, 1182, 1183, false), (1188, 118, 1186, 1187, false), (1196, 118, 1194, 1195, false), (1200, 118, 1198, 1199, false), (1204, 118, 1202, 1203, false), (1208, 129, 1206, 1207, false), (1212, 129, 1210, 1211, false), (1216, 118, 1215, 44, false), (1229, 118, 1227, 1228, false), (1235, 118, 1233, 1234, false), (1239, 118, 1237, 1238, false), (1243, 128, 1241, 1242, false), (1247, 118, 1245, 1246, false), (1251, 118, 1249, 1250, false), (1255, 118, 1253, 1254, false), (1355, 134, 1354, 0, false), (1360, 134, 1359, 47, false), (1364, 134, 1363, 48, false), (1367, 134, 1366, 0, true), (1371, 134, 1370, 49, false), (1375, 134, 1374, 50, false), (1379, 134, 1378, 51, false), (1635, 134, 1633, 1634, false), (1639, 134, 1637, 1638, false), (1643, 134, 1642, 52, false), (1687, 134, 1686, 0, true), (1698, 134, 1697, 0, true), (1765, 134, 1763, 1764, false), (1769, 134, 1767, 1768, false), (1777, 134, 1776, 80, false), (1785, 134, 1783, 1784, false), (1790, 134, 1789, 82, false), (1794, 134, 1793, 83, false), (1798, 134, 1797, 84, false), (1823, 134, 1821, 1822, false), (1827, 134, 1826, 89, false), (1835, 134, 1834, 91, false), (1839, 134, 1838, 92, false), (1843, 134, 1842, 93, false), (1866, 134, 1865, 98, false), (1870, 134, 1869, 99, false), (1874, 134, 1872, 1873, false), (1878, 134, 1876, 1877, false), (1882, 134, 1880, 1881, false), (1886, 134, 1884, 1885, false), (1890, 134, 1888, 1889, false), (1906, 134, 1904, 1905, false), (1930, 134, 1928, 1929, false), (1934, 134, 1933, 108, false), (1938, 134, 1936, 1937, false), (1942, 134, 1940, 1941, false), (1945, 134, 1944, 0, true), (1957, 134, 1955, 1956, false), (1961, 134, 1959, 1960, false), (1965, 134, 1963, 1964, false), (1969, 134, 1967, 1968, false), (1975, 134, 1973, 1974, false), (1982, 134, 1980, 1981, false), (1994, 134, 1992, 1993, false), (1998, 134, 1996, 1997, false), (2006, 134, 2004, 2005, false), (2010, 134, 2008, 2009, false), (2014, 134, 2012, 2013, false), (2018, 134, 2017, 114, false), (2022, 134, 2021, 115, false), (2026, 134, 2024, 2025, false), (2030, 134, 2028, 2029, false), (2034, 134, 2032, 2033, false), (2042, 134, 2040, 2041, false), (2046, 134, 2044, 2045, false), (2050, 134, 2048, 2049, false)]
def am_hintC : List (Nat × Nat × List Nat) := [(142, 118, [677, 679, 681, 683, 685, 687, 689, 691, 693, 695, 697, 699, 701, 703, 705, 707]), (150, 119, [318, 320, 322, 324, 326, 328, 330, 332, 334, 336, 338, 340, 342, 344, 346, 348, 350, 352, 354, 356]), (158, 120, [176, 178, 180, 182, 184, 186, 188, 190, 192]), (198, 121, [223, 225, 227, 229, 231, 233, 235, 237]), (360, 122, [424, 426, 428, 430, 432, 434, 436, 438, 440, 442, 444, 446, 448, 450, 452]), (457, 127, [487, 489, 491, 493, 495, 497, 499, 501]), (505, 128, [517, 519, 521]), (525, 129, [543, 545, 547, 549, 551, 553, 555]), (559, 130, [583, 585, 587, 589, 591, 593, 595]), (599, 131, [609, 611, 613]), (617, 132, [627, 629, 631, 633]), (637, 133, [648, 650, 652, 654]), (1352, 134, [1465, 1467, 1469, 1471, 1473, 1475, 1477, 1479, 1481, 1483, 1485, 1487, 1489, 1491, 1493, 1495, 1497, 1499, 1501, 1503, 1505, 1507, 1509, 1511, 1513, 1515, 1517, 1519, 1521, 1523, 1525, 1527, 1529, 1531, 1533, 1535, 1537, 1539, 1541, 1543, 1545, 1547, 1549, 1551, 1553, 1555, 1557, 1559, 1561, 1563, 1565, 1567, 1569, 1571, 1573, 1575, 1577, 1579, 1581, 1583, 1585, 1587, 1589, 1591, 1593, 1595, 1597, 1599, 1601, 1603, 1605, 1607, 1609, 1611, 1613, 1615, 1617, 1619, 1621, 1623, 1625])]
def am_oI : Nat × Nat := (147, 148)
def am_oM : Nat × Nat × Nat × Nat × Nat := (135, 850, 851, 747, 748)
def am_oL : Nat × Nat × Nat := (1257, 117, 1258)
end
section
/-! ===== THE PROGRAM'S TABLES HOLD: checks that the kernel runs ===== -/
def am_w (i : Nat) (w : Cond) : Bool := decide (lw_tbl[i]? = some w) && goodWord w
theorem am_w_ok {i : Nat} {w : Cond} (h : am_w i w = true) : w ∈ am_ts := by
  simp only [am_w, Bool.and_eq_true, decide_eq_true_eq] at h
  exact am_ts_in h.1 h.2
def am_wF (i : Nat) (own : String) (idx : Nat) (q : String × String × String × Bool) : Bool := match lw_tbl[i]? with
  | some (.fieldLink o j r n d) => decide (o = own) && decide (j = idx) && decide (r = q.1) && decide (n = q.2.1) && decide (d = q.2.2.1) && goodWord (.fieldLink o j r n d)
  | some (.fieldLinkNest o j r n d host) => decide (o = own) && decide (j = idx) && decide (r = q.1) && decide (n = q.2.1) && decide (d = q.2.2.1)
  | _ => false
theorem am_wF_ok {i : Nat} {own : String} {idx : Nat} {q : String × String × String × Bool} (h : am_wF i own idx q = true) : am_fl own idx q := by
  unfold am_wF at h
  split at h
  · rename_i o j r n d hw
    simp only [Bool.and_eq_true, decide_eq_true_eq] at h
    obtain ⟨⟨⟨⟨⟨rfl, rfl⟩, rfl⟩, rfl⟩, rfl⟩, hg⟩ := h
    exact Or.inl (am_ts_in hw hg)
  · rename_i o j r n d host hw
    simp only [Bool.and_eq_true, decide_eq_true_eq] at h
    obtain ⟨⟨⟨⟨rfl, rfl⟩, rfl⟩, rfl⟩, rfl⟩ := h
    exact Or.inr ⟨host, am_tn_in hw rfl⟩
  · cases h
def am_wM (i : Nat) (own : String) (idx : Nat) (y : MethodName) : Bool := match lw_tbl[i]? with
  | some (.methodLink o j r) => decide (o = own) && decide (j = idx) && decide (r = y) && goodWord (.methodLink o j r)
  | some (.methodLinkNest o j r host) => decide (o = own) && decide (j = idx) && decide (r = y)
  | _ => false
theorem am_wM_ok {i : Nat} {own : String} {idx : Nat} {y : MethodName} (h : am_wM i own idx y = true) : am_ml own idx y := by
  unfold am_wM at h
  split at h
  · rename_i o j r hw
    simp only [Bool.and_eq_true, decide_eq_true_eq] at h
    obtain ⟨⟨⟨rfl, rfl⟩, rfl⟩, hg⟩ := h
    exact Or.inl (am_ts_in hw hg)
  · rename_i o j r host hw
    simp only [Bool.and_eq_true, decide_eq_true_eq] at h
    obtain ⟨⟨rfl, rfl⟩, rfl⟩ := h
    exact Or.inr ⟨host, am_tn_in hw rfl⟩
  · cases h
def am_mL : am_M := ((13, ⟨"AirBedLaw", "look", "(LAirBed;II[J)I"⟩, method_3_code), (5, some .int, 4), (9, 240, 4, 40), [])
def am_P1 (scr : Option (Nat × (Nat → Int32))) (lk : List Value → List am_k → am_H → Option am_O) : am_G := (fun a => am_prog[a]?, am_tys, am_nms, am_txt, scr, am_mL, lk)
/-- what is checked of a method -/
def am_chkM (a : Nat) : Bool := match am_prog[a]?, am_hint[a]? with
  | some M, some h => am_w h.2.1 (Cond.initialized M.1.2.1.cls) && decide (M.1.2.1.cls ≠ "java/lang/invoke/MethodHandle") && decide (M.1.2.1.cls ≠ "java/lang/invoke/VarHandle") && decide ((parseMethodDescriptor M.1.2.1.desc).map (fun d => d.parameters.length) = some M.2.1.2.2)
      && plainName M.1.2.1.cls && decide (am_nms M.1.1 = M.1.2.1.cls) && decide ((M.2.2.2.head?.map (fun i => i.1)) = some 0)
      && cond h.2.2.2.2 (am_w h.2.2.1 (Cond.static M.1.2.1)) (am_w h.2.2.1 (Cond.instanceMethod M.1.2.1) && (decide (M.1.2.1.name = "<init>" ∧ M.2.1.2.1 = none) || am_w h.2.2.2.1 (Cond.selects M.1.2.1.cls M.1.2.1 M.1.2.1)))
  | none, _ => true
  | _, _ => false
def am_facts (a : Nat) (M : am_M) : Prop := (∀ scr lk, am_okM (am_P1 scr lk) M) ∧ ((M.2.2.2.head?.map (fun i => i.1)) = some 0) ∧ ∃ h, am_hint[a]? = some h ∧ (h.2.2.2.2 = true → Cond.static M.1.2.1 ∈ am_ts) ∧ (h.2.2.2.2 = false → Cond.instanceMethod M.1.2.1 ∈ am_ts ∧ ((M.1.2.1.name = "<init>" ∧ M.2.1.2.1 = none) ∨ Cond.selects M.1.2.1.cls M.1.2.1 M.1.2.1 ∈ am_ts))
theorem am_chkM_ok {a : Nat} (h : am_chkM a = true) {M : am_M} (hM : am_prog[a]? = some M) (c1 : Cond.code M.1.2.1 M.1.2.2 M.2.1.1 M.2.1.2.1 ∈ am_ts) : am_facts a M := by
  unfold am_chkM at h
  rw [hM] at h
  split at h
  · rename_i M0 hn h1 h2
    cases h1
    simp only [Bool.and_eq_true, decide_eq_true_eq] at h
    obtain ⟨⟨⟨⟨⟨⟨⟨c2, c3⟩, c4⟩, c5⟩, c6⟩, c7⟩, c8⟩, c9⟩ := h
    refine ⟨fun _ _ => ⟨c1, am_w_ok c2, ⟨c3, c4, c5⟩, c6, c7⟩, c8, hn, h2, fun hs => ?_, fun hs => ?_⟩
    · rw [hs] at c9
      exact am_w_ok c9
    · rw [hs] at c9
      simp only [cond_false, Bool.and_eq_true, Bool.or_eq_true, decide_eq_true_eq] at c9
      exact ⟨am_w_ok c9.1, c9.2.imp id am_w_ok⟩
  · rename_i h1
    cases h1
  · cases h
def am_hh : List (Nat × Nat × Nat × Nat) := [(0, 10, 13, 13), (0, 10, 17, 15)]
set_option maxRecDepth 1000000 in
theorem am_cw0 : Cond.code am_m0.1.2.1 am_m0.1.2.2 am_m0.2.1.1 am_m0.2.1.2.1 ∈ am_ts := am_ts_in (i := 145) rfl rfl
set_option maxRecDepth 1000000 in
theorem am_cw1 : Cond.code am_m1.1.2.1 am_m1.1.2.2 am_m1.2.1.1 am_m1.2.1.2.1 ∈ am_ts := am_ts_in (i := 153) rfl rfl
set_option maxRecDepth 1000000 in
theorem am_cw2 : Cond.code am_m2.1.2.1 am_m2.1.2.2 am_m2.2.1.1 am_m2.2.1.2.1 ∈ am_ts := am_ts_in (i := 161) rfl rfl
set_option maxRecDepth 1000000 in
theorem am_cw3 : Cond.code am_m3.1.2.1 am_m3.1.2.2 am_m3.2.1.1 am_m3.2.1.2.1 ∈ am_ts := am_ts_in (i := 201) rfl rfl
set_option maxRecDepth 1000000 in
theorem am_cw4 : Cond.code am_m4.1.2.1 am_m4.1.2.2 am_m4.2.1.1 am_m4.2.1.2.1 ∈ am_ts := am_ts_in (i := 243) rfl rfl
set_option maxRecDepth 1000000 in
theorem am_cw5 : Cond.code am_m5.1.2.1 am_m5.1.2.2 am_m5.2.1.1 am_m5.2.1.2.1 ∈ am_ts := am_ts_in (i := 247) rfl rfl
set_option maxRecDepth 1000000 in
theorem am_cw6 : Cond.code am_m6.1.2.1 am_m6.1.2.2 am_m6.2.1.1 am_m6.2.1.2.1 ∈ am_ts := am_ts_in (i := 363) rfl rfl
set_option maxRecDepth 1000000 in
theorem am_cw7 : Cond.code am_m7.1.2.1 am_m7.1.2.2 am_m7.2.1.1 am_m7.2.1.2.1 ∈ am_ts := am_ts_in (i := 460) rfl rfl
set_option maxRecDepth 1000000 in
theorem am_cw8 : Cond.code am_m8.1.2.1 am_m8.1.2.2 am_m8.2.1.1 am_m8.2.1.2.1 ∈ am_ts := am_ts_in (i := 508) rfl rfl
set_option maxRecDepth 1000000 in
theorem am_cw9 : Cond.code am_m9.1.2.1 am_m9.1.2.2 am_m9.2.1.1 am_m9.2.1.2.1 ∈ am_ts := am_ts_in (i := 528) rfl rfl
set_option maxRecDepth 1000000 in
theorem am_cw10 : Cond.code am_m10.1.2.1 am_m10.1.2.2 am_m10.2.1.1 am_m10.2.1.2.1 ∈ am_ts := am_ts_in (i := 562) rfl rfl
set_option maxRecDepth 1000000 in
theorem am_cw11 : Cond.code am_m11.1.2.1 am_m11.1.2.2 am_m11.2.1.1 am_m11.2.1.2.1 ∈ am_ts := am_ts_in (i := 602) rfl rfl
set_option maxRecDepth 1000000 in
theorem am_cw12 : Cond.code am_m12.1.2.1 am_m12.1.2.2 am_m12.2.1.1 am_m12.2.1.2.1 ∈ am_ts := am_ts_in (i := 620) rfl rfl
set_option maxRecDepth 1000000 in
theorem am_cw13 : Cond.code am_m13.1.2.1 am_m13.1.2.2 am_m13.2.1.1 am_m13.2.1.2.1 ∈ am_ts := am_ts_in (i := 640) rfl rfl
set_option maxRecDepth 1000000 in
theorem am_cw14 : Cond.code am_m14.1.2.1 am_m14.1.2.2 am_m14.2.1.1 am_m14.2.1.2.1 ∈ am_ts := am_ts_in (i := 660) rfl rfl
set_option maxRecDepth 1000000 in
theorem am_cw15 : Cond.code am_m15.1.2.1 am_m15.1.2.2 am_m15.2.1.1 am_m15.2.1.2.1 ∈ am_ts := am_ts_in (i := 713) rfl rfl
set_option maxRecDepth 1000000 in
theorem am_cw16 : Cond.code am_m16.1.2.1 am_m16.1.2.2 am_m16.2.1.1 am_m16.2.1.2.1 ∈ am_ts := am_ts_in (i := 717) rfl rfl
set_option maxRecDepth 1000000 in
theorem am_cw17 : Cond.code am_m17.1.2.1 am_m17.1.2.2 am_m17.2.1.1 am_m17.2.1.2.1 ∈ am_ts := am_ts_in (i := 721) rfl rfl
set_option maxRecDepth 1000000 in
theorem am_cw18 : Cond.code am_m18.1.2.1 am_m18.1.2.2 am_m18.2.1.1 am_m18.2.1.2.1 ∈ am_ts := am_ts_in (i := 725) rfl rfl
set_option maxRecDepth 1000000 in
theorem am_cw19 : Cond.code am_m19.1.2.1 am_m19.1.2.2 am_m19.2.1.1 am_m19.2.1.2.1 ∈ am_ts := am_ts_in (i := 730) rfl rfl
set_option maxRecDepth 1000000 in
theorem am_cw20 : Cond.code am_m20.1.2.1 am_m20.1.2.2 am_m20.2.1.1 am_m20.2.1.2.1 ∈ am_ts := am_ts_in (i := 792) rfl rfl
set_option maxRecDepth 1000000 in
theorem am_cw21 : Cond.code am_m21.1.2.1 am_m21.1.2.2 am_m21.2.1.1 am_m21.2.1.2.1 ∈ am_ts := am_ts_in (i := 812) rfl rfl
set_option maxRecDepth 1000000 in
theorem am_cw22 : Cond.code am_m22.1.2.1 am_m22.1.2.2 am_m22.2.1.1 am_m22.2.1.2.1 ∈ am_ts := am_ts_in (i := 875) rfl rfl
set_option maxRecDepth 1000000 in
theorem am_cw23 : Cond.code am_m23.1.2.1 am_m23.1.2.2 am_m23.2.1.1 am_m23.2.1.2.1 ∈ am_ts := am_ts_in (i := 878) rfl rfl
set_option maxRecDepth 1000000 in
theorem am_cw24 : Cond.code am_m24.1.2.1 am_m24.1.2.2 am_m24.2.1.1 am_m24.2.1.2.1 ∈ am_ts := am_ts_in (i := 884) rfl rfl
set_option maxRecDepth 1000000 in
theorem am_cw25 : Cond.code am_m25.1.2.1 am_m25.1.2.2 am_m25.2.1.1 am_m25.2.1.2.1 ∈ am_ts := am_ts_in (i := 889) rfl rfl
set_option maxRecDepth 1000000 in
theorem am_cw26 : Cond.code am_m26.1.2.1 am_m26.1.2.2 am_m26.2.1.1 am_m26.2.1.2.1 ∈ am_ts := am_ts_in (i := 893) rfl rfl
set_option maxRecDepth 1000000 in
theorem am_cw27 : Cond.code am_m27.1.2.1 am_m27.1.2.2 am_m27.2.1.1 am_m27.2.1.2.1 ∈ am_ts := am_ts_in (i := 897) rfl rfl
set_option maxRecDepth 1000000 in
theorem am_cw28 : Cond.code am_m28.1.2.1 am_m28.1.2.2 am_m28.2.1.1 am_m28.2.1.2.1 ∈ am_ts := am_ts_in (i := 901) rfl rfl
set_option maxRecDepth 1000000 in
theorem am_cw29 : Cond.code am_m29.1.2.1 am_m29.1.2.2 am_m29.2.1.1 am_m29.2.1.2.1 ∈ am_ts := am_ts_in (i := 907) rfl rfl
set_option maxRecDepth 1000000 in
theorem am_cw30 : Cond.code am_m30.1.2.1 am_m30.1.2.2 am_m30.2.1.1 am_m30.2.1.2.1 ∈ am_ts := am_ts_in (i := 910) rfl rfl
set_option maxRecDepth 1000000 in
theorem am_cw31 : Cond.code am_m31.1.2.1 am_m31.1.2.2 am_m31.2.1.1 am_m31.2.1.2.1 ∈ am_ts := am_ts_in (i := 915) rfl rfl
set_option maxRecDepth 1000000 in
theorem am_cw32 : Cond.code am_m32.1.2.1 am_m32.1.2.2 am_m32.2.1.1 am_m32.2.1.2.1 ∈ am_ts := am_ts_in (i := 919) rfl rfl
set_option maxRecDepth 1000000 in
theorem am_cw33 : Cond.code am_m33.1.2.1 am_m33.1.2.2 am_m33.2.1.1 am_m33.2.1.2.1 ∈ am_ts := am_ts_in (i := 924) rfl rfl
set_option maxRecDepth 1000000 in
theorem am_cw34 : Cond.code am_m34.1.2.1 am_m34.1.2.2 am_m34.2.1.1 am_m34.2.1.2.1 ∈ am_ts := am_ts_in (i := 928) rfl rfl
set_option maxRecDepth 1000000 in
theorem am_cw35 : Cond.code am_m35.1.2.1 am_m35.1.2.2 am_m35.2.1.1 am_m35.2.1.2.1 ∈ am_ts := am_ts_in (i := 937) rfl rfl
set_option maxRecDepth 1000000 in
theorem am_cw36 : Cond.code am_m36.1.2.1 am_m36.1.2.2 am_m36.2.1.1 am_m36.2.1.2.1 ∈ am_ts := am_ts_in (i := 942) rfl rfl
set_option maxRecDepth 1000000 in
theorem am_cw37 : Cond.code am_m37.1.2.1 am_m37.1.2.2 am_m37.2.1.1 am_m37.2.1.2.1 ∈ am_ts := am_ts_in (i := 946) rfl rfl
set_option maxRecDepth 1000000 in
theorem am_cw38 : Cond.code am_m38.1.2.1 am_m38.1.2.2 am_m38.2.1.1 am_m38.2.1.2.1 ∈ am_ts := am_ts_in (i := 968) rfl rfl
set_option maxRecDepth 1000000 in
theorem am_cw39 : Cond.code am_m39.1.2.1 am_m39.1.2.2 am_m39.2.1.1 am_m39.2.1.2.1 ∈ am_ts := am_ts_in (i := 995) rfl rfl
set_option maxRecDepth 1000000 in
theorem am_cw40 : Cond.code am_m40.1.2.1 am_m40.1.2.2 am_m40.2.1.1 am_m40.2.1.2.1 ∈ am_ts := am_ts_in (i := 999) rfl rfl
set_option maxRecDepth 1000000 in
theorem am_cw41 : Cond.code am_m41.1.2.1 am_m41.1.2.2 am_m41.2.1.1 am_m41.2.1.2.1 ∈ am_ts := am_ts_in (i := 1006) rfl rfl
set_option maxRecDepth 1000000 in
theorem am_cw42 : Cond.code am_m42.1.2.1 am_m42.1.2.2 am_m42.2.1.1 am_m42.2.1.2.1 ∈ am_ts := am_ts_in (i := 1011) rfl rfl
set_option maxRecDepth 1000000 in
theorem am_cw43 : Cond.code am_m43.1.2.1 am_m43.1.2.2 am_m43.2.1.1 am_m43.2.1.2.1 ∈ am_ts := am_ts_in (i := 1015) rfl rfl
set_option maxRecDepth 1000000 in
theorem am_cw44 : Cond.code am_m44.1.2.1 am_m44.1.2.2 am_m44.2.1.1 am_m44.2.1.2.1 ∈ am_ts := am_ts_in (i := 1020) rfl rfl
set_option maxRecDepth 1000000 in
theorem am_cw45 : Cond.code am_m45.1.2.1 am_m45.1.2.2 am_m45.2.1.1 am_m45.2.1.2.1 ∈ am_ts := am_ts_in (i := 1024) rfl rfl
set_option maxRecDepth 1000000 in
theorem am_cw46 : Cond.code am_m46.1.2.1 am_m46.1.2.2 am_m46.2.1.1 am_m46.2.1.2.1 ∈ am_ts := am_ts_in (i := 1083) rfl rfl
set_option maxRecDepth 1000000 in
theorem am_cw47 : Cond.code am_m47.1.2.1 am_m47.1.2.2 am_m47.2.1.1 am_m47.2.1.2.1 ∈ am_ts := am_ts_in (i := 1103) rfl rfl
set_option maxRecDepth 1000000 in
theorem am_cw48 : Cond.code am_m48.1.2.1 am_m48.1.2.2 am_m48.2.1.1 am_m48.2.1.2.1 ∈ am_ts := am_ts_in (i := 1107) rfl rfl
set_option maxRecDepth 1000000 in
theorem am_cw49 : Cond.code am_m49.1.2.1 am_m49.1.2.2 am_m49.2.1.1 am_m49.2.1.2.1 ∈ am_ts := am_ts_in (i := 1111) rfl rfl
set_option maxRecDepth 1000000 in
theorem am_cw50 : Cond.code am_m50.1.2.1 am_m50.1.2.2 am_m50.2.1.1 am_m50.2.1.2.1 ∈ am_ts := am_ts_in (i := 1115) rfl rfl
set_option maxRecDepth 1000000 in
theorem am_cw51 : Cond.code am_m51.1.2.1 am_m51.1.2.2 am_m51.2.1.1 am_m51.2.1.2.1 ∈ am_ts := am_ts_in (i := 1118) rfl rfl
set_option maxRecDepth 1000000 in
theorem am_cw52 : Cond.code am_m52.1.2.1 am_m52.1.2.2 am_m52.2.1.1 am_m52.2.1.2.1 ∈ am_ts := am_ts_in (i := 1134) rfl rfl
set_option maxRecDepth 1000000 in
theorem am_cw53 : Cond.code am_m53.1.2.1 am_m53.1.2.2 am_m53.2.1.1 am_m53.2.1.2.1 ∈ am_ts := am_ts_in (i := 1138) rfl rfl
set_option maxRecDepth 1000000 in
theorem am_cw54 : Cond.code am_m54.1.2.1 am_m54.1.2.2 am_m54.2.1.1 am_m54.2.1.2.1 ∈ am_ts := am_ts_in (i := 1142) rfl rfl
set_option maxRecDepth 1000000 in
theorem am_cw55 : Cond.code am_m55.1.2.1 am_m55.1.2.2 am_m55.2.1.1 am_m55.2.1.2.1 ∈ am_ts := am_ts_in (i := 1146) rfl rfl
set_option maxRecDepth 1000000 in
theorem am_cw56 : Cond.code am_m56.1.2.1 am_m56.1.2.2 am_m56.2.1.1 am_m56.2.1.2.1 ∈ am_ts := am_ts_in (i := 1150) rfl rfl
set_option maxRecDepth 1000000 in
theorem am_cw57 : Cond.code am_m57.1.2.1 am_m57.1.2.2 am_m57.2.1.1 am_m57.2.1.2.1 ∈ am_ts := am_ts_in (i := 1156) rfl rfl
set_option maxRecDepth 1000000 in
theorem am_cw58 : Cond.code am_m58.1.2.1 am_m58.1.2.2 am_m58.2.1.1 am_m58.2.1.2.1 ∈ am_ts := am_ts_in (i := 1161) rfl rfl
set_option maxRecDepth 1000000 in
theorem am_cw59 : Cond.code am_m59.1.2.1 am_m59.1.2.2 am_m59.2.1.1 am_m59.2.1.2.1 ∈ am_ts := am_ts_in (i := 1165) rfl rfl
set_option maxRecDepth 1000000 in
theorem am_cw60 : Cond.code am_m60.1.2.1 am_m60.1.2.2 am_m60.2.1.1 am_m60.2.1.2.1 ∈ am_ts := am_ts_in (i := 1176) rfl rfl
set_option maxRecDepth 1000000 in
theorem am_cw61 : Cond.code am_m61.1.2.1 am_m61.1.2.2 am_m61.2.1.1 am_m61.2.1.2.1 ∈ am_ts := am_ts_in (i := 1180) rfl rfl
set_option maxRecDepth 1000000 in
theorem am_cw62 : Cond.code am_m62.1.2.1 am_m62.1.2.2 am_m62.2.1.1 am_m62.2.1.2.1 ∈ am_ts := am_ts_in (i := 1184) rfl rfl
set_option maxRecDepth 1000000 in
theorem am_cw63 : Cond.code am_m63.1.2.1 am_m63.1.2.2 am_m63.2.1.1 am_m63.2.1.2.1 ∈ am_ts := am_ts_in (i := 1188) rfl rfl
set_option maxRecDepth 1000000 in
theorem am_cw64 : Cond.code am_m64.1.2.1 am_m64.1.2.2 am_m64.2.1.1 am_m64.2.1.2.1 ∈ am_ts := am_ts_in (i := 1196) rfl rfl
set_option maxRecDepth 1000000 in
theorem am_cw65 : Cond.code am_m65.1.2.1 am_m65.1.2.2 am_m65.2.1.1 am_m65.2.1.2.1 ∈ am_ts := am_ts_in (i := 1200) rfl rfl
set_option maxRecDepth 1000000 in
theorem am_cw66 : Cond.code am_m66.1.2.1 am_m66.1.2.2 am_m66.2.1.1 am_m66.2.1.2.1 ∈ am_ts := am_ts_in (i := 1204) rfl rfl
set_option maxRecDepth 1000000 in
theorem am_cw67 : Cond.code am_m67.1.2.1 am_m67.1.2.2 am_m67.2.1.1 am_m67.2.1.2.1 ∈ am_ts := am_ts_in (i := 1208) rfl rfl
set_option maxRecDepth 1000000 in
theorem am_cw68 : Cond.code am_m68.1.2.1 am_m68.1.2.2 am_m68.2.1.1 am_m68.2.1.2.1 ∈ am_ts := am_ts_in (i := 1212) rfl rfl
set_option maxRecDepth 1000000 in
theorem am_cw69 : Cond.code am_m69.1.2.1 am_m69.1.2.2 am_m69.2.1.1 am_m69.2.1.2.1 ∈ am_ts := am_ts_in (i := 1216) rfl rfl
set_option maxRecDepth 1000000 in
theorem am_cw70 : Cond.code am_m70.1.2.1 am_m70.1.2.2 am_m70.2.1.1 am_m70.2.1.2.1 ∈ am_ts := am_ts_in (i := 1229) rfl rfl
set_option maxRecDepth 1000000 in
theorem am_cw71 : Cond.code am_m71.1.2.1 am_m71.1.2.2 am_m71.2.1.1 am_m71.2.1.2.1 ∈ am_ts := am_ts_in (i := 1235) rfl rfl
set_option maxRecDepth 1000000 in
theorem am_cw72 : Cond.code am_m72.1.2.1 am_m72.1.2.2 am_m72.2.1.1 am_m72.2.1.2.1 ∈ am_ts := am_ts_in (i := 1239) rfl rfl
set_option maxRecDepth 1000000 in
theorem am_cw73 : Cond.code am_m73.1.2.1 am_m73.1.2.2 am_m73.2.1.1 am_m73.2.1.2.1 ∈ am_ts := am_ts_in (i := 1243) rfl rfl
set_option maxRecDepth 1000000 in
theorem am_cw74 : Cond.code am_m74.1.2.1 am_m74.1.2.2 am_m74.2.1.1 am_m74.2.1.2.1 ∈ am_ts := am_ts_in (i := 1247) rfl rfl
set_option maxRecDepth 1000000 in
theorem am_cw75 : Cond.code am_m75.1.2.1 am_m75.1.2.2 am_m75.2.1.1 am_m75.2.1.2.1 ∈ am_ts := am_ts_in (i := 1251) rfl rfl
set_option maxRecDepth 1000000 in
theorem am_cw76 : Cond.code am_m76.1.2.1 am_m76.1.2.2 am_m76.2.1.1 am_m76.2.1.2.1 ∈ am_ts := am_ts_in (i := 1255) rfl rfl
set_option maxRecDepth 1000000 in
theorem am_cw77 : Cond.code am_m77.1.2.1 am_m77.1.2.2 am_m77.2.1.1 am_m77.2.1.2.1 ∈ am_ts := am_ts_in (i := 1355) rfl rfl
set_option maxRecDepth 1000000 in
theorem am_cw78 : Cond.code am_m78.1.2.1 am_m78.1.2.2 am_m78.2.1.1 am_m78.2.1.2.1 ∈ am_ts := am_ts_in (i := 1360) rfl rfl
set_option maxRecDepth 1000000 in
theorem am_cw79 : Cond.code am_m79.1.2.1 am_m79.1.2.2 am_m79.2.1.1 am_m79.2.1.2.1 ∈ am_ts := am_ts_in (i := 1364) rfl rfl
set_option maxRecDepth 1000000 in
theorem am_cw80 : Cond.code am_m80.1.2.1 am_m80.1.2.2 am_m80.2.1.1 am_m80.2.1.2.1 ∈ am_ts := am_ts_in (i := 1367) rfl rfl
set_option maxRecDepth 1000000 in
theorem am_cw81 : Cond.code am_m81.1.2.1 am_m81.1.2.2 am_m81.2.1.1 am_m81.2.1.2.1 ∈ am_ts := am_ts_in (i := 1371) rfl rfl
set_option maxRecDepth 1000000 in
theorem am_cw82 : Cond.code am_m82.1.2.1 am_m82.1.2.2 am_m82.2.1.1 am_m82.2.1.2.1 ∈ am_ts := am_ts_in (i := 1375) rfl rfl
set_option maxRecDepth 1000000 in
theorem am_cw83 : Cond.code am_m83.1.2.1 am_m83.1.2.2 am_m83.2.1.1 am_m83.2.1.2.1 ∈ am_ts := am_ts_in (i := 1379) rfl rfl
set_option maxRecDepth 1000000 in
theorem am_cw84 : Cond.code am_m84.1.2.1 am_m84.1.2.2 am_m84.2.1.1 am_m84.2.1.2.1 ∈ am_ts := am_ts_in (i := 1635) rfl rfl
set_option maxRecDepth 1000000 in
theorem am_cw85 : Cond.code am_m85.1.2.1 am_m85.1.2.2 am_m85.2.1.1 am_m85.2.1.2.1 ∈ am_ts := am_ts_in (i := 1639) rfl rfl
set_option maxRecDepth 1000000 in
theorem am_cw86 : Cond.code am_m86.1.2.1 am_m86.1.2.2 am_m86.2.1.1 am_m86.2.1.2.1 ∈ am_ts := am_ts_in (i := 1643) rfl rfl
set_option maxRecDepth 1000000 in
theorem am_cw87 : Cond.code am_m87.1.2.1 am_m87.1.2.2 am_m87.2.1.1 am_m87.2.1.2.1 ∈ am_ts := am_ts_in (i := 1687) rfl rfl
set_option maxRecDepth 1000000 in
theorem am_cw88 : Cond.code am_m88.1.2.1 am_m88.1.2.2 am_m88.2.1.1 am_m88.2.1.2.1 ∈ am_ts := am_ts_in (i := 1698) rfl rfl
set_option maxRecDepth 1000000 in
theorem am_cw89 : Cond.code am_m89.1.2.1 am_m89.1.2.2 am_m89.2.1.1 am_m89.2.1.2.1 ∈ am_ts := am_ts_in (i := 1765) rfl rfl
set_option maxRecDepth 1000000 in
theorem am_cw90 : Cond.code am_m90.1.2.1 am_m90.1.2.2 am_m90.2.1.1 am_m90.2.1.2.1 ∈ am_ts := am_ts_in (i := 1769) rfl rfl
set_option maxRecDepth 1000000 in
theorem am_cw91 : Cond.code am_m91.1.2.1 am_m91.1.2.2 am_m91.2.1.1 am_m91.2.1.2.1 ∈ am_ts := am_ts_in (i := 1777) rfl rfl
set_option maxRecDepth 1000000 in
theorem am_cw92 : Cond.code am_m92.1.2.1 am_m92.1.2.2 am_m92.2.1.1 am_m92.2.1.2.1 ∈ am_ts := am_ts_in (i := 1785) rfl rfl
set_option maxRecDepth 1000000 in
theorem am_cw93 : Cond.code am_m93.1.2.1 am_m93.1.2.2 am_m93.2.1.1 am_m93.2.1.2.1 ∈ am_ts := am_ts_in (i := 1790) rfl rfl
set_option maxRecDepth 1000000 in
theorem am_cw94 : Cond.code am_m94.1.2.1 am_m94.1.2.2 am_m94.2.1.1 am_m94.2.1.2.1 ∈ am_ts := am_ts_in (i := 1794) rfl rfl
set_option maxRecDepth 1000000 in
theorem am_cw95 : Cond.code am_m95.1.2.1 am_m95.1.2.2 am_m95.2.1.1 am_m95.2.1.2.1 ∈ am_ts := am_ts_in (i := 1798) rfl rfl
set_option maxRecDepth 1000000 in
theorem am_cw96 : Cond.code am_m96.1.2.1 am_m96.1.2.2 am_m96.2.1.1 am_m96.2.1.2.1 ∈ am_ts := am_ts_in (i := 1823) rfl rfl
set_option maxRecDepth 1000000 in
theorem am_cw97 : Cond.code am_m97.1.2.1 am_m97.1.2.2 am_m97.2.1.1 am_m97.2.1.2.1 ∈ am_ts := am_ts_in (i := 1827) rfl rfl
set_option maxRecDepth 1000000 in
theorem am_cw98 : Cond.code am_m98.1.2.1 am_m98.1.2.2 am_m98.2.1.1 am_m98.2.1.2.1 ∈ am_ts := am_ts_in (i := 1835) rfl rfl
set_option maxRecDepth 1000000 in
theorem am_cw99 : Cond.code am_m99.1.2.1 am_m99.1.2.2 am_m99.2.1.1 am_m99.2.1.2.1 ∈ am_ts := am_ts_in (i := 1839) rfl rfl
set_option maxRecDepth 1000000 in
theorem am_cw100 : Cond.code am_m100.1.2.1 am_m100.1.2.2 am_m100.2.1.1 am_m100.2.1.2.1 ∈ am_ts := am_ts_in (i := 1843) rfl rfl
set_option maxRecDepth 1000000 in
theorem am_cw101 : Cond.code am_m101.1.2.1 am_m101.1.2.2 am_m101.2.1.1 am_m101.2.1.2.1 ∈ am_ts := am_ts_in (i := 1866) rfl rfl
set_option maxRecDepth 1000000 in
theorem am_cw102 : Cond.code am_m102.1.2.1 am_m102.1.2.2 am_m102.2.1.1 am_m102.2.1.2.1 ∈ am_ts := am_ts_in (i := 1870) rfl rfl
set_option maxRecDepth 1000000 in
theorem am_cw103 : Cond.code am_m103.1.2.1 am_m103.1.2.2 am_m103.2.1.1 am_m103.2.1.2.1 ∈ am_ts := am_ts_in (i := 1874) rfl rfl
set_option maxRecDepth 1000000 in
theorem am_cw104 : Cond.code am_m104.1.2.1 am_m104.1.2.2 am_m104.2.1.1 am_m104.2.1.2.1 ∈ am_ts := am_ts_in (i := 1878) rfl rfl
set_option maxRecDepth 1000000 in
theorem am_cw105 : Cond.code am_m105.1.2.1 am_m105.1.2.2 am_m105.2.1.1 am_m105.2.1.2.1 ∈ am_ts := am_ts_in (i := 1882) rfl rfl
set_option maxRecDepth 1000000 in
theorem am_cw106 : Cond.code am_m106.1.2.1 am_m106.1.2.2 am_m106.2.1.1 am_m106.2.1.2.1 ∈ am_ts := am_ts_in (i := 1886) rfl rfl
set_option maxRecDepth 1000000 in
theorem am_cw107 : Cond.code am_m107.1.2.1 am_m107.1.2.2 am_m107.2.1.1 am_m107.2.1.2.1 ∈ am_ts := am_ts_in (i := 1890) rfl rfl
set_option maxRecDepth 1000000 in
theorem am_cw108 : Cond.code am_m108.1.2.1 am_m108.1.2.2 am_m108.2.1.1 am_m108.2.1.2.1 ∈ am_ts := am_ts_in (i := 1906) rfl rfl
set_option maxRecDepth 1000000 in
theorem am_cw109 : Cond.code am_m109.1.2.1 am_m109.1.2.2 am_m109.2.1.1 am_m109.2.1.2.1 ∈ am_ts := am_ts_in (i := 1930) rfl rfl
set_option maxRecDepth 1000000 in
theorem am_cw110 : Cond.code am_m110.1.2.1 am_m110.1.2.2 am_m110.2.1.1 am_m110.2.1.2.1 ∈ am_ts := am_ts_in (i := 1934) rfl rfl
set_option maxRecDepth 1000000 in
theorem am_cw111 : Cond.code am_m111.1.2.1 am_m111.1.2.2 am_m111.2.1.1 am_m111.2.1.2.1 ∈ am_ts := am_ts_in (i := 1938) rfl rfl
set_option maxRecDepth 1000000 in
theorem am_cw112 : Cond.code am_m112.1.2.1 am_m112.1.2.2 am_m112.2.1.1 am_m112.2.1.2.1 ∈ am_ts := am_ts_in (i := 1942) rfl rfl
set_option maxRecDepth 1000000 in
theorem am_cw113 : Cond.code am_m113.1.2.1 am_m113.1.2.2 am_m113.2.1.1 am_m113.2.1.2.1 ∈ am_ts := am_ts_in (i := 1945) rfl rfl
set_option maxRecDepth 1000000 in
theorem am_cw114 : Cond.code am_m114.1.2.1 am_m114.1.2.2 am_m114.2.1.1 am_m114.2.1.2.1 ∈ am_ts := am_ts_in (i := 1957) rfl rfl
set_option maxRecDepth 1000000 in
theorem am_cw115 : Cond.code am_m115.1.2.1 am_m115.1.2.2 am_m115.2.1.1 am_m115.2.1.2.1 ∈ am_ts := am_ts_in (i := 1961) rfl rfl
set_option maxRecDepth 1000000 in
theorem am_cw116 : Cond.code am_m116.1.2.1 am_m116.1.2.2 am_m116.2.1.1 am_m116.2.1.2.1 ∈ am_ts := am_ts_in (i := 1965) rfl rfl
set_option maxRecDepth 1000000 in
theorem am_cw117 : Cond.code am_m117.1.2.1 am_m117.1.2.2 am_m117.2.1.1 am_m117.2.1.2.1 ∈ am_ts := am_ts_in (i := 1969) rfl rfl
set_option maxRecDepth 1000000 in
theorem am_cw118 : Cond.code am_m118.1.2.1 am_m118.1.2.2 am_m118.2.1.1 am_m118.2.1.2.1 ∈ am_ts := am_ts_in (i := 1975) rfl rfl
set_option maxRecDepth 1000000 in
theorem am_cw119 : Cond.code am_m119.1.2.1 am_m119.1.2.2 am_m119.2.1.1 am_m119.2.1.2.1 ∈ am_ts := am_ts_in (i := 1982) rfl rfl
set_option maxRecDepth 1000000 in
theorem am_cw120 : Cond.code am_m120.1.2.1 am_m120.1.2.2 am_m120.2.1.1 am_m120.2.1.2.1 ∈ am_ts := am_ts_in (i := 1994) rfl rfl
set_option maxRecDepth 1000000 in
theorem am_cw121 : Cond.code am_m121.1.2.1 am_m121.1.2.2 am_m121.2.1.1 am_m121.2.1.2.1 ∈ am_ts := am_ts_in (i := 1998) rfl rfl
set_option maxRecDepth 1000000 in
theorem am_cw122 : Cond.code am_m122.1.2.1 am_m122.1.2.2 am_m122.2.1.1 am_m122.2.1.2.1 ∈ am_ts := am_ts_in (i := 2006) rfl rfl
set_option maxRecDepth 1000000 in
theorem am_cw123 : Cond.code am_m123.1.2.1 am_m123.1.2.2 am_m123.2.1.1 am_m123.2.1.2.1 ∈ am_ts := am_ts_in (i := 2010) rfl rfl
set_option maxRecDepth 1000000 in
theorem am_cw124 : Cond.code am_m124.1.2.1 am_m124.1.2.2 am_m124.2.1.1 am_m124.2.1.2.1 ∈ am_ts := am_ts_in (i := 2014) rfl rfl
set_option maxRecDepth 1000000 in
theorem am_cw125 : Cond.code am_m125.1.2.1 am_m125.1.2.2 am_m125.2.1.1 am_m125.2.1.2.1 ∈ am_ts := am_ts_in (i := 2018) rfl rfl
set_option maxRecDepth 1000000 in
theorem am_cw126 : Cond.code am_m126.1.2.1 am_m126.1.2.2 am_m126.2.1.1 am_m126.2.1.2.1 ∈ am_ts := am_ts_in (i := 2022) rfl rfl
set_option maxRecDepth 1000000 in
theorem am_cw127 : Cond.code am_m127.1.2.1 am_m127.1.2.2 am_m127.2.1.1 am_m127.2.1.2.1 ∈ am_ts := am_ts_in (i := 2026) rfl rfl
set_option maxRecDepth 1000000 in
theorem am_cw128 : Cond.code am_m128.1.2.1 am_m128.1.2.2 am_m128.2.1.1 am_m128.2.1.2.1 ∈ am_ts := am_ts_in (i := 2030) rfl rfl
set_option maxRecDepth 1000000 in
theorem am_cw129 : Cond.code am_m129.1.2.1 am_m129.1.2.2 am_m129.2.1.1 am_m129.2.1.2.1 ∈ am_ts := am_ts_in (i := 2034) rfl rfl
set_option maxRecDepth 1000000 in
theorem am_cw130 : Cond.code am_m130.1.2.1 am_m130.1.2.2 am_m130.2.1.1 am_m130.2.1.2.1 ∈ am_ts := am_ts_in (i := 2042) rfl rfl
set_option maxRecDepth 1000000 in
theorem am_cw131 : Cond.code am_m131.1.2.1 am_m131.1.2.2 am_m131.2.1.1 am_m131.2.1.2.1 ∈ am_ts := am_ts_in (i := 2046) rfl rfl
set_option maxRecDepth 1000000 in
theorem am_cw132 : Cond.code am_m132.1.2.1 am_m132.1.2.2 am_m132.2.1.1 am_m132.2.1.2.1 ∈ am_ts := am_ts_in (i := 2050) rfl rfl
theorem am_cw_all : ∀ M ∈ am_prog, Cond.code M.1.2.1 M.1.2.2 M.2.1.1 M.2.1.2.1 ∈ am_ts := List.forall_mem_cons.mpr ⟨am_cw0, List.forall_mem_cons.mpr ⟨am_cw1, List.forall_mem_cons.mpr ⟨am_cw2, List.forall_mem_cons.mpr ⟨am_cw3, List.forall_mem_cons.mpr ⟨am_cw4, List.forall_mem_cons.mpr ⟨am_cw5, List.forall_mem_cons.mpr ⟨am_cw6, List.forall_mem_cons.mpr ⟨am_cw7, List.forall_mem_cons.mpr ⟨am_cw8, List.forall_mem_cons.mpr ⟨am_cw9, List.forall_mem_cons.mpr ⟨am_cw10, List.forall_mem_cons.mpr ⟨am_cw11, List.forall_mem_cons.mpr ⟨am_cw12, List.forall_mem_cons.mpr ⟨am_cw13, List.forall_mem_cons.mpr ⟨am_cw14, List.forall_mem_cons.mpr ⟨am_cw15, List.forall_mem_cons.mpr ⟨am_cw16, List.forall_mem_cons.mpr ⟨am_cw17, List.forall_mem_cons.mpr ⟨am_cw18, List.forall_mem_cons.mpr ⟨am_cw19, List.forall_mem_cons.mpr ⟨am_cw20, List.forall_mem_cons.mpr ⟨am_cw21, List.forall_mem_cons.mpr ⟨am_cw22, List.forall_mem_cons.mpr ⟨am_cw23, List.forall_mem_cons.mpr ⟨am_cw24, List.forall_mem_cons.mpr ⟨am_cw25, List.forall_mem_cons.mpr ⟨am_cw26, List.forall_mem_cons.mpr ⟨am_cw27, List.forall_mem_cons.mpr ⟨am_cw28, List.forall_mem_cons.mpr ⟨am_cw29, List.forall_mem_cons.mpr ⟨am_cw30, List.forall_mem_cons.mpr ⟨am_cw31, List.forall_mem_cons.mpr ⟨am_cw32, List.forall_mem_cons.mpr ⟨am_cw33, List.forall_mem_cons.mpr ⟨am_cw34, List.forall_mem_cons.mpr ⟨am_cw35, List.forall_mem_cons.mpr ⟨am_cw36, List.forall_mem_cons.mpr ⟨am_cw37, List.forall_mem_cons.mpr ⟨am_cw38, List.forall_mem_cons.mpr ⟨am_cw39, List.forall_mem_cons.mpr ⟨am_cw40, List.forall_mem_cons.mpr ⟨am_cw41, List.forall_mem_cons.mpr ⟨am_cw42, List.forall_mem_cons.mpr ⟨am_cw43, List.forall_mem_cons.mpr ⟨am_cw44, List.forall_mem_cons.mpr ⟨am_cw45, List.forall_mem_cons.mpr ⟨am_cw46, List.forall_mem_cons.mpr ⟨am_cw47, List.forall_mem_cons.mpr ⟨am_cw48, List.forall_mem_cons.mpr ⟨am_cw49, List.forall_mem_cons.mpr ⟨am_cw50, List.forall_mem_cons.mpr ⟨am_cw51, List.forall_mem_cons.mpr ⟨am_cw52, List.forall_mem_cons.mpr ⟨am_cw53, List.forall_mem_cons.mpr ⟨am_cw54, List.forall_mem_cons.mpr ⟨am_cw55, List.forall_mem_cons.mpr ⟨am_cw56, List.forall_mem_cons.mpr ⟨am_cw57, List.forall_mem_cons.mpr ⟨am_cw58, List.forall_mem_cons.mpr ⟨am_cw59, List.forall_mem_cons.mpr ⟨am_cw60, List.forall_mem_cons.mpr ⟨am_cw61, List.forall_mem_cons.mpr ⟨am_cw62, List.forall_mem_cons.mpr ⟨am_cw63, List.forall_mem_cons.mpr ⟨am_cw64, List.forall_mem_cons.mpr ⟨am_cw65, List.forall_mem_cons.mpr ⟨am_cw66, List.forall_mem_cons.mpr ⟨am_cw67, List.forall_mem_cons.mpr ⟨am_cw68, List.forall_mem_cons.mpr ⟨am_cw69, List.forall_mem_cons.mpr ⟨am_cw70, List.forall_mem_cons.mpr ⟨am_cw71, List.forall_mem_cons.mpr ⟨am_cw72, List.forall_mem_cons.mpr ⟨am_cw73, List.forall_mem_cons.mpr ⟨am_cw74, List.forall_mem_cons.mpr ⟨am_cw75, List.forall_mem_cons.mpr ⟨am_cw76, List.forall_mem_cons.mpr ⟨am_cw77, List.forall_mem_cons.mpr ⟨am_cw78, List.forall_mem_cons.mpr ⟨am_cw79, List.forall_mem_cons.mpr ⟨am_cw80, List.forall_mem_cons.mpr ⟨am_cw81, List.forall_mem_cons.mpr ⟨am_cw82, List.forall_mem_cons.mpr ⟨am_cw83, List.forall_mem_cons.mpr ⟨am_cw84, List.forall_mem_cons.mpr ⟨am_cw85, List.forall_mem_cons.mpr ⟨am_cw86, List.forall_mem_cons.mpr ⟨am_cw87, List.forall_mem_cons.mpr ⟨am_cw88, List.forall_mem_cons.mpr ⟨am_cw89, List.forall_mem_cons.mpr ⟨am_cw90, List.forall_mem_cons.mpr ⟨am_cw91, List.forall_mem_cons.mpr ⟨am_cw92, List.forall_mem_cons.mpr ⟨am_cw93, List.forall_mem_cons.mpr ⟨am_cw94, List.forall_mem_cons.mpr ⟨am_cw95, List.forall_mem_cons.mpr ⟨am_cw96, List.forall_mem_cons.mpr ⟨am_cw97, List.forall_mem_cons.mpr ⟨am_cw98, List.forall_mem_cons.mpr ⟨am_cw99, List.forall_mem_cons.mpr ⟨am_cw100, List.forall_mem_cons.mpr ⟨am_cw101, List.forall_mem_cons.mpr ⟨am_cw102, List.forall_mem_cons.mpr ⟨am_cw103, List.forall_mem_cons.mpr ⟨am_cw104, List.forall_mem_cons.mpr ⟨am_cw105, List.forall_mem_cons.mpr ⟨am_cw106, List.forall_mem_cons.mpr ⟨am_cw107, List.forall_mem_cons.mpr ⟨am_cw108, List.forall_mem_cons.mpr ⟨am_cw109, List.forall_mem_cons.mpr ⟨am_cw110, List.forall_mem_cons.mpr ⟨am_cw111, List.forall_mem_cons.mpr ⟨am_cw112, List.forall_mem_cons.mpr ⟨am_cw113, List.forall_mem_cons.mpr ⟨am_cw114, List.forall_mem_cons.mpr ⟨am_cw115, List.forall_mem_cons.mpr ⟨am_cw116, List.forall_mem_cons.mpr ⟨am_cw117, List.forall_mem_cons.mpr ⟨am_cw118, List.forall_mem_cons.mpr ⟨am_cw119, List.forall_mem_cons.mpr ⟨am_cw120, List.forall_mem_cons.mpr ⟨am_cw121, List.forall_mem_cons.mpr ⟨am_cw122, List.forall_mem_cons.mpr ⟨am_cw123, List.forall_mem_cons.mpr ⟨am_cw124, List.forall_mem_cons.mpr ⟨am_cw125, List.forall_mem_cons.mpr ⟨am_cw126, List.forall_mem_cons.mpr ⟨am_cw127, List.forall_mem_cons.mpr ⟨am_cw128, List.forall_mem_cons.mpr ⟨am_cw129, List.forall_mem_cons.mpr ⟨am_cw130, List.forall_mem_cons.mpr ⟨am_cw131, List.forall_mem_cons.mpr ⟨am_cw132, fun _ h => absurd h List.not_mem_nil⟩⟩⟩⟩⟩⟩⟩⟩⟩⟩⟩⟩⟩⟩⟩⟩⟩⟩⟩⟩⟩⟩⟩⟩⟩⟩⟩⟩⟩⟩⟩⟩⟩⟩⟩⟩⟩⟩⟩⟩⟩⟩⟩⟩⟩⟩⟩⟩⟩⟩⟩⟩⟩⟩⟩⟩⟩⟩⟩⟩⟩⟩⟩⟩⟩⟩⟩⟩⟩⟩⟩⟩⟩⟩⟩⟩⟩⟩⟩⟩⟩⟩⟩⟩⟩⟩⟩⟩⟩⟩⟩⟩⟩⟩⟩⟩⟩⟩⟩⟩⟩⟩⟩⟩⟩⟩⟩⟩⟩⟩⟩⟩⟩⟩⟩⟩⟩⟩⟩⟩⟩⟩⟩⟩⟩⟩⟩⟩⟩⟩⟩⟩⟩
set_option maxRecDepth 1000000 in
theorem am_cwL : Cond.codeWith am_mL.1.2.1 am_mL.1.2.2 am_mL.2.1.1 am_mL.2.1.2.1 am_hh ∈ am_ts := am_ts_in (i := 1258) rfl rfl
set_option maxRecDepth 1000000 in
theorem am_chkMs : (List.range 400).all am_chkM = true := by decide +kernel
theorem am_allM {a : Nat} {M : am_M} (hM : am_prog[a]? = some M) : am_facts a M := by
  have hlt : a < am_prog.length := (List.getElem?_eq_some_iff.mp hM).1
  have hl : am_prog.length ≤ 400 := by decide +kernel
  exact am_chkM_ok (List.all_eq_true.mp am_chkMs a (List.mem_range.mpr (Nat.lt_of_lt_of_le hlt hl))) hM (am_cw_all M (List.mem_of_getElem? hM))
/-- what is checked of an instruction -/
def am_chkI (M : am_M) (i : am_I) : Bool := decide (decode M.1.2.2 i.1 = .ok (i.2.2.1, i.2.1)) && match i.2.2.1 with
  | .aload _ | .iload _ | .lload _ | .istore _ | .lstore _ | .astore _ | .bipush _ => decide (i.2.1 = 2)
  | .iinc _ _ | .sipush _ | .goto _ => decide (i.2.1 = 3)
  | .ifCond _ off | .if_icmp _ off => decide (i.2.1 = 3) && decide (0 ≤ (i.1 : Int) + off)
  | .tableswitch _ _ _ _ => true
  | .ldc k => decide (i.2.1 = 2) && (match i.2.2.2.1.2.1 with
    | 0 => am_w i.2.2.2.1.2.2 (Cond.constant M.1.2.1.cls k (Int32.ofInt i.2.2.2.2))
    | _ => match lw_tbl[i.2.2.2.1.2.2]? with
      | some (.stringRef o j tx) => decide (o = M.1.2.1.cls) && decide (j = k)
      | _ => false)
  | .ldc2_w k => decide (i.2.1 = 3) && am_w i.2.2.2.1.2.2 (Cond.constantLong M.1.2.1.cls k (Int64.ofInt i.2.2.2.2))
  | .getfield idx => decide (i.2.1 = 3) && (match am_cls[i.2.2.2.1.1]? with
    | some r => decide (i.2.2.2.1.2.1 < r.2.2) && am_wF i.2.2.2.1.2.2 M.1.2.1.cls idx (r.2.1 i.2.2.2.1.2.1)
    | none => false)
  | .putfield idx => decide (i.2.1 = 3) && (match am_cls[i.2.2.2.1.1]? with
    | some r => decide (i.2.2.2.1.2.1 < r.2.2) && cond (r.2.1 i.2.2.2.1.2.1).2.2.2
        (am_w i.2.2.2.1.2.2 (Cond.fieldLink M.1.2.1.cls idx (r.2.1 i.2.2.2.1.2.1).1 (r.2.1 i.2.2.2.1.2.1).2.1 (r.2.1 i.2.2.2.1.2.1).2.2.1) && decide (M.1.2.1.name = "<init>") && decide ((r.2.1 i.2.2.2.1.2.1).1 = M.1.2.1.cls))
        (am_wF i.2.2.2.1.2.2 M.1.2.1.cls idx (r.2.1 i.2.2.2.1.2.1))
    | none => false)
  | .newarray t => decide (i.2.1 = 2) && am_w i.2.2.2.1.2.2 (Cond.arrayClass (Op.newarray.typeOf t)) && decide (Op.newarray.typeOf t = .int ∨ Op.newarray.typeOf t = .boolean ∨ Op.newarray.typeOf t = .long)
  | .anewarray idx => decide (i.2.1 = 3) && (match am_cls[i.2.2.2.1.1]? with
    | some r => am_w i.2.2.2.1.2.1 (Cond.classLink M.1.2.1.cls idx r.1) && decide (lw_tbl[i.2.2.2.1.2.2]? = some (Cond.arrayOver (.object r.1)))
    | none => false)
  | .new idx => decide (i.2.1 = 3) && (match am_cls[i.2.2.2.1.1]? with
    | some r => am_w i.2.2.2.1.2.1 (Cond.classLink M.1.2.1.cls idx r.1)
    | none => false)
  | .invokespecial idx => decide (i.2.1 = 3) && (match i.2.2.2.1.2.2 with
    | 0 => am_w i.2.2.2.1.2.1 (Cond.methodLink M.1.2.1.cls idx Lib.objectInit)
    | _ => match am_prog[i.2.2.2.1.1]? with
      | none => true
      | some M' => decide (M'.1.2.1.name = "<init>" ∧ M'.2.1.2.1 = none) && am_wM i.2.2.2.1.2.1 M.1.2.1.cls idx M'.1.2.1 && (match am_hint[i.2.2.2.1.1]? with
        | some h => !h.2.2.2.2
        | none => false))
  | .invokevirtual idx => decide (i.2.1 = 3) && (match i.2.2.2.1.2.2 with
    | 0 => am_w i.2.2.2.1.2.1 (Cond.methodLink M.1.2.1.cls idx am_charAt)
    | _ => match am_prog[i.2.2.2.1.1]? with
      | none => true
      | some M' => decide (¬ M'.1.2.1.name = "<init>") && am_wM i.2.2.2.1.2.1 M.1.2.1.cls idx M'.1.2.1 && (match am_hint[i.2.2.2.1.1]? with
        | some h => !h.2.2.2.2
        | none => false))
  | .invokestatic idx => decide (i.2.1 = 3) && (match i.2.2.2.1.2.2 with
    | 0 => am_w i.2.2.2.1.2.1 (Cond.methodLink M.1.2.1.cls idx am_mL.1.2.1)
    | 1 => am_w i.2.2.2.1.2.1 (Cond.methodLink M.1.2.1.cls idx Lib.Math.max.name)
    | 2 => am_w i.2.2.2.1.2.1 (Cond.methodLink M.1.2.1.cls idx Lib.Math.min.name)
    | _ => match am_prog[i.2.2.2.1.1]? with
      | none => true
      | some M' => (match lw_tbl[i.2.2.2.1.2.1]? with
          | some (.methodLink o j r) => decide (o = M.1.2.1.cls) && decide (j = idx) && decide (r = M'.1.2.1) && decide (M'.1.2.1.cls = M.1.2.1.cls) && goodWord (.methodLink o j r)
          | some (.methodLinkNest o j r host) => decide (o = M.1.2.1.cls) && decide (j = idx) && decide (r = M'.1.2.1)
          | _ => false) && (match am_hint[i.2.2.2.1.1]? with
        | some h => h.2.2.2.2
        | none => false))
  | _ => decide (i.2.1 = 1)
theorem am_oI_ok : Cond.instanceMethod Lib.objectInit ∈ am_ts ∧ Cond.code Lib.objectInit ⟨#[0xb1]⟩ 1 none ∈ am_ts := ⟨am_w_ok (i := am_oI.1) (by decide +kernel), am_w_ok (i := am_oI.2) (by decide +kernel)⟩
theorem am_oM_ok : Cond.initialized "java/lang/Math" ∈ am_ts ∧ Cond.static Lib.Math.max.name ∈ am_ts ∧ Cond.code Lib.Math.max.name Lib.Math.max.code 2 (some .int) ∈ am_ts ∧ Cond.static Lib.Math.min.name ∈ am_ts ∧ Cond.code Lib.Math.min.name Lib.Math.min.code 2 (some .int) ∈ am_ts :=
  ⟨am_w_ok (i := am_oM.1) (by decide +kernel), am_w_ok (i := am_oM.2.1) (by decide +kernel), am_w_ok (i := am_oM.2.2.1) (by decide +kernel), am_w_ok (i := am_oM.2.2.2.1) (by decide +kernel), am_w_ok (i := am_oM.2.2.2.2) (by decide +kernel)⟩
theorem am_oL_ok (scr : Option (Nat × (Nat → Int32))) (lk : List Value → List am_k → am_H → Option am_O) : am_okL (am_P1 scr lk) am_hh := by
  have h1 : Cond.static am_mL.1.2.1 ∈ am_ts := am_w_ok (i := am_oL.1) (by decide +kernel)
  have h2 : Cond.initialized am_mL.1.2.1.cls ∈ am_ts := am_w_ok (i := am_oL.2.1) (by decide +kernel)
  have h3 : am_mL.1.2.1.cls ≠ "java/lang/invoke/MethodHandle" ∧ am_mL.1.2.1.cls ≠ "java/lang/invoke/VarHandle" ∧ (parseMethodDescriptor am_mL.1.2.1.desc).map (fun d => d.parameters.length) = some am_mL.2.1.2.2 := by decide +kernel
  exact ⟨h1, h2, am_cwL, h3⟩
end
section
set_option maxRecDepth 1000000 in
theorem am_ck0 : am_m0.2.2.2.all (am_chkI am_m0) = true := by decide +kernel
set_option maxRecDepth 1000000 in
theorem am_ck1 : am_m1.2.2.2.all (am_chkI am_m1) = true := by decide +kernel
set_option maxRecDepth 1000000 in
theorem am_ck2 : am_m2.2.2.2.all (am_chkI am_m2) = true := by decide +kernel
set_option maxRecDepth 1000000 in
theorem am_ck3 : am_m3.2.2.2.all (am_chkI am_m3) = true := by decide +kernel
set_option maxRecDepth 1000000 in
theorem am_ck4 : am_m4.2.2.2.all (am_chkI am_m4) = true := by decide +kernel
set_option maxRecDepth 1000000 in
theorem am_ck5 : am_m5.2.2.2.all (am_chkI am_m5) = true := by decide +kernel
set_option maxRecDepth 1000000 in
theorem am_ck6 : am_m6.2.2.2.all (am_chkI am_m6) = true := by decide +kernel
set_option maxRecDepth 1000000 in
theorem am_ck7 : am_m7.2.2.2.all (am_chkI am_m7) = true := by decide +kernel
set_option maxRecDepth 1000000 in
theorem am_ck8 : am_m8.2.2.2.all (am_chkI am_m8) = true := by decide +kernel
set_option maxRecDepth 1000000 in
theorem am_ck9 : am_m9.2.2.2.all (am_chkI am_m9) = true := by decide +kernel
set_option maxRecDepth 1000000 in
theorem am_ck10 : am_m10.2.2.2.all (am_chkI am_m10) = true := by decide +kernel
set_option maxRecDepth 1000000 in
theorem am_ck11 : am_m11.2.2.2.all (am_chkI am_m11) = true := by decide +kernel
set_option maxRecDepth 1000000 in
theorem am_ck12 : am_m12.2.2.2.all (am_chkI am_m12) = true := by decide +kernel
set_option maxRecDepth 1000000 in
theorem am_ck13 : am_m13.2.2.2.all (am_chkI am_m13) = true := by decide +kernel
set_option maxRecDepth 1000000 in
theorem am_ck14 : am_m14.2.2.2.all (am_chkI am_m14) = true := by decide +kernel
set_option maxRecDepth 1000000 in
theorem am_ck15 : am_m15.2.2.2.all (am_chkI am_m15) = true := by decide +kernel
set_option maxRecDepth 1000000 in
theorem am_ck16 : am_m16.2.2.2.all (am_chkI am_m16) = true := by decide +kernel
set_option maxRecDepth 1000000 in
theorem am_ck17 : am_m17.2.2.2.all (am_chkI am_m17) = true := by decide +kernel
set_option maxRecDepth 1000000 in
theorem am_ck18 : am_m18.2.2.2.all (am_chkI am_m18) = true := by decide +kernel
set_option maxRecDepth 1000000 in
theorem am_ck19 : am_m19.2.2.2.all (am_chkI am_m19) = true := by decide +kernel
set_option maxRecDepth 1000000 in
theorem am_ck20 : am_m20.2.2.2.all (am_chkI am_m20) = true := by decide +kernel
set_option maxRecDepth 1000000 in
theorem am_ck21 : am_m21.2.2.2.all (am_chkI am_m21) = true := by decide +kernel
set_option maxRecDepth 1000000 in
theorem am_ck22 : am_m22.2.2.2.all (am_chkI am_m22) = true := by decide +kernel
set_option maxRecDepth 1000000 in
theorem am_ck23 : am_m23.2.2.2.all (am_chkI am_m23) = true := by decide +kernel
set_option maxRecDepth 1000000 in
theorem am_ck24 : am_m24.2.2.2.all (am_chkI am_m24) = true := by decide +kernel
end
section
set_option maxRecDepth 1000000 in
theorem am_ck25 : am_m25.2.2.2.all (am_chkI am_m25) = true := by decide +kernel
set_option maxRecDepth 1000000 in
theorem am_ck26 : am_m26.2.2.2.all (am_chkI am_m26) = true := by decide +kernel
set_option maxRecDepth 1000000 in
theorem am_ck27 : am_m27.2.2.2.all (am_chkI am_m27) = true := by decide +kernel
set_option maxRecDepth 1000000 in
theorem am_ck28 : am_m28.2.2.2.all (am_chkI am_m28) = true := by decide +kernel
set_option maxRecDepth 1000000 in
theorem am_ck29 : am_m29.2.2.2.all (am_chkI am_m29) = true := by decide +kernel
set_option maxRecDepth 1000000 in
theorem am_ck30 : am_m30.2.2.2.all (am_chkI am_m30) = true := by decide +kernel
set_option maxRecDepth 1000000 in
theorem am_ck31 : am_m31.2.2.2.all (am_chkI am_m31) = true := by decide +kernel
set_option maxRecDepth 1000000 in
theorem am_ck32 : am_m32.2.2.2.all (am_chkI am_m32) = true := by decide +kernel
set_option maxRecDepth 1000000 in
theorem am_ck33 : am_m33.2.2.2.all (am_chkI am_m33) = true := by decide +kernel
set_option maxRecDepth 1000000 in
theorem am_ck34 : am_m34.2.2.2.all (am_chkI am_m34) = true := by decide +kernel
set_option maxRecDepth 1000000 in
theorem am_ck35 : am_m35.2.2.2.all (am_chkI am_m35) = true := by decide +kernel
set_option maxRecDepth 1000000 in
theorem am_ck36 : am_m36.2.2.2.all (am_chkI am_m36) = true := by decide +kernel
set_option maxRecDepth 1000000 in
theorem am_ck37 : am_m37.2.2.2.all (am_chkI am_m37) = true := by decide +kernel
set_option maxRecDepth 1000000 in
theorem am_ck38 : am_m38.2.2.2.all (am_chkI am_m38) = true := by decide +kernel
set_option maxRecDepth 1000000 in
theorem am_ck39 : am_m39.2.2.2.all (am_chkI am_m39) = true := by decide +kernel
set_option maxRecDepth 1000000 in
theorem am_ck40 : am_m40.2.2.2.all (am_chkI am_m40) = true := by decide +kernel
set_option maxRecDepth 1000000 in
theorem am_ck41 : am_m41.2.2.2.all (am_chkI am_m41) = true := by decide +kernel
set_option maxRecDepth 1000000 in
theorem am_ck42 : am_m42.2.2.2.all (am_chkI am_m42) = true := by decide +kernel
set_option maxRecDepth 1000000 in
theorem am_ck43 : am_m43.2.2.2.all (am_chkI am_m43) = true := by decide +kernel
set_option maxRecDepth 1000000 in
theorem am_ck44 : am_m44.2.2.2.all (am_chkI am_m44) = true := by decide +kernel
set_option maxRecDepth 1000000 in
theorem am_ck45 : am_m45.2.2.2.all (am_chkI am_m45) = true := by decide +kernel
set_option maxRecDepth 1000000 in
theorem am_ck46 : am_m46.2.2.2.all (am_chkI am_m46) = true := by decide +kernel
set_option maxRecDepth 1000000 in
theorem am_ck47 : am_m47.2.2.2.all (am_chkI am_m47) = true := by decide +kernel
set_option maxRecDepth 1000000 in
theorem am_ck48 : am_m48.2.2.2.all (am_chkI am_m48) = true := by decide +kernel
set_option maxRecDepth 1000000 in
theorem am_ck49 : am_m49.2.2.2.all (am_chkI am_m49) = true := by decide +kernel
end
section
set_option maxRecDepth 1000000 in
theorem am_ck50 : am_m50.2.2.2.all (am_chkI am_m50) = true := by decide +kernel
set_option maxRecDepth 1000000 in
theorem am_ck51 : am_m51.2.2.2.all (am_chkI am_m51) = true := by decide +kernel
set_option maxRecDepth 1000000 in
theorem am_ck52 : am_m52.2.2.2.all (am_chkI am_m52) = true := by decide +kernel
set_option maxRecDepth 1000000 in
theorem am_ck53 : am_m53.2.2.2.all (am_chkI am_m53) = true := by decide +kernel
set_option maxRecDepth 1000000 in
theorem am_ck54 : am_m54.2.2.2.all (am_chkI am_m54) = true := by decide +kernel
set_option maxRecDepth 1000000 in
theorem am_ck55 : am_m55.2.2.2.all (am_chkI am_m55) = true := by decide +kernel
set_option maxRecDepth 1000000 in
theorem am_ck56 : am_m56.2.2.2.all (am_chkI am_m56) = true := by decide +kernel
set_option maxRecDepth 1000000 in
theorem am_ck57 : am_m57.2.2.2.all (am_chkI am_m57) = true := by decide +kernel
set_option maxRecDepth 1000000 in
theorem am_ck58 : am_m58.2.2.2.all (am_chkI am_m58) = true := by decide +kernel
set_option maxRecDepth 1000000 in
theorem am_ck59 : am_m59.2.2.2.all (am_chkI am_m59) = true := by decide +kernel
set_option maxRecDepth 1000000 in
theorem am_ck60 : am_m60.2.2.2.all (am_chkI am_m60) = true := by decide +kernel
set_option maxRecDepth 1000000 in
theorem am_ck61 : am_m61.2.2.2.all (am_chkI am_m61) = true := by decide +kernel
set_option maxRecDepth 1000000 in
theorem am_ck62 : am_m62.2.2.2.all (am_chkI am_m62) = true := by decide +kernel
set_option maxRecDepth 1000000 in
theorem am_ck63 : am_m63.2.2.2.all (am_chkI am_m63) = true := by decide +kernel
set_option maxRecDepth 1000000 in
theorem am_ck64 : am_m64.2.2.2.all (am_chkI am_m64) = true := by decide +kernel
set_option maxRecDepth 1000000 in
theorem am_ck65 : am_m65.2.2.2.all (am_chkI am_m65) = true := by decide +kernel
set_option maxRecDepth 1000000 in
theorem am_ck66 : am_m66.2.2.2.all (am_chkI am_m66) = true := by decide +kernel
set_option maxRecDepth 1000000 in
theorem am_ck67 : am_m67.2.2.2.all (am_chkI am_m67) = true := by decide +kernel
set_option maxRecDepth 1000000 in
theorem am_ck68 : am_m68.2.2.2.all (am_chkI am_m68) = true := by decide +kernel
set_option maxRecDepth 1000000 in
theorem am_ck69 : am_m69.2.2.2.all (am_chkI am_m69) = true := by decide +kernel
set_option maxRecDepth 1000000 in
theorem am_ck70 : am_m70.2.2.2.all (am_chkI am_m70) = true := by decide +kernel
set_option maxRecDepth 1000000 in
theorem am_ck71 : am_m71.2.2.2.all (am_chkI am_m71) = true := by decide +kernel
set_option maxRecDepth 1000000 in
theorem am_ck72 : am_m72.2.2.2.all (am_chkI am_m72) = true := by decide +kernel
set_option maxRecDepth 1000000 in
theorem am_ck73 : am_m73.2.2.2.all (am_chkI am_m73) = true := by decide +kernel
set_option maxRecDepth 1000000 in
theorem am_ck74 : am_m74.2.2.2.all (am_chkI am_m74) = true := by decide +kernel
end
section
theorem am_all_app {f : am_I → Bool} {a b : List am_I} (ha : a.all f = true) (hb : b.all f = true) : (a ++ b).all f = true := by rw [List.all_append, ha, hb]; rfl
set_option maxRecDepth 1000000 in
theorem am_ck75 : am_m75.2.2.2.all (am_chkI am_m75) = true := by decide +kernel
set_option maxRecDepth 1000000 in
theorem am_ck76_0 : am_m76_c0.all (am_chkI am_m76) = true := by decide +kernel
set_option maxRecDepth 1000000 in
theorem am_ck76_1 : am_m76_c1.all (am_chkI am_m76) = true := by decide +kernel
theorem am_ck76 : am_m76.2.2.2.all (am_chkI am_m76) = true := (am_all_app am_ck76_0 am_ck76_1)
set_option maxRecDepth 1000000 in
theorem am_ck77_0 : am_m77_c0.all (am_chkI am_m77) = true := by decide +kernel
set_option maxRecDepth 1000000 in
theorem am_ck77_1 : am_m77_c1.all (am_chkI am_m77) = true := by decide +kernel
set_option maxRecDepth 1000000 in
theorem am_ck77_2 : am_m77_c2.all (am_chkI am_m77) = true := by decide +kernel
set_option maxRecDepth 1000000 in
theorem am_ck77_3 : am_m77_c3.all (am_chkI am_m77) = true := by decide +kernel
set_option maxRecDepth 1000000 in
theorem am_ck77_4 : am_m77_c4.all (am_chkI am_m77) = true := by decide +kernel
end
section
set_option maxRecDepth 1000000 in
theorem am_ck77_5 : am_m77_c5.all (am_chkI am_m77) = true := by decide +kernel
set_option maxRecDepth 1000000 in
theorem am_ck77_6 : am_m77_c6.all (am_chkI am_m77) = true := by decide +kernel
set_option maxRecDepth 1000000 in
theorem am_ck77_7 : am_m77_c7.all (am_chkI am_m77) = true := by decide +kernel
set_option maxRecDepth 1000000 in
theorem am_ck77_8 : am_m77_c8.all (am_chkI am_m77) = true := by decide +kernel
set_option maxRecDepth 1000000 in
theorem am_ck77_9 : am_m77_c9.all (am_chkI am_m77) = true := by decide +kernel
theorem am_ck77 : am_m77.2.2.2.all (am_chkI am_m77) = true := (am_all_app am_ck77_0 (am_all_app am_ck77_1 (am_all_app am_ck77_2 (am_all_app am_ck77_3 (am_all_app am_ck77_4 (am_all_app am_ck77_5 (am_all_app am_ck77_6 (am_all_app am_ck77_7 (am_all_app am_ck77_8 am_ck77_9)))))))))
set_option maxRecDepth 1000000 in
theorem am_ck78 : am_m78.2.2.2.all (am_chkI am_m78) = true := by decide +kernel
set_option maxRecDepth 1000000 in
theorem am_ck79_0 : am_m79_c0.all (am_chkI am_m79) = true := by decide +kernel
set_option maxRecDepth 1000000 in
theorem am_ck79_1 : am_m79_c1.all (am_chkI am_m79) = true := by decide +kernel
theorem am_ck79 : am_m79.2.2.2.all (am_chkI am_m79) = true := (am_all_app am_ck79_0 am_ck79_1)
end
section
set_option maxRecDepth 1000000 in
theorem am_ck80 : am_m80.2.2.2.all (am_chkI am_m80) = true := by decide +kernel
set_option maxRecDepth 1000000 in
theorem am_ck81_0 : am_m81_c0.all (am_chkI am_m81) = true := by decide +kernel
set_option maxRecDepth 1000000 in
theorem am_ck81_1 : am_m81_c1.all (am_chkI am_m81) = true := by decide +kernel
theorem am_ck81 : am_m81.2.2.2.all (am_chkI am_m81) = true := (am_all_app am_ck81_0 am_ck81_1)
set_option maxRecDepth 1000000 in
theorem am_ck82_0 : am_m82_c0.all (am_chkI am_m82) = true := by decide +kernel
set_option maxRecDepth 1000000 in
theorem am_ck82_1 : am_m82_c1.all (am_chkI am_m82) = true := by decide +kernel
theorem am_ck82 : am_m82.2.2.2.all (am_chkI am_m82) = true := (am_all_app am_ck82_0 am_ck82_1)
set_option maxRecDepth 1000000 in
theorem am_ck83 : am_m83.2.2.2.all (am_chkI am_m83) = true := by decide +kernel
set_option maxRecDepth 1000000 in
theorem am_ck84_0 : am_m84_c0.all (am_chkI am_m84) = true := by decide +kernel
set_option maxRecDepth 1000000 in
theorem am_ck84_1 : am_m84_c1.all (am_chkI am_m84) = true := by decide +kernel
theorem am_ck84 : am_m84.2.2.2.all (am_chkI am_m84) = true := (am_all_app am_ck84_0 am_ck84_1)
set_option maxRecDepth 1000000 in
theorem am_ck85 : am_m85.2.2.2.all (am_chkI am_m85) = true := by decide +kernel
set_option maxRecDepth 1000000 in
theorem am_ck86_0 : am_m86_c0.all (am_chkI am_m86) = true := by decide +kernel
set_option maxRecDepth 1000000 in
theorem am_ck86_1 : am_m86_c1.all (am_chkI am_m86) = true := by decide +kernel
set_option maxRecDepth 1000000 in
theorem am_ck86_2 : am_m86_c2.all (am_chkI am_m86) = true := by decide +kernel
theorem am_ck86 : am_m86.2.2.2.all (am_chkI am_m86) = true := (am_all_app am_ck86_0 (am_all_app am_ck86_1 am_ck86_2))
set_option maxRecDepth 1000000 in
theorem am_ck87 : am_m87.2.2.2.all (am_chkI am_m87) = true := by decide +kernel
set_option maxRecDepth 1000000 in
theorem am_ck88 : am_m88.2.2.2.all (am_chkI am_m88) = true := by decide +kernel
set_option maxRecDepth 1000000 in
theorem am_ck89 : am_m89.2.2.2.all (am_chkI am_m89) = true := by decide +kernel
set_option maxRecDepth 1000000 in
theorem am_ck90 : am_m90.2.2.2.all (am_chkI am_m90) = true := by decide +kernel
set_option maxRecDepth 1000000 in
theorem am_ck91 : am_m91.2.2.2.all (am_chkI am_m91) = true := by decide +kernel
set_option maxRecDepth 1000000 in
theorem am_ck92_0 : am_m92_c0.all (am_chkI am_m92) = true := by decide +kernel
end
section
set_option maxRecDepth 1000000 in
theorem am_ck92_1 : am_m92_c1.all (am_chkI am_m92) = true := by decide +kernel
theorem am_ck92 : am_m92.2.2.2.all (am_chkI am_m92) = true := (am_all_app am_ck92_0 am_ck92_1)
set_option maxRecDepth 1000000 in
theorem am_ck93 : am_m93.2.2.2.all (am_chkI am_m93) = true := by decide +kernel
set_option maxRecDepth 1000000 in
theorem am_ck94 : am_m94.2.2.2.all (am_chkI am_m94) = true := by decide +kernel
set_option maxRecDepth 1000000 in
theorem am_ck95 : am_m95.2.2.2.all (am_chkI am_m95) = true := by decide +kernel
set_option maxRecDepth 1000000 in
theorem am_ck96_0 : am_m96_c0.all (am_chkI am_m96) = true := by decide +kernel
set_option maxRecDepth 1000000 in
theorem am_ck96_1 : am_m96_c1.all (am_chkI am_m96) = true := by decide +kernel
theorem am_ck96 : am_m96.2.2.2.all (am_chkI am_m96) = true := (am_all_app am_ck96_0 am_ck96_1)
set_option maxRecDepth 1000000 in
theorem am_ck97_0 : am_m97_c0.all (am_chkI am_m97) = true := by decide +kernel
set_option maxRecDepth 1000000 in
theorem am_ck97_1 : am_m97_c1.all (am_chkI am_m97) = true := by decide +kernel
theorem am_ck97 : am_m97.2.2.2.all (am_chkI am_m97) = true := (am_all_app am_ck97_0 am_ck97_1)
set_option maxRecDepth 1000000 in
theorem am_ck98 : am_m98.2.2.2.all (am_chkI am_m98) = true := by decide +kernel
set_option maxRecDepth 1000000 in
theorem am_ck99_0 : am_m99_c0.all (am_chkI am_m99) = true := by decide +kernel
set_option maxRecDepth 1000000 in
theorem am_ck99_1 : am_m99_c1.all (am_chkI am_m99) = true := by decide +kernel
theorem am_ck99 : am_m99.2.2.2.all (am_chkI am_m99) = true := (am_all_app am_ck99_0 am_ck99_1)
set_option maxRecDepth 1000000 in
theorem am_ck100 : am_m100.2.2.2.all (am_chkI am_m100) = true := by decide +kernel
set_option maxRecDepth 1000000 in
theorem am_ck101 : am_m101.2.2.2.all (am_chkI am_m101) = true := by decide +kernel
set_option maxRecDepth 1000000 in
theorem am_ck102_0 : am_m102_c0.all (am_chkI am_m102) = true := by decide +kernel
set_option maxRecDepth 1000000 in
theorem am_ck102_1 : am_m102_c1.all (am_chkI am_m102) = true := by decide +kernel
theorem am_ck102 : am_m102.2.2.2.all (am_chkI am_m102) = true := (am_all_app am_ck102_0 am_ck102_1)
set_option maxRecDepth 1000000 in
theorem am_ck103 : am_m103.2.2.2.all (am_chkI am_m103) = true := by decide +kernel
set_option maxRecDepth 1000000 in
theorem am_ck104_0 : am_m104_c0.all (am_chkI am_m104) = true := by decide +kernel
set_option maxRecDepth 1000000 in
theorem am_ck104_1 : am_m104_c1.all (am_chkI am_m104) = true := by decide +kernel
theorem am_ck104 : am_m104.2.2.2.all (am_chkI am_m104) = true := (am_all_app am_ck104_0 am_ck104_1)
end
section
set_option maxRecDepth 1000000 in
theorem am_ck105 : am_m105.2.2.2.all (am_chkI am_m105) = true := by decide +kernel
set_option maxRecDepth 1000000 in
theorem am_ck106 : am_m106.2.2.2.all (am_chkI am_m106) = true := by decide +kernel
set_option maxRecDepth 1000000 in
theorem am_ck107 : am_m107.2.2.2.all (am_chkI am_m107) = true := by decide +kernel
set_option maxRecDepth 1000000 in
theorem am_ck108 : am_m108.2.2.2.all (am_chkI am_m108) = true := by decide +kernel
set_option maxRecDepth 1000000 in
theorem am_ck109 : am_m109.2.2.2.all (am_chkI am_m109) = true := by decide +kernel
set_option maxRecDepth 1000000 in
theorem am_ck110 : am_m110.2.2.2.all (am_chkI am_m110) = true := by decide +kernel
set_option maxRecDepth 1000000 in
theorem am_ck111 : am_m111.2.2.2.all (am_chkI am_m111) = true := by decide +kernel
set_option maxRecDepth 1000000 in
theorem am_ck112 : am_m112.2.2.2.all (am_chkI am_m112) = true := by decide +kernel
set_option maxRecDepth 1000000 in
theorem am_ck113 : am_m113.2.2.2.all (am_chkI am_m113) = true := by decide +kernel
set_option maxRecDepth 1000000 in
theorem am_ck114 : am_m114.2.2.2.all (am_chkI am_m114) = true := by decide +kernel
set_option maxRecDepth 1000000 in
theorem am_ck115_0 : am_m115_c0.all (am_chkI am_m115) = true := by decide +kernel
set_option maxRecDepth 1000000 in
theorem am_ck115_1 : am_m115_c1.all (am_chkI am_m115) = true := by decide +kernel
theorem am_ck115 : am_m115.2.2.2.all (am_chkI am_m115) = true := (am_all_app am_ck115_0 am_ck115_1)
set_option maxRecDepth 1000000 in
theorem am_ck116_0 : am_m116_c0.all (am_chkI am_m116) = true := by decide +kernel
set_option maxRecDepth 1000000 in
theorem am_ck116_1 : am_m116_c1.all (am_chkI am_m116) = true := by decide +kernel
theorem am_ck116 : am_m116.2.2.2.all (am_chkI am_m116) = true := (am_all_app am_ck116_0 am_ck116_1)
set_option maxRecDepth 1000000 in
theorem am_ck117_0 : am_m117_c0.all (am_chkI am_m117) = true := by decide +kernel
set_option maxRecDepth 1000000 in
theorem am_ck117_1 : am_m117_c1.all (am_chkI am_m117) = true := by decide +kernel
set_option maxRecDepth 1000000 in
theorem am_ck117_2 : am_m117_c2.all (am_chkI am_m117) = true := by decide +kernel
theorem am_ck117 : am_m117.2.2.2.all (am_chkI am_m117) = true := (am_all_app am_ck117_0 (am_all_app am_ck117_1 am_ck117_2))
set_option maxRecDepth 1000000 in
theorem am_ck118_0 : am_m118_c0.all (am_chkI am_m118) = true := by decide +kernel
end
section
set_option maxRecDepth 1000000 in
theorem am_ck118_1 : am_m118_c1.all (am_chkI am_m118) = true := by decide +kernel
set_option maxRecDepth 1000000 in
theorem am_ck118_2 : am_m118_c2.all (am_chkI am_m118) = true := by decide +kernel
theorem am_ck118 : am_m118.2.2.2.all (am_chkI am_m118) = true := (am_all_app am_ck118_0 (am_all_app am_ck118_1 am_ck118_2))
set_option maxRecDepth 1000000 in
theorem am_ck119 : am_m119.2.2.2.all (am_chkI am_m119) = true := by decide +kernel
set_option maxRecDepth 1000000 in
theorem am_ck120 : am_m120.2.2.2.all (am_chkI am_m120) = true := by decide +kernel
set_option maxRecDepth 1000000 in
theorem am_ck121 : am_m121.2.2.2.all (am_chkI am_m121) = true := by decide +kernel
set_option maxRecDepth 1000000 in
theorem am_ck122 : am_m122.2.2.2.all (am_chkI am_m122) = true := by decide +kernel
set_option maxRecDepth 1000000 in
theorem am_ck123 : am_m123.2.2.2.all (am_chkI am_m123) = true := by decide +kernel
set_option maxRecDepth 1000000 in
theorem am_ck124_0 : am_m124_c0.all (am_chkI am_m124) = true := by decide +kernel
set_option maxRecDepth 1000000 in
theorem am_ck124_1 : am_m124_c1.all (am_chkI am_m124) = true := by decide +kernel
theorem am_ck124 : am_m124.2.2.2.all (am_chkI am_m124) = true := (am_all_app am_ck124_0 am_ck124_1)
set_option maxRecDepth 1000000 in
theorem am_ck125 : am_m125.2.2.2.all (am_chkI am_m125) = true := by decide +kernel
set_option maxRecDepth 1000000 in
theorem am_ck126_0 : am_m126_c0.all (am_chkI am_m126) = true := by decide +kernel
set_option maxRecDepth 1000000 in
theorem am_ck126_1 : am_m126_c1.all (am_chkI am_m126) = true := by decide +kernel
theorem am_ck126 : am_m126.2.2.2.all (am_chkI am_m126) = true := (am_all_app am_ck126_0 am_ck126_1)
set_option maxRecDepth 1000000 in
theorem am_ck127_0 : am_m127_c0.all (am_chkI am_m127) = true := by decide +kernel
set_option maxRecDepth 1000000 in
theorem am_ck127_1 : am_m127_c1.all (am_chkI am_m127) = true := by decide +kernel
theorem am_ck127 : am_m127.2.2.2.all (am_chkI am_m127) = true := (am_all_app am_ck127_0 am_ck127_1)
set_option maxRecDepth 1000000 in
theorem am_ck128_0 : am_m128_c0.all (am_chkI am_m128) = true := by decide +kernel
set_option maxRecDepth 1000000 in
theorem am_ck128_1 : am_m128_c1.all (am_chkI am_m128) = true := by decide +kernel
theorem am_ck128 : am_m128.2.2.2.all (am_chkI am_m128) = true := (am_all_app am_ck128_0 am_ck128_1)
set_option maxRecDepth 1000000 in
theorem am_ck129 : am_m129.2.2.2.all (am_chkI am_m129) = true := by decide +kernel
set_option maxRecDepth 1000000 in
theorem am_ck130 : am_m130.2.2.2.all (am_chkI am_m130) = true := by decide +kernel
end
section
set_option maxRecDepth 1000000 in
theorem am_ck131 : am_m131.2.2.2.all (am_chkI am_m131) = true := by decide +kernel
set_option maxRecDepth 1000000 in
theorem am_ck132_0 : am_m132_c0.all (am_chkI am_m132) = true := by decide +kernel
set_option maxRecDepth 1000000 in
theorem am_ck132_1 : am_m132_c1.all (am_chkI am_m132) = true := by decide +kernel
theorem am_ck132 : am_m132.2.2.2.all (am_chkI am_m132) = true := (am_all_app am_ck132_0 am_ck132_1)
set_option maxRecDepth 1000000 in
theorem am_ckL0 : am_m133_c0.all (am_chkI am_m133) = true := by decide +kernel
set_option maxRecDepth 1000000 in
theorem am_ckL1 : am_m133_c1.all (am_chkI am_m133) = true := by decide +kernel
set_option maxRecDepth 1000000 in
theorem am_ckL2 : am_m133_c2.all (am_chkI am_m133) = true := by decide +kernel
set_option maxRecDepth 1000000 in
theorem am_ckL3 : am_m133_c3.all (am_chkI am_m133) = true := by decide +kernel
set_option maxRecDepth 1000000 in
theorem am_ckL4 : am_m133_c4.all (am_chkI am_m133) = true := by decide +kernel
end
section
set_option maxRecDepth 1000000 in
theorem am_ckL5 : am_m133_c5.all (am_chkI am_m133) = true := by decide +kernel
set_option maxRecDepth 1000000 in
theorem am_ckL6 : am_m133_c6.all (am_chkI am_m133) = true := by decide +kernel
set_option maxRecDepth 1000000 in
theorem am_ckL7 : am_m133_c7.all (am_chkI am_m133) = true := by decide +kernel
set_option maxRecDepth 1000000 in
theorem am_ckL8 : am_m133_c8.all (am_chkI am_m133) = true := by decide +kernel
set_option maxRecDepth 1000000 in
theorem am_ckL9 : am_m133_c9.all (am_chkI am_m133) = true := by decide +kernel
set_option maxRecDepth 1000000 in
theorem am_ckL10 : am_m133_c10.all (am_chkI am_m133) = true := by decide +kernel
end
section
set_option maxRecDepth 1000000 in
theorem am_ckL11 : am_m133_c11.all (am_chkI am_m133) = true := by decide +kernel
set_option maxRecDepth 1000000 in
theorem am_ckL12 : am_m133_c12.all (am_chkI am_m133) = true := by decide +kernel
set_option maxRecDepth 1000000 in
theorem am_ckL13 : am_m133_c13.all (am_chkI am_m133) = true := by decide +kernel
set_option maxRecDepth 1000000 in
theorem am_ckL14 : am_m133_c14.all (am_chkI am_m133) = true := by decide +kernel
end
section
theorem am_ck_all : ∀ M ∈ am_prog, M.2.2.2.all (am_chkI M) = true := List.forall_mem_cons.mpr ⟨am_ck0, List.forall_mem_cons.mpr ⟨am_ck1, List.forall_mem_cons.mpr ⟨am_ck2, List.forall_mem_cons.mpr ⟨am_ck3, List.forall_mem_cons.mpr ⟨am_ck4, List.forall_mem_cons.mpr ⟨am_ck5, List.forall_mem_cons.mpr ⟨am_ck6, List.forall_mem_cons.mpr ⟨am_ck7, List.forall_mem_cons.mpr ⟨am_ck8, List.forall_mem_cons.mpr ⟨am_ck9, List.forall_mem_cons.mpr ⟨am_ck10, List.forall_mem_cons.mpr ⟨am_ck11, List.forall_mem_cons.mpr ⟨am_ck12, List.forall_mem_cons.mpr ⟨am_ck13, List.forall_mem_cons.mpr ⟨am_ck14, List.forall_mem_cons.mpr ⟨am_ck15, List.forall_mem_cons.mpr ⟨am_ck16, List.forall_mem_cons.mpr ⟨am_ck17, List.forall_mem_cons.mpr ⟨am_ck18, List.forall_mem_cons.mpr ⟨am_ck19, List.forall_mem_cons.mpr ⟨am_ck20, List.forall_mem_cons.mpr ⟨am_ck21, List.forall_mem_cons.mpr ⟨am_ck22, List.forall_mem_cons.mpr ⟨am_ck23, List.forall_mem_cons.mpr ⟨am_ck24, List.forall_mem_cons.mpr ⟨am_ck25, List.forall_mem_cons.mpr ⟨am_ck26, List.forall_mem_cons.mpr ⟨am_ck27, List.forall_mem_cons.mpr ⟨am_ck28, List.forall_mem_cons.mpr ⟨am_ck29, List.forall_mem_cons.mpr ⟨am_ck30, List.forall_mem_cons.mpr ⟨am_ck31, List.forall_mem_cons.mpr ⟨am_ck32, List.forall_mem_cons.mpr ⟨am_ck33, List.forall_mem_cons.mpr ⟨am_ck34, List.forall_mem_cons.mpr ⟨am_ck35, List.forall_mem_cons.mpr ⟨am_ck36, List.forall_mem_cons.mpr ⟨am_ck37, List.forall_mem_cons.mpr ⟨am_ck38, List.forall_mem_cons.mpr ⟨am_ck39, List.forall_mem_cons.mpr ⟨am_ck40, List.forall_mem_cons.mpr ⟨am_ck41, List.forall_mem_cons.mpr ⟨am_ck42, List.forall_mem_cons.mpr ⟨am_ck43, List.forall_mem_cons.mpr ⟨am_ck44, List.forall_mem_cons.mpr ⟨am_ck45, List.forall_mem_cons.mpr ⟨am_ck46, List.forall_mem_cons.mpr ⟨am_ck47, List.forall_mem_cons.mpr ⟨am_ck48, List.forall_mem_cons.mpr ⟨am_ck49, List.forall_mem_cons.mpr ⟨am_ck50, List.forall_mem_cons.mpr ⟨am_ck51, List.forall_mem_cons.mpr ⟨am_ck52, List.forall_mem_cons.mpr ⟨am_ck53, List.forall_mem_cons.mpr ⟨am_ck54, List.forall_mem_cons.mpr ⟨am_ck55, List.forall_mem_cons.mpr ⟨am_ck56, List.forall_mem_cons.mpr ⟨am_ck57, List.forall_mem_cons.mpr ⟨am_ck58, List.forall_mem_cons.mpr ⟨am_ck59, List.forall_mem_cons.mpr ⟨am_ck60, List.forall_mem_cons.mpr ⟨am_ck61, List.forall_mem_cons.mpr ⟨am_ck62, List.forall_mem_cons.mpr ⟨am_ck63, List.forall_mem_cons.mpr ⟨am_ck64, List.forall_mem_cons.mpr ⟨am_ck65, List.forall_mem_cons.mpr ⟨am_ck66, List.forall_mem_cons.mpr ⟨am_ck67, List.forall_mem_cons.mpr ⟨am_ck68, List.forall_mem_cons.mpr ⟨am_ck69, List.forall_mem_cons.mpr ⟨am_ck70, List.forall_mem_cons.mpr ⟨am_ck71, List.forall_mem_cons.mpr ⟨am_ck72, List.forall_mem_cons.mpr ⟨am_ck73, List.forall_mem_cons.mpr ⟨am_ck74, List.forall_mem_cons.mpr ⟨am_ck75, List.forall_mem_cons.mpr ⟨am_ck76, List.forall_mem_cons.mpr ⟨am_ck77, List.forall_mem_cons.mpr ⟨am_ck78, List.forall_mem_cons.mpr ⟨am_ck79, List.forall_mem_cons.mpr ⟨am_ck80, List.forall_mem_cons.mpr ⟨am_ck81, List.forall_mem_cons.mpr ⟨am_ck82, List.forall_mem_cons.mpr ⟨am_ck83, List.forall_mem_cons.mpr ⟨am_ck84, List.forall_mem_cons.mpr ⟨am_ck85, List.forall_mem_cons.mpr ⟨am_ck86, List.forall_mem_cons.mpr ⟨am_ck87, List.forall_mem_cons.mpr ⟨am_ck88, List.forall_mem_cons.mpr ⟨am_ck89, List.forall_mem_cons.mpr ⟨am_ck90, List.forall_mem_cons.mpr ⟨am_ck91, List.forall_mem_cons.mpr ⟨am_ck92, List.forall_mem_cons.mpr ⟨am_ck93, List.forall_mem_cons.mpr ⟨am_ck94, List.forall_mem_cons.mpr ⟨am_ck95, List.forall_mem_cons.mpr ⟨am_ck96, List.forall_mem_cons.mpr ⟨am_ck97, List.forall_mem_cons.mpr ⟨am_ck98, List.forall_mem_cons.mpr ⟨am_ck99, List.forall_mem_cons.mpr ⟨am_ck100, List.forall_mem_cons.mpr ⟨am_ck101, List.forall_mem_cons.mpr ⟨am_ck102, List.forall_mem_cons.mpr ⟨am_ck103, List.forall_mem_cons.mpr ⟨am_ck104, List.forall_mem_cons.mpr ⟨am_ck105, List.forall_mem_cons.mpr ⟨am_ck106, List.forall_mem_cons.mpr ⟨am_ck107, List.forall_mem_cons.mpr ⟨am_ck108, List.forall_mem_cons.mpr ⟨am_ck109, List.forall_mem_cons.mpr ⟨am_ck110, List.forall_mem_cons.mpr ⟨am_ck111, List.forall_mem_cons.mpr ⟨am_ck112, List.forall_mem_cons.mpr ⟨am_ck113, List.forall_mem_cons.mpr ⟨am_ck114, List.forall_mem_cons.mpr ⟨am_ck115, List.forall_mem_cons.mpr ⟨am_ck116, List.forall_mem_cons.mpr ⟨am_ck117, List.forall_mem_cons.mpr ⟨am_ck118, List.forall_mem_cons.mpr ⟨am_ck119, List.forall_mem_cons.mpr ⟨am_ck120, List.forall_mem_cons.mpr ⟨am_ck121, List.forall_mem_cons.mpr ⟨am_ck122, List.forall_mem_cons.mpr ⟨am_ck123, List.forall_mem_cons.mpr ⟨am_ck124, List.forall_mem_cons.mpr ⟨am_ck125, List.forall_mem_cons.mpr ⟨am_ck126, List.forall_mem_cons.mpr ⟨am_ck127, List.forall_mem_cons.mpr ⟨am_ck128, List.forall_mem_cons.mpr ⟨am_ck129, List.forall_mem_cons.mpr ⟨am_ck130, List.forall_mem_cons.mpr ⟨am_ck131, List.forall_mem_cons.mpr ⟨am_ck132, fun _ h => absurd h List.not_mem_nil⟩⟩⟩⟩⟩⟩⟩⟩⟩⟩⟩⟩⟩⟩⟩⟩⟩⟩⟩⟩⟩⟩⟩⟩⟩⟩⟩⟩⟩⟩⟩⟩⟩⟩⟩⟩⟩⟩⟩⟩⟩⟩⟩⟩⟩⟩⟩⟩⟩⟩⟩⟩⟩⟩⟩⟩⟩⟩⟩⟩⟩⟩⟩⟩⟩⟩⟩⟩⟩⟩⟩⟩⟩⟩⟩⟩⟩⟩⟩⟩⟩⟩⟩⟩⟩⟩⟩⟩⟩⟩⟩⟩⟩⟩⟩⟩⟩⟩⟩⟩⟩⟩⟩⟩⟩⟩⟩⟩⟩⟩⟩⟩⟩⟩⟩⟩⟩⟩⟩⟩⟩⟩⟩⟩⟩⟩⟩⟩⟩⟩⟩⟩⟩
theorem am_ckL : am_m133.2.2.2.all (am_chkI am_m133) = true := (am_all_app am_ckL0 (am_all_app am_ckL1 (am_all_app am_ckL2 (am_all_app am_ckL3 (am_all_app am_ckL4 (am_all_app am_ckL5 (am_all_app am_ckL6 (am_all_app am_ckL7 (am_all_app am_ckL8 (am_all_app am_ckL9 (am_all_app am_ckL10 (am_all_app am_ckL11 (am_all_app am_ckL12 (am_all_app am_ckL13 am_ckL14))))))))))))))
abbrev am_mLaw : am_M := am_m133
end
section
/-! ===== THE PROGRAM IS SOUND: every method, every instruction, every class ===== -/
set_option maxRecDepth 1000000 in
theorem am_chkM_all : (List.range 133).all am_chkM = true := by decide +kernel
theorem am_prog_len : am_prog.length = 133 := by decide +kernel
theorem am_facts_all {a : Nat} {M : am_M} (h : am_prog[a]? = some M) : am_facts a M := by
  have hl := (List.getElem?_eq_some_iff.mp h).1
  rw [am_prog_len] at hl
  exact am_chkM_ok (List.all_eq_true.mp am_chkM_all a (List.mem_range.mpr hl)) h (am_cw_all M (List.mem_of_getElem? h))
set_option maxHeartbeats 4000000 in
theorem am_chkI_ok {scr : Option (Nat × (Nat → Int32))} {lk : List Value → List am_k → am_H → Option am_O} {M : am_M} {i : am_I} (h : am_chkI M i = true) : am_okI am_cls (am_P1 scr lk) M i := by
  unfold am_chkI at h
  rw [Bool.and_eq_true, decide_eq_true_eq] at h
  obtain ⟨hd, h⟩ := h
  refine ⟨hd, ?_⟩
  obtain ⟨pc, len, ins, ⟨a, b, c⟩, z⟩ := i
  cases ins
  case ldc k =>
    dsimp only at h ⊢
    rw [Bool.and_eq_true, decide_eq_true_eq] at h
    obtain ⟨h1, h2⟩ := h
    refine ⟨h1, ?_⟩
    match b, h2 with
    | 0, h2 => exact Or.inl ⟨rfl, am_w_ok h2⟩
    | b + 1, h2 =>
      refine Or.inr ⟨Nat.succ_ne_zero b, ?_⟩
      split at h2
      · exact absurd (by assumption : b + 1 = 0) (Nat.succ_ne_zero b)
      · split at h2
        · rename_i o j tx hw
          simp only [Bool.and_eq_true, decide_eq_true_eq] at h2
          obtain ⟨rfl, rfl⟩ := h2
          exact ⟨tx, List.mem_of_getElem? hw⟩
        · cases h2
  case ldc2_w k =>
    dsimp only at h ⊢
    rw [Bool.and_eq_true, decide_eq_true_eq] at h
    exact ⟨h.1, am_w_ok h.2⟩
  case getfield idx =>
    dsimp only at h ⊢
    rw [Bool.and_eq_true, decide_eq_true_eq] at h
    obtain ⟨h1, h2⟩ := h
    split at h2
    · rename_i r hr
      rw [Bool.and_eq_true, decide_eq_true_eq] at h2
      exact ⟨h1, r, hr, h2.1, am_wF_ok h2.2⟩
    · cases h2
  case putfield idx =>
    dsimp only at h ⊢
    rw [Bool.and_eq_true, decide_eq_true_eq] at h
    obtain ⟨h1, h2⟩ := h
    split at h2
    · rename_i r hr
      rw [Bool.and_eq_true, decide_eq_true_eq] at h2
      obtain ⟨h2, h3⟩ := h2
      refine ⟨h1, r, hr, h2, ?_⟩
      cases hf : (r.2.1 b).2.2.2 with
      | false =>
        rw [hf, cond_false] at h3
        exact Or.inl ⟨rfl, am_wF_ok h3⟩
      | true =>
        rw [hf, cond_true] at h3
        simp only [Bool.and_eq_true, decide_eq_true_eq] at h3
        exact Or.inr ⟨rfl, am_w_ok h3.1.1, h3.1.2, h3.2⟩
    · cases h2
  case newarray t =>
    dsimp only at h ⊢
    simp only [Bool.and_eq_true, decide_eq_true_eq] at h
    exact ⟨h.1.1, am_w_ok h.1.2, h.2⟩
  case anewarray idx =>
    dsimp only at h ⊢
    rw [Bool.and_eq_true, decide_eq_true_eq] at h
    obtain ⟨h1, h2⟩ := h
    split at h2
    · rename_i r hr
      rw [Bool.and_eq_true, decide_eq_true_eq] at h2
      exact ⟨h1, r, hr, am_w_ok h2.1, am_tn_in h2.2 rfl⟩
    · cases h2
  case new idx =>
    dsimp only at h ⊢
    rw [Bool.and_eq_true, decide_eq_true_eq] at h
    obtain ⟨h1, h2⟩ := h
    split at h2
    · rename_i r hr
      exact ⟨h1, r, hr, am_w_ok h2⟩
    · cases h2
  case invokespecial idx =>
    dsimp only at h ⊢
    rw [Bool.and_eq_true, decide_eq_true_eq] at h
    obtain ⟨h1, h2⟩ := h
    refine ⟨h1, ?_⟩
    match c, h2 with
    | 0, h2 => exact Or.inl ⟨rfl, am_w_ok h2, am_oI_ok.1, am_oI_ok.2⟩
    | c + 1, h2 =>
      refine Or.inr ⟨Nat.succ_ne_zero c, fun M' hM' => ?_⟩
      have hM2 : am_prog[a]? = some M' := hM'
      obtain ⟨f1, f2, hn, f3, f4, f5⟩ := am_facts_all hM2
      try dsimp only at h2
      rw [hM2] at h2
      try dsimp only at h2
      rw [f3] at h2
      simp only [Bool.and_eq_true, decide_eq_true_eq, Bool.not_eq_true'] at h2
      exact ⟨f1 scr lk, (f5 h2.2).1, h2.1.1, am_wM_ok h2.1.2⟩
  case invokevirtual idx =>
    dsimp only at h ⊢
    rw [Bool.and_eq_true, decide_eq_true_eq] at h
    obtain ⟨h1, h2⟩ := h
    refine ⟨h1, ?_⟩
    match c, h2 with
    | 0, h2 => exact Or.inl ⟨rfl, am_w_ok h2⟩
    | c + 1, h2 =>
      refine Or.inr ⟨Nat.succ_ne_zero c, fun M' hM' => ?_⟩
      have hM2 : am_prog[a]? = some M' := hM'
      obtain ⟨f1, f2, hn, f3, f4, f5⟩ := am_facts_all hM2
      try dsimp only at h2
      rw [hM2] at h2
      try dsimp only at h2
      rw [f3] at h2
      simp only [Bool.and_eq_true, decide_eq_true_eq, Bool.not_eq_true'] at h2
      exact ⟨f1 scr lk, (f5 h2.2).1, (f5 h2.2).2.resolve_left (fun q => h2.1.1 q.1), am_wM_ok h2.1.2⟩
  case invokestatic idx =>
    dsimp only at h ⊢
    rw [Bool.and_eq_true, decide_eq_true_eq] at h
    obtain ⟨h1, h2⟩ := h
    refine ⟨h1, ?_⟩
    match c, h2 with
    | 0, h2 => exact Or.inl ⟨rfl, am_hh, am_oL_ok scr lk, am_w_ok h2⟩
    | 1, h2 => exact Or.inr (Or.inl ⟨rfl, am_w_ok h2, am_oM_ok.2.1, am_oM_ok.1, am_oM_ok.2.2.1⟩)
    | 2, h2 => exact Or.inr (Or.inr (Or.inl ⟨rfl, am_w_ok h2, am_oM_ok.2.2.2.1, am_oM_ok.1, am_oM_ok.2.2.2.2⟩))
    | c + 3, h2 =>
      refine Or.inr (Or.inr (Or.inr ⟨⟨c, rfl⟩, fun M' hM' => ?_⟩))
      have hM2 : am_prog[a]? = some M' := hM'
      obtain ⟨f1, f2, hn, f3, f4, f5⟩ := am_facts_all hM2
      try dsimp only at h2
      rw [hM2] at h2
      try dsimp only at h2
      rw [f3] at h2
      change (_ && _) = true at h2
      rw [Bool.and_eq_true] at h2
      obtain ⟨h2, h3⟩ := h2
      refine ⟨f1 scr lk, f4 h3, ?_⟩
      split at h2
      · rename_i o j r hw
        simp only [Bool.and_eq_true, decide_eq_true_eq] at h2
        obtain ⟨⟨⟨⟨rfl, rfl⟩, rfl⟩, h4⟩, hg⟩ := h2
        exact Or.inl ⟨h4, am_ts_in hw hg⟩
      · rename_i o j r host hw
        simp only [Bool.and_eq_true, decide_eq_true_eq] at h2
        obtain ⟨⟨rfl, rfl⟩, rfl⟩ := h2
        exact Or.inr ⟨host, am_tn_in hw rfl⟩
      · cases h2
  all_goals first | exact trivial | exact of_decide_eq_true h | (simp only [Bool.and_eq_true, decide_eq_true_eq] at h; exact h)
theorem am_okP_ok (scr : Option (Nat × (Nat → Int32))) (lk : List Value → List am_k → am_H → Option am_O) : am_okP am_cls (am_P1 scr lk) := fun a M hM =>
  have hM2 : am_prog[a]? = some M := hM
  ⟨(am_facts_all hM2).1 scr lk, fun i hi => am_chkI_ok (List.all_eq_true.mp (am_ck_all M (List.mem_of_getElem? hM2)) i hi), (am_facts_all hM2).2.1⟩
theorem am_okLaw (scr : Option (Nat × (Nat → Int32))) (lk : List Value → List am_k → am_H → Option am_O) : ∀ i ∈ am_mLaw.2.2.2, am_okI am_cls (am_P1 scr lk) am_mLaw i := fun i hi => am_chkI_ok (List.all_eq_true.mp am_ckL i hi)
def am_chkC (ci : Nat) : Bool := match am_cls[ci]?, am_hintC[ci]? with
  | some r, some h => decide ((am_tys ci).length = r.2.2) && decide (am_nms ci = r.1) && decide (∀ k, k < r.2.2 → parseFieldDescriptor (r.2.1 k).2.2.1 = some ((am_tys ci).getD k .int)) && (List.range r.2.2).all (fun a => (List.range r.2.2).all (fun b => Nat.beq a b || decide ((r.2.1 a).2.1 ≠ (r.2.1 b).2.1)))
      && (List.range r.2.2).all (fun k => am_w (h.2.2.getD k 0) (u_lay r.1 r.2.1 k)) && am_w h.1 (Cond.instantiable r.1 r.2.2) && am_w h.2.1 (Cond.initialized r.1)
  | none, _ => true
  | _, _ => false
set_option maxRecDepth 1000000 in
theorem am_chkC_all : (List.range 13).all am_chkC = true := by decide +kernel
theorem am_okG_ok (scr : Option (Nat × (Nat → Int32))) (lk : List Value → List am_k → am_H → Option am_O) : am_okG am_cls (am_P1 scr lk) := by
  intro ci r hr
  have hl := (List.getElem?_eq_some_iff.mp hr).1
  have h := List.all_eq_true.mp am_chkC_all ci (List.mem_range.mpr hl)
  unfold am_chkC at h
  rw [hr] at h
  split at h
  · rename_i r0 hn h1 h2
    cases h1
    simp only [Bool.and_eq_true, decide_eq_true_eq, List.all_eq_true, List.mem_range, Bool.or_eq_true] at h
    obtain ⟨⟨⟨⟨⟨⟨c1, c2⟩, c3⟩, c4⟩, c5⟩, c6⟩, c7⟩ := h
    refine ⟨c1, c2, c3, fun a ha b hb hab => (c4 a ha b hb).resolve_left (fun q => hab (Nat.eq_of_beq_eq_true q)), fun w hw => ?_, am_w_ok c6, am_w_ok c7⟩
    obtain ⟨k, hk, rfl⟩ := List.mem_map.mp hw
    exact am_w_ok (c5 k (List.mem_range.mp hk))
  · rename_i h1
    cases h1
  · cases h
end
section
/-! ===== BIG STEPS: runs of the small machine, put together ===== -/
/-- a call's answer by a run of so much -/
noncomputable def am_rc (ex : Bool) (n : Nat) (G : am_G) : am_rec := fun a as ks h => match G.1 a with
  | none => none
  | some M' => am_run am_φ ex n (am_noS G) M' (M'.2.2.2, lv_args 0 as, [], ks, h, 0, 0)
theorem am_run_s (ex : Bool) (n : Nat) (G : am_G) (M : am_M) (f : am_F) : am_run am_φ ex (n + 1) G M f = (match am_end M f with
      | some r => some r
      | none => match am_one am_φ ex G (am_rc ex n G) M f with
        | some (.inl f') => am_run am_φ ex n G M f'
        | _ => none) := rfl
theorem am_calls_mono {ex : Bool} {M M' : am_M} {a : Nat} {rc rc' : am_rec} {i : am_I} {cs : List am_I} {ls : am_L} {as rest : List Value} {ks : List am_k} {h : am_H} {nc ns : Nat} {x : am_F ⊕ am_O}
    (hr : ∀ a as ks h r, rc a as ks h = some r → rc' a as ks h = some r) (hh : am_calls ex M M' a rc i cs ls as rest ks h nc ns = some x) : am_calls ex M M' a rc' i cs ls as rest ks h nc ns = some x := by
  unfold am_calls at hh ⊢
  cases hc : am_okC M M' as rest nc ns with
  | false => rw [hc] at hh; cases hh
  | true =>
    rw [hc, cond_true] at hh
    rw [cond_true]
    cases hq : rc a as ks h with
    | none => rw [hq] at hh; cases hh
    | some r =>
      rw [hq] at hh
      rw [hr a as ks h r hq]
      exact hh
theorem am_callV_mono {ex : Bool} {G : am_G} {M : am_M} {rc rc' : am_rec} {i : am_I} {cs : List am_I} {ls : am_L} {st : List Value} {ks : List am_k} {h : am_H} {nc ns : Nat} {x : am_F ⊕ am_O}
    (hr : ∀ a as ks h r, rc a as ks h = some r → rc' a as ks h = some r) (hh : am_callV ex G M rc i cs ls st ks h nc ns = some x) : am_callV ex G M rc' i cs ls st ks h nc ns = some x := by
  unfold am_callV at hh ⊢
  split at hh
  · cases hh
  · split at hh
    · split at hh
      · rename_i ci hk
        generalize hc : (Nat.beq ci _ && _) = cc at hh ⊢
        cases cc with
        | false => cases hh
        | true => exact am_calls_mono hr hh
      · cases hh
    · cases hh
theorem am_callS_mono {ex : Bool} {G : am_G} {M : am_M} {rc rc' : am_rec} {i : am_I} {cs : List am_I} {ls : am_L} {st : List Value} {ks : List am_k} {h : am_H} {nc ns : Nat} {x : am_F ⊕ am_O}
    (hr : ∀ a as ks h r, rc a as ks h = some r → rc' a as ks h = some r) (hh : am_callS ex G M rc i cs ls st ks h nc ns = some x) : am_callS ex G M rc' i cs ls st ks h nc ns = some x := by
  unfold am_callS at hh ⊢
  split at hh
  · cases hh
  · rename_i M' hM'
    generalize hc : Nat.beq (List.take _ st).length _ = cc at hh ⊢
    cases cc with
    | false => cases hh
    | true => exact am_calls_mono hr hh
set_option maxHeartbeats 4000000 in
theorem am_one_mono {ex : Bool} {G : am_G} {M : am_M} {rc rc' : am_rec} {f : am_F} {x : am_F ⊕ am_O} (hr : ∀ a as ks h r, rc a as ks h = some r → rc' a as ks h = some r) (hh : am_one am_φ ex G rc M f = some x) : am_one am_φ ex G rc' M f = some x := by
  obtain ⟨fc, ls, st, ks, h, nc, ns⟩ := f
  cases fc with
  | nil => exact hh
  | cons i cs =>
    obtain ⟨pc, len, ins, ⟨a, b, c⟩, v0⟩ := i
    cases ins
    case invokespecial idx =>
      match c, hh with
      | 0, hh => exact hh
      | c + 1, hh => exact am_callV_mono hr hh
    case invokevirtual idx =>
      match c, hh with
      | 0, hh => exact hh
      | c + 1, hh => exact am_callV_mono hr hh
    case invokestatic idx =>
      match c, hh with
      | 0, hh => exact hh
      | 1, hh => exact hh
      | 2, hh => exact hh
      | c + 3, hh => exact am_callS_mono hr hh
    all_goals exact hh
theorem am_run_up {ex : Bool} : ∀ (n : Nat) (G : am_G) (M : am_M) (f : am_F) (r : am_O), am_run am_φ ex n G M f = some r → am_run am_φ ex (n + 1) G M f = some r := by
  intro n
  induction n with
  | zero => intro G M f r h; cases h
  | succ n ih =>
    intro G M f r h
    rw [am_run_s] at h ⊢
    split at h
    · exact h
    · split at h
      · rename_i f' hone
        have : am_one am_φ ex G (am_rc ex (n + 1) G) M f = some (.inl f') := am_one_mono (fun a as ks h r hq => by
          unfold am_rc at hq ⊢
          split at hq
          · cases hq
          · exact ih _ _ _ _ hq) hone
        rw [this]
        exact ih _ _ _ _ h
      · cases h
theorem am_run_le {ex : Bool} {n m : Nat} (hnm : n ≤ m) {G : am_G} {M : am_M} {f : am_F} {r : am_O} (h : am_run am_φ ex n G M f = some r) : am_run am_φ ex m G M f = some r := by
  induction hnm with
  | refl => exact h
  | step _ ih => exact am_run_up _ _ _ _ _ ih
/-- a run comes to an end with Q -/
def am_Ev (ex : Bool) (G : am_G) (M : am_M) (f : am_F) (Q : Option Value → List am_k → am_H → Prop) : Prop := ∃ (n : Nat) (r : am_O), am_run am_φ ex n G M f = some r ∧ Q r.1 r.2.1 r.2.2
/-- at the k-th instruction -/
def am_Ek (ex : Bool) (G : am_G) (M : am_M) (k : Nat) (ls : am_L) (st : List Value) (ks : List am_k) (h : am_H) (nc ns : Nat) (Q : Option Value → List am_k → am_H → Prop) : Prop := am_Ev ex G M (M.2.2.2.drop k, ls, st, ks, h, nc, ns) Q
def am_rc0 : am_rec := fun _ _ _ _ => none
theorem am_Ev_one {ex : Bool} {G : am_G} {M : am_M} {f f' : am_F} {Q : Option Value → List am_k → am_H → Prop} (h1 : am_end M f = none) (h2 : am_one am_φ ex G am_rc0 M f = some (.inl f')) (h3 : am_Ev ex G M f' Q) : am_Ev ex G M f Q := by
  obtain ⟨n, r, hr, hQ⟩ := h3
  refine ⟨n + 1, r, ?_, hQ⟩
  rw [am_run_s, h1, am_one_mono (rc' := am_rc ex n G) (fun _ _ _ _ _ hq => by cases hq) h2]
  exact hr
theorem am_Ev_end {ex : Bool} {G : am_G} {M : am_M} {f : am_F} {r : am_O} {Q : Option Value → List am_k → am_H → Prop} (h1 : am_end M f = some r) (hQ : Q r.1 r.2.1 r.2.2) : am_Ev ex G M f Q :=
  ⟨1, r, by rw [am_run_s, h1], hQ⟩
theorem am_Ev_mono {ex : Bool} {G : am_G} {M : am_M} {f : am_F} {Q Q' : Option Value → List am_k → am_H → Prop} (h : am_Ev ex G M f Q) (hq : ∀ v ks h, Q v ks h → Q' v ks h) : am_Ev ex G M f Q' := by
  obtain ⟨n, r, hr, hQ⟩ := h
  exact ⟨n, r, hr, hq _ _ _ hQ⟩
/-- the k-th instruction, and that the next one stands right behind it -/
def am_nxt (M : am_M) (k : Nat) (i : am_I) : Prop := M.2.2.2.drop k = i :: M.2.2.2.drop (k + 1) ∧ (M.2.2.2.drop (k + 1)).head?.map (fun j => j.1) = some (i.1 + i.2.1)
def am_cur (M : am_M) (k : Nat) (i : am_I) : Prop := M.2.2.2.drop k = i :: M.2.2.2.drop (k + 1)
theorem am_go_ok {i : am_I} {cs : List am_I} {ls : am_L} {st : List Value} {ks : List am_k} {h : am_H} {nc ns : Nat} (hn : cs.head?.map (fun j => j.1) = some (i.1 + i.2.1)) : am_go i cs ls st ks h nc ns = some (.inl (cs, ls, st, ks, h, nc, ns)) := by
  unfold am_go am_nx
  cases cs with
  | nil => cases hn
  | cons j r =>
    have : j.1 = i.1 + i.2.1 := Option.some.inj hn
    show cond (Nat.beq j.1 (i.1 + i.2.1)) _ _ = _
    rw [this, Nat.beq_refl]
    rfl
theorem am_e_of {ex : Bool} {G : am_G} {M : am_M} {k : Nat} {i : am_I} {ls ls' : am_L} {st st' : List Value} {ks ks' : List am_k} {h h' : am_H} {nc ns nc' ns' : Nat} {Q : Option Value → List am_k → am_H → Prop} (hn : am_nxt M k i)
    (h1 : ∀ cs, am_end M (i :: cs, ls, st, ks, h, nc, ns) = none) (h2 : ∀ cs, am_one am_φ ex G am_rc0 M (i :: cs, ls, st, ks, h, nc, ns) = am_go i cs ls' st' ks' h' nc' ns') (h3 : am_Ek ex G M (k + 1) ls' st' ks' h' nc' ns' Q) : am_Ek ex G M k ls st ks h nc ns Q := by
  unfold am_Ek
  rw [hn.1]
  exact am_Ev_one (h1 _) (by rw [h2, am_go_ok hn.2]) h3
end
section
/-! ===== BIG STEPS, an instruction each (written by wip/p1/mkins.py) ===== -/
section AME
variable {G : am_G} {M : am_M} {k pc len : Nat} {an : Nat × Nat × Nat} {z : Int} {ls : am_L} {st : List Value} {ks : List am_k} {h : am_H} {nc ns : Nat} {Q : Option Value → List am_k → am_H → Prop}
theorem am_e_aload {j : Nat} {v : Nat} (hn : am_nxt M k (pc, len, .aload j, an, z)) (hg : am_get ls j = some (.ref v)) (K : am_Ek false G M (k + 1) ls (.ref v :: st) ks h nc ns Q) : am_Ek false G M k ls st ks h nc ns Q := am_e_of hn (fun _ => rfl) (fun _ => by simp only [am_one, hg]) K
theorem am_e_aload_n {j : Fin 4} {v : Nat} (hn : am_nxt M k (pc, len, .aload_n j, an, z)) (hg : am_get ls j.val = some (.ref v)) (K : am_Ek false G M (k + 1) ls (.ref v :: st) ks h nc ns Q) : am_Ek false G M k ls st ks h nc ns Q := am_e_of hn (fun _ => rfl) (fun _ => by simp only [am_one, hg]) K
theorem am_e_iload {j : Nat} {v : Int32} (hn : am_nxt M k (pc, len, .iload j, an, z)) (hg : am_get ls j = some (.int v)) (K : am_Ek false G M (k + 1) ls (.int v :: st) ks h nc ns Q) : am_Ek false G M k ls st ks h nc ns Q := am_e_of hn (fun _ => rfl) (fun _ => by simp only [am_one, hg]) K
theorem am_e_iload_n {j : Fin 4} {v : Int32} (hn : am_nxt M k (pc, len, .iload_n j, an, z)) (hg : am_get ls j.val = some (.int v)) (K : am_Ek false G M (k + 1) ls (.int v :: st) ks h nc ns Q) : am_Ek false G M k ls st ks h nc ns Q := am_e_of hn (fun _ => rfl) (fun _ => by simp only [am_one, hg]) K
theorem am_e_lload {j : Nat} {v : Int64} (hn : am_nxt M k (pc, len, .lload j, an, z)) (hg : am_get ls j = some (.long v)) (K : am_Ek false G M (k + 1) ls (.long v :: st) ks h nc ns Q) : am_Ek false G M k ls st ks h nc ns Q := am_e_of hn (fun _ => rfl) (fun _ => by simp only [am_one, hg]) K
theorem am_e_lload_n {j : Fin 4} {v : Int64} (hn : am_nxt M k (pc, len, .lload_n j, an, z)) (hg : am_get ls j.val = some (.long v)) (K : am_Ek false G M (k + 1) ls (.long v :: st) ks h nc ns Q) : am_Ek false G M k ls st ks h nc ns Q := am_e_of hn (fun _ => rfl) (fun _ => by simp only [am_one, hg]) K
theorem am_e_sload_n {j : Fin 4} {v : Nat} (hn : am_nxt M k (pc, len, .aload_n j, an, z)) (hg : am_get ls j.val = some (.retAddr v)) (K : am_Ek false G M (k + 1) ls (.retAddr v :: st) ks h nc ns Q) : am_Ek false G M k ls st ks h nc ns Q := am_e_of hn (fun _ => rfl) (fun _ => by simp only [am_one, hg]) K
theorem am_e_istore {j : Nat} {v : Int32} {ls' : am_L} (hn : am_nxt M k (pc, len, .istore j, an, z)) (hb : Nat.blt j M.2.1.1 = true) (hs : am_set ls j (.int v) = ls') (K : am_Ek false G M (k + 1) ls' st ks h nc ns Q) : am_Ek false G M k ls (.int v :: st) ks h nc ns Q := am_e_of hn (fun _ => rfl) (fun _ => by simp only [am_one, hb, cond_true, am_φ, am_pushI, am_pushL, hs]) K
theorem am_e_istore_n {j : Fin 4} {v : Int32} {ls' : am_L} (hn : am_nxt M k (pc, len, .istore_n j, an, z)) (hb : Nat.blt j.val M.2.1.1 = true) (hs : am_set ls j.val (.int v) = ls') (K : am_Ek false G M (k + 1) ls' st ks h nc ns Q) : am_Ek false G M k ls (.int v :: st) ks h nc ns Q := am_e_of hn (fun _ => rfl) (fun _ => by simp only [am_one, hb, cond_true, am_φ, am_pushI, am_pushL, hs]) K
theorem am_e_lstore {j : Nat} {v : Int64} {ls' : am_L} (hn : am_nxt M k (pc, len, .lstore j, an, z)) (hb : Nat.blt (j + 1) M.2.1.1 = true) (hs : am_set2 ls j (.long v) = ls') (K : am_Ek false G M (k + 1) ls' st ks h nc ns Q) : am_Ek false G M k ls (.long v :: st) ks h nc ns Q := am_e_of hn (fun _ => rfl) (fun _ => by simp only [am_one, hb, cond_true, am_φ, am_pushI, am_pushL, hs]) K
theorem am_e_lstore_n {j : Fin 4} {v : Int64} {ls' : am_L} (hn : am_nxt M k (pc, len, .lstore_n j, an, z)) (hb : Nat.blt (j.val + 1) M.2.1.1 = true) (hs : am_set2 ls j.val (.long v) = ls') (K : am_Ek false G M (k + 1) ls' st ks h nc ns Q) : am_Ek false G M k ls (.long v :: st) ks h nc ns Q := am_e_of hn (fun _ => rfl) (fun _ => by simp only [am_one, hb, cond_true, am_φ, am_pushI, am_pushL, hs]) K
theorem am_e_astore {j : Nat} {v : Nat} {ls' : am_L} (hn : am_nxt M k (pc, len, .astore j, an, z)) (hb : Nat.blt j M.2.1.1 = true) (hs : am_set ls j (.ref v) = ls') (K : am_Ek false G M (k + 1) ls' st ks h nc ns Q) : am_Ek false G M k ls (.ref v :: st) ks h nc ns Q := am_e_of hn (fun _ => rfl) (fun _ => by simp only [am_one, hb, cond_true, am_φ, am_pushI, am_pushL, hs]) K
theorem am_e_astore_n {j : Fin 4} {v : Nat} {ls' : am_L} (hn : am_nxt M k (pc, len, .astore_n j, an, z)) (hb : Nat.blt j.val M.2.1.1 = true) (hs : am_set ls j.val (.ref v) = ls') (K : am_Ek false G M (k + 1) ls' st ks h nc ns Q) : am_Ek false G M k ls (.ref v :: st) ks h nc ns Q := am_e_of hn (fun _ => rfl) (fun _ => by simp only [am_one, hb, cond_true, am_φ, am_pushI, am_pushL, hs]) K
theorem am_e_iinc {j : Nat} {n : Int} {v w : Int32} {ls' : am_L} (hn : am_nxt M k (pc, len, .iinc j n, an, z)) (hg : am_get ls j = some (.int v)) (hb : Nat.blt j M.2.1.1 = true) (hw : v + Int32.ofInt n = w) (hs : am_set ls j (.int w) = ls') (K : am_Ek false G M (k + 1) ls' st ks h nc ns Q) : am_Ek false G M k ls st ks h nc ns Q := am_e_of hn (fun _ => rfl) (fun _ => by simp only [am_one, hg, hb, cond_true, am_φ, am_pushI, hw, hs]) K
theorem am_e_iconst {n : Int} {w : Int32} (hn : am_nxt M k (pc, len, .iconst n, an, z)) (hw : Int32.ofInt n = w) (K : am_Ek false G M (k + 1) ls (.int w :: st) ks h nc ns Q) : am_Ek false G M k ls st ks h nc ns Q := am_e_of hn (fun _ => rfl) (fun _ => by simp only [am_one, hw]) K
theorem am_e_bipush {n : Int} {w : Int32} (hn : am_nxt M k (pc, len, .bipush n, an, z)) (hw : (Int8.ofInt n).toInt32 = w) (K : am_Ek false G M (k + 1) ls (.int w :: st) ks h nc ns Q) : am_Ek false G M k ls st ks h nc ns Q := am_e_of hn (fun _ => rfl) (fun _ => by simp only [am_one, hw]) K
theorem am_e_sipush {n : Int} {w : Int32} (hn : am_nxt M k (pc, len, .sipush n, an, z)) (hw : (Int16.ofInt n).toInt32 = w) (K : am_Ek false G M (k + 1) ls (.int w :: st) ks h nc ns Q) : am_Ek false G M k ls st ks h nc ns Q := am_e_of hn (fun _ => rfl) (fun _ => by simp only [am_one, hw]) K
theorem am_e_lconst {n : Fin 2} {w : Int64} (hn : am_nxt M k (pc, len, .lconst n, an, z)) (hw : Int64.ofNat (n : Nat) = w) (K : am_Ek false G M (k + 1) ls (.long w :: st) ks h nc ns Q) : am_Ek false G M k ls st ks h nc ns Q := am_e_of hn (fun _ => rfl) (fun _ => by simp only [am_one, hw]) K
theorem am_e_ldc {j a c : Nat} {w : Int32} (hn : am_nxt M k (pc, len, .ldc j, (a, 0, c), z)) (hw : Int32.ofInt z = w) (K : am_Ek false G M (k + 1) ls (.int w :: st) ks h nc ns Q) : am_Ek false G M k ls st ks h nc ns Q := am_e_of hn (fun _ => rfl) (fun _ => by simp only [am_one, hw]) K
theorem am_e_ldc2 {j : Nat} {w : Int64} (hn : am_nxt M k (pc, len, .ldc2_w j, an, z)) (hw : Int64.ofInt z = w) (K : am_Ek false G M (k + 1) ls (.long w :: st) ks h nc ns Q) : am_Ek false G M k ls st ks h nc ns Q := am_e_of hn (fun _ => rfl) (fun _ => by simp only [am_one, hw]) K
theorem am_e_dup {v : Value} (hn : am_nxt M k (pc, len, .dup, an, z)) (hv : Nat.beq v.category 1 = true) (K : am_Ek false G M (k + 1) ls (v :: v :: st) ks h nc ns Q) : am_Ek false G M k ls (v :: st) ks h nc ns Q := am_e_of hn (fun _ => rfl) (fun _ => by simp only [am_one, hv, cond_true]) K
theorem am_e_dup2 {v w : Value} (hn : am_nxt M k (pc, len, .dup2, an, z)) (hv : (Nat.beq v.category 1 && Nat.beq w.category 1) = true) (K : am_Ek false G M (k + 1) ls (v :: w :: v :: w :: st) ks h nc ns Q) : am_Ek false G M k ls (v :: w :: st) ks h nc ns Q := am_e_of hn (fun _ => rfl) (fun _ => by simp only [am_one, hv, cond_true]) K
theorem am_e_pop {v : Value} (hn : am_nxt M k (pc, len, .pop, an, z)) (hv : Nat.beq v.category 1 = true) (K : am_Ek false G M (k + 1) ls st ks h nc ns Q) : am_Ek false G M k ls (v :: st) ks h nc ns Q := am_e_of hn (fun _ => rfl) (fun _ => by simp only [am_one, hv, cond_true]) K
theorem am_e_iadd {x y w : Int32} (hn : am_nxt M k (pc, len, .iadd, an, z)) (hw : x + y = w) (K : am_Ek false G M (k + 1) ls (.int w :: st) ks h nc ns Q) : am_Ek false G M k ls (.int y :: .int x :: st) ks h nc ns Q := am_e_of hn (fun _ => rfl) (fun _ => by simp only [am_one, hw]) K
theorem am_e_isub {x y w : Int32} (hn : am_nxt M k (pc, len, .isub, an, z)) (hw : x - y = w) (K : am_Ek false G M (k + 1) ls (.int w :: st) ks h nc ns Q) : am_Ek false G M k ls (.int y :: .int x :: st) ks h nc ns Q := am_e_of hn (fun _ => rfl) (fun _ => by simp only [am_one, hw]) K
theorem am_e_imul {x y w : Int32} (hn : am_nxt M k (pc, len, .imul, an, z)) (hw : x * y = w) (K : am_Ek false G M (k + 1) ls (.int w :: st) ks h nc ns Q) : am_Ek false G M k ls (.int y :: .int x :: st) ks h nc ns Q := am_e_of hn (fun _ => rfl) (fun _ => by simp only [am_one, hw]) K
theorem am_e_iand {x y w : Int32} (hn : am_nxt M k (pc, len, .iand, an, z)) (hw : x &&& y = w) (K : am_Ek false G M (k + 1) ls (.int w :: st) ks h nc ns Q) : am_Ek false G M k ls (.int y :: .int x :: st) ks h nc ns Q := am_e_of hn (fun _ => rfl) (fun _ => by simp only [am_one, hw]) K
theorem am_e_ior {x y w : Int32} (hn : am_nxt M k (pc, len, .ior, an, z)) (hw : x ||| y = w) (K : am_Ek false G M (k + 1) ls (.int w :: st) ks h nc ns Q) : am_Ek false G M k ls (.int y :: .int x :: st) ks h nc ns Q := am_e_of hn (fun _ => rfl) (fun _ => by simp only [am_one, hw]) K
theorem am_e_ishl {x y w : Int32} (hn : am_nxt M k (pc, len, .ishl, an, z)) (hw : x <<< (y &&& 31) = w) (K : am_Ek false G M (k + 1) ls (.int w :: st) ks h nc ns Q) : am_Ek false G M k ls (.int y :: .int x :: st) ks h nc ns Q := am_e_of hn (fun _ => rfl) (fun _ => by simp only [am_one, hw]) K
theorem am_e_ishr {x y w : Int32} (hn : am_nxt M k (pc, len, .ishr, an, z)) (hw : x >>> (y &&& 31) = w) (K : am_Ek false G M (k + 1) ls (.int w :: st) ks h nc ns Q) : am_Ek false G M k ls (.int y :: .int x :: st) ks h nc ns Q := am_e_of hn (fun _ => rfl) (fun _ => by simp only [am_one, hw]) K
theorem am_e_iushr {x y w : Int32} (hn : am_nxt M k (pc, len, .iushr, an, z)) (hw : (x.toUInt32 >>> (y.toUInt32 &&& Int32.toUInt32 31)).toInt32 = w) (K : am_Ek false G M (k + 1) ls (.int w :: st) ks h nc ns Q) : am_Ek false G M k ls (.int y :: .int x :: st) ks h nc ns Q := am_e_of hn (fun _ => rfl) (fun _ => by simp only [am_one, hw]) K
theorem am_e_idiv {x y w : Int32} (hn : am_nxt M k (pc, len, .idiv, an, z)) (h0 : ¬ y = 0) (hw : x / y = w) (K : am_Ek false G M (k + 1) ls (.int w :: st) ks h nc ns Q) : am_Ek false G M k ls (.int y :: .int x :: st) ks h nc ns Q := am_e_of hn (fun _ => rfl) (fun _ => by simp only [am_one, h0, hw, if_false]) K
theorem am_e_irem {x y w : Int32} (hn : am_nxt M k (pc, len, .irem, an, z)) (h0 : ¬ y = 0) (hw : x - x / y * y = w) (K : am_Ek false G M (k + 1) ls (.int w :: st) ks h nc ns Q) : am_Ek false G M k ls (.int y :: .int x :: st) ks h nc ns Q := am_e_of hn (fun _ => rfl) (fun _ => by simp only [am_one, h0, hw, if_false]) K
theorem am_e_ladd {x y w : Int64} (hn : am_nxt M k (pc, len, .ladd, an, z)) (hw : x + y = w) (K : am_Ek false G M (k + 1) ls (.long w :: st) ks h nc ns Q) : am_Ek false G M k ls (.long y :: .long x :: st) ks h nc ns Q := am_e_of hn (fun _ => rfl) (fun _ => by simp only [am_one, hw]) K
theorem am_e_lsub {x y w : Int64} (hn : am_nxt M k (pc, len, .lsub, an, z)) (hw : x - y = w) (K : am_Ek false G M (k + 1) ls (.long w :: st) ks h nc ns Q) : am_Ek false G M k ls (.long y :: .long x :: st) ks h nc ns Q := am_e_of hn (fun _ => rfl) (fun _ => by simp only [am_one, hw]) K
theorem am_e_lmul {x y w : Int64} (hn : am_nxt M k (pc, len, .lmul, an, z)) (hw : x * y = w) (K : am_Ek false G M (k + 1) ls (.long w :: st) ks h nc ns Q) : am_Ek false G M k ls (.long y :: .long x :: st) ks h nc ns Q := am_e_of hn (fun _ => rfl) (fun _ => by simp only [am_one, hw]) K
theorem am_e_land {x y w : Int64} (hn : am_nxt M k (pc, len, .land, an, z)) (hw : x &&& y = w) (K : am_Ek false G M (k + 1) ls (.long w :: st) ks h nc ns Q) : am_Ek false G M k ls (.long y :: .long x :: st) ks h nc ns Q := am_e_of hn (fun _ => rfl) (fun _ => by simp only [am_one, hw]) K
theorem am_e_ldiv {x y w : Int64} (hn : am_nxt M k (pc, len, .ldiv, an, z)) (h0 : ¬ y = 0) (hw : x / y = w) (K : am_Ek false G M (k + 1) ls (.long w :: st) ks h nc ns Q) : am_Ek false G M k ls (.long y :: .long x :: st) ks h nc ns Q := am_e_of hn (fun _ => rfl) (fun _ => by simp only [am_one, h0, hw, if_false]) K
theorem am_e_lrem {x y w : Int64} (hn : am_nxt M k (pc, len, .lrem, an, z)) (h0 : ¬ y = 0) (hw : x - x / y * y = w) (K : am_Ek false G M (k + 1) ls (.long w :: st) ks h nc ns Q) : am_Ek false G M k ls (.long y :: .long x :: st) ks h nc ns Q := am_e_of hn (fun _ => rfl) (fun _ => by simp only [am_one, h0, hw, if_false]) K
theorem am_e_lneg {x w : Int64} (hn : am_nxt M k (pc, len, .lneg, an, z)) (hw : -x = w) (K : am_Ek false G M (k + 1) ls (.long w :: st) ks h nc ns Q) : am_Ek false G M k ls (.long x :: st) ks h nc ns Q := am_e_of hn (fun _ => rfl) (fun _ => by simp only [am_one, hw]) K
theorem am_e_lcmp {x y : Int64} {w : Int32} (hn : am_nxt M k (pc, len, .lcmp, an, z)) (hw : lg_cmp x y = w) (K : am_Ek false G M (k + 1) ls (.int w :: st) ks h nc ns Q) : am_Ek false G M k ls (.long y :: .long x :: st) ks h nc ns Q := am_e_of hn (fun _ => rfl) (fun _ => by simp only [am_one, hw]) K
theorem am_e_i2l {x : Int32} {w : Int64} (hn : am_nxt M k (pc, len, .i2l, an, z)) (hw : x.toInt64 = w) (K : am_Ek false G M (k + 1) ls (.long w :: st) ks h nc ns Q) : am_Ek false G M k ls (.int x :: st) ks h nc ns Q := am_e_of hn (fun _ => rfl) (fun _ => by simp only [am_one, hw]) K
theorem am_e_l2i {x : Int64} {w : Int32} (hn : am_nxt M k (pc, len, .l2i, an, z)) (hw : x.toInt32 = w) (K : am_Ek false G M (k + 1) ls (.int w :: st) ks h nc ns Q) : am_Ek false G M k ls (.long x :: st) ks h nc ns Q := am_e_of hn (fun _ => rfl) (fun _ => by simp only [am_one, hw]) K
theorem am_e_getf {idx a b c o : Nat} {v : Value} (hn : am_nxt M k (pc, len, .getfield idx, (a, b, c), z)) (hk : ks[o]? = some (.inl a)) (hv : h o b = v) (K : am_Ek false G M (k + 1) ls (v :: st) ks h nc ns Q) : am_Ek false G M k ls (.ref o :: st) ks h nc ns Q := am_e_of hn (fun _ => rfl) (fun _ => by simp only [am_one, hk, Nat.beq_refl, cond_true, hv]) K
theorem am_e_putf {idx a b c o : Nat} {v : Value} (hn : am_nxt M k (pc, len, .putfield idx, (a, b, c), z)) (hk : ks[o]? = some (.inl a)) (hf : am_fit ((G.2.1 a).getD b .int) v = true) (K : am_Ek false G M (k + 1) ls st ks (am_up h o b v) nc ns Q) : am_Ek false G M k ls (v :: .ref o :: st) ks h nc ns Q := am_e_of hn (fun _ => rfl) (fun _ => by simp only [am_one, hk, Nat.beq_refl, hf, Bool.and_self, cond_true, am_φ]) K
theorem am_e_iaload {j : Int32} {o n q : Nat} {v : Int32} (hn : am_nxt M k (pc, len, .iaload, an, z)) (hk : ks[o]? = some (.inr (.int, n))) (hj : ¬ (j < 0 ∨ n ≤ j.toNatClampNeg)) (hq : j.toNatClampNeg = q) (hv : h o q = .int v) (K : am_Ek false G M (k + 1) ls (.int v :: st) ks h nc ns Q) : am_Ek false G M k ls (.int j :: .ref o :: st) ks h nc ns Q := am_e_of hn (fun _ => rfl) (fun _ => by subst hq; simp only [am_one, am_ald, hk, decide_true, cond_true, am_ix, if_neg hj, hv, am_pushI, am_pushL]) K
theorem am_e_baload {j : Int32} {o n q : Nat} {v : Int32} (hn : am_nxt M k (pc, len, .baload, an, z)) (hk : ks[o]? = some (.inr (.boolean, n))) (hj : ¬ (j < 0 ∨ n ≤ j.toNatClampNeg)) (hq : j.toNatClampNeg = q) (hv : h o q = .int v) (K : am_Ek false G M (k + 1) ls (.int v :: st) ks h nc ns Q) : am_Ek false G M k ls (.int j :: .ref o :: st) ks h nc ns Q := am_e_of hn (fun _ => rfl) (fun _ => by subst hq; simp only [am_one, am_ald, hk, decide_true, cond_true, am_ix, if_neg hj, hv, am_pushI, am_pushL]) K
theorem am_e_laload {j : Int32} {o n q : Nat} {v : Int64} (hn : am_nxt M k (pc, len, .laload, an, z)) (hk : ks[o]? = some (.inr (.long, n))) (hj : ¬ (j < 0 ∨ n ≤ j.toNatClampNeg)) (hq : j.toNatClampNeg = q) (hv : h o q = .long v) (K : am_Ek false G M (k + 1) ls (.long v :: st) ks h nc ns Q) : am_Ek false G M k ls (.int j :: .ref o :: st) ks h nc ns Q := am_e_of hn (fun _ => rfl) (fun _ => by subst hq; simp only [am_one, am_ald, hk, decide_true, cond_true, am_ix, if_neg hj, hv, am_pushI, am_pushL]) K
theorem am_e_sald {j : Int32} {n q : Nat} {xs : Nat → Int32} (hn : am_nxt M k (pc, len, .iaload, an, z)) (hk : G.2.2.2.2.1 = some (n, xs)) (hj : ¬ (j < 0 ∨ n ≤ j.toNatClampNeg)) (hq : j.toNatClampNeg = q) (K : am_Ek false G M (k + 1) ls (.int (xs q) :: st) ks h nc ns Q) : am_Ek false G M k ls (.int j :: .retAddr 0 :: st) ks h nc ns Q := am_e_of hn (fun _ => rfl) (fun _ => by subst hq; simp only [am_one, am_ald, hk, decide_true, cond_true, am_ix, if_neg hj, am_pushI]) K
theorem am_e_aaload {j : Int32} {o n q v : Nat} {C : String} (hn : am_nxt M k (pc, len, .aaload, an, z)) (hk : ks[o]? = some (.inr (.object C, n))) (hj : ¬ (j < 0 ∨ n ≤ j.toNatClampNeg)) (hq : j.toNatClampNeg = q) (hv : h o q = .ref v) (K : am_Ek false G M (k + 1) ls (.ref v :: st) ks h nc ns Q) : am_Ek false G M k ls (.int j :: .ref o :: st) ks h nc ns Q := am_e_of hn (fun _ => rfl) (fun _ => by subst hq; simp only [am_one, am_aald, hk, am_ix, if_neg hj, hv, am_pushR]) K
theorem am_e_iastore {j : Int32} {o n q : Nat} {v : Int32} (hn : am_nxt M k (pc, len, .iastore, an, z)) (hk : ks[o]? = some (.inr (.int, n))) (hj : ¬ (j < 0 ∨ n ≤ j.toNatClampNeg)) (hq : j.toNatClampNeg = q) (K : am_Ek false G M (k + 1) ls st ks (am_up h o q (.int v)) nc ns Q) : am_Ek false G M k ls (.int v :: .int j :: .ref o :: st) ks h nc ns Q := am_e_of hn (fun _ => rfl) (fun _ => by subst hq; simp only [am_one, am_ast, hk, decide_true, cond_true, am_ix, if_neg hj, am_φ, am_pushI, am_pushL]) K
theorem am_e_lastore {j : Int32} {o n q : Nat} {v : Int64} (hn : am_nxt M k (pc, len, .lastore, an, z)) (hk : ks[o]? = some (.inr (.long, n))) (hj : ¬ (j < 0 ∨ n ≤ j.toNatClampNeg)) (hq : j.toNatClampNeg = q) (K : am_Ek false G M (k + 1) ls st ks (am_up h o q (.long v)) nc ns Q) : am_Ek false G M k ls (.long v :: .int j :: .ref o :: st) ks h nc ns Q := am_e_of hn (fun _ => rfl) (fun _ => by subst hq; simp only [am_one, am_ast, hk, decide_true, cond_true, am_ix, if_neg hj, am_φ, am_pushI, am_pushL]) K
theorem am_e_bastore {j : Int32} {o n q : Nat} {v : Int32} (hn : am_nxt M k (pc, len, .bastore, an, z)) (hk : ks[o]? = some (.inr (.boolean, n))) (hf : am_fit .boolean (.int v) = true) (hj : ¬ (j < 0 ∨ n ≤ j.toNatClampNeg)) (hq : j.toNatClampNeg = q) (K : am_Ek false G M (k + 1) ls st ks (am_up h o q (.int v)) nc ns Q) : am_Ek false G M k ls (.int v :: .int j :: .ref o :: st) ks h nc ns Q := am_e_of hn (fun _ => rfl) (fun _ => by subst hq; simp only [am_one, am_ast, hk, hf, decide_true, cond_true, am_ix, if_neg hj, am_φ, am_pushI]) K
theorem am_e_alen {o n : Nat} {t : FieldType} {w : Int32} (hn : am_nxt M k (pc, len, .arraylength, an, z)) (hk : ks[o]? = some (.inr (t, n))) (hw : Int32.ofNat n = w) (K : am_Ek false G M (k + 1) ls (.int w :: st) ks h nc ns Q) : am_Ek false G M k ls (.ref o :: st) ks h nc ns Q := am_e_of hn (fun _ => rfl) (fun _ => by simp only [am_one, am_len, hk, hw]) K
theorem am_e_slen {n : Nat} {xs : Nat → Int32} {w : Int32} (hn : am_nxt M k (pc, len, .arraylength, an, z)) (hk : G.2.2.2.2.1 = some (n, xs)) (hw : Int32.ofNat n = w) (K : am_Ek false G M (k + 1) ls (.int w :: st) ks h nc ns Q) : am_Ek false G M k ls (.retAddr 0 :: st) ks h nc ns Q := am_e_of hn (fun _ => rfl) (fun _ => by simp only [am_one, am_len, hk, hw]) K
theorem am_e_max {idx a b : Nat} {x y w : Int32} (hn : am_nxt M k (pc, len, .invokestatic idx, (a, b, 1), z)) (hr : (Nat.ble 1 M.2.2.1.1 && Nat.ble (am_cat st + 13) M.2.2.1.2.1 && Nat.ble nc M.2.2.1.2.2.1 && Nat.ble ns M.2.2.1.2.2.2) = true) (hw : (if x < y then y else x) = w) (K : am_Ek false G M (k + 1) ls (.int w :: st) ks h nc ns Q) : am_Ek false G M k ls (.int y :: .int x :: st) ks h nc ns Q := am_e_of hn (fun _ => rfl) (fun _ => by simp only [am_one, am_math, hr, cond_true, hw]) K
theorem am_e_min {idx a b : Nat} {x y w : Int32} (hn : am_nxt M k (pc, len, .invokestatic idx, (a, b, 2), z)) (hr : (Nat.ble 1 M.2.2.1.1 && Nat.ble (am_cat st + 13) M.2.2.1.2.1 && Nat.ble nc M.2.2.1.2.2.1 && Nat.ble ns M.2.2.1.2.2.2) = true) (hw : (if y < x then y else x) = w) (K : am_Ek false G M (k + 1) ls (.int w :: st) ks h nc ns Q) : am_Ek false G M k ls (.int y :: .int x :: st) ks h nc ns Q := am_e_of hn (fun _ => rfl) (fun _ => by simp only [am_one, am_math, hr, cond_true, hw]) K
/-- the a-th instruction stands at t -/
def am_tgt (M : am_M) (a : Nat) (t : Int) : Prop := (M.2.2.2.drop a).head?.map (fun j => (j.1 : Int)) = some t
theorem am_jp_ok {a : Nat} {t : Int} (ht : am_tgt M a t) : am_jp M a t ls st ks h nc ns = some (.inl (M.2.2.2.drop a, ls, st, ks, h, nc, ns)) := by
  unfold am_tgt at ht
  unfold am_jp
  cases hd : M.2.2.2.drop a with
  | nil => rw [hd] at ht; cases ht
  | cons j r =>
    rw [hd] at ht
    have : (j.1 : Int) = t := Option.some.inj ht
    simp only [this, if_true]
theorem am_e_goto {off : Int} {a b c : Nat} (hn : am_cur M k (pc, len, .goto off, (a, b, c), z)) (ht : am_tgt M a (pc + off)) (K : am_Ek false G M a ls st ks h nc ns Q) : am_Ek false G M k ls st ks h nc ns Q := by
  unfold am_Ek
  rw [hn]
  exact am_Ev_one rfl (am_jp_ok ht) K
theorem am_e_ifT {cc : ClassFile.Cond} {off : Int} {a b c : Nat} {x : Int32} (hn : am_nxt M k (pc, len, .ifCond cc off, (a, b, c), z)) (hc : am_cmp cc x 0 = true) (ht : am_tgt M a (pc + off)) (K : am_Ek false G M a ls st ks h nc ns Q) : am_Ek false G M k ls (.int x :: st) ks h nc ns Q := by
  unfold am_Ek
  rw [hn.1]
  refine am_Ev_one rfl ?_ K
  show am_br M _ _ (am_cmp cc x 0) off ls st ks h nc ns = _
  unfold am_br
  rw [hc, cond_true]
  exact am_jp_ok ht
theorem am_e_ifF {cc : ClassFile.Cond} {off : Int} {a b c : Nat} {x : Int32} (hn : am_nxt M k (pc, len, .ifCond cc off, (a, b, c), z)) (hc : am_cmp cc x 0 = false) (K : am_Ek false G M (k + 1) ls st ks h nc ns Q) : am_Ek false G M k ls (.int x :: st) ks h nc ns Q := by
  unfold am_Ek
  rw [hn.1]
  refine am_Ev_one rfl ?_ K
  show am_br M _ _ (am_cmp cc x 0) off ls st ks h nc ns = _
  unfold am_br
  rw [hc, cond_false]
  exact am_go_ok hn.2
theorem am_e_cmpT {cc : ClassFile.Cond} {off : Int} {a b c : Nat} {x y : Int32} (hn : am_nxt M k (pc, len, .if_icmp cc off, (a, b, c), z)) (hc : am_cmp cc x y = true) (ht : am_tgt M a (pc + off)) (K : am_Ek false G M a ls st ks h nc ns Q) : am_Ek false G M k ls (.int y :: .int x :: st) ks h nc ns Q := by
  unfold am_Ek
  rw [hn.1]
  refine am_Ev_one rfl ?_ K
  show am_br M _ _ (am_cmp cc x y) off ls st ks h nc ns = _
  unfold am_br
  rw [hc, cond_true]
  exact am_jp_ok ht
theorem am_e_cmpF {cc : ClassFile.Cond} {off : Int} {a b c : Nat} {x y : Int32} (hn : am_nxt M k (pc, len, .if_icmp cc off, (a, b, c), z)) (hc : am_cmp cc x y = false) (K : am_Ek false G M (k + 1) ls st ks h nc ns Q) : am_Ek false G M k ls (.int y :: .int x :: st) ks h nc ns Q := by
  unfold am_Ek
  rw [hn.1]
  refine am_Ev_one rfl ?_ K
  show am_br M _ _ (am_cmp cc x y) off ls st ks h nc ns = _
  unfold am_br
  rw [hc, cond_false]
  exact am_go_ok hn.2
theorem am_seek_suf (t : Int) : ∀ l : List am_I, am_seek l t = l.drop (l.length - (am_seek l t).length) := by
  intro l
  induction l with
  | nil => rfl
  | cons j r ih =>
    unfold am_seek
    split
    · simp
    · have hle : (am_seek r t).length ≤ r.length := by
        rw [ih]; simp
      rw [List.length_cons, Nat.succ_sub hle, List.drop_succ_cons]
      exact ih
theorem am_sw_ok {a : Nat} {t : Int} (ha : a < M.2.2.2.length) (hs : (am_seek M.2.2.2 t).length = M.2.2.2.length - a) : am_sw M t ls st ks h nc ns = some (.inl (M.2.2.2.drop a, ls, st, ks, h, nc, ns)) := by
  have h1 := am_seek_suf t M.2.2.2
  rw [hs, Nat.sub_sub_self (Nat.le_of_lt ha)] at h1
  unfold am_sw
  rw [h1]
  cases hd : M.2.2.2.drop a with
  | nil => rw [List.drop_eq_nil_iff] at hd; omega
  | cons j r => rfl
theorem am_e_swI {d lo hi : Int} {offs : Array Int} {x : Int32} {off : Int} {a : Nat} (hn : am_cur M k (pc, len, .tableswitch d lo hi offs, an, z)) (hx : ¬ (x.toInt < lo ∨ hi < x.toInt)) (ho : offs[(x.toInt - lo).toNat]? = some off) (ht : a < M.2.2.2.length ∧ (am_seek M.2.2.2 (pc + off)).length = M.2.2.2.length - a) (K : am_Ek false G M a ls st ks h nc ns Q) : am_Ek false G M k ls (.int x :: st) ks h nc ns Q := by
  unfold am_Ek
  rw [hn]
  refine am_Ev_one rfl ?_ K
  simp only [am_one, if_neg hx, ho]
  exact am_sw_ok ht.1 ht.2
theorem am_e_swO {d lo hi : Int} {offs : Array Int} {x : Int32} {a : Nat} (hn : am_cur M k (pc, len, .tableswitch d lo hi offs, an, z)) (hx : x.toInt < lo ∨ hi < x.toInt) (ht : a < M.2.2.2.length ∧ (am_seek M.2.2.2 (pc + d)).length = M.2.2.2.length - a) (K : am_Ek false G M a ls st ks h nc ns Q) : am_Ek false G M k ls (.int x :: st) ks h nc ns Q := by
  unfold am_Ek
  rw [hn]
  refine am_Ev_one rfl ?_ K
  simp only [am_one, if_pos hx]
  exact am_sw_ok ht.1 ht.2
theorem am_e_iret {v : Int32} {ty : FieldType} (hn : am_cur M k (pc, len, .ireturn, an, z)) (ht : M.2.1.2.1 = some ty) (hf : am_fit ty (.int v) = true) (hb : (Nat.ble nc M.2.2.1.2.2.1 && Nat.ble ns M.2.2.1.2.2.2) = true) (K : Q (some (.int v)) ks h) : am_Ek false G M k ls [.int v] ks h nc ns Q := by
  unfold am_Ek
  rw [hn]
  refine am_Ev_end (r := (some (.int v), ks, h)) ?_ K
  simp only [am_end, ht, hf, cond_true, am_ret, hb]
theorem am_e_lret {v : Int64} (hn : am_cur M k (pc, len, .lreturn, an, z)) (ht : M.2.1.2.1 = some .long) (hb : (Nat.ble nc M.2.2.1.2.2.1 && Nat.ble ns M.2.2.1.2.2.2) = true) (K : Q (some (.long v)) ks h) : am_Ek false G M k ls [.long v] ks h nc ns Q := by
  unfold am_Ek
  rw [hn]
  refine am_Ev_end (r := (some (.long v), ks, h)) ?_ K
  simp only [am_end, ht, cond_true, am_ret, hb]
theorem am_e_vret (hn : am_cur M k (pc, len, .return_, an, z)) (ht : M.2.1.2.1 = none) (hb : (Nat.ble nc M.2.2.1.2.2.1 && Nat.ble ns M.2.2.1.2.2.2) = true) (K : Q none ks h) : am_Ek false G M k ls [] ks h nc ns Q := by
  unfold am_Ek
  rw [hn]
  refine am_Ev_end (r := (none, ks, h)) ?_ K
  simp only [am_end, ht, cond_true, am_ret, hb]
/-- a callee's run, then the caller's -/
theorem am_Ev_call {M' : am_M} {i : am_I} {cs : List am_I} {a : Nat} {as rest : List Value} {ex : Bool} (hM : G.1 a = some M') (hex : ex = false) (hok : am_okC M M' as rest nc ns = true) (hz : M'.2.2.1.2.2 = (0, 0)) (hend : am_end M (i :: cs, ls, st, ks, h, nc, ns) = none) (hcs : cs.head?.map (fun j => j.1) = some (i.1 + i.2.1))
    (hone : ∀ rc, am_one am_φ ex G rc M (i :: cs, ls, st, ks, h, nc, ns) = am_calls ex M M' a rc i cs ls as rest ks h nc ns)
    (K : am_Ek ex (am_noS G) M' 0 (lv_args 0 as) [] ks h 0 0 (fun v ks h => am_Ev ex G M (cs, ls, v.toList ++ rest, ks, h, nc, ns) Q)) : am_Ev ex G M (i :: cs, ls, st, ks, h, nc, ns) Q := by
  obtain ⟨n, r, hr, n2, r2, hr2, hQ⟩ := K
  refine ⟨(n + n2) + 1, r2, ?_, hQ⟩
  rw [am_run_s, hend, hone]
  have h1 : am_rc ex (n + n2) G a as ks h = some r := by
    unfold am_rc
    rw [hM]
    exact am_run_le (Nat.le_add_right _ _) hr
  unfold am_calls
  rw [hok, cond_true, h1]
  obtain ⟨v, ks', h'⟩ := r
  have hz1 : M'.2.2.1.2.2.1 = 0 := by rw [hz]
  have hz2 : M'.2.2.1.2.2.2 = 0 := by rw [hz]
  simp only [hex, Bool.not_false, Bool.true_or, cond_true, hz1, hz2, Nat.add_zero, am_go_ok hcs]
  rw [← hex]
  exact am_run_le (Nat.le_add_left _ _) hr2
theorem am_e_callV {idx a b c : Nat} {M' : am_M} {o : Nat} {ar rest : List Value} {L : am_L} (hn : am_nxt M k (pc, len, .invokevirtual idx, (a, b, c + 1), z)) (hM : G.1 a = some M') (ht : st.take M'.2.1.2.2 = ar) (hd : st.drop M'.2.1.2.2 = .ref o :: rest) (hl : Nat.beq ar.length M'.2.1.2.2 = true) (hk : ks[o]? = some (.inl M'.1.1)) (hok : am_okC M M' (.ref o :: ar.reverse) rest nc ns = true) (hz : M'.2.2.1.2.2 = (0, 0)) (hL : lv_args 0 (.ref o :: ar.reverse) = L)
    (K : am_Ek false (am_noS G) M' 0 L [] ks h 0 0 (fun v ks h => match v with | some w => am_Ek false G M (k + 1) ls (w :: rest) ks h nc ns Q | none => am_Ek false G M (k + 1) ls rest ks h nc ns Q)) : am_Ek false G M k ls st ks h nc ns Q := by
  unfold am_Ek
  rw [hn.1]
  refine am_Ev_call hM rfl hok hz rfl hn.2 (fun rc => ?_) ?_
  · simp only [am_one, am_callV, hM, hd, hk, ht, Nat.beq_refl, hl, Bool.and_self, cond_true]
  · rw [hL]
    refine am_Ev_mono K (fun v ks h hh => ?_)
    cases v with
    | none => exact hh
    | some w => exact hh
theorem am_e_callI {idx a b c : Nat} {M' : am_M} {o : Nat} {ar rest : List Value} {L : am_L} (hn : am_nxt M k (pc, len, .invokespecial idx, (a, b, c + 1), z)) (hM : G.1 a = some M') (ht : st.take M'.2.1.2.2 = ar) (hd : st.drop M'.2.1.2.2 = .ref o :: rest) (hl : Nat.beq ar.length M'.2.1.2.2 = true) (hk : ks[o]? = some (.inl M'.1.1)) (hok : am_okC M M' (.ref o :: ar.reverse) rest nc ns = true) (hz : M'.2.2.1.2.2 = (0, 0)) (hL : lv_args 0 (.ref o :: ar.reverse) = L)
    (K : am_Ek false (am_noS G) M' 0 L [] ks h 0 0 (fun v ks h => match v with | some w => am_Ek false G M (k + 1) ls (w :: rest) ks h nc ns Q | none => am_Ek false G M (k + 1) ls rest ks h nc ns Q)) : am_Ek false G M k ls st ks h nc ns Q := by
  unfold am_Ek
  rw [hn.1]
  refine am_Ev_call hM rfl hok hz rfl hn.2 (fun rc => ?_) ?_
  · simp only [am_one, am_callV, hM, hd, hk, ht, Nat.beq_refl, hl, Bool.and_self, cond_true]
  · rw [hL]
    refine am_Ev_mono K (fun v ks h hh => ?_)
    cases v with
    | none => exact hh
    | some w => exact hh
theorem am_e_callS {idx a b c : Nat} {M' : am_M} {ar rest : List Value} {L : am_L} (hn : am_nxt M k (pc, len, .invokestatic idx, (a, b, c + 3), z)) (hM : G.1 a = some M') (ht : st.take M'.2.1.2.2 = ar) (hd : st.drop M'.2.1.2.2 = rest) (hl : Nat.beq ar.length M'.2.1.2.2 = true) (hok : am_okC M M' ar.reverse rest nc ns = true) (hz : M'.2.2.1.2.2 = (0, 0)) (hL : lv_args 0 ar.reverse = L)
    (K : am_Ek false (am_noS G) M' 0 L [] ks h 0 0 (fun v ks h => match v with | some w => am_Ek false G M (k + 1) ls (w :: rest) ks h nc ns Q | none => am_Ek false G M (k + 1) ls rest ks h nc ns Q)) : am_Ek false G M k ls st ks h nc ns Q := by
  unfold am_Ek
  rw [hn.1]
  refine am_Ev_call hM rfl hok hz rfl hn.2 (fun rc => ?_) ?_
  · simp only [am_one, am_callS, hM, hd, ht, hl, cond_true]
  · rw [hL]
    refine am_Ev_mono K (fun v ks h hh => ?_)
    cases v with
    | none => exact hh
    | some w => exact hh
def am_eqI (a b : am_I) : Bool := decide (a.1 = b.1) && decide (a.2.1 = b.2.1) && decide (a.2.2.1 = b.2.2.1) && decide (a.2.2.2.1 = b.2.2.2.1) && decide (a.2.2.2.2 = b.2.2.2.2)
theorem am_eqI_ok {a b : am_I} (h : am_eqI a b = true) : a = b := by
  unfold am_eqI at h
  simp only [Bool.and_eq_true, decide_eq_true_eq] at h
  obtain ⟨⟨⟨⟨h1, h2⟩, h3⟩, h4⟩, h5⟩ := h
  exact Prod.ext h1 (Prod.ext h2 (Prod.ext h3 (Prod.ext h4 h5)))
def am_cB (M : am_M) (k : Nat) (i : am_I) : Bool := match M.2.2.2[k]? with
  | some j => am_eqI j i
  | none => false
def am_nB (M : am_M) (k : Nat) (i : am_I) : Bool := am_cB M k i && (match M.2.2.2[k + 1]? with
  | some j => Nat.beq j.1 (i.1 + i.2.1)
  | none => false)
theorem am_cur_of {M : am_M} {k : Nat} {i : am_I} (h : am_cB M k i = true) : am_cur M k i := by
  unfold am_cB at h
  split at h
  · rename_i j hj
    have := am_eqI_ok h
    subst this
    obtain ⟨hl, he⟩ := List.getElem?_eq_some_iff.mp hj
    unfold am_cur
    rw [List.drop_eq_getElem_cons hl, he]
  · cases h
theorem am_nxt_of {M : am_M} {k : Nat} {i : am_I} (h : am_nB M k i = true) : am_nxt M k i := by
  unfold am_nB at h
  rw [Bool.and_eq_true] at h
  refine ⟨am_cur_of h.1, ?_⟩
  rw [List.head?_drop]
  obtain ⟨-, h⟩ := h
  split at h
  · rename_i j hj
    rw [hj]
    exact congrArg some (Nat.eq_of_beq_eq_true h)
  · cases h
theorem am_tgt_of {M : am_M} {a : Nat} {t : Int} (h : decide ((M.2.2.2[a]?).map (fun j => (j.1 : Int)) = some t) = true) : am_tgt M a t := by
  unfold am_tgt
  rw [List.head?_drop]
  exact of_decide_eq_true h
theorem am_c_ltT {x y : Int32} (h : x < y) : am_cmp .lt x y = true := decide_eq_true h
theorem am_c_ltF {x y : Int32} (h : ¬ x < y) : am_cmp .lt x y = false := decide_eq_false h
theorem am_c_geT {x y : Int32} (h : ¬ x < y) : am_cmp .ge x y = true := decide_eq_true (Int32.not_lt.mp h)
theorem am_c_geF {x y : Int32} (h : x < y) : am_cmp .ge x y = false := decide_eq_false (Int32.not_le.mpr h)
theorem am_c_gtT {x y : Int32} (h : y < x) : am_cmp .gt x y = true := decide_eq_true h
theorem am_c_gtF {x y : Int32} (h : ¬ y < x) : am_cmp .gt x y = false := decide_eq_false h
theorem am_c_leT {x y : Int32} (h : ¬ y < x) : am_cmp .le x y = true := decide_eq_true (Int32.not_lt.mp h)
theorem am_c_leF {x y : Int32} (h : y < x) : am_cmp .le x y = false := decide_eq_false (Int32.not_le.mpr h)
theorem am_c_eqT {x y : Int32} (h : x = y) : am_cmp .eq x y = true := decide_eq_true h
theorem am_c_eqF {x y : Int32} (h : ¬ x = y) : am_cmp .eq x y = false := decide_eq_false h
theorem am_c_neT {x y : Int32} (h : ¬ x = y) : am_cmp .ne x y = true := decide_eq_true h
theorem am_c_neF {x y : Int32} (h : x = y) : am_cmp .ne x y = false := decide_eq_false (fun q => q h)
theorem am_lt_irr (x : Int32) : ¬ x < x := Int32.lt_irrefl
theorem am_e_sald1 {j v : Int32} {n q : Nat} {xs : Nat → Int32} (hn : am_nxt M k (pc, len, .iaload, an, z)) (hk : G.2.2.2.2.1 = some (n, xs)) (hj : ¬ (j < 0 ∨ n ≤ j.toNatClampNeg)) (hq : j.toNatClampNeg = q) (hv : xs q = v) (K : am_Ek false G M (k + 1) ls (.int v :: st) ks h nc ns Q) : am_Ek false G M k ls (.int j :: .retAddr 0 :: st) ks h nc ns Q := am_e_of hn (fun _ => rfl) (fun _ => by subst hq; simp only [am_one, am_ald, hk, decide_true, cond_true, am_ix, if_neg hj, hv, am_pushI]) K
end AME
end
section
/-! ===== THE CONSTRUCTORS, run by the kernel (written by wip/p1/mkctor.py) ===== -/
noncomputable def am_fn (n : Nat) (k : Nat → am_R) : am_R := Nat.rec (motive := fun _ => am_R) (k 0) (fun m _ => k (m + 1)) n
theorem am_fn_eq (n : Nat) (k : Nat → am_R) : am_fn n k = k n := by cases n <;> rfl
/-- a number is worked out ahead of its use -/
noncomputable def am_ff (v : Value) (k : Value → am_R) : am_R := match v with
  | .int x => am_fn x.toBitVec.toNat (fun n => k (.int (Int32.ofBitVec (BitVec.ofNat 32 n))))
  | .long x => am_fn x.toBitVec.toNat (fun n => k (.long (Int64.ofBitVec (BitVec.ofNat 64 n))))
  | v => k v
theorem am_ff_eq : am_ff = am_φ := by
  funext v k
  cases v <;> simp [am_ff, am_fn_eq, am_φ]
def am_G0 : am_G := am_P1 none (fun _ _ _ => none)
theorem am_noS_P1 (scr : Option (Nat × (Nat → Int32))) (lk : List Value → List am_k → am_H → Option am_O) : am_noS (am_P1 scr lk) = am_G0 := rfl
def am_ksA : List am_k := [.inl 0, .inr (.int, 700), .inl 1, .inr (.object "AirBed$Blower", 4), .inr (.int, 8), .inr (.int, 8), .inr (.int, 6), .inr (.int, 6), .inr (.int, 3), .inr (.int, 3), .inr (.int, 3), .inl 2, .inr (.int, 64), .inr (.int, 64), .inr (.int, 3), .inr (.int, 3), .inr (.boolean, 3), .inr (.long, 6), .inr (.long, 64), .inl 3, .inl 3, .inl 3, .inl 3, .inl 1, .inr (.object "AirBed$Blower", 4), .inr (.int, 8), .inr (.int, 8), .inr (.int, 6), .inr (.int, 6), .inr (.int, 3), .inr (.int, 3), .inr (.int, 3), .inl 2, .inr (.int, 64), .inr (.int, 64), .inr (.int, 3), .inr (.int, 3), .inr (.boolean, 3), .inr (.long, 6), .inr (.long, 64), .inl 3, .inl 3, .inl 3, .inl 3, .inl 4, .inr (.int, 20), .inr (.int, 0), .inr (.int, 72), .inl 5, .inr (.int, 4), .inr (.int, 4), .inr (.int, 4), .inl 5, .inr (.int, 4), .inr (.int, 4), .inr (.int, 4), .inl 5, .inr (.int, 4), .inr (.int, 4), .inr (.int, 4), .inl 6, .inr (.object "AirBed$State", 20), .inl 5, .inr (.int, 4), .inr (.int, 4), .inr (.int, 4), .inl 5, .inr (.int, 4), .inr (.int, 4), .inr (.int, 4), .inl 5, .inr (.int, 4), .inr (.int, 4), .inr (.int, 4), .inl 5, .inr (.int, 4), .inr (.int, 4), .inr (.int, 4), .inl 5, .inr (.int, 4), .inr (.int, 4), .inr (.int, 4), .inl 5, .inr (.int, 4), .inr (.int, 4), .inr (.int, 4), .inl 5, .inr (.int, 4), .inr (.int, 4), .inr (.int, 4), .inl 5, .inr (.int, 4), .inr (.int, 4), .inr (.int, 4), .inl 5, .inr (.int, 4), .inr (.int, 4), .inr (.int, 4), .inl 5, .inr (.int, 4), .inr (.int, 4), .inr (.int, 4), .inl 5, .inr (.int, 4), .inr (.int, 4), .inr (.int, 4), .inl 5, .inr (.int, 4), .inr (.int, 4), .inr (.int, 4), .inl 5, .inr (.int, 4), .inr (.int, 4), .inr (.int, 4), .inl 5, .inr (.int, 4), .inr (.int, 4), .inr (.int, 4), .inl 5, .inr (.int, 4), .inr (.int, 4), .inr (.int, 4), .inl 5, .inr (.int, 4), .inr (.int, 4), .inr (.int, 4), .inl 5, .inr (.int, 4), .inr (.int, 4), .inr (.int, 4), .inl 5, .inr (.int, 4), .inr (.int, 4), .inr (.int, 4), .inl 5, .inr (.int, 4), .inr (.int, 4), .inr (.int, 4), .inl 5, .inr (.int, 4), .inr (.int, 4), .inr (.int, 4), .inl 7, .inr (.int, 24), .inr (.int, 24), .inr (.int, 24), .inr (.int, 24), .inr (.boolean, 24), .inl 8, .inl 5, .inr (.int, 4), .inr (.int, 4), .inr (.int, 4), .inl 8, .inl 5, .inr (.int, 4), .inr (.int, 4), .inr (.int, 4), .inl 9, .inl 10, .inr (.int, 6), .inl 11, .inr (.long, 6), .inr (.int, 6)]
def am_ks0 : List am_k := [.inl 0, .inr (.int, 700), .inl 1, .inr (.object "AirBed$Blower", 4), .inr (.int, 8), .inr (.int, 8), .inr (.int, 6), .inr (.int, 6), .inr (.int, 3), .inr (.int, 3), .inr (.int, 3), .inl 2, .inr (.int, 64), .inr (.int, 64), .inr (.int, 3), .inr (.int, 3), .inr (.boolean, 3), .inr (.long, 6), .inr (.long, 64), .inl 3, .inl 3, .inl 3, .inl 3, .inl 1, .inr (.object "AirBed$Blower", 4), .inr (.int, 8), .inr (.int, 8), .inr (.int, 6), .inr (.int, 6), .inr (.int, 3), .inr (.int, 3), .inr (.int, 3), .inl 2, .inr (.int, 64), .inr (.int, 64), .inr (.int, 3), .inr (.int, 3), .inr (.boolean, 3), .inr (.long, 6), .inr (.long, 64), .inl 3, .inl 3, .inl 3, .inl 3, .inl 4, .inr (.int, 20), .inr (.int, 0), .inr (.int, 72), .inl 5, .inr (.int, 4), .inr (.int, 4), .inr (.int, 4), .inl 5, .inr (.int, 4), .inr (.int, 4), .inr (.int, 4), .inl 5, .inr (.int, 4), .inr (.int, 4), .inr (.int, 4), .inl 6, .inr (.object "AirBed$State", 20), .inl 5, .inr (.int, 4), .inr (.int, 4), .inr (.int, 4), .inl 5, .inr (.int, 4), .inr (.int, 4), .inr (.int, 4), .inl 5, .inr (.int, 4), .inr (.int, 4), .inr (.int, 4), .inl 5, .inr (.int, 4), .inr (.int, 4), .inr (.int, 4), .inl 5, .inr (.int, 4), .inr (.int, 4), .inr (.int, 4), .inl 5, .inr (.int, 4), .inr (.int, 4), .inr (.int, 4), .inl 5, .inr (.int, 4), .inr (.int, 4), .inr (.int, 4), .inl 5, .inr (.int, 4), .inr (.int, 4), .inr (.int, 4), .inl 5, .inr (.int, 4), .inr (.int, 4), .inr (.int, 4), .inl 5, .inr (.int, 4), .inr (.int, 4), .inr (.int, 4), .inl 5, .inr (.int, 4), .inr (.int, 4), .inr (.int, 4), .inl 5, .inr (.int, 4), .inr (.int, 4), .inr (.int, 4), .inl 5, .inr (.int, 4), .inr (.int, 4), .inr (.int, 4), .inl 5, .inr (.int, 4), .inr (.int, 4), .inr (.int, 4), .inl 5, .inr (.int, 4), .inr (.int, 4), .inr (.int, 4), .inl 5, .inr (.int, 4), .inr (.int, 4), .inr (.int, 4), .inl 5, .inr (.int, 4), .inr (.int, 4), .inr (.int, 4), .inl 5, .inr (.int, 4), .inr (.int, 4), .inr (.int, 4), .inl 5, .inr (.int, 4), .inr (.int, 4), .inr (.int, 4), .inl 5, .inr (.int, 4), .inr (.int, 4), .inr (.int, 4), .inl 7, .inr (.int, 24), .inr (.int, 24), .inr (.int, 24), .inr (.int, 24), .inr (.boolean, 24), .inl 8, .inl 5, .inr (.int, 4), .inr (.int, 4), .inr (.int, 4), .inl 8, .inl 5, .inr (.int, 4), .inr (.int, 4), .inr (.int, 4), .inl 9, .inl 10, .inr (.int, 6), .inl 11, .inr (.long, 6), .inr (.int, 6), .inl 12, .inr (.int, 700), .inr (.int, 101), .inr (.boolean, 4), .inr (.int, 12), .inr (.int, 8), .inr (.int, 56), .inr (.int, 16), .inr (.int, 16), .inr (.int, 12), .inr (.int, 12), .inr (.int, 6), .inr (.int, 6), .inr (.int, 6), .inr (.boolean, 6), .inr (.int, 6), .inr (.int, 6), .inr (.int, 128), .inr (.int, 128), .inr (.int, 128), .inr (.int, 96), .inr (.int, 96), .inr (.long, 6), .inr (.long, 64), .inr (.int, 4), .inr (.int, 4), .inr (.int, 4), .inr (.int, 16), .inr (.int, 16), .inr (.int, 16), .inr (.int, 4), .inr (.int, 4), .inr (.long, 6), .inr (.int, 6), .inr (.int, 96), .inr (.boolean, 24), .inr (.int, 340), .inr (.int, 17), .inr (.long, 1)]
def am_dflt (ci : Nat) : Nat → Value := fun j => defaultValue ((am_tys ci).getD j .int)
def am_hA0 : am_H := am_mk (fun _ _ => .int 0) 0 (am_dflt 0)
noncomputable def am_rA : Option am_O := am_run am_ff true 30000 am_G0 am_m0 (am_m0.2.2.2, lv_args 0 [.ref 0], [], [.inl 0], am_hA0, 0, 0)
noncomputable def am_hA : am_H := match am_rA with | some r => r.2.2 | none => am_hA0
noncomputable def am_hB0 : am_H := am_mk am_hA 164 (am_dflt 12)
noncomputable def am_rB : Option am_O := am_run am_ff true 30000 am_G0 am_m77 (am_m77.2.2.2, lv_args 0 [.ref 164], [], am_ksA ++ [.inl 12], am_hB0, 0, 0)
noncomputable def am_hB : am_H := match am_rB with | some r => r.2.2 | none => am_hB0
/-- the heap behind the constructors -/
noncomputable def am_h0 : am_H := am_mk am_hB 202 (fun _ => .long 0)
def am_isR (ks : List am_k) (r : Option am_O) : Bool := match r with
  | some (none, ks1, _) => decide (ks1 = ks)
  | _ => false
theorem am_isR_ok {ks : List am_k} {r : Option am_O} {d : am_H} (h : am_isR ks r = true) : r = some (none, ks, match r with | some r => r.2.2 | none => d) := by
  unfold am_isR at h
  split at h
  · have := of_decide_eq_true h
    subst this
    rfl
  · cases h
set_option maxRecDepth 1000000 in
theorem am_rA_is : am_isR am_ksA am_rA = true := by decide +kernel
end
section
/-! ===== FEWER LOCALS: a run that needs these alone; HEAPS: facts, and what may have changed ===== -/
/-- the locals of ls' are among those of ls -/
def am_Lr (ls : am_L) : am_L → Prop
  | [] => True
  | q :: l => am_get ls q.1 = some q.2 ∧ am_Lr ls l
theorem am_Lr_mem {ls : am_L} : ∀ {l : am_L}, am_Lr ls l → ∀ q ∈ l, am_get ls q.1 = some q.2
  | [], _, q, hq => by cases hq
  | p :: l, h, q, hq => by
    rcases List.mem_cons.mp hq with rfl | hq
    · exact h.1
    · exact am_Lr_mem h.2 q hq
theorem am_Lr_of {ls : am_L} : ∀ {l : am_L}, (∀ q ∈ l, am_get ls q.1 = some q.2) → am_Lr ls l
  | [], _ => trivial
  | p :: l, h => ⟨h p List.mem_cons_self, am_Lr_of (fun q hq => h q (List.mem_cons_of_mem _ hq))⟩
theorem am_Lr_get {ls l : am_L} (h : am_Lr ls l) {k : Nat} {v : Value} (hg : am_get l k = some v) : am_get ls k = some v := am_Lr_mem h _ (am_get_mem hg)
theorem am_get_filter {p : Nat × Value → Bool} {k : Nat} {v : Value} : ∀ {ls : am_L}, am_get ls k = some v → p (k, v) = true → am_get (ls.filter p) k = some v
  | [], h, _ => by cases h
  | q :: l, h, hp => by
    unfold am_get at h
    cases hb : Nat.beq q.1 k with
    | true =>
      rw [hb, cond_true] at h
      have hk := Nat.eq_of_beq_eq_true hb
      have hv := Option.some.inj h
      obtain ⟨qk, qv⟩ := q
      dsimp only at hk hv
      subst hk; subst hv
      rw [List.filter_cons_of_pos hp]
      unfold am_get
      rw [hb]
      rfl
    | false =>
      rw [hb, cond_false] at h
      have ih := am_get_filter (p := p) h hp
      rw [List.filter_cons]
      split
      · unfold am_get
        rw [hb]
        exact ih
      · exact ih
theorem am_get_self {k : Nat} {v : Value} {l : am_L} : am_get ((k, v) :: l) k = some v := by
  unfold am_get
  rw [Nat.beq_refl]
  rfl
theorem am_get_ne {k j : Nat} {v : Value} {l : am_L} (h : ¬ j = k) : am_get ((j, v) :: l) k = am_get l k := by
  have hb : Nat.beq j k = false := by
    cases hq : Nat.beq j k with
    | false => rfl
    | true => exact absurd (Nat.eq_of_beq_eq_true hq) h
  show cond (Nat.beq j k) _ _ = _
  rw [hb]
  rfl
theorem am_Lr_set {ls l : am_L} (h : am_Lr ls l) (k : Nat) (v : Value) : am_Lr (am_set ls k v) (am_set l k v) := by
  refine am_Lr_of (fun q hq => ?_)
  unfold am_set at hq ⊢
  rcases List.mem_cons.mp hq with rfl | hq
  · exact am_get_self
  · obtain ⟨h1, h2⟩ := List.mem_filter.mp hq
    have h3 := h2
    rw [Bool.and_eq_true] at h3
    have hk : ¬ k = q.1 := fun e => by simp [e] at h3
    rw [am_get_ne hk]
    exact am_get_filter (am_Lr_mem h q h1) h2
theorem am_Lr_set2 {ls l : am_L} (h : am_Lr ls l) (k : Nat) (v : Value) : am_Lr (am_set2 ls k v) (am_set2 l k v) := by
  refine am_Lr_of (fun q hq => ?_)
  unfold am_set2 at hq ⊢
  rcases List.mem_cons.mp hq with rfl | hq
  · exact am_get_self
  · obtain ⟨h1, h2⟩ := List.mem_filter.mp hq
    have h3 := h2
    rw [Bool.and_eq_true] at h3
    have hk : ¬ k = q.1 := fun e => by simp [e] at h3
    rw [am_get_ne hk]
    exact am_get_filter (am_Lr_mem h q h1) h2
/-- an outcome with more locals -/
def am_Rl (r r' : am_R) : Prop := ∀ cs l st ks h nc ns, r' = some (.inl (cs, l, st, ks, h, nc, ns)) → ∃ ls, am_Lr ls l ∧ r = some (.inl (cs, ls, st, ks, h, nc, ns))
section AML
variable {ex : Bool} {G : am_G} {rc : am_rec} {M M' : am_M} {i : am_I} {cs : List am_I} {ls l : am_L} {st : List Value} {ks : List am_k} {h : am_H} {nc ns : Nat}
theorem am_Rl_none {r : am_R} : am_Rl r none := fun _ _ _ _ _ _ _ hh => by cases hh
theorem am_Rl_go {st : List Value} {ks : List am_k} {h : am_H} {nc ns : Nat} (hl : am_Lr ls l) : am_Rl (am_go i cs ls st ks h nc ns) (am_go i cs l st ks h nc ns) := by
  intro cs1 l1 st1 ks1 h1 nc1 ns1 hh
  unfold am_go am_nx at hh ⊢
  split at hh
  · cases hh
  · rename_i j r
    cases hb : Nat.beq j.1 (i.1 + i.2.1) with
    | false => rw [hb] at hh; cases hh
    | true => rw [hb] at hh; cases hh; exact ⟨ls, hl, rfl⟩
theorem am_Rl_jp {a : Nat} {t : Int} {st : List Value} (hl : am_Lr ls l) : am_Rl (am_jp M a t ls st ks h nc ns) (am_jp M a t l st ks h nc ns) := by
  intro cs1 l1 st1 ks1 h1 nc1 ns1 hh
  unfold am_jp at hh ⊢
  split at hh
  · cases hh
  · split at hh
    · cases hh
      rename_i hd ht
      exact ⟨ls, hl, rfl⟩
    · cases hh
theorem am_Rl_sw {t : Int} {st : List Value} (hl : am_Lr ls l) : am_Rl (am_sw M t ls st ks h nc ns) (am_sw M t l st ks h nc ns) := by
  intro cs1 l1 st1 ks1 h1 nc1 ns1 hh
  unfold am_sw at hh ⊢
  split at hh
  · cases hh
  · cases hh
    exact ⟨ls, hl, rfl⟩
theorem am_Rl_br {b : Bool} {off : Int} {st : List Value} (hl : am_Lr ls l) : am_Rl (am_br M i cs b off ls st ks h nc ns) (am_br M i cs b off l st ks h nc ns) := by
  unfold am_br
  cases b
  · exact am_Rl_go hl
  · exact am_Rl_jp hl
theorem am_Rl_cond {b : Bool} {r r' : am_R} (h : am_Rl r r') : am_Rl (cond b r none) (cond b r' none) := by
  cases b
  · exact am_Rl_none
  · exact h
theorem am_Rl_ite {p : Prop} [Decidable p] {r r' : am_R} (h : am_Rl r r') : am_Rl (if p then none else r) (if p then none else r') := by
  split
  · exact am_Rl_none
  · exact h
theorem am_Rl_ix {j : Int32} {n : Nat} {k k' : Nat → am_R} (h : ∀ q, am_Rl (k q) (k' q)) : am_Rl (am_ix j n k) (am_ix j n k') := am_Rl_ite (h _)
theorem am_Rl_pI {v : Value} {k k' : Value → am_R} (h : ∀ v, am_Rl (k v) (k' v)) : am_Rl (am_pushI v k) (am_pushI v k') := by
  unfold am_pushI; split
  · exact h _
  · exact am_Rl_none
theorem am_Rl_pL {v : Value} {k k' : Value → am_R} (h : ∀ v, am_Rl (k v) (k' v)) : am_Rl (am_pushL v k) (am_pushL v k') := by
  unfold am_pushL; split
  · exact h _
  · exact am_Rl_none
theorem am_Rl_pR {v : Value} {k k' : Value → am_R} (h : ∀ v, am_Rl (k v) (k' v)) : am_Rl (am_pushR v k) (am_pushR v k') := by
  unfold am_pushR; split
  · exact h _
  · exact am_Rl_none
theorem am_Rl_ald {a : Value} {j : Int32} {ty : FieldType} {k k' : Value → am_R} (hk : ∀ v, am_Rl (k v) (k' v)) : am_Rl (am_ald G ks h a j ty k) (am_ald G ks h a j ty k') := by
  unfold am_ald; split
  · split
    · exact am_Rl_cond (am_Rl_ix (fun _ => hk _))
    · exact am_Rl_none
  · split
    · exact am_Rl_cond (am_Rl_ix (fun _ => hk _))
    · exact am_Rl_none
  · exact am_Rl_none
theorem am_Rl_ast {a : Value} {j : Int32} {ty : FieldType} {v : Value} {k k' : am_H → am_R} (hk : ∀ v, am_Rl (k v) (k' v)) : am_Rl (am_ast ks h a j ty v k) (am_ast ks h a j ty v k') := by
  unfold am_ast; split
  · split
    · exact am_Rl_cond (am_Rl_ix (fun _ => hk _))
    · exact am_Rl_none
  · exact am_Rl_none
theorem am_Rl_aald {o : Nat} {j : Int32} {k k' : Value → am_R} (hk : ∀ v, am_Rl (k v) (k' v)) : am_Rl (am_aald ks h o j k) (am_aald ks h o j k') := by
  unfold am_aald; split
  · exact am_Rl_ix (fun _ => hk _)
  · exact am_Rl_none
theorem am_Rl_aast {o v : Nat} {j : Int32} {k k' : am_H → am_R} (hk : ∀ v, am_Rl (k v) (k' v)) : am_Rl (am_aast G ks h o j v k) (am_aast G ks h o j v k') := by
  unfold am_aast; split
  · split
    · exact am_Rl_cond (am_Rl_ix (fun _ => hk _))
    · exact am_Rl_none
  · exact am_Rl_none
theorem am_Rl_len {a : Value} {k k' : Value → am_R} (hk : ∀ v, am_Rl (k v) (k' v)) : am_Rl (am_len G ks a k) (am_len G ks a k') := by
  unfold am_len; split
  · split
    · exact hk _
    · exact am_Rl_none
  · split
    · exact hk _
    · exact am_Rl_none
  · exact am_Rl_none
theorem am_Rl_text {j : Int32} {st : List Value} (hl : am_Lr ls l) : am_Rl (am_text G M i cs ls st ks h nc ns j) (am_text G M i cs l st ks h nc ns j) := am_Rl_cond (am_Rl_ix (fun _ => am_Rl_go hl))
theorem am_Rl_math {g : Int32 → Int32 → Int32} (hl : am_Lr ls l) : am_Rl (am_math M i cs ls st ks h nc ns g) (am_math M i cs l st ks h nc ns g) := by
  unfold am_math; split
  · exact am_Rl_cond (am_Rl_go hl)
  · exact am_Rl_none
theorem am_Rl_new (hl : am_Lr ls l) : am_Rl (am_new G M ex i cs ls st ks h nc ns) (am_new G M ex i cs l st ks h nc ns) := am_Rl_cond (am_Rl_go hl)
theorem am_Rl_newA {ty : FieldType} (hl : am_Lr ls l) : am_Rl (am_newA M ex ty i cs ls st ks h nc ns) (am_newA M ex ty i cs l st ks h nc ns) := by
  unfold am_newA; split
  · exact am_Rl_ite (am_Rl_cond (am_Rl_go hl))
  · exact am_Rl_none
theorem am_Rl_calls {a : Nat} {as rest : List Value} (hl : am_Lr ls l) : am_Rl (am_calls ex M M' a rc i cs ls as rest ks h nc ns) (am_calls ex M M' a rc i cs l as rest ks h nc ns) := by
  unfold am_calls
  refine am_Rl_cond ?_
  split
  · exact am_Rl_none
  · exact am_Rl_cond (am_Rl_go hl)
theorem am_Rl_callV (hl : am_Lr ls l) : am_Rl (am_callV ex G M rc i cs ls st ks h nc ns) (am_callV ex G M rc i cs l st ks h nc ns) := by
  unfold am_callV; split
  · exact am_Rl_none
  · split
    · split
      · exact am_Rl_cond (am_Rl_calls hl)
      · exact am_Rl_none
    · exact am_Rl_none
theorem am_Rl_callL (hl : am_Lr ls l) : am_Rl (am_callL ex G M i cs ls st ks h nc ns) (am_callL ex G M i cs l st ks h nc ns) := am_Rl_cond (am_Rl_calls hl)
theorem am_Rl_callS (hl : am_Lr ls l) : am_Rl (am_callS ex G M rc i cs ls st ks h nc ns) (am_callS ex G M rc i cs l st ks h nc ns) := by
  unfold am_callS; split
  · exact am_Rl_none
  · exact am_Rl_cond (am_Rl_calls hl)
/-- a local that is looked up -/
theorem am_Rl_get {k : Nat} {F F' : Option Value → am_R} (hl : am_Lr ls l) (hn : F' none = none) (h : ∀ v, am_Rl (F (some v)) (F' (some v))) : am_Rl (F (am_get ls k)) (F' (am_get l k)) := by
  cases hg : am_get l k with
  | none => rw [hn]; exact am_Rl_none
  | some v =>
    rw [am_Lr_get hl hg]
    exact h v
set_option maxHeartbeats 4000000 in
theorem am_one_ls (hl : am_Lr ls l) : am_Rl (am_one am_φ ex G rc M (i :: cs, ls, st, ks, h, nc, ns)) (am_one am_φ ex G rc M (i :: cs, l, st, ks, h, nc, ns)) := by
  obtain ⟨pc, len, ins, an, v0⟩ := i
  cases ins
  case aload k => exact am_Rl_get (F := fun o => match o with | some (.ref x) => am_go _ cs ls (.ref x :: st) ks h nc ns | some (.retAddr x) => am_go _ cs ls (.retAddr x :: st) ks h nc ns | _ => none) (F' := fun o => match o with | some (.ref x) => am_go _ cs l (.ref x :: st) ks h nc ns | some (.retAddr x) => am_go _ cs l (.retAddr x :: st) ks h nc ns | _ => none) hl rfl (fun v => by cases v <;> first | exact am_Rl_go hl | exact am_Rl_none)
  case aload_n k => exact am_Rl_get (F := fun o => match o with | some (.ref x) => am_go _ cs ls (.ref x :: st) ks h nc ns | some (.retAddr x) => am_go _ cs ls (.retAddr x :: st) ks h nc ns | _ => none) (F' := fun o => match o with | some (.ref x) => am_go _ cs l (.ref x :: st) ks h nc ns | some (.retAddr x) => am_go _ cs l (.retAddr x :: st) ks h nc ns | _ => none) hl rfl (fun v => by cases v <;> first | exact am_Rl_go hl | exact am_Rl_none)
  case iload k => exact am_Rl_get (F := fun o => match o with | some (.int x) => am_go _ cs ls (.int x :: st) ks h nc ns | _ => none) (F' := fun o => match o with | some (.int x) => am_go _ cs l (.int x :: st) ks h nc ns | _ => none) hl rfl (fun v => by cases v <;> first | exact am_Rl_go hl | exact am_Rl_none)
  case iload_n k => exact am_Rl_get (F := fun o => match o with | some (.int x) => am_go _ cs ls (.int x :: st) ks h nc ns | _ => none) (F' := fun o => match o with | some (.int x) => am_go _ cs l (.int x :: st) ks h nc ns | _ => none) hl rfl (fun v => by cases v <;> first | exact am_Rl_go hl | exact am_Rl_none)
  case lload k => exact am_Rl_get (F := fun o => match o with | some (.long x) => am_go _ cs ls (.long x :: st) ks h nc ns | _ => none) (F' := fun o => match o with | some (.long x) => am_go _ cs l (.long x :: st) ks h nc ns | _ => none) hl rfl (fun v => by cases v <;> first | exact am_Rl_go hl | exact am_Rl_none)
  case lload_n k => exact am_Rl_get (F := fun o => match o with | some (.long x) => am_go _ cs ls (.long x :: st) ks h nc ns | _ => none) (F' := fun o => match o with | some (.long x) => am_go _ cs l (.long x :: st) ks h nc ns | _ => none) hl rfl (fun v => by cases v <;> first | exact am_Rl_go hl | exact am_Rl_none)
  case iinc k n => exact am_Rl_get (F := fun o => match o with | some (.int x) => cond (Nat.blt k M.2.1.1) (am_pushI (.int (x + Int32.ofInt n)) (fun v => am_go _ cs (am_set ls k v) st ks h nc ns)) none | _ => none) (F' := fun o => match o with | some (.int x) => cond (Nat.blt k M.2.1.1) (am_pushI (.int (x + Int32.ofInt n)) (fun v => am_go _ cs (am_set l k v) st ks h nc ns)) none | _ => none) hl rfl (fun v => by cases v <;> first | exact am_Rl_cond (am_Rl_pI (fun v => am_Rl_go (am_Lr_set hl _ _))) | exact am_Rl_none)
  all_goals (simp only [am_one]) <;> (repeat' (first | with_reducible exact am_Rl_none | with_reducible exact am_Rl_go hl | with_reducible exact am_Rl_go (am_Lr_set hl _ _) | with_reducible exact am_Rl_go (am_Lr_set2 hl _ _) | with_reducible exact am_Rl_jp hl | with_reducible exact am_Rl_sw hl | with_reducible exact am_Rl_br hl | with_reducible exact am_Rl_callV hl | with_reducible exact am_Rl_callS hl | with_reducible exact am_Rl_callL hl | with_reducible exact am_Rl_math hl | with_reducible exact am_Rl_new hl | with_reducible exact am_Rl_newA hl | with_reducible exact am_Rl_text hl | with_reducible refine am_Rl_cond ?_ | with_reducible refine am_Rl_ite ?_ | with_reducible refine am_Rl_pI (fun v => ?_) | with_reducible refine am_Rl_pL (fun v => ?_) | with_reducible refine am_Rl_pR (fun v => ?_) | with_reducible refine am_Rl_ald (fun v => ?_) | with_reducible refine am_Rl_ast (fun v => ?_) | with_reducible refine am_Rl_aald (fun v => ?_) | with_reducible refine am_Rl_aast (fun v => ?_) | with_reducible refine am_Rl_len (fun v => ?_) | dsimp only [am_φ] | split))
end AML
theorem am_end_ls (M : am_M) (cs : List am_I) (ls l : am_L) (st : List Value) (ks : List am_k) (h : am_H) (nc ns : Nat) : am_end M (cs, ls, st, ks, h, nc, ns) = am_end M (cs, l, st, ks, h, nc, ns) := by
  cases cs <;> rfl
theorem am_run_ls {ex : Bool} {G : am_G} {M : am_M} : ∀ (n : Nat) {cs : List am_I} {ls l : am_L} {st : List Value} {ks : List am_k} {h : am_H} {nc ns : Nat} {r : am_O}, am_Lr ls l → am_run am_φ ex n G M (cs, l, st, ks, h, nc, ns) = some r → am_run am_φ ex n G M (cs, ls, st, ks, h, nc, ns) = some r := by
  intro n
  induction n with
  | zero => intro cs ls l st ks h nc ns r _ hh; cases hh
  | succ n ih =>
    intro cs ls l st ks h nc ns r hl hh
    rw [am_run_s] at hh ⊢
    rw [am_end_ls M cs ls l]
    split at hh
    · exact hh
    · split at hh
      · rename_i f' hone
        obtain ⟨cs1, l1, st1, ks1, h1, nc1, ns1⟩ := f'
        cases cs with
        | nil => cases hone
        | cons i cs =>
          obtain ⟨ls1, hl1, h2⟩ := am_one_ls hl _ _ _ _ _ _ _ hone
          rw [h2]
          exact ih hl1 hh
      · cases hh
theorem am_Ek_ls {ex : Bool} {G : am_G} {M : am_M} {k : Nat} {ls ls' : am_L} {st : List Value} {ks : List am_k} {h : am_H} {nc ns : Nat} {Q : Option Value → List am_k → am_H → Prop} (hl : am_Lr ls ls') (hh : am_Ek ex G M k ls' st ks h nc ns Q) : am_Ek ex G M k ls st ks h nc ns Q := by
  obtain ⟨n, r, hr, hQ⟩ := hh
  exact ⟨n, r, am_run_ls n hl hr, hQ⟩
/-- facts of a heap -/
def am_Ts (h : am_H) : List (Nat × Nat × Value) → Prop
  | [] => True
  | q :: l => h q.1 q.2.1 = q.2.2 ∧ am_Ts h l
def am_inM (md : List (Nat × Nat)) (o k : Nat) : Bool := md.any (fun q => Nat.beq q.1 o && Nat.beq q.2 k)
/-- nothing but the cells of md has changed -/
def am_Fr (md : List (Nat × Nat)) (h h' : am_H) : Prop := ∀ o k, am_inM md o k = false → h' o k = h o k
theorem am_Fr_refl {md : List (Nat × Nat)} {h : am_H} : am_Fr md h h := fun _ _ _ => rfl
theorem am_Fr_trans {md : List (Nat × Nat)} {h h' h'' : am_H} (a : am_Fr md h h') (b : am_Fr md h' h'') : am_Fr md h h'' := fun o k hk => (b o k hk).trans (a o k hk)
theorem am_Fr_up {md : List (Nat × Nat)} {h h' : am_H} {o k : Nat} {v : Value} (hm : am_inM md o k = true) (a : am_Fr md h h') : am_Fr md h (am_up h' o k v) := by
  intro o' k' hk
  by_cases ho : o' = o
  · by_cases hkk : k' = k
    · subst ho; subst hkk; rw [hm] at hk; cases hk
    · subst ho; rw [am_up_same _ _ _ _ _ hkk]; exact a _ _ hk
  · rw [am_up_other _ _ _ _ _ ho]; exact a _ _ hk
theorem am_Fr_sub {md md' : List (Nat × Nat)} {h h' : am_H} (hs : md.all (fun q => am_inM md' q.1 q.2) = true) (a : am_Fr md h h') : am_Fr md' h h' := by
  intro o k hk
  refine a o k ?_
  cases hm : am_inM md o k with
  | false => rfl
  | true =>
    obtain ⟨q, hq, hb⟩ := List.any_eq_true.mp hm
    rw [Bool.and_eq_true] at hb
    have := List.all_eq_true.mp hs q hq
    rw [Nat.eq_of_beq_eq_true hb.1, Nat.eq_of_beq_eq_true hb.2, hk] at this
    cases this
theorem am_Ts_fr {md : List (Nat × Nat)} {h h' : am_H} (a : am_Fr md h h') : ∀ {l : List (Nat × Nat × Value)}, l.all (fun q => !am_inM md q.1 q.2.1) = true → am_Ts h l → am_Ts h' l
  | [], _, _ => trivial
  | q :: l, hd, ht => by
    rw [List.all_cons, Bool.and_eq_true] at hd
    refine ⟨(a _ _ (by simpa using hd.1)).trans ht.1, am_Ts_fr a hd.2 ht.2⟩
end
